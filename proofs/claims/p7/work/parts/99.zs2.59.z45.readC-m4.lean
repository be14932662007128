section
/-! the class's reader at n = 45: by program -/
noncomputable def zk_99_zs2_59_z45_readC_0 : zC := (24, 8, 0x80000000088000000007000000000200000000038000000004000000001d80000000028000000001)
noncomputable def zk_99_zs2_59_z45_readC_1 : zT 1 := @Prod.mk (zT 0) (zT 0) zk_99_zs2_59_z45_readC_0 (18, 15, 0x1000000c9000000003d0000000024000000001d0000000003010000000001000000c9000000001c000000001b000000001a00000000190000000013000000000d00000000070000000005)
noncomputable def zk_99_zs2_59_z45_readC_2 : zT 1 := @Prod.mk (zT 0) (zT 0) (22, 2, 0x1000000c90000000004) (0, 200, zun 40 200 4294967296)
noncomputable def zk_99_zs2_59_z45_readC_3 : zT 1 := @Prod.mk (zT 0) (zT 0) (4, 5, 0xc000000000b000000000a00000000090000000008) (2, 11, zun 72 11 18446744073709551616)
noncomputable def zk_99_zs2_59_z45_readC_4 : zT 2 := @Prod.mk (zT 1) (zT 1) ((17, 4, 0x100000010000000000601000000000100000000), (0, 15, zun 40 15 4294967296)) zk_99_zs2_59_z45_readC_3
noncomputable def zk_99_zs2_59_z45_readC_5 : zT 1 := @Prod.mk (zT 0) (zT 0) (2, 11, zun 72 11 18446744073709551616) (2, 11, zun 72 11 18446744073709551616)
noncomputable def zk_99_zs2_59_z45_readC_6 : zT 3 := @Prod.mk (zT 2) (zT 2) (zk_99_zs2_59_z45_readC_5, zk_99_zs2_59_z45_readC_5) (((4, 5, 0x1200000000110000000010000000000f000000000e), (2, 11, zun 72 11 18446744073709551616)), zk_99_zs2_59_z45_readC_5)
noncomputable def zk_99_zs2_59_z45_readC_7 : zT 1 := @Prod.mk (zT 0) (zT 0) (0, 5, 0x1000000000100000000010000000001000000000100000000) (0, 5, 0x1000000000100000000010000000001000000000100000000)
noncomputable def zk_99_zs2_59_z45_readC_8 : zT 4 := @Prod.mk (zT 3) (zT 3) ((zk_99_zs2_59_z45_readC_5, ((4, 5, 0x180000000017000000001600000000150000000014), (2, 11, zun 72 11 18446744073709551616))), (zk_99_zs2_59_z45_readC_5, zk_99_zs2_59_z45_readC_5)) ((zk_99_zs2_59_z45_readC_7, ((0, 5, 0x1000000000100000000010000000001000000000100000000), (0, 6, 0x10000000001000000000100000000010000000001000000000100000000))), (((4, 6, 0x23000000002200000000210000000020000000001f000000001e), (2, 11, zun 72 11 18446744073709551616)), zk_99_zs2_59_z45_readC_5))
noncomputable def zk_99_zs2_59_z45_readC_9 : zT 5 := @Prod.mk (zT 4) (zT 4) (((zk_99_zs2_59_z45_readC_5, ((2, 11, zun 72 11 18446744073709551616), (23, 14, 0x80000008ce0000000031000000003780000008cb80000008ca80000008c9000000003080000008c780000008c680000008c5000000002580000008c3000000000580000008c1))), (((5, 5, 0x2a0000000029000000002800000000270000000026), (20, 16, 0x8000000950800000094f800000094e800000094d800000094c800000094b800000094a800000094980000009488000000947800000094680000009458000000944000000002b80000009428000000941)), ((20, 16, 0x8000000990800000098f800000098e800000098d800000098c800000098b800000098a800000098980000009888000000987800000098680000009858000000984000000002c80000009828000000981), (20, 16, 0x80000009d080000009cf80000009ce80000009cd80000009cc80000009cb80000009ca80000009c980000009c880000009c780000009c680000009c580000009c4000000002d80000009c280000009c1)))), ((((20, 16, 0x8000000a108000000a0f8000000a0e8000000a0d8000000a0c8000000a0b8000000a0a8000000a098000000a088000000a078000000a068000000a058000000a04000000002e8000000a028000000a01), (20, 16, 0x8000000a508000000a4f8000000a4e8000000a4d8000000a4c8000000a4b8000000a4a8000000a498000000a488000000a478000000a468000000a458000000a44000000002f8000000a428000000a41)), ((0, 1, 4), (0, 2, 0x10000000003))), (((0, 2, 0x20000000002), (0, 3, 0x100000000010000000002)), ((0, 4, 0x1000000000100000000010000000001), (0, 5, 0x100ffffffff0000000001000000000100ffffffff))))) (((((3, 5, 0x360000000035000000003400000000330000000032), (0, 5, 0x1000000000100000000010000000001000000000100000000)), zk_99_zs2_59_z45_readC_7), (zk_99_zs2_59_z45_readC_7, ((3, 5, 0x3c000000003b000000003a00000000390000000038), (0, 5, 0x1000000000100000000010000000001000000000100000000)))), ((zk_99_zs2_59_z45_readC_7, zk_99_zs2_59_z45_readC_7), (((21, 12, 0x8000000f0c8000000f0b00000000458000000f098000000f08000000003f8000000f068000000f058000000f04000000003e8000000f028000000f01), (0, 5, 0x40000000003000000000200000000010000000000)), ((3, 5, 0x440000000043000000004200000000410000000040), (0, 5, 0x1000000000100000000010000000001000000000100000000)))))
noncomputable def zk_99_zs2_59_z45_readC_10 : zT 6 := @Prod.mk (zT 5) (zT 5) ((((zk_99_zs2_59_z45_readC_7, zk_99_zs2_59_z45_readC_7), (((3, 5, 0x4a0000000049000000004800000000470000000046), (0, 5, 0x1000000000100000000010000000001000000000100000000)), zk_99_zs2_59_z45_readC_7)), ((zk_99_zs2_59_z45_readC_7, zO1), zO2)), zO4) zO5
noncomputable def hw_45 : zH 7 := (show zT 7 from ((((((zk_99_zs2_59_z45_readC_1, zk_99_zs2_59_z45_readC_2), zk_99_zs2_59_z45_readC_4), zk_99_zs2_59_z45_readC_6), zk_99_zs2_59_z45_readC_8), zk_99_zs2_59_z45_readC_9), zk_99_zs2_59_z45_readC_10), (74, (0, 0)))
noncomputable def zk_99_zs2_59_z45_readC_11 : zT 2 := @Prod.mk (zT 1) (zT 1) (zk_99_zs2_59_z45_readC_0, (18, 15, 0x1000000c8000000003d0000000024000000001d0000000003010000000001000000c9000000001c000000001b000000001a00000000190000000013000000000d00000000070000000005)) zk_99_zs2_59_z45_readC_2
noncomputable def hv_45 : zH 7 := (show zT 7 from (((((zk_99_zs2_59_z45_readC_11, zk_99_zs2_59_z45_readC_4), zk_99_zs2_59_z45_readC_6), zk_99_zs2_59_z45_readC_8), zk_99_zs2_59_z45_readC_9), zk_99_zs2_59_z45_readC_10), (74, (0, 0)))
noncomputable def hs_X2_add_45 : zH 2 := (show zT 2 from (((18, 15, 0x800000000f800000000e0000000002800000000c800000000b800000000a800000000980000000088000000007800000000680000000058000000004800000000380000000028000000001), (23, 14, 0x800000004e800000004d800000004c800000004b800000004a800000004980000000488000000047800000004680000000458000000044800000004300000000058000000041)), zk_99_zs2_59_z45_readC_5), (4, (0, 0)))
noncomputable def hs_X2_add_45_o0 : zH 2 := (show zT 2 from (((18, 15, 0x800000000f800000000e0000000002800000000c800000000b800000000a800000000980000000088000000007800000000680000000058000000004800000000380000000028000000001), (23, 14, 0x800000004e800000004d800000004c800000004b800000004a800000004980000000488000000047800000004680000000458000000044800000004300000000058000000041)), zk_99_zs2_59_z45_readC_5), (4, (0, 0)))
noncomputable def hs_X2_add_45_o1 : zH 2 := (show zT 2 from (((18, 15, 0x800000000f800000000e0000000002800000000c800000000b800000000a800000000980000000088000000007800000000680000000058000000004800000000380000000028000000001), (23, 14, 0x800000004e800000004d800000004c800000004b800000004a800000004980000000488000000047800000004680000000458000000044800000004300000000058000000041)), zk_99_zs2_59_z45_readC_5), (4, (0, 0)))
set_option maxRecDepth 100000 in
theorem ev_X2_add_45 : f_X2_addt [zR 1, zR 3, zI 4294967298, zR 4] hs_X2_add_45 (zrkL [(zI 0, hs_X2_add_45_o0), (zI 1, hs_X2_add_45_o1)]) = true := by decide +kernel
noncomputable def g_X2_add_45 {d : Nat} : List zV → zH d → zP d → Bool := zsmyL [(0, 0), (1, 12), (0, 1), (0, 3)] [zR 1, zR 3, zI 4294967298, zR 4] hs_X2_add_45 [(zI 0, hs_X2_add_45_o0), (zI 1, hs_X2_add_45_o1)]
theorem mg_X2_add_45 {d : Nat} : zMet (d := d) X_X2_add yX2_add 1 g_X2_add_45 := zMet_smL m_X2_addt ev_X2_add_45

noncomputable def hs_X2_multiply_45 : zH 2 := (show zT 2 from (((18, 15, 0x800000000f800000000e0000000002800000000c800000000b800000000a800000000980000000088000000007800000000680000000058000000004800000000380000000028000000001), (23, 14, 0x800000004e800000004d800000004c800000004b800000004a800000004980000000488000000047800000004680000000458000000044800000004300000000058000000041)), zk_99_zs2_59_z45_readC_5), (4, (0, 0)))
noncomputable def hs_X2_multiply_45_o0 : zH 2 := (show zT 2 from (((18, 15, 0x800000000f800000000e0000000002800000000c800000000b800000000a800000000980000000088000000007800000000680000000058000000004800000000380000000028000000001), (23, 14, 0x800000004e800000004d800000004c800000004b800000004a800000004980000000488000000047800000004680000000458000000044800000004300000000058000000041)), zk_99_zs2_59_z45_readC_5), (4, (0, 0)))
noncomputable def hs_X2_multiply_45_o1 : zH 2 := (show zT 2 from (((18, 15, 0x800000000f800000000e0000000002800000000c800000000b800000000a800000000980000000088000000007800000000680000000058000000004800000000380000000028000000001), (23, 14, 0x800000004e800000004d800000004c800000004b800000004a800000004980000000488000000047800000004680000000458000000044800000004300000000058000000041)), zk_99_zs2_59_z45_readC_5), (4, (0, 0)))
set_option maxRecDepth 100000 in
theorem ev_X2_multiply_45 : f_X2_multiplyt [zR 1, zR 3, zR 4] hs_X2_multiply_45 (zrkL [(zI 0, hs_X2_multiply_45_o0), (zI 1, hs_X2_multiply_45_o1)]) = true := by decide +kernel
noncomputable def g_X2_multiply_45 {d : Nat} : List zV → zH d → zP d → Bool := zsmyL [(0, 0), (1, 12), (0, 1), (0, 2)] [zR 1, zR 3, zR 4] hs_X2_multiply_45 [(zI 0, hs_X2_multiply_45_o0), (zI 1, hs_X2_multiply_45_o1)]
theorem mg_X2_multiply_45 {d : Nat} : zMet (d := d) X_X2_multiply yX2_multiply 1 g_X2_multiply_45 := zMet_smL m_X2_multiplyt ev_X2_multiply_45

set_option maxRecDepth 100000 in
theorem e_cO45_0 : f_X7_numberOft [zR 36, zR 28, zI 4294967497] hw_45 (zrkL [(zI 4294967295, hw_45), (zI 4294967301, hw_45)]) = true := by decide +kernel
noncomputable def g_cO45_0 : List zV → zH 7 → zP 7 → Bool := zocs [zR 36, zR 28, zI 4294967497] hw_45 [(zI 4294967295, hw_45), (zI 4294967301, hw_45)]
theorem m_cO45_0 : zMet X_X7_numberOf yX7_numberOf 1 g_cO45_0 := zMet_oc (m_X7_numberOft) e_cO45_0
noncomputable def h_cK45_4_o0 : zH 7 := (show zT 7 from ((((((zk_99_zs2_59_z45_readC_1, zk_99_zs2_59_z45_readC_2), (((17, 4, 0xf000000000601000000000000000002), (0, 15, zun 40 15 4294967296)), zk_99_zs2_59_z45_readC_3)), zk_99_zs2_59_z45_readC_6), zk_99_zs2_59_z45_readC_8), zk_99_zs2_59_z45_readC_9), zk_99_zs2_59_z45_readC_10), (74, (0, 0)))
set_option maxRecDepth 100000 in
theorem e_cK45_4 : (f_X2_takeCharactert g_cO45_0) [zR 2, zI 4, zI 4294967296] hw_45 (zrkL [(zI 0, h_cK45_4_o0), (zI 1, hw_45)]) = true := by decide +kernel
noncomputable def g_cK45_4 : List zV → zH 7 → zP 7 → Bool := zocs [zR 2, zI 4, zI 4294967296] hw_45 [(zI 0, h_cK45_4_o0), (zI 1, hw_45)]
theorem m_cK45_4 : zMet X_X2_takeCharacter yX2_takeCharacter 4 g_cK45_4 := zMet_oc (m_X2_takeCharactert _ _ m_cO45_0) e_cK45_4
set_option maxRecDepth 100000 in
theorem e_cL45_4 : f_X2_readSlott [zR 2, zI 4] hw_45 (zrkL [(zI 0, hw_45), (zI 1, hw_45)]) = true := by decide +kernel
noncomputable def g_cL45_4 : List zV → zH 7 → zP 7 → Bool := zocs [zR 2, zI 4] hw_45 [(zI 0, hw_45), (zI 1, hw_45)]
theorem m_cL45_4 : zMet X_X2_readSlot yX2_readSlot 3 g_cL45_4 := zMet_oc (m_X2_readSlott) e_cL45_4
noncomputable def h_cB45_4_o0 : zH 7 := (show zT 7 from (((((zk_99_zs2_59_z45_readC_11, (((17, 4, 0xf000000000601000000c80000000005), (0, 15, zun 40 15 4294967296)), zk_99_zs2_59_z45_readC_3)), zk_99_zs2_59_z45_readC_6), zk_99_zs2_59_z45_readC_8), zk_99_zs2_59_z45_readC_9), zk_99_zs2_59_z45_readC_10), (74, (0, 0)))
set_option maxRecDepth 100000 in
theorem e_cB45_4 : (f_X2_readInBracketst (fun _ _ _ => false)) [zR 2, zI 4] hv_45 (zrkL [(zI 0, h_cB45_4_o0)]) = true := by decide +kernel
noncomputable def g_cB45_4 : List zV → zH 7 → zP 7 → Bool := zocs [zR 2, zI 4] hv_45 [(zI 0, h_cB45_4_o0)]
theorem m_cB45_4 : zMet X_X2_readInBrackets yX2_readInBrackets 3 g_cB45_4 := zMet_oc (m_X2_readInBracketst 0 _ zfalse) e_cB45_4
set_option maxRecDepth 100000 in
theorem e_cF45_4 : (f_X2_readFactort g_cB45_4 g_cL45_4 g_cK45_4) [zR 2, zI 4] hw_45 (zrkL [(zI 0, hw_45), (zI 1, hw_45)]) = true := by decide +kernel
noncomputable def g_cF45_4 : List zV → zH 7 → zP 7 → Bool := zocs [zR 2, zI 4] hw_45 [(zI 0, hw_45), (zI 1, hw_45)]
theorem m_cF45_4 : zMet X_X2_readFactor yX2_readFactor 14 g_cF45_4 := zMet_oc (m_X2_readFactort _ _ _ _ _ _ m_cB45_4 m_cL45_4 m_cK45_4) e_cF45_4
set_option maxRecDepth 100000 in
theorem e_cT45_4 : (f_X2_readTermt g_cF45_4 g_X2_multiply_45) [zR 2, zI 4] hw_45 (zrkL [(zI 0, hw_45), (zI 1, hw_45)]) = true := by decide +kernel
noncomputable def g_cT45_4 : List zV → zH 7 → zP 7 → Bool := zocs [zR 2, zI 4] hw_45 [(zI 0, hw_45), (zI 1, hw_45)]
theorem m_cT45_4 : zMet X_X2_readTerm yX2_readTerm 18 g_cT45_4 := zMet_oc (m_X2_readTermt _ _ _ _ m_cF45_4 mg_X2_multiply_45) e_cT45_4
set_option maxRecDepth 100000 in
theorem e_cS45_4 : (f_X2_readSumt g_cT45_4 g_X2_add_45) [zR 2, zI 4] hw_45 (zrkL [(zI 0, hw_45), (zI 1, hw_45)]) = true := by decide +kernel
noncomputable def g_cS45_4 : List zV → zH 7 → zP 7 → Bool := zocs [zR 2, zI 4] hw_45 [(zI 0, hw_45), (zI 1, hw_45)]
theorem m_cS45_4 : zMet X_X2_readSum yX2_readSum 22 g_cS45_4 := zMet_oc (m_X2_readSumt _ _ _ _ m_cT45_4 mg_X2_add_45) e_cS45_4
noncomputable def h_cK45_3_o0 : zH 7 := (show zT 7 from ((((((zk_99_zs2_59_z45_readC_1, zk_99_zs2_59_z45_readC_2), (((17, 4, 0xc000000000601000000000000000002), (0, 15, zun 40 15 4294967296)), zk_99_zs2_59_z45_readC_3)), zk_99_zs2_59_z45_readC_6), zk_99_zs2_59_z45_readC_8), zk_99_zs2_59_z45_readC_9), zk_99_zs2_59_z45_readC_10), (74, (0, 0)))
set_option maxRecDepth 100000 in
theorem e_cK45_3 : (f_X2_takeCharactert g_cO45_0) [zR 2, zI 3, zI 4294967296] hw_45 (zrkL [(zI 0, h_cK45_3_o0), (zI 1, hw_45)]) = true := by decide +kernel
noncomputable def g_cK45_3 : List zV → zH 7 → zP 7 → Bool := zocs [zR 2, zI 3, zI 4294967296] hw_45 [(zI 0, h_cK45_3_o0), (zI 1, hw_45)]
theorem m_cK45_3 : zMet X_X2_takeCharacter yX2_takeCharacter 4 g_cK45_3 := zMet_oc (m_X2_takeCharactert _ _ m_cO45_0) e_cK45_3
set_option maxRecDepth 100000 in
theorem e_cL45_3 : f_X2_readSlott [zR 2, zI 3] hw_45 (zrkL [(zI 0, hw_45), (zI 1, hw_45)]) = true := by decide +kernel
noncomputable def g_cL45_3 : List zV → zH 7 → zP 7 → Bool := zocs [zR 2, zI 3] hw_45 [(zI 0, hw_45), (zI 1, hw_45)]
theorem m_cL45_3 : zMet X_X2_readSlot yX2_readSlot 3 g_cL45_3 := zMet_oc (m_X2_readSlott) e_cL45_3
set_option maxRecDepth 100000 in
theorem e_cB45_3 : (f_X2_readInBracketst g_cS45_4) [zR 2, zI 3] hv_45 (zrkL [(zI 0, hw_45), (zI 1, hw_45)]) = true := by decide +kernel
noncomputable def g_cB45_3 : List zV → zH 7 → zP 7 → Bool := zocs [zR 2, zI 3] hv_45 [(zI 0, hw_45), (zI 1, hw_45)]
theorem m_cB45_3 : zMet X_X2_readInBrackets yX2_readInBrackets 25 g_cB45_3 := zMet_oc (m_X2_readInBracketst 22 _ m_cS45_4) e_cB45_3
set_option maxRecDepth 100000 in
theorem e_cF45_3 : (f_X2_readFactort g_cB45_3 g_cL45_3 g_cK45_3) [zR 2, zI 3] hw_45 (zrkL [(zI 0, hw_45), (zI 1, hw_45)]) = true := by decide +kernel
noncomputable def g_cF45_3 : List zV → zH 7 → zP 7 → Bool := zocs [zR 2, zI 3] hw_45 [(zI 0, hw_45), (zI 1, hw_45)]
theorem m_cF45_3 : zMet X_X2_readFactor yX2_readFactor 36 g_cF45_3 := zMet_oc (m_X2_readFactort _ _ _ _ _ _ m_cB45_3 m_cL45_3 m_cK45_3) e_cF45_3
set_option maxRecDepth 100000 in
theorem e_cT45_3 : (f_X2_readTermt g_cF45_3 g_X2_multiply_45) [zR 2, zI 3] hw_45 (zrkL [(zI 0, hw_45), (zI 1, hw_45)]) = true := by decide +kernel
noncomputable def g_cT45_3 : List zV → zH 7 → zP 7 → Bool := zocs [zR 2, zI 3] hw_45 [(zI 0, hw_45), (zI 1, hw_45)]
theorem m_cT45_3 : zMet X_X2_readTerm yX2_readTerm 40 g_cT45_3 := zMet_oc (m_X2_readTermt _ _ _ _ m_cF45_3 mg_X2_multiply_45) e_cT45_3
set_option maxRecDepth 100000 in
theorem e_cS45_3 : (f_X2_readSumt g_cT45_3 g_X2_add_45) [zR 2, zI 3] hw_45 (zrkL [(zI 0, hw_45), (zI 1, hw_45)]) = true := by decide +kernel
noncomputable def g_cS45_3 : List zV → zH 7 → zP 7 → Bool := zocs [zR 2, zI 3] hw_45 [(zI 0, hw_45), (zI 1, hw_45)]
theorem m_cS45_3 : zMet X_X2_readSum yX2_readSum 44 g_cS45_3 := zMet_oc (m_X2_readSumt _ _ _ _ m_cT45_3 mg_X2_add_45) e_cS45_3
noncomputable def h_cK45_2_o0 : zH 7 := (show zT 7 from ((((((zk_99_zs2_59_z45_readC_1, zk_99_zs2_59_z45_readC_2), (((17, 4, 0x9000000000601000000000000000002), (0, 15, zun 40 15 4294967296)), zk_99_zs2_59_z45_readC_3)), zk_99_zs2_59_z45_readC_6), zk_99_zs2_59_z45_readC_8), zk_99_zs2_59_z45_readC_9), zk_99_zs2_59_z45_readC_10), (74, (0, 0)))
set_option maxRecDepth 100000 in
theorem e_cK45_2 : (f_X2_takeCharactert g_cO45_0) [zR 2, zI 2, zI 4294967296] hw_45 (zrkL [(zI 0, h_cK45_2_o0), (zI 1, hw_45)]) = true := by decide +kernel
noncomputable def g_cK45_2 : List zV → zH 7 → zP 7 → Bool := zocs [zR 2, zI 2, zI 4294967296] hw_45 [(zI 0, h_cK45_2_o0), (zI 1, hw_45)]
theorem m_cK45_2 : zMet X_X2_takeCharacter yX2_takeCharacter 4 g_cK45_2 := zMet_oc (m_X2_takeCharactert _ _ m_cO45_0) e_cK45_2
set_option maxRecDepth 100000 in
theorem e_cL45_2 : f_X2_readSlott [zR 2, zI 2] hw_45 (zrkL [(zI 0, hw_45), (zI 1, hw_45)]) = true := by decide +kernel
noncomputable def g_cL45_2 : List zV → zH 7 → zP 7 → Bool := zocs [zR 2, zI 2] hw_45 [(zI 0, hw_45), (zI 1, hw_45)]
theorem m_cL45_2 : zMet X_X2_readSlot yX2_readSlot 3 g_cL45_2 := zMet_oc (m_X2_readSlott) e_cL45_2
set_option maxRecDepth 100000 in
theorem e_cB45_2 : (f_X2_readInBracketst g_cS45_3) [zR 2, zI 2] hv_45 (zrkL [(zI 0, hw_45), (zI 1, hw_45)]) = true := by decide +kernel
noncomputable def g_cB45_2 : List zV → zH 7 → zP 7 → Bool := zocs [zR 2, zI 2] hv_45 [(zI 0, hw_45), (zI 1, hw_45)]
theorem m_cB45_2 : zMet X_X2_readInBrackets yX2_readInBrackets 47 g_cB45_2 := zMet_oc (m_X2_readInBracketst 44 _ m_cS45_3) e_cB45_2
set_option maxRecDepth 100000 in
theorem e_cF45_2 : (f_X2_readFactort g_cB45_2 g_cL45_2 g_cK45_2) [zR 2, zI 2] hw_45 (zrkL [(zI 0, hw_45), (zI 1, hw_45)]) = true := by decide +kernel
noncomputable def g_cF45_2 : List zV → zH 7 → zP 7 → Bool := zocs [zR 2, zI 2] hw_45 [(zI 0, hw_45), (zI 1, hw_45)]
theorem m_cF45_2 : zMet X_X2_readFactor yX2_readFactor 58 g_cF45_2 := zMet_oc (m_X2_readFactort _ _ _ _ _ _ m_cB45_2 m_cL45_2 m_cK45_2) e_cF45_2
set_option maxRecDepth 100000 in
theorem e_cT45_2 : (f_X2_readTermt g_cF45_2 g_X2_multiply_45) [zR 2, zI 2] hw_45 (zrkL [(zI 0, hw_45), (zI 1, hw_45)]) = true := by decide +kernel
noncomputable def g_cT45_2 : List zV → zH 7 → zP 7 → Bool := zocs [zR 2, zI 2] hw_45 [(zI 0, hw_45), (zI 1, hw_45)]
theorem m_cT45_2 : zMet X_X2_readTerm yX2_readTerm 62 g_cT45_2 := zMet_oc (m_X2_readTermt _ _ _ _ m_cF45_2 mg_X2_multiply_45) e_cT45_2
set_option maxRecDepth 100000 in
theorem e_cS45_2 : (f_X2_readSumt g_cT45_2 g_X2_add_45) [zR 2, zI 2] hw_45 (zrkL [(zI 0, hw_45), (zI 1, hw_45)]) = true := by decide +kernel
noncomputable def g_cS45_2 : List zV → zH 7 → zP 7 → Bool := zocs [zR 2, zI 2] hw_45 [(zI 0, hw_45), (zI 1, hw_45)]
theorem m_cS45_2 : zMet X_X2_readSum yX2_readSum 66 g_cS45_2 := zMet_oc (m_X2_readSumt _ _ _ _ m_cT45_2 mg_X2_add_45) e_cS45_2
noncomputable def h_cK45_1_o0 : zH 7 := (show zT 7 from ((((((zk_99_zs2_59_z45_readC_1, zk_99_zs2_59_z45_readC_2), (((17, 4, 0x6000000000601000000000000000002), (0, 15, zun 40 15 4294967296)), zk_99_zs2_59_z45_readC_3)), zk_99_zs2_59_z45_readC_6), zk_99_zs2_59_z45_readC_8), zk_99_zs2_59_z45_readC_9), zk_99_zs2_59_z45_readC_10), (74, (0, 0)))
set_option maxRecDepth 100000 in
theorem e_cK45_1 : (f_X2_takeCharactert g_cO45_0) [zR 2, zI 1, zI 4294967296] hw_45 (zrkL [(zI 0, h_cK45_1_o0), (zI 1, hw_45)]) = true := by decide +kernel
noncomputable def g_cK45_1 : List zV → zH 7 → zP 7 → Bool := zocs [zR 2, zI 1, zI 4294967296] hw_45 [(zI 0, h_cK45_1_o0), (zI 1, hw_45)]
theorem m_cK45_1 : zMet X_X2_takeCharacter yX2_takeCharacter 4 g_cK45_1 := zMet_oc (m_X2_takeCharactert _ _ m_cO45_0) e_cK45_1
set_option maxRecDepth 100000 in
theorem e_cL45_1 : f_X2_readSlott [zR 2, zI 1] hw_45 (zrkL [(zI 0, hw_45), (zI 1, hw_45)]) = true := by decide +kernel
noncomputable def g_cL45_1 : List zV → zH 7 → zP 7 → Bool := zocs [zR 2, zI 1] hw_45 [(zI 0, hw_45), (zI 1, hw_45)]
theorem m_cL45_1 : zMet X_X2_readSlot yX2_readSlot 3 g_cL45_1 := zMet_oc (m_X2_readSlott) e_cL45_1
set_option maxRecDepth 100000 in
theorem e_cB45_1 : (f_X2_readInBracketst g_cS45_2) [zR 2, zI 1] hv_45 (zrkL [(zI 0, hw_45), (zI 1, hw_45)]) = true := by decide +kernel
noncomputable def g_cB45_1 : List zV → zH 7 → zP 7 → Bool := zocs [zR 2, zI 1] hv_45 [(zI 0, hw_45), (zI 1, hw_45)]
theorem m_cB45_1 : zMet X_X2_readInBrackets yX2_readInBrackets 69 g_cB45_1 := zMet_oc (m_X2_readInBracketst 66 _ m_cS45_2) e_cB45_1
set_option maxRecDepth 100000 in
theorem e_cF45_1 : (f_X2_readFactort g_cB45_1 g_cL45_1 g_cK45_1) [zR 2, zI 1] hw_45 (zrkL [(zI 0, hw_45), (zI 1, hw_45)]) = true := by decide +kernel
noncomputable def g_cF45_1 : List zV → zH 7 → zP 7 → Bool := zocs [zR 2, zI 1] hw_45 [(zI 0, hw_45), (zI 1, hw_45)]
theorem m_cF45_1 : zMet X_X2_readFactor yX2_readFactor 80 g_cF45_1 := zMet_oc (m_X2_readFactort _ _ _ _ _ _ m_cB45_1 m_cL45_1 m_cK45_1) e_cF45_1
set_option maxRecDepth 100000 in
theorem e_cT45_1 : (f_X2_readTermt g_cF45_1 g_X2_multiply_45) [zR 2, zI 1] hw_45 (zrkL [(zI 0, hw_45), (zI 1, hw_45)]) = true := by decide +kernel
noncomputable def g_cT45_1 : List zV → zH 7 → zP 7 → Bool := zocs [zR 2, zI 1] hw_45 [(zI 0, hw_45), (zI 1, hw_45)]
theorem m_cT45_1 : zMet X_X2_readTerm yX2_readTerm 84 g_cT45_1 := zMet_oc (m_X2_readTermt _ _ _ _ m_cF45_1 mg_X2_multiply_45) e_cT45_1
set_option maxRecDepth 100000 in
theorem e_cS45_1 : (f_X2_readSumt g_cT45_1 g_X2_add_45) [zR 2, zI 1] hw_45 (zrkL [(zI 0, hw_45), (zI 1, hw_45)]) = true := by decide +kernel
noncomputable def g_cS45_1 : List zV → zH 7 → zP 7 → Bool := zocs [zR 2, zI 1] hw_45 [(zI 0, hw_45), (zI 1, hw_45)]
theorem m_cS45_1 : zMet X_X2_readSum yX2_readSum 88 g_cS45_1 := zMet_oc (m_X2_readSumt _ _ _ _ m_cT45_1 mg_X2_add_45) e_cS45_1
noncomputable def h_cK45_0_o0 : zH 7 := (show zT 7 from ((((((zk_99_zs2_59_z45_readC_1, zk_99_zs2_59_z45_readC_2), (((17, 4, 0x3000000000601000000000000000002), (0, 15, zun 40 15 4294967296)), zk_99_zs2_59_z45_readC_3)), zk_99_zs2_59_z45_readC_6), zk_99_zs2_59_z45_readC_8), zk_99_zs2_59_z45_readC_9), zk_99_zs2_59_z45_readC_10), (74, (0, 0)))
set_option maxRecDepth 100000 in
theorem e_cK45_0 : (f_X2_takeCharactert g_cO45_0) [zR 2, zI 0, zI 4294967296] hw_45 (zrkL [(zI 0, h_cK45_0_o0), (zI 1, hw_45)]) = true := by decide +kernel
noncomputable def g_cK45_0 : List zV → zH 7 → zP 7 → Bool := zocs [zR 2, zI 0, zI 4294967296] hw_45 [(zI 0, h_cK45_0_o0), (zI 1, hw_45)]
theorem m_cK45_0 : zMet X_X2_takeCharacter yX2_takeCharacter 4 g_cK45_0 := zMet_oc (m_X2_takeCharactert _ _ m_cO45_0) e_cK45_0
set_option maxRecDepth 100000 in
theorem e_cL45_0 : f_X2_readSlott [zR 2, zI 0] hw_45 (zrkL [(zI 0, hw_45), (zI 1, hw_45)]) = true := by decide +kernel
noncomputable def g_cL45_0 : List zV → zH 7 → zP 7 → Bool := zocs [zR 2, zI 0] hw_45 [(zI 0, hw_45), (zI 1, hw_45)]
theorem m_cL45_0 : zMet X_X2_readSlot yX2_readSlot 3 g_cL45_0 := zMet_oc (m_X2_readSlott) e_cL45_0
set_option maxRecDepth 100000 in
theorem e_cB45_0 : (f_X2_readInBracketst g_cS45_1) [zR 2, zI 0] hv_45 (zrkL [(zI 0, hw_45), (zI 1, hw_45)]) = true := by decide +kernel
noncomputable def g_cB45_0 : List zV → zH 7 → zP 7 → Bool := zocs [zR 2, zI 0] hv_45 [(zI 0, hw_45), (zI 1, hw_45)]
theorem m_cB45_0 : zMet X_X2_readInBrackets yX2_readInBrackets 91 g_cB45_0 := zMet_oc (m_X2_readInBracketst 88 _ m_cS45_1) e_cB45_0
set_option maxRecDepth 100000 in
theorem e_cF45_0 : (f_X2_readFactort g_cB45_0 g_cL45_0 g_cK45_0) [zR 2, zI 0] hw_45 (zrkL [(zI 0, hw_45), (zI 1, hw_45)]) = true := by decide +kernel
noncomputable def g_cF45_0 : List zV → zH 7 → zP 7 → Bool := zocs [zR 2, zI 0] hw_45 [(zI 0, hw_45), (zI 1, hw_45)]
theorem m_cF45_0 : zMet X_X2_readFactor yX2_readFactor 102 g_cF45_0 := zMet_oc (m_X2_readFactort _ _ _ _ _ _ m_cB45_0 m_cL45_0 m_cK45_0) e_cF45_0
set_option maxRecDepth 100000 in
theorem e_cT45_0 : (f_X2_readTermt g_cF45_0 g_X2_multiply_45) [zR 2, zI 0] hw_45 (zrkL [(zI 0, hw_45), (zI 1, hw_45)]) = true := by decide +kernel
noncomputable def g_cT45_0 : List zV → zH 7 → zP 7 → Bool := zocs [zR 2, zI 0] hw_45 [(zI 0, hw_45), (zI 1, hw_45)]
theorem m_cT45_0 : zMet X_X2_readTerm yX2_readTerm 106 g_cT45_0 := zMet_oc (m_X2_readTermt _ _ _ _ m_cF45_0 mg_X2_multiply_45) e_cT45_0
set_option maxRecDepth 100000 in
theorem e_cS45_0 : (f_X2_readSumt g_cT45_0 g_X2_add_45) [zR 2, zI 0] hw_45 (zrkL [(zI 0, hw_45), (zI 1, hw_45)]) = true := by decide +kernel
noncomputable def g_cS45_0 : List zV → zH 7 → zP 7 → Bool := zocs [zR 2, zI 0] hw_45 [(zI 0, hw_45), (zI 1, hw_45)]
theorem m_cS45_0 : zMet X_X2_readSum yX2_readSum 110 g_cS45_0 := zMet_oc (m_X2_readSumt _ _ _ _ m_cT45_0 mg_X2_add_45) e_cS45_0
noncomputable def hw_45_t : zH 7 := (show zT 7 from ((((((zk_99_zs2_59_z45_readC_1, ((22, 2, 4), (0, 200, zun 40 200 4294967296))), zk_99_zs2_59_z45_readC_4), zk_99_zs2_59_z45_readC_6), zk_99_zs2_59_z45_readC_8), zk_99_zs2_59_z45_readC_9), zk_99_zs2_59_z45_readC_10), (74, (0, 0)))
set_option maxRecDepth 100000 in
theorem e_textC_45 : (zcutR 1 6 (f_X8_textt (f_X2_readt g_cS45_0))) [zR 1, zI 4294967296] hw_45 (zrkL [(zI 4294967296, hw_45_t)]) = true := by decide +kernel
noncomputable def g_textC_45 {d : Nat} : List zV → zH d → zP d → Bool := zsmyL [(0, 0), (1, 5), (1, 4), (3, 0), (2, 0), (5, 2), (2, 1), (7, 0), (7, 1), (7, 2), (7, 3), (7, 4), (2, 2), (13, 0), (13, 1), (13, 2), (13, 3), (13, 4), (2, 3), (19, 0), (19, 1), (19, 2), (19, 3), (19, 4), (2, 4), (2, 5), (2, 6), (2, 7), (1, 2), (29, 0), (29, 1), (29, 2), (29, 3), (29, 4), (29, 5), (2, 12), (36, 3), (37, 0), (37, 1), (37, 2), (37, 3), (37, 4), (38, 2), (39, 2), (40, 2), (41, 2), (42, 2), (36, 7), (36, 12), (49, 0), (49, 1), (49, 2), (49, 3), (49, 4), (36, 11), (55, 0), (55, 1), (55, 2), (55, 3), (55, 4), (2, 13), (61, 2), (61, 6), (63, 0), (63, 1), (63, 2), (63, 3), (63, 4), (61, 9), (69, 0), (69, 1), (69, 2), (69, 3), (69, 4)] [zR 1, zI 4294967296] hw_45 [(zI 4294967296, hw_45_t)]
theorem m_textC_45 {d : Nat} : zMet (d := d) X_X8_text yX8_text 115 g_textC_45 := zMet_smL (zMet_cutR (m_X8_textt _ _ (m_X2_readt _ _ m_cS45_0))) e_textC_45
end
section
/-! the class's reader at n = 52: by program -/
noncomputable def zk_99_zs2_59_z52_readC_0 : zC := (24, 8, 0x80000000088000000007000000000200000000038000000004000000001d80000000028000000001)
noncomputable def zk_99_zs2_59_z52_readC_1 : zT 1 := @Prod.mk (zT 0) (zT 0) zk_99_zs2_59_z52_readC_0 (18, 15, 0x1000000c900000000450000000024000000001d0000000003010000000001000000c9000000001c000000001b000000001a00000000190000000013000000000d00000000070000000005)
noncomputable def zk_99_zs2_59_z52_readC_2 : zT 1 := @Prod.mk (zT 0) (zT 0) (22, 2, 0x1000000c90000000004) (0, 200, zun 40 200 4294967296)
noncomputable def zk_99_zs2_59_z52_readC_3 : zT 1 := @Prod.mk (zT 0) (zT 0) (4, 5, 0xc000000000b000000000a00000000090000000008) (2, 11, zun 72 11 18446744073709551616)
noncomputable def zk_99_zs2_59_z52_readC_4 : zT 2 := @Prod.mk (zT 1) (zT 1) ((17, 4, 0x100000010000000000601000000000100000000), (0, 15, zun 40 15 4294967296)) zk_99_zs2_59_z52_readC_3
noncomputable def zk_99_zs2_59_z52_readC_5 : zT 1 := @Prod.mk (zT 0) (zT 0) (2, 11, zun 72 11 18446744073709551616) (2, 11, zun 72 11 18446744073709551616)
noncomputable def zk_99_zs2_59_z52_readC_6 : zT 3 := @Prod.mk (zT 2) (zT 2) (zk_99_zs2_59_z52_readC_5, zk_99_zs2_59_z52_readC_5) (((4, 5, 0x1200000000110000000010000000000f000000000e), (2, 11, zun 72 11 18446744073709551616)), zk_99_zs2_59_z52_readC_5)
noncomputable def zk_99_zs2_59_z52_readC_7 : zT 4 := @Prod.mk (zT 3) (zT 3) ((zk_99_zs2_59_z52_readC_5, ((4, 5, 0x180000000017000000001600000000150000000014), (2, 11, zun 72 11 18446744073709551616))), (zk_99_zs2_59_z52_readC_5, zk_99_zs2_59_z52_readC_5)) ((((0, 5, 0x1000000000100000000010000000001000000000100000000), (0, 5, 0x1000000000100000000010000000001000000000100000000)), ((0, 5, 0x1000000000100000000010000000001000000000100000000), (0, 6, 0x10000000001000000000100000000010000000001000000000100000000))), (((4, 6, 0x23000000002200000000210000000020000000001f000000001e), (2, 11, zun 72 11 18446744073709551616)), zk_99_zs2_59_z52_readC_5))
noncomputable def zk_99_zs2_59_z52_readC_8 : zC := (0, 7, 0x100000000010000000001000000000100000000010000000001000000000100000000)
noncomputable def zk_99_zs2_59_z52_readC_9 : zT 2 := @Prod.mk (zT 1) (zT 1) (zk_99_zs2_59_z52_readC_8, zk_99_zs2_59_z52_readC_8) (zk_99_zs2_59_z52_readC_8, zk_99_zs2_59_z52_readC_8)
noncomputable def zk_99_zs2_59_z52_readC_10 : zT 5 := @Prod.mk (zT 4) (zT 4) (((zk_99_zs2_59_z52_readC_5, ((2, 11, zun 72 11 18446744073709551616), (23, 14, 0x80000008ce0000000035000000003d80000008cb80000008ca80000008c9000000003480000008c780000008c680000008c5000000002580000008c3000000000780000008c1))), (((5, 7, 0x2c000000002b000000002a0000000029000000002800000000270000000026), (20, 16, 0x8000000950800000094f800000094e800000094d800000094c800000094b800000094a800000094980000009488000000947800000094680000009458000000944000000002d80000009428000000941)), ((20, 16, 0x8000000990800000098f800000098e800000098d800000098c800000098b800000098a800000098980000009888000000987800000098680000009858000000984000000002e80000009828000000981), (20, 16, 0x80000009d080000009cf80000009ce80000009cd80000009cc80000009cb80000009ca80000009c980000009c880000009c780000009c680000009c580000009c4000000002f80000009c280000009c1)))), ((((20, 16, 0x8000000a108000000a0f8000000a0e8000000a0d8000000a0c8000000a0b8000000a0a8000000a098000000a088000000a078000000a068000000a058000000a0400000000308000000a028000000a01), (20, 16, 0x8000000a508000000a4f8000000a4e8000000a4d8000000a4c8000000a4b8000000a4a8000000a498000000a488000000a478000000a468000000a458000000a4400000000318000000a428000000a41)), ((20, 16, 0x8000000a908000000a8f8000000a8e8000000a8d8000000a8c8000000a8b8000000a8a8000000a898000000a888000000a878000000a868000000a858000000a8400000000328000000a828000000a81), (20, 16, 0x8000000ad08000000acf8000000ace8000000acd8000000acc8000000acb8000000aca8000000ac98000000ac88000000ac78000000ac68000000ac58000000ac400000000338000000ac28000000ac1))), (((0, 1, 5), (0, 2, 0x10000000004)), ((0, 2, 0x20000000003), (0, 3, 0x100000000010000000003))))) (((((0, 3, 0x100000000020000000002), (0, 4, 0x1000000000100000000010000000002)), ((0, 5, 0x10000000001000000000100000000010000000001), (0, 7, 0x100ffffffff0000000001000000000100ffffffff00ffffffff0000000001))), (((3, 7, 0x3c000000003b000000003a0000000039000000003800000000370000000036), zk_99_zs2_59_z52_readC_8), (zk_99_zs2_59_z52_readC_8, zk_99_zs2_59_z52_readC_8))), (zk_99_zs2_59_z52_readC_9, (((3, 7, 0x440000000043000000004200000000410000000040000000003f000000003e), zk_99_zs2_59_z52_readC_8), (zk_99_zs2_59_z52_readC_8, zk_99_zs2_59_z52_readC_8))))
noncomputable def zk_99_zs2_59_z52_readC_11 : zT 6 := @Prod.mk (zT 5) (zT 5) (((zk_99_zs2_59_z52_readC_9, (((21, 12, 0x800000110c800000110b000000004f800000110980000011080000000047800000110680000011058000001104000000004680000011028000001101), (0, 7, 0xffffffff00ffffffff00ffffffff00ffffffff000000000200000000010000000000)), ((3, 7, 0x4e000000004d000000004c000000004b000000004a00000000490000000048), zk_99_zs2_59_z52_readC_8))), (zk_99_zs2_59_z52_readC_9, ((zk_99_zs2_59_z52_readC_8, zk_99_zs2_59_z52_readC_8), ((3, 7, 0x56000000005500000000540000000053000000005200000000510000000050), zk_99_zs2_59_z52_readC_8)))), ((zk_99_zs2_59_z52_readC_9, ((zk_99_zs2_59_z52_readC_8, zk_99_zs2_59_z52_readC_8), zO1)), zO3)) zO5
noncomputable def hw_52 : zH 7 := (show zT 7 from ((((((zk_99_zs2_59_z52_readC_1, zk_99_zs2_59_z52_readC_2), zk_99_zs2_59_z52_readC_4), zk_99_zs2_59_z52_readC_6), zk_99_zs2_59_z52_readC_7), zk_99_zs2_59_z52_readC_10), zk_99_zs2_59_z52_readC_11), (86, (0, 0)))
noncomputable def zk_99_zs2_59_z52_readC_12 : zT 2 := @Prod.mk (zT 1) (zT 1) (zk_99_zs2_59_z52_readC_0, (18, 15, 0x1000000c800000000450000000024000000001d0000000003010000000001000000c9000000001c000000001b000000001a00000000190000000013000000000d00000000070000000005)) zk_99_zs2_59_z52_readC_2
noncomputable def hv_52 : zH 7 := (show zT 7 from (((((zk_99_zs2_59_z52_readC_12, zk_99_zs2_59_z52_readC_4), zk_99_zs2_59_z52_readC_6), zk_99_zs2_59_z52_readC_7), zk_99_zs2_59_z52_readC_10), zk_99_zs2_59_z52_readC_11), (86, (0, 0)))
noncomputable def hs_X2_add_52 : zH 2 := (show zT 2 from (((18, 15, 0x800000000f800000000e0000000002800000000c800000000b800000000a800000000980000000088000000007800000000680000000058000000004800000000380000000028000000001), (23, 14, 0x800000004e800000004d800000004c800000004b800000004a800000004980000000488000000047800000004680000000458000000044800000004300000000078000000041)), zk_99_zs2_59_z52_readC_5), (4, (0, 0)))
noncomputable def hs_X2_add_52_o0 : zH 2 := (show zT 2 from (((18, 15, 0x800000000f800000000e0000000002800000000c800000000b800000000a800000000980000000088000000007800000000680000000058000000004800000000380000000028000000001), (23, 14, 0x800000004e800000004d800000004c800000004b800000004a800000004980000000488000000047800000004680000000458000000044800000004300000000078000000041)), zk_99_zs2_59_z52_readC_5), (4, (0, 0)))
noncomputable def hs_X2_add_52_o1 : zH 2 := (show zT 2 from (((18, 15, 0x800000000f800000000e0000000002800000000c800000000b800000000a800000000980000000088000000007800000000680000000058000000004800000000380000000028000000001), (23, 14, 0x800000004e800000004d800000004c800000004b800000004a800000004980000000488000000047800000004680000000458000000044800000004300000000078000000041)), zk_99_zs2_59_z52_readC_5), (4, (0, 0)))
set_option maxRecDepth 100000 in
theorem ev_X2_add_52 : f_X2_addt [zR 1, zR 3, zI 4294967298, zR 4] hs_X2_add_52 (zrkL [(zI 0, hs_X2_add_52_o0), (zI 1, hs_X2_add_52_o1)]) = true := by decide +kernel
noncomputable def g_X2_add_52 {d : Nat} : List zV → zH d → zP d → Bool := zsmyL [(0, 0), (1, 12), (0, 1), (0, 3)] [zR 1, zR 3, zI 4294967298, zR 4] hs_X2_add_52 [(zI 0, hs_X2_add_52_o0), (zI 1, hs_X2_add_52_o1)]
theorem mg_X2_add_52 {d : Nat} : zMet (d := d) X_X2_add yX2_add 1 g_X2_add_52 := zMet_smL m_X2_addt ev_X2_add_52

noncomputable def hs_X2_multiply_52 : zH 2 := (show zT 2 from (((18, 15, 0x800000000f800000000e0000000002800000000c800000000b800000000a800000000980000000088000000007800000000680000000058000000004800000000380000000028000000001), (23, 14, 0x800000004e800000004d800000004c800000004b800000004a800000004980000000488000000047800000004680000000458000000044800000004300000000078000000041)), zk_99_zs2_59_z52_readC_5), (4, (0, 0)))
noncomputable def hs_X2_multiply_52_o0 : zH 2 := (show zT 2 from (((18, 15, 0x800000000f800000000e0000000002800000000c800000000b800000000a800000000980000000088000000007800000000680000000058000000004800000000380000000028000000001), (23, 14, 0x800000004e800000004d800000004c800000004b800000004a800000004980000000488000000047800000004680000000458000000044800000004300000000078000000041)), zk_99_zs2_59_z52_readC_5), (4, (0, 0)))
noncomputable def hs_X2_multiply_52_o1 : zH 2 := (show zT 2 from (((18, 15, 0x800000000f800000000e0000000002800000000c800000000b800000000a800000000980000000088000000007800000000680000000058000000004800000000380000000028000000001), (23, 14, 0x800000004e800000004d800000004c800000004b800000004a800000004980000000488000000047800000004680000000458000000044800000004300000000078000000041)), zk_99_zs2_59_z52_readC_5), (4, (0, 0)))
set_option maxRecDepth 100000 in
theorem ev_X2_multiply_52 : f_X2_multiplyt [zR 1, zR 3, zR 4] hs_X2_multiply_52 (zrkL [(zI 0, hs_X2_multiply_52_o0), (zI 1, hs_X2_multiply_52_o1)]) = true := by decide +kernel
noncomputable def g_X2_multiply_52 {d : Nat} : List zV → zH d → zP d → Bool := zsmyL [(0, 0), (1, 12), (0, 1), (0, 2)] [zR 1, zR 3, zR 4] hs_X2_multiply_52 [(zI 0, hs_X2_multiply_52_o0), (zI 1, hs_X2_multiply_52_o1)]
theorem mg_X2_multiply_52 {d : Nat} : zMet (d := d) X_X2_multiply yX2_multiply 1 g_X2_multiply_52 := zMet_smL m_X2_multiplyt ev_X2_multiply_52

set_option maxRecDepth 100000 in
theorem e_cO52_0 : f_X7_numberOft [zR 36, zR 28, zI 4294967497] hw_52 (zrkL [(zI 4294967295, hw_52), (zI 4294967303, hw_52)]) = true := by decide +kernel
noncomputable def g_cO52_0 : List zV → zH 7 → zP 7 → Bool := zocs [zR 36, zR 28, zI 4294967497] hw_52 [(zI 4294967295, hw_52), (zI 4294967303, hw_52)]
theorem m_cO52_0 : zMet X_X7_numberOf yX7_numberOf 1 g_cO52_0 := zMet_oc (m_X7_numberOft) e_cO52_0
noncomputable def h_cK52_4_o0 : zH 7 := (show zT 7 from ((((((zk_99_zs2_59_z52_readC_1, zk_99_zs2_59_z52_readC_2), (((17, 4, 0xf000000000601000000000100000004), (0, 15, zun 40 15 4294967296)), zk_99_zs2_59_z52_readC_3)), zk_99_zs2_59_z52_readC_6), zk_99_zs2_59_z52_readC_7), zk_99_zs2_59_z52_readC_10), zk_99_zs2_59_z52_readC_11), (86, (0, 0)))
set_option maxRecDepth 100000 in
theorem e_cK52_4 : (f_X2_takeCharactert g_cO52_0) [zR 2, zI 4, zI 4294967296] hw_52 (zrkL [(zI 0, h_cK52_4_o0), (zI 1, hw_52)]) = true := by decide +kernel
noncomputable def g_cK52_4 : List zV → zH 7 → zP 7 → Bool := zocs [zR 2, zI 4, zI 4294967296] hw_52 [(zI 0, h_cK52_4_o0), (zI 1, hw_52)]
theorem m_cK52_4 : zMet X_X2_takeCharacter yX2_takeCharacter 4 g_cK52_4 := zMet_oc (m_X2_takeCharactert _ _ m_cO52_0) e_cK52_4
set_option maxRecDepth 100000 in
theorem e_cL52_4 : f_X2_readSlott [zR 2, zI 4] hw_52 (zrkL [(zI 0, hw_52), (zI 1, hw_52)]) = true := by decide +kernel
noncomputable def g_cL52_4 : List zV → zH 7 → zP 7 → Bool := zocs [zR 2, zI 4] hw_52 [(zI 0, hw_52), (zI 1, hw_52)]
theorem m_cL52_4 : zMet X_X2_readSlot yX2_readSlot 3 g_cL52_4 := zMet_oc (m_X2_readSlott) e_cL52_4
noncomputable def h_cB52_4_o0 : zH 7 := (show zT 7 from (((((zk_99_zs2_59_z52_readC_12, (((17, 4, 0xf000000000601000000c80000000005), (0, 15, zun 40 15 4294967296)), zk_99_zs2_59_z52_readC_3)), zk_99_zs2_59_z52_readC_6), zk_99_zs2_59_z52_readC_7), zk_99_zs2_59_z52_readC_10), zk_99_zs2_59_z52_readC_11), (86, (0, 0)))
set_option maxRecDepth 100000 in
theorem e_cB52_4 : (f_X2_readInBracketst (fun _ _ _ => false)) [zR 2, zI 4] hv_52 (zrkL [(zI 0, h_cB52_4_o0)]) = true := by decide +kernel
noncomputable def g_cB52_4 : List zV → zH 7 → zP 7 → Bool := zocs [zR 2, zI 4] hv_52 [(zI 0, h_cB52_4_o0)]
theorem m_cB52_4 : zMet X_X2_readInBrackets yX2_readInBrackets 3 g_cB52_4 := zMet_oc (m_X2_readInBracketst 0 _ zfalse) e_cB52_4
set_option maxRecDepth 100000 in
theorem e_cF52_4 : (f_X2_readFactort g_cB52_4 g_cL52_4 g_cK52_4) [zR 2, zI 4] hw_52 (zrkL [(zI 0, hw_52), (zI 1, hw_52)]) = true := by decide +kernel
noncomputable def g_cF52_4 : List zV → zH 7 → zP 7 → Bool := zocs [zR 2, zI 4] hw_52 [(zI 0, hw_52), (zI 1, hw_52)]
theorem m_cF52_4 : zMet X_X2_readFactor yX2_readFactor 14 g_cF52_4 := zMet_oc (m_X2_readFactort _ _ _ _ _ _ m_cB52_4 m_cL52_4 m_cK52_4) e_cF52_4
set_option maxRecDepth 100000 in
theorem e_cT52_4 : (f_X2_readTermt g_cF52_4 g_X2_multiply_52) [zR 2, zI 4] hw_52 (zrkL [(zI 0, hw_52), (zI 1, hw_52)]) = true := by decide +kernel
noncomputable def g_cT52_4 : List zV → zH 7 → zP 7 → Bool := zocs [zR 2, zI 4] hw_52 [(zI 0, hw_52), (zI 1, hw_52)]
theorem m_cT52_4 : zMet X_X2_readTerm yX2_readTerm 18 g_cT52_4 := zMet_oc (m_X2_readTermt _ _ _ _ m_cF52_4 mg_X2_multiply_52) e_cT52_4
set_option maxRecDepth 100000 in
theorem e_cS52_4 : (f_X2_readSumt g_cT52_4 g_X2_add_52) [zR 2, zI 4] hw_52 (zrkL [(zI 0, hw_52), (zI 1, hw_52)]) = true := by decide +kernel
noncomputable def g_cS52_4 : List zV → zH 7 → zP 7 → Bool := zocs [zR 2, zI 4] hw_52 [(zI 0, hw_52), (zI 1, hw_52)]
theorem m_cS52_4 : zMet X_X2_readSum yX2_readSum 22 g_cS52_4 := zMet_oc (m_X2_readSumt _ _ _ _ m_cT52_4 mg_X2_add_52) e_cS52_4
noncomputable def h_cK52_3_o0 : zH 7 := (show zT 7 from ((((((zk_99_zs2_59_z52_readC_1, zk_99_zs2_59_z52_readC_2), (((17, 4, 0xc000000000601000000000100000004), (0, 15, zun 40 15 4294967296)), zk_99_zs2_59_z52_readC_3)), zk_99_zs2_59_z52_readC_6), zk_99_zs2_59_z52_readC_7), zk_99_zs2_59_z52_readC_10), zk_99_zs2_59_z52_readC_11), (86, (0, 0)))
set_option maxRecDepth 100000 in
theorem e_cK52_3 : (f_X2_takeCharactert g_cO52_0) [zR 2, zI 3, zI 4294967296] hw_52 (zrkL [(zI 0, h_cK52_3_o0), (zI 1, hw_52)]) = true := by decide +kernel
noncomputable def g_cK52_3 : List zV → zH 7 → zP 7 → Bool := zocs [zR 2, zI 3, zI 4294967296] hw_52 [(zI 0, h_cK52_3_o0), (zI 1, hw_52)]
theorem m_cK52_3 : zMet X_X2_takeCharacter yX2_takeCharacter 4 g_cK52_3 := zMet_oc (m_X2_takeCharactert _ _ m_cO52_0) e_cK52_3
set_option maxRecDepth 100000 in
theorem e_cL52_3 : f_X2_readSlott [zR 2, zI 3] hw_52 (zrkL [(zI 0, hw_52), (zI 1, hw_52)]) = true := by decide +kernel
noncomputable def g_cL52_3 : List zV → zH 7 → zP 7 → Bool := zocs [zR 2, zI 3] hw_52 [(zI 0, hw_52), (zI 1, hw_52)]
theorem m_cL52_3 : zMet X_X2_readSlot yX2_readSlot 3 g_cL52_3 := zMet_oc (m_X2_readSlott) e_cL52_3
set_option maxRecDepth 100000 in
theorem e_cB52_3 : (f_X2_readInBracketst g_cS52_4) [zR 2, zI 3] hv_52 (zrkL [(zI 0, hw_52), (zI 1, hw_52)]) = true := by decide +kernel
noncomputable def g_cB52_3 : List zV → zH 7 → zP 7 → Bool := zocs [zR 2, zI 3] hv_52 [(zI 0, hw_52), (zI 1, hw_52)]
theorem m_cB52_3 : zMet X_X2_readInBrackets yX2_readInBrackets 25 g_cB52_3 := zMet_oc (m_X2_readInBracketst 22 _ m_cS52_4) e_cB52_3
set_option maxRecDepth 100000 in
theorem e_cF52_3 : (f_X2_readFactort g_cB52_3 g_cL52_3 g_cK52_3) [zR 2, zI 3] hw_52 (zrkL [(zI 0, hw_52), (zI 1, hw_52)]) = true := by decide +kernel
noncomputable def g_cF52_3 : List zV → zH 7 → zP 7 → Bool := zocs [zR 2, zI 3] hw_52 [(zI 0, hw_52), (zI 1, hw_52)]
theorem m_cF52_3 : zMet X_X2_readFactor yX2_readFactor 36 g_cF52_3 := zMet_oc (m_X2_readFactort _ _ _ _ _ _ m_cB52_3 m_cL52_3 m_cK52_3) e_cF52_3
set_option maxRecDepth 100000 in
theorem e_cT52_3 : (f_X2_readTermt g_cF52_3 g_X2_multiply_52) [zR 2, zI 3] hw_52 (zrkL [(zI 0, hw_52), (zI 1, hw_52)]) = true := by decide +kernel
noncomputable def g_cT52_3 : List zV → zH 7 → zP 7 → Bool := zocs [zR 2, zI 3] hw_52 [(zI 0, hw_52), (zI 1, hw_52)]
theorem m_cT52_3 : zMet X_X2_readTerm yX2_readTerm 40 g_cT52_3 := zMet_oc (m_X2_readTermt _ _ _ _ m_cF52_3 mg_X2_multiply_52) e_cT52_3
set_option maxRecDepth 100000 in
theorem e_cS52_3 : (f_X2_readSumt g_cT52_3 g_X2_add_52) [zR 2, zI 3] hw_52 (zrkL [(zI 0, hw_52), (zI 1, hw_52)]) = true := by decide +kernel
noncomputable def g_cS52_3 : List zV → zH 7 → zP 7 → Bool := zocs [zR 2, zI 3] hw_52 [(zI 0, hw_52), (zI 1, hw_52)]
theorem m_cS52_3 : zMet X_X2_readSum yX2_readSum 44 g_cS52_3 := zMet_oc (m_X2_readSumt _ _ _ _ m_cT52_3 mg_X2_add_52) e_cS52_3
noncomputable def h_cK52_2_o0 : zH 7 := (show zT 7 from ((((((zk_99_zs2_59_z52_readC_1, zk_99_zs2_59_z52_readC_2), (((17, 4, 0x9000000000601000000000100000004), (0, 15, zun 40 15 4294967296)), zk_99_zs2_59_z52_readC_3)), zk_99_zs2_59_z52_readC_6), zk_99_zs2_59_z52_readC_7), zk_99_zs2_59_z52_readC_10), zk_99_zs2_59_z52_readC_11), (86, (0, 0)))
set_option maxRecDepth 100000 in
theorem e_cK52_2 : (f_X2_takeCharactert g_cO52_0) [zR 2, zI 2, zI 4294967296] hw_52 (zrkL [(zI 0, h_cK52_2_o0), (zI 1, hw_52)]) = true := by decide +kernel
noncomputable def g_cK52_2 : List zV → zH 7 → zP 7 → Bool := zocs [zR 2, zI 2, zI 4294967296] hw_52 [(zI 0, h_cK52_2_o0), (zI 1, hw_52)]
theorem m_cK52_2 : zMet X_X2_takeCharacter yX2_takeCharacter 4 g_cK52_2 := zMet_oc (m_X2_takeCharactert _ _ m_cO52_0) e_cK52_2
set_option maxRecDepth 100000 in
theorem e_cL52_2 : f_X2_readSlott [zR 2, zI 2] hw_52 (zrkL [(zI 0, hw_52), (zI 1, hw_52)]) = true := by decide +kernel
noncomputable def g_cL52_2 : List zV → zH 7 → zP 7 → Bool := zocs [zR 2, zI 2] hw_52 [(zI 0, hw_52), (zI 1, hw_52)]
theorem m_cL52_2 : zMet X_X2_readSlot yX2_readSlot 3 g_cL52_2 := zMet_oc (m_X2_readSlott) e_cL52_2
set_option maxRecDepth 100000 in
theorem e_cB52_2 : (f_X2_readInBracketst g_cS52_3) [zR 2, zI 2] hv_52 (zrkL [(zI 0, hw_52), (zI 1, hw_52)]) = true := by decide +kernel
noncomputable def g_cB52_2 : List zV → zH 7 → zP 7 → Bool := zocs [zR 2, zI 2] hv_52 [(zI 0, hw_52), (zI 1, hw_52)]
theorem m_cB52_2 : zMet X_X2_readInBrackets yX2_readInBrackets 47 g_cB52_2 := zMet_oc (m_X2_readInBracketst 44 _ m_cS52_3) e_cB52_2
set_option maxRecDepth 100000 in
theorem e_cF52_2 : (f_X2_readFactort g_cB52_2 g_cL52_2 g_cK52_2) [zR 2, zI 2] hw_52 (zrkL [(zI 0, hw_52), (zI 1, hw_52)]) = true := by decide +kernel
noncomputable def g_cF52_2 : List zV → zH 7 → zP 7 → Bool := zocs [zR 2, zI 2] hw_52 [(zI 0, hw_52), (zI 1, hw_52)]
theorem m_cF52_2 : zMet X_X2_readFactor yX2_readFactor 58 g_cF52_2 := zMet_oc (m_X2_readFactort _ _ _ _ _ _ m_cB52_2 m_cL52_2 m_cK52_2) e_cF52_2
set_option maxRecDepth 100000 in
theorem e_cT52_2 : (f_X2_readTermt g_cF52_2 g_X2_multiply_52) [zR 2, zI 2] hw_52 (zrkL [(zI 0, hw_52), (zI 1, hw_52)]) = true := by decide +kernel
noncomputable def g_cT52_2 : List zV → zH 7 → zP 7 → Bool := zocs [zR 2, zI 2] hw_52 [(zI 0, hw_52), (zI 1, hw_52)]
theorem m_cT52_2 : zMet X_X2_readTerm yX2_readTerm 62 g_cT52_2 := zMet_oc (m_X2_readTermt _ _ _ _ m_cF52_2 mg_X2_multiply_52) e_cT52_2
set_option maxRecDepth 100000 in
theorem e_cS52_2 : (f_X2_readSumt g_cT52_2 g_X2_add_52) [zR 2, zI 2] hw_52 (zrkL [(zI 0, hw_52), (zI 1, hw_52)]) = true := by decide +kernel
noncomputable def g_cS52_2 : List zV → zH 7 → zP 7 → Bool := zocs [zR 2, zI 2] hw_52 [(zI 0, hw_52), (zI 1, hw_52)]
theorem m_cS52_2 : zMet X_X2_readSum yX2_readSum 66 g_cS52_2 := zMet_oc (m_X2_readSumt _ _ _ _ m_cT52_2 mg_X2_add_52) e_cS52_2
noncomputable def h_cK52_1_o0 : zH 7 := (show zT 7 from ((((((zk_99_zs2_59_z52_readC_1, zk_99_zs2_59_z52_readC_2), (((17, 4, 0x6000000000601000000000100000004), (0, 15, zun 40 15 4294967296)), zk_99_zs2_59_z52_readC_3)), zk_99_zs2_59_z52_readC_6), zk_99_zs2_59_z52_readC_7), zk_99_zs2_59_z52_readC_10), zk_99_zs2_59_z52_readC_11), (86, (0, 0)))
set_option maxRecDepth 100000 in
theorem e_cK52_1 : (f_X2_takeCharactert g_cO52_0) [zR 2, zI 1, zI 4294967296] hw_52 (zrkL [(zI 0, h_cK52_1_o0), (zI 1, hw_52)]) = true := by decide +kernel
noncomputable def g_cK52_1 : List zV → zH 7 → zP 7 → Bool := zocs [zR 2, zI 1, zI 4294967296] hw_52 [(zI 0, h_cK52_1_o0), (zI 1, hw_52)]
theorem m_cK52_1 : zMet X_X2_takeCharacter yX2_takeCharacter 4 g_cK52_1 := zMet_oc (m_X2_takeCharactert _ _ m_cO52_0) e_cK52_1
set_option maxRecDepth 100000 in
theorem e_cL52_1 : f_X2_readSlott [zR 2, zI 1] hw_52 (zrkL [(zI 0, hw_52), (zI 1, hw_52)]) = true := by decide +kernel
noncomputable def g_cL52_1 : List zV → zH 7 → zP 7 → Bool := zocs [zR 2, zI 1] hw_52 [(zI 0, hw_52), (zI 1, hw_52)]
theorem m_cL52_1 : zMet X_X2_readSlot yX2_readSlot 3 g_cL52_1 := zMet_oc (m_X2_readSlott) e_cL52_1
set_option maxRecDepth 100000 in
theorem e_cB52_1 : (f_X2_readInBracketst g_cS52_2) [zR 2, zI 1] hv_52 (zrkL [(zI 0, hw_52), (zI 1, hw_52)]) = true := by decide +kernel
noncomputable def g_cB52_1 : List zV → zH 7 → zP 7 → Bool := zocs [zR 2, zI 1] hv_52 [(zI 0, hw_52), (zI 1, hw_52)]
theorem m_cB52_1 : zMet X_X2_readInBrackets yX2_readInBrackets 69 g_cB52_1 := zMet_oc (m_X2_readInBracketst 66 _ m_cS52_2) e_cB52_1
set_option maxRecDepth 100000 in
theorem e_cF52_1 : (f_X2_readFactort g_cB52_1 g_cL52_1 g_cK52_1) [zR 2, zI 1] hw_52 (zrkL [(zI 0, hw_52), (zI 1, hw_52)]) = true := by decide +kernel
noncomputable def g_cF52_1 : List zV → zH 7 → zP 7 → Bool := zocs [zR 2, zI 1] hw_52 [(zI 0, hw_52), (zI 1, hw_52)]
theorem m_cF52_1 : zMet X_X2_readFactor yX2_readFactor 80 g_cF52_1 := zMet_oc (m_X2_readFactort _ _ _ _ _ _ m_cB52_1 m_cL52_1 m_cK52_1) e_cF52_1
set_option maxRecDepth 100000 in
theorem e_cT52_1 : (f_X2_readTermt g_cF52_1 g_X2_multiply_52) [zR 2, zI 1] hw_52 (zrkL [(zI 0, hw_52), (zI 1, hw_52)]) = true := by decide +kernel
noncomputable def g_cT52_1 : List zV → zH 7 → zP 7 → Bool := zocs [zR 2, zI 1] hw_52 [(zI 0, hw_52), (zI 1, hw_52)]
theorem m_cT52_1 : zMet X_X2_readTerm yX2_readTerm 84 g_cT52_1 := zMet_oc (m_X2_readTermt _ _ _ _ m_cF52_1 mg_X2_multiply_52) e_cT52_1
set_option maxRecDepth 100000 in
theorem e_cS52_1 : (f_X2_readSumt g_cT52_1 g_X2_add_52) [zR 2, zI 1] hw_52 (zrkL [(zI 0, hw_52), (zI 1, hw_52)]) = true := by decide +kernel
noncomputable def g_cS52_1 : List zV → zH 7 → zP 7 → Bool := zocs [zR 2, zI 1] hw_52 [(zI 0, hw_52), (zI 1, hw_52)]
theorem m_cS52_1 : zMet X_X2_readSum yX2_readSum 88 g_cS52_1 := zMet_oc (m_X2_readSumt _ _ _ _ m_cT52_1 mg_X2_add_52) e_cS52_1
noncomputable def h_cK52_0_o0 : zH 7 := (show zT 7 from ((((((zk_99_zs2_59_z52_readC_1, zk_99_zs2_59_z52_readC_2), (((17, 4, 0x3000000000601000000000100000004), (0, 15, zun 40 15 4294967296)), zk_99_zs2_59_z52_readC_3)), zk_99_zs2_59_z52_readC_6), zk_99_zs2_59_z52_readC_7), zk_99_zs2_59_z52_readC_10), zk_99_zs2_59_z52_readC_11), (86, (0, 0)))
set_option maxRecDepth 100000 in
theorem e_cK52_0 : (f_X2_takeCharactert g_cO52_0) [zR 2, zI 0, zI 4294967296] hw_52 (zrkL [(zI 0, h_cK52_0_o0), (zI 1, hw_52)]) = true := by decide +kernel
noncomputable def g_cK52_0 : List zV → zH 7 → zP 7 → Bool := zocs [zR 2, zI 0, zI 4294967296] hw_52 [(zI 0, h_cK52_0_o0), (zI 1, hw_52)]
theorem m_cK52_0 : zMet X_X2_takeCharacter yX2_takeCharacter 4 g_cK52_0 := zMet_oc (m_X2_takeCharactert _ _ m_cO52_0) e_cK52_0
set_option maxRecDepth 100000 in
theorem e_cL52_0 : f_X2_readSlott [zR 2, zI 0] hw_52 (zrkL [(zI 0, hw_52), (zI 1, hw_52)]) = true := by decide +kernel
noncomputable def g_cL52_0 : List zV → zH 7 → zP 7 → Bool := zocs [zR 2, zI 0] hw_52 [(zI 0, hw_52), (zI 1, hw_52)]
theorem m_cL52_0 : zMet X_X2_readSlot yX2_readSlot 3 g_cL52_0 := zMet_oc (m_X2_readSlott) e_cL52_0
set_option maxRecDepth 100000 in
theorem e_cB52_0 : (f_X2_readInBracketst g_cS52_1) [zR 2, zI 0] hv_52 (zrkL [(zI 0, hw_52), (zI 1, hw_52)]) = true := by decide +kernel
noncomputable def g_cB52_0 : List zV → zH 7 → zP 7 → Bool := zocs [zR 2, zI 0] hv_52 [(zI 0, hw_52), (zI 1, hw_52)]
theorem m_cB52_0 : zMet X_X2_readInBrackets yX2_readInBrackets 91 g_cB52_0 := zMet_oc (m_X2_readInBracketst 88 _ m_cS52_1) e_cB52_0
set_option maxRecDepth 100000 in
theorem e_cF52_0 : (f_X2_readFactort g_cB52_0 g_cL52_0 g_cK52_0) [zR 2, zI 0] hw_52 (zrkL [(zI 0, hw_52), (zI 1, hw_52)]) = true := by decide +kernel
noncomputable def g_cF52_0 : List zV → zH 7 → zP 7 → Bool := zocs [zR 2, zI 0] hw_52 [(zI 0, hw_52), (zI 1, hw_52)]
theorem m_cF52_0 : zMet X_X2_readFactor yX2_readFactor 102 g_cF52_0 := zMet_oc (m_X2_readFactort _ _ _ _ _ _ m_cB52_0 m_cL52_0 m_cK52_0) e_cF52_0
set_option maxRecDepth 100000 in
theorem e_cT52_0 : (f_X2_readTermt g_cF52_0 g_X2_multiply_52) [zR 2, zI 0] hw_52 (zrkL [(zI 0, hw_52), (zI 1, hw_52)]) = true := by decide +kernel
noncomputable def g_cT52_0 : List zV → zH 7 → zP 7 → Bool := zocs [zR 2, zI 0] hw_52 [(zI 0, hw_52), (zI 1, hw_52)]
theorem m_cT52_0 : zMet X_X2_readTerm yX2_readTerm 106 g_cT52_0 := zMet_oc (m_X2_readTermt _ _ _ _ m_cF52_0 mg_X2_multiply_52) e_cT52_0
set_option maxRecDepth 100000 in
theorem e_cS52_0 : (f_X2_readSumt g_cT52_0 g_X2_add_52) [zR 2, zI 0] hw_52 (zrkL [(zI 0, hw_52), (zI 1, hw_52)]) = true := by decide +kernel
noncomputable def g_cS52_0 : List zV → zH 7 → zP 7 → Bool := zocs [zR 2, zI 0] hw_52 [(zI 0, hw_52), (zI 1, hw_52)]
theorem m_cS52_0 : zMet X_X2_readSum yX2_readSum 110 g_cS52_0 := zMet_oc (m_X2_readSumt _ _ _ _ m_cT52_0 mg_X2_add_52) e_cS52_0
noncomputable def hw_52_t : zH 7 := (show zT 7 from ((((((zk_99_zs2_59_z52_readC_1, ((22, 2, 4), (0, 200, zun 40 200 4294967296))), zk_99_zs2_59_z52_readC_4), zk_99_zs2_59_z52_readC_6), zk_99_zs2_59_z52_readC_7), zk_99_zs2_59_z52_readC_10), zk_99_zs2_59_z52_readC_11), (86, (0, 0)))
set_option maxRecDepth 100000 in
theorem e_textC_52 : (zcutR 1 6 (f_X8_textt (f_X2_readt g_cS52_0))) [zR 1, zI 4294967296] hw_52 (zrkL [(zI 4294967296, hw_52_t)]) = true := by decide +kernel
noncomputable def g_textC_52 {d : Nat} : List zV → zH d → zP d → Bool := zsmyL [(0, 0), (1, 5), (1, 4), (3, 0), (2, 0), (5, 2), (2, 1), (7, 0), (7, 1), (7, 2), (7, 3), (7, 4), (2, 2), (13, 0), (13, 1), (13, 2), (13, 3), (13, 4), (2, 3), (19, 0), (19, 1), (19, 2), (19, 3), (19, 4), (2, 4), (2, 5), (2, 6), (2, 7), (1, 2), (29, 0), (29, 1), (29, 2), (29, 3), (29, 4), (29, 5), (2, 12), (36, 3), (37, 0), (37, 1), (37, 2), (37, 3), (37, 4), (37, 5), (37, 6), (38, 2), (39, 2), (40, 2), (41, 2), (42, 2), (43, 2), (44, 2), (36, 7), (36, 12), (53, 0), (53, 1), (53, 2), (53, 3), (53, 4), (53, 5), (53, 6), (36, 11), (61, 0), (61, 1), (61, 2), (61, 3), (61, 4), (61, 5), (61, 6), (2, 13), (69, 2), (69, 6), (71, 0), (71, 1), (71, 2), (71, 3), (71, 4), (71, 5), (71, 6), (69, 9), (79, 0), (79, 1), (79, 2), (79, 3), (79, 4), (79, 5), (79, 6)] [zR 1, zI 4294967296] hw_52 [(zI 4294967296, hw_52_t)]
theorem m_textC_52 {d : Nat} : zMet (d := d) X_X8_text yX8_text 115 g_textC_52 := zMet_smL (zMet_cutR (m_X8_textt _ _ (m_X2_readt _ _ m_cS52_0))) e_textC_52
end
section
/-! the class's reader at n = 53: by program -/
noncomputable def zk_99_zs2_59_z53_readC_0 : zC := (24, 8, 0x80000000088000000007000000000200000000038000000004000000001d80000000028000000001)
noncomputable def zk_99_zs2_59_z53_readC_1 : zT 1 := @Prod.mk (zT 0) (zT 0) zk_99_zs2_59_z53_readC_0 (18, 15, 0x1000000c900000000450000000024000000001d0000000003010000000001000000c9000000001c000000001b000000001a00000000190000000013000000000d00000000070000000005)
noncomputable def zk_99_zs2_59_z53_readC_2 : zT 1 := @Prod.mk (zT 0) (zT 0) (22, 2, 0x1000000c90000000004) (0, 200, zun 40 200 4294967296)
noncomputable def zk_99_zs2_59_z53_readC_3 : zT 1 := @Prod.mk (zT 0) (zT 0) (4, 5, 0xc000000000b000000000a00000000090000000008) (2, 11, zun 72 11 18446744073709551616)
noncomputable def zk_99_zs2_59_z53_readC_4 : zT 2 := @Prod.mk (zT 1) (zT 1) ((17, 4, 0x100000010000000000601000000000100000000), (0, 15, zun 40 15 4294967296)) zk_99_zs2_59_z53_readC_3
noncomputable def zk_99_zs2_59_z53_readC_5 : zT 1 := @Prod.mk (zT 0) (zT 0) (2, 11, zun 72 11 18446744073709551616) (2, 11, zun 72 11 18446744073709551616)
noncomputable def zk_99_zs2_59_z53_readC_6 : zT 3 := @Prod.mk (zT 2) (zT 2) (zk_99_zs2_59_z53_readC_5, zk_99_zs2_59_z53_readC_5) (((4, 5, 0x1200000000110000000010000000000f000000000e), (2, 11, zun 72 11 18446744073709551616)), zk_99_zs2_59_z53_readC_5)
noncomputable def zk_99_zs2_59_z53_readC_7 : zT 4 := @Prod.mk (zT 3) (zT 3) ((zk_99_zs2_59_z53_readC_5, ((4, 5, 0x180000000017000000001600000000150000000014), (2, 11, zun 72 11 18446744073709551616))), (zk_99_zs2_59_z53_readC_5, zk_99_zs2_59_z53_readC_5)) ((((0, 5, 0x1000000000100000000010000000001000000000100000000), (0, 5, 0x1000000000100000000010000000001000000000100000000)), ((0, 5, 0x1000000000100000000010000000001000000000100000000), (0, 6, 0x10000000001000000000100000000010000000001000000000100000000))), (((4, 6, 0x23000000002200000000210000000020000000001f000000001e), (2, 11, zun 72 11 18446744073709551616)), zk_99_zs2_59_z53_readC_5))
noncomputable def zk_99_zs2_59_z53_readC_8 : zC := (0, 7, 0x100000000010000000001000000000100000000010000000001000000000100000000)
noncomputable def zk_99_zs2_59_z53_readC_9 : zT 2 := @Prod.mk (zT 1) (zT 1) (zk_99_zs2_59_z53_readC_8, zk_99_zs2_59_z53_readC_8) (zk_99_zs2_59_z53_readC_8, zk_99_zs2_59_z53_readC_8)
noncomputable def zk_99_zs2_59_z53_readC_10 : zT 5 := @Prod.mk (zT 4) (zT 4) (((zk_99_zs2_59_z53_readC_5, ((2, 11, zun 72 11 18446744073709551616), (23, 14, 0x80000008ce0000000035000000003d80000008cb80000008ca80000008c9000000003480000008c780000008c680000008c5000000002580000008c3000000000780000008c1))), (((5, 7, 0x2c000000002b000000002a0000000029000000002800000000270000000026), (20, 16, 0x8000000950800000094f800000094e800000094d800000094c800000094b800000094a800000094980000009488000000947800000094680000009458000000944000000002d80000009428000000941)), ((20, 16, 0x8000000990800000098f800000098e800000098d800000098c800000098b800000098a800000098980000009888000000987800000098680000009858000000984000000002e80000009828000000981), (20, 16, 0x80000009d080000009cf80000009ce80000009cd80000009cc80000009cb80000009ca80000009c980000009c880000009c780000009c680000009c580000009c4000000002f80000009c280000009c1)))), ((((20, 16, 0x8000000a108000000a0f8000000a0e8000000a0d8000000a0c8000000a0b8000000a0a8000000a098000000a088000000a078000000a068000000a058000000a0400000000308000000a028000000a01), (20, 16, 0x8000000a508000000a4f8000000a4e8000000a4d8000000a4c8000000a4b8000000a4a8000000a498000000a488000000a478000000a468000000a458000000a4400000000318000000a428000000a41)), ((20, 16, 0x8000000a908000000a8f8000000a8e8000000a8d8000000a8c8000000a8b8000000a8a8000000a898000000a888000000a878000000a868000000a858000000a8400000000328000000a828000000a81), (20, 16, 0x8000000ad08000000acf8000000ace8000000acd8000000acc8000000acb8000000aca8000000ac98000000ac88000000ac78000000ac68000000ac58000000ac400000000338000000ac28000000ac1))), (((0, 1, 5), (0, 2, 0x10000000004)), ((0, 2, 0x20000000003), (0, 3, 0x100000000010000000003))))) (((((0, 3, 0x100000000020000000002), (0, 4, 0x1000000000100000000010000000002)), ((0, 5, 0x10000000001000000000100000000010000000001), (0, 7, 0x100ffffffff0000000001000000000100ffffffff00ffffffff0000000001))), (((3, 7, 0x3c000000003b000000003a0000000039000000003800000000370000000036), zk_99_zs2_59_z53_readC_8), (zk_99_zs2_59_z53_readC_8, zk_99_zs2_59_z53_readC_8))), (zk_99_zs2_59_z53_readC_9, (((3, 7, 0x440000000043000000004200000000410000000040000000003f000000003e), zk_99_zs2_59_z53_readC_8), (zk_99_zs2_59_z53_readC_8, zk_99_zs2_59_z53_readC_8))))
noncomputable def zk_99_zs2_59_z53_readC_11 : zT 6 := @Prod.mk (zT 5) (zT 5) (((zk_99_zs2_59_z53_readC_9, (((21, 12, 0x800000110c800000110b000000004f800000110980000011080000000047800000110680000011058000001104000000004680000011028000001101), (0, 7, 0xffffffff00ffffffff00000000040000000003000000000200000000010000000000)), ((3, 7, 0x4e000000004d000000004c000000004b000000004a00000000490000000048), zk_99_zs2_59_z53_readC_8))), (zk_99_zs2_59_z53_readC_9, ((zk_99_zs2_59_z53_readC_8, zk_99_zs2_59_z53_readC_8), ((3, 7, 0x56000000005500000000540000000053000000005200000000510000000050), zk_99_zs2_59_z53_readC_8)))), ((zk_99_zs2_59_z53_readC_9, ((zk_99_zs2_59_z53_readC_8, zk_99_zs2_59_z53_readC_8), zO1)), zO3)) zO5
noncomputable def hw_53 : zH 7 := (show zT 7 from ((((((zk_99_zs2_59_z53_readC_1, zk_99_zs2_59_z53_readC_2), zk_99_zs2_59_z53_readC_4), zk_99_zs2_59_z53_readC_6), zk_99_zs2_59_z53_readC_7), zk_99_zs2_59_z53_readC_10), zk_99_zs2_59_z53_readC_11), (86, (0, 0)))
noncomputable def zk_99_zs2_59_z53_readC_12 : zT 2 := @Prod.mk (zT 1) (zT 1) (zk_99_zs2_59_z53_readC_0, (18, 15, 0x1000000c800000000450000000024000000001d0000000003010000000001000000c9000000001c000000001b000000001a00000000190000000013000000000d00000000070000000005)) zk_99_zs2_59_z53_readC_2
noncomputable def hv_53 : zH 7 := (show zT 7 from (((((zk_99_zs2_59_z53_readC_12, zk_99_zs2_59_z53_readC_4), zk_99_zs2_59_z53_readC_6), zk_99_zs2_59_z53_readC_7), zk_99_zs2_59_z53_readC_10), zk_99_zs2_59_z53_readC_11), (86, (0, 0)))
noncomputable def hs_X2_add_53 : zH 2 := (show zT 2 from (((18, 15, 0x800000000f800000000e0000000002800000000c800000000b800000000a800000000980000000088000000007800000000680000000058000000004800000000380000000028000000001), (23, 14, 0x800000004e800000004d800000004c800000004b800000004a800000004980000000488000000047800000004680000000458000000044800000004300000000078000000041)), zk_99_zs2_59_z53_readC_5), (4, (0, 0)))
noncomputable def hs_X2_add_53_o0 : zH 2 := (show zT 2 from (((18, 15, 0x800000000f800000000e0000000002800000000c800000000b800000000a800000000980000000088000000007800000000680000000058000000004800000000380000000028000000001), (23, 14, 0x800000004e800000004d800000004c800000004b800000004a800000004980000000488000000047800000004680000000458000000044800000004300000000078000000041)), zk_99_zs2_59_z53_readC_5), (4, (0, 0)))
noncomputable def hs_X2_add_53_o1 : zH 2 := (show zT 2 from (((18, 15, 0x800000000f800000000e0000000002800000000c800000000b800000000a800000000980000000088000000007800000000680000000058000000004800000000380000000028000000001), (23, 14, 0x800000004e800000004d800000004c800000004b800000004a800000004980000000488000000047800000004680000000458000000044800000004300000000078000000041)), zk_99_zs2_59_z53_readC_5), (4, (0, 0)))
set_option maxRecDepth 100000 in
theorem ev_X2_add_53 : f_X2_addt [zR 1, zR 3, zI 4294967298, zR 4] hs_X2_add_53 (zrkL [(zI 0, hs_X2_add_53_o0), (zI 1, hs_X2_add_53_o1)]) = true := by decide +kernel
noncomputable def g_X2_add_53 {d : Nat} : List zV → zH d → zP d → Bool := zsmyL [(0, 0), (1, 12), (0, 1), (0, 3)] [zR 1, zR 3, zI 4294967298, zR 4] hs_X2_add_53 [(zI 0, hs_X2_add_53_o0), (zI 1, hs_X2_add_53_o1)]
theorem mg_X2_add_53 {d : Nat} : zMet (d := d) X_X2_add yX2_add 1 g_X2_add_53 := zMet_smL m_X2_addt ev_X2_add_53

noncomputable def hs_X2_multiply_53 : zH 2 := (show zT 2 from (((18, 15, 0x800000000f800000000e0000000002800000000c800000000b800000000a800000000980000000088000000007800000000680000000058000000004800000000380000000028000000001), (23, 14, 0x800000004e800000004d800000004c800000004b800000004a800000004980000000488000000047800000004680000000458000000044800000004300000000078000000041)), zk_99_zs2_59_z53_readC_5), (4, (0, 0)))
noncomputable def hs_X2_multiply_53_o0 : zH 2 := (show zT 2 from (((18, 15, 0x800000000f800000000e0000000002800000000c800000000b800000000a800000000980000000088000000007800000000680000000058000000004800000000380000000028000000001), (23, 14, 0x800000004e800000004d800000004c800000004b800000004a800000004980000000488000000047800000004680000000458000000044800000004300000000078000000041)), zk_99_zs2_59_z53_readC_5), (4, (0, 0)))
noncomputable def hs_X2_multiply_53_o1 : zH 2 := (show zT 2 from (((18, 15, 0x800000000f800000000e0000000002800000000c800000000b800000000a800000000980000000088000000007800000000680000000058000000004800000000380000000028000000001), (23, 14, 0x800000004e800000004d800000004c800000004b800000004a800000004980000000488000000047800000004680000000458000000044800000004300000000078000000041)), zk_99_zs2_59_z53_readC_5), (4, (0, 0)))
set_option maxRecDepth 100000 in
theorem ev_X2_multiply_53 : f_X2_multiplyt [zR 1, zR 3, zR 4] hs_X2_multiply_53 (zrkL [(zI 0, hs_X2_multiply_53_o0), (zI 1, hs_X2_multiply_53_o1)]) = true := by decide +kernel
noncomputable def g_X2_multiply_53 {d : Nat} : List zV → zH d → zP d → Bool := zsmyL [(0, 0), (1, 12), (0, 1), (0, 2)] [zR 1, zR 3, zR 4] hs_X2_multiply_53 [(zI 0, hs_X2_multiply_53_o0), (zI 1, hs_X2_multiply_53_o1)]
theorem mg_X2_multiply_53 {d : Nat} : zMet (d := d) X_X2_multiply yX2_multiply 1 g_X2_multiply_53 := zMet_smL m_X2_multiplyt ev_X2_multiply_53

set_option maxRecDepth 100000 in
theorem e_cO53_0 : f_X7_numberOft [zR 36, zR 28, zI 4294967497] hw_53 (zrkL [(zI 4294967295, hw_53), (zI 4294967303, hw_53)]) = true := by decide +kernel
noncomputable def g_cO53_0 : List zV → zH 7 → zP 7 → Bool := zocs [zR 36, zR 28, zI 4294967497] hw_53 [(zI 4294967295, hw_53), (zI 4294967303, hw_53)]
theorem m_cO53_0 : zMet X_X7_numberOf yX7_numberOf 1 g_cO53_0 := zMet_oc (m_X7_numberOft) e_cO53_0
noncomputable def h_cK53_4_o0 : zH 7 := (show zT 7 from ((((((zk_99_zs2_59_z53_readC_1, zk_99_zs2_59_z53_readC_2), (((17, 4, 0xf000000000601000000000100000004), (0, 15, zun 40 15 4294967296)), zk_99_zs2_59_z53_readC_3)), zk_99_zs2_59_z53_readC_6), zk_99_zs2_59_z53_readC_7), zk_99_zs2_59_z53_readC_10), zk_99_zs2_59_z53_readC_11), (86, (0, 0)))
set_option maxRecDepth 100000 in
theorem e_cK53_4 : (f_X2_takeCharactert g_cO53_0) [zR 2, zI 4, zI 4294967296] hw_53 (zrkL [(zI 0, h_cK53_4_o0), (zI 1, hw_53)]) = true := by decide +kernel
noncomputable def g_cK53_4 : List zV → zH 7 → zP 7 → Bool := zocs [zR 2, zI 4, zI 4294967296] hw_53 [(zI 0, h_cK53_4_o0), (zI 1, hw_53)]
theorem m_cK53_4 : zMet X_X2_takeCharacter yX2_takeCharacter 4 g_cK53_4 := zMet_oc (m_X2_takeCharactert _ _ m_cO53_0) e_cK53_4
set_option maxRecDepth 100000 in
theorem e_cL53_4 : f_X2_readSlott [zR 2, zI 4] hw_53 (zrkL [(zI 0, hw_53), (zI 1, hw_53)]) = true := by decide +kernel
noncomputable def g_cL53_4 : List zV → zH 7 → zP 7 → Bool := zocs [zR 2, zI 4] hw_53 [(zI 0, hw_53), (zI 1, hw_53)]
theorem m_cL53_4 : zMet X_X2_readSlot yX2_readSlot 3 g_cL53_4 := zMet_oc (m_X2_readSlott) e_cL53_4
noncomputable def h_cB53_4_o0 : zH 7 := (show zT 7 from (((((zk_99_zs2_59_z53_readC_12, (((17, 4, 0xf000000000601000000c80000000005), (0, 15, zun 40 15 4294967296)), zk_99_zs2_59_z53_readC_3)), zk_99_zs2_59_z53_readC_6), zk_99_zs2_59_z53_readC_7), zk_99_zs2_59_z53_readC_10), zk_99_zs2_59_z53_readC_11), (86, (0, 0)))
set_option maxRecDepth 100000 in
theorem e_cB53_4 : (f_X2_readInBracketst (fun _ _ _ => false)) [zR 2, zI 4] hv_53 (zrkL [(zI 0, h_cB53_4_o0)]) = true := by decide +kernel
noncomputable def g_cB53_4 : List zV → zH 7 → zP 7 → Bool := zocs [zR 2, zI 4] hv_53 [(zI 0, h_cB53_4_o0)]
theorem m_cB53_4 : zMet X_X2_readInBrackets yX2_readInBrackets 3 g_cB53_4 := zMet_oc (m_X2_readInBracketst 0 _ zfalse) e_cB53_4
set_option maxRecDepth 100000 in
theorem e_cF53_4 : (f_X2_readFactort g_cB53_4 g_cL53_4 g_cK53_4) [zR 2, zI 4] hw_53 (zrkL [(zI 0, hw_53), (zI 1, hw_53)]) = true := by decide +kernel
noncomputable def g_cF53_4 : List zV → zH 7 → zP 7 → Bool := zocs [zR 2, zI 4] hw_53 [(zI 0, hw_53), (zI 1, hw_53)]
theorem m_cF53_4 : zMet X_X2_readFactor yX2_readFactor 14 g_cF53_4 := zMet_oc (m_X2_readFactort _ _ _ _ _ _ m_cB53_4 m_cL53_4 m_cK53_4) e_cF53_4
set_option maxRecDepth 100000 in
theorem e_cT53_4 : (f_X2_readTermt g_cF53_4 g_X2_multiply_53) [zR 2, zI 4] hw_53 (zrkL [(zI 0, hw_53), (zI 1, hw_53)]) = true := by decide +kernel
noncomputable def g_cT53_4 : List zV → zH 7 → zP 7 → Bool := zocs [zR 2, zI 4] hw_53 [(zI 0, hw_53), (zI 1, hw_53)]
theorem m_cT53_4 : zMet X_X2_readTerm yX2_readTerm 18 g_cT53_4 := zMet_oc (m_X2_readTermt _ _ _ _ m_cF53_4 mg_X2_multiply_53) e_cT53_4
set_option maxRecDepth 100000 in
theorem e_cS53_4 : (f_X2_readSumt g_cT53_4 g_X2_add_53) [zR 2, zI 4] hw_53 (zrkL [(zI 0, hw_53), (zI 1, hw_53)]) = true := by decide +kernel
noncomputable def g_cS53_4 : List zV → zH 7 → zP 7 → Bool := zocs [zR 2, zI 4] hw_53 [(zI 0, hw_53), (zI 1, hw_53)]
theorem m_cS53_4 : zMet X_X2_readSum yX2_readSum 22 g_cS53_4 := zMet_oc (m_X2_readSumt _ _ _ _ m_cT53_4 mg_X2_add_53) e_cS53_4
noncomputable def h_cK53_3_o0 : zH 7 := (show zT 7 from ((((((zk_99_zs2_59_z53_readC_1, zk_99_zs2_59_z53_readC_2), (((17, 4, 0xc000000000601000000000100000004), (0, 15, zun 40 15 4294967296)), zk_99_zs2_59_z53_readC_3)), zk_99_zs2_59_z53_readC_6), zk_99_zs2_59_z53_readC_7), zk_99_zs2_59_z53_readC_10), zk_99_zs2_59_z53_readC_11), (86, (0, 0)))
set_option maxRecDepth 100000 in
theorem e_cK53_3 : (f_X2_takeCharactert g_cO53_0) [zR 2, zI 3, zI 4294967296] hw_53 (zrkL [(zI 0, h_cK53_3_o0), (zI 1, hw_53)]) = true := by decide +kernel
noncomputable def g_cK53_3 : List zV → zH 7 → zP 7 → Bool := zocs [zR 2, zI 3, zI 4294967296] hw_53 [(zI 0, h_cK53_3_o0), (zI 1, hw_53)]
theorem m_cK53_3 : zMet X_X2_takeCharacter yX2_takeCharacter 4 g_cK53_3 := zMet_oc (m_X2_takeCharactert _ _ m_cO53_0) e_cK53_3
set_option maxRecDepth 100000 in
theorem e_cL53_3 : f_X2_readSlott [zR 2, zI 3] hw_53 (zrkL [(zI 0, hw_53), (zI 1, hw_53)]) = true := by decide +kernel
noncomputable def g_cL53_3 : List zV → zH 7 → zP 7 → Bool := zocs [zR 2, zI 3] hw_53 [(zI 0, hw_53), (zI 1, hw_53)]
theorem m_cL53_3 : zMet X_X2_readSlot yX2_readSlot 3 g_cL53_3 := zMet_oc (m_X2_readSlott) e_cL53_3
set_option maxRecDepth 100000 in
theorem e_cB53_3 : (f_X2_readInBracketst g_cS53_4) [zR 2, zI 3] hv_53 (zrkL [(zI 0, hw_53), (zI 1, hw_53)]) = true := by decide +kernel
noncomputable def g_cB53_3 : List zV → zH 7 → zP 7 → Bool := zocs [zR 2, zI 3] hv_53 [(zI 0, hw_53), (zI 1, hw_53)]
theorem m_cB53_3 : zMet X_X2_readInBrackets yX2_readInBrackets 25 g_cB53_3 := zMet_oc (m_X2_readInBracketst 22 _ m_cS53_4) e_cB53_3
set_option maxRecDepth 100000 in
theorem e_cF53_3 : (f_X2_readFactort g_cB53_3 g_cL53_3 g_cK53_3) [zR 2, zI 3] hw_53 (zrkL [(zI 0, hw_53), (zI 1, hw_53)]) = true := by decide +kernel
noncomputable def g_cF53_3 : List zV → zH 7 → zP 7 → Bool := zocs [zR 2, zI 3] hw_53 [(zI 0, hw_53), (zI 1, hw_53)]
theorem m_cF53_3 : zMet X_X2_readFactor yX2_readFactor 36 g_cF53_3 := zMet_oc (m_X2_readFactort _ _ _ _ _ _ m_cB53_3 m_cL53_3 m_cK53_3) e_cF53_3
set_option maxRecDepth 100000 in
theorem e_cT53_3 : (f_X2_readTermt g_cF53_3 g_X2_multiply_53) [zR 2, zI 3] hw_53 (zrkL [(zI 0, hw_53), (zI 1, hw_53)]) = true := by decide +kernel
noncomputable def g_cT53_3 : List zV → zH 7 → zP 7 → Bool := zocs [zR 2, zI 3] hw_53 [(zI 0, hw_53), (zI 1, hw_53)]
theorem m_cT53_3 : zMet X_X2_readTerm yX2_readTerm 40 g_cT53_3 := zMet_oc (m_X2_readTermt _ _ _ _ m_cF53_3 mg_X2_multiply_53) e_cT53_3
set_option maxRecDepth 100000 in
theorem e_cS53_3 : (f_X2_readSumt g_cT53_3 g_X2_add_53) [zR 2, zI 3] hw_53 (zrkL [(zI 0, hw_53), (zI 1, hw_53)]) = true := by decide +kernel
noncomputable def g_cS53_3 : List zV → zH 7 → zP 7 → Bool := zocs [zR 2, zI 3] hw_53 [(zI 0, hw_53), (zI 1, hw_53)]
theorem m_cS53_3 : zMet X_X2_readSum yX2_readSum 44 g_cS53_3 := zMet_oc (m_X2_readSumt _ _ _ _ m_cT53_3 mg_X2_add_53) e_cS53_3
noncomputable def h_cK53_2_o0 : zH 7 := (show zT 7 from ((((((zk_99_zs2_59_z53_readC_1, zk_99_zs2_59_z53_readC_2), (((17, 4, 0x9000000000601000000000100000004), (0, 15, zun 40 15 4294967296)), zk_99_zs2_59_z53_readC_3)), zk_99_zs2_59_z53_readC_6), zk_99_zs2_59_z53_readC_7), zk_99_zs2_59_z53_readC_10), zk_99_zs2_59_z53_readC_11), (86, (0, 0)))
set_option maxRecDepth 100000 in
theorem e_cK53_2 : (f_X2_takeCharactert g_cO53_0) [zR 2, zI 2, zI 4294967296] hw_53 (zrkL [(zI 0, h_cK53_2_o0), (zI 1, hw_53)]) = true := by decide +kernel
noncomputable def g_cK53_2 : List zV → zH 7 → zP 7 → Bool := zocs [zR 2, zI 2, zI 4294967296] hw_53 [(zI 0, h_cK53_2_o0), (zI 1, hw_53)]
theorem m_cK53_2 : zMet X_X2_takeCharacter yX2_takeCharacter 4 g_cK53_2 := zMet_oc (m_X2_takeCharactert _ _ m_cO53_0) e_cK53_2
set_option maxRecDepth 100000 in
theorem e_cL53_2 : f_X2_readSlott [zR 2, zI 2] hw_53 (zrkL [(zI 0, hw_53), (zI 1, hw_53)]) = true := by decide +kernel
noncomputable def g_cL53_2 : List zV → zH 7 → zP 7 → Bool := zocs [zR 2, zI 2] hw_53 [(zI 0, hw_53), (zI 1, hw_53)]
theorem m_cL53_2 : zMet X_X2_readSlot yX2_readSlot 3 g_cL53_2 := zMet_oc (m_X2_readSlott) e_cL53_2
set_option maxRecDepth 100000 in
theorem e_cB53_2 : (f_X2_readInBracketst g_cS53_3) [zR 2, zI 2] hv_53 (zrkL [(zI 0, hw_53), (zI 1, hw_53)]) = true := by decide +kernel
noncomputable def g_cB53_2 : List zV → zH 7 → zP 7 → Bool := zocs [zR 2, zI 2] hv_53 [(zI 0, hw_53), (zI 1, hw_53)]
theorem m_cB53_2 : zMet X_X2_readInBrackets yX2_readInBrackets 47 g_cB53_2 := zMet_oc (m_X2_readInBracketst 44 _ m_cS53_3) e_cB53_2
set_option maxRecDepth 100000 in
theorem e_cF53_2 : (f_X2_readFactort g_cB53_2 g_cL53_2 g_cK53_2) [zR 2, zI 2] hw_53 (zrkL [(zI 0, hw_53), (zI 1, hw_53)]) = true := by decide +kernel
noncomputable def g_cF53_2 : List zV → zH 7 → zP 7 → Bool := zocs [zR 2, zI 2] hw_53 [(zI 0, hw_53), (zI 1, hw_53)]
theorem m_cF53_2 : zMet X_X2_readFactor yX2_readFactor 58 g_cF53_2 := zMet_oc (m_X2_readFactort _ _ _ _ _ _ m_cB53_2 m_cL53_2 m_cK53_2) e_cF53_2
set_option maxRecDepth 100000 in
theorem e_cT53_2 : (f_X2_readTermt g_cF53_2 g_X2_multiply_53) [zR 2, zI 2] hw_53 (zrkL [(zI 0, hw_53), (zI 1, hw_53)]) = true := by decide +kernel
noncomputable def g_cT53_2 : List zV → zH 7 → zP 7 → Bool := zocs [zR 2, zI 2] hw_53 [(zI 0, hw_53), (zI 1, hw_53)]
theorem m_cT53_2 : zMet X_X2_readTerm yX2_readTerm 62 g_cT53_2 := zMet_oc (m_X2_readTermt _ _ _ _ m_cF53_2 mg_X2_multiply_53) e_cT53_2
set_option maxRecDepth 100000 in
theorem e_cS53_2 : (f_X2_readSumt g_cT53_2 g_X2_add_53) [zR 2, zI 2] hw_53 (zrkL [(zI 0, hw_53), (zI 1, hw_53)]) = true := by decide +kernel
noncomputable def g_cS53_2 : List zV → zH 7 → zP 7 → Bool := zocs [zR 2, zI 2] hw_53 [(zI 0, hw_53), (zI 1, hw_53)]
theorem m_cS53_2 : zMet X_X2_readSum yX2_readSum 66 g_cS53_2 := zMet_oc (m_X2_readSumt _ _ _ _ m_cT53_2 mg_X2_add_53) e_cS53_2
noncomputable def h_cK53_1_o0 : zH 7 := (show zT 7 from ((((((zk_99_zs2_59_z53_readC_1, zk_99_zs2_59_z53_readC_2), (((17, 4, 0x6000000000601000000000100000004), (0, 15, zun 40 15 4294967296)), zk_99_zs2_59_z53_readC_3)), zk_99_zs2_59_z53_readC_6), zk_99_zs2_59_z53_readC_7), zk_99_zs2_59_z53_readC_10), zk_99_zs2_59_z53_readC_11), (86, (0, 0)))
set_option maxRecDepth 100000 in
theorem e_cK53_1 : (f_X2_takeCharactert g_cO53_0) [zR 2, zI 1, zI 4294967296] hw_53 (zrkL [(zI 0, h_cK53_1_o0), (zI 1, hw_53)]) = true := by decide +kernel
noncomputable def g_cK53_1 : List zV → zH 7 → zP 7 → Bool := zocs [zR 2, zI 1, zI 4294967296] hw_53 [(zI 0, h_cK53_1_o0), (zI 1, hw_53)]
theorem m_cK53_1 : zMet X_X2_takeCharacter yX2_takeCharacter 4 g_cK53_1 := zMet_oc (m_X2_takeCharactert _ _ m_cO53_0) e_cK53_1
set_option maxRecDepth 100000 in
theorem e_cL53_1 : f_X2_readSlott [zR 2, zI 1] hw_53 (zrkL [(zI 0, hw_53), (zI 1, hw_53)]) = true := by decide +kernel
noncomputable def g_cL53_1 : List zV → zH 7 → zP 7 → Bool := zocs [zR 2, zI 1] hw_53 [(zI 0, hw_53), (zI 1, hw_53)]
theorem m_cL53_1 : zMet X_X2_readSlot yX2_readSlot 3 g_cL53_1 := zMet_oc (m_X2_readSlott) e_cL53_1
set_option maxRecDepth 100000 in
theorem e_cB53_1 : (f_X2_readInBracketst g_cS53_2) [zR 2, zI 1] hv_53 (zrkL [(zI 0, hw_53), (zI 1, hw_53)]) = true := by decide +kernel
noncomputable def g_cB53_1 : List zV → zH 7 → zP 7 → Bool := zocs [zR 2, zI 1] hv_53 [(zI 0, hw_53), (zI 1, hw_53)]
theorem m_cB53_1 : zMet X_X2_readInBrackets yX2_readInBrackets 69 g_cB53_1 := zMet_oc (m_X2_readInBracketst 66 _ m_cS53_2) e_cB53_1
set_option maxRecDepth 100000 in
theorem e_cF53_1 : (f_X2_readFactort g_cB53_1 g_cL53_1 g_cK53_1) [zR 2, zI 1] hw_53 (zrkL [(zI 0, hw_53), (zI 1, hw_53)]) = true := by decide +kernel
noncomputable def g_cF53_1 : List zV → zH 7 → zP 7 → Bool := zocs [zR 2, zI 1] hw_53 [(zI 0, hw_53), (zI 1, hw_53)]
theorem m_cF53_1 : zMet X_X2_readFactor yX2_readFactor 80 g_cF53_1 := zMet_oc (m_X2_readFactort _ _ _ _ _ _ m_cB53_1 m_cL53_1 m_cK53_1) e_cF53_1
set_option maxRecDepth 100000 in
theorem e_cT53_1 : (f_X2_readTermt g_cF53_1 g_X2_multiply_53) [zR 2, zI 1] hw_53 (zrkL [(zI 0, hw_53), (zI 1, hw_53)]) = true := by decide +kernel
noncomputable def g_cT53_1 : List zV → zH 7 → zP 7 → Bool := zocs [zR 2, zI 1] hw_53 [(zI 0, hw_53), (zI 1, hw_53)]
theorem m_cT53_1 : zMet X_X2_readTerm yX2_readTerm 84 g_cT53_1 := zMet_oc (m_X2_readTermt _ _ _ _ m_cF53_1 mg_X2_multiply_53) e_cT53_1
set_option maxRecDepth 100000 in
theorem e_cS53_1 : (f_X2_readSumt g_cT53_1 g_X2_add_53) [zR 2, zI 1] hw_53 (zrkL [(zI 0, hw_53), (zI 1, hw_53)]) = true := by decide +kernel
noncomputable def g_cS53_1 : List zV → zH 7 → zP 7 → Bool := zocs [zR 2, zI 1] hw_53 [(zI 0, hw_53), (zI 1, hw_53)]
theorem m_cS53_1 : zMet X_X2_readSum yX2_readSum 88 g_cS53_1 := zMet_oc (m_X2_readSumt _ _ _ _ m_cT53_1 mg_X2_add_53) e_cS53_1
noncomputable def h_cK53_0_o0 : zH 7 := (show zT 7 from ((((((zk_99_zs2_59_z53_readC_1, zk_99_zs2_59_z53_readC_2), (((17, 4, 0x3000000000601000000000100000004), (0, 15, zun 40 15 4294967296)), zk_99_zs2_59_z53_readC_3)), zk_99_zs2_59_z53_readC_6), zk_99_zs2_59_z53_readC_7), zk_99_zs2_59_z53_readC_10), zk_99_zs2_59_z53_readC_11), (86, (0, 0)))
set_option maxRecDepth 100000 in
theorem e_cK53_0 : (f_X2_takeCharactert g_cO53_0) [zR 2, zI 0, zI 4294967296] hw_53 (zrkL [(zI 0, h_cK53_0_o0), (zI 1, hw_53)]) = true := by decide +kernel
noncomputable def g_cK53_0 : List zV → zH 7 → zP 7 → Bool := zocs [zR 2, zI 0, zI 4294967296] hw_53 [(zI 0, h_cK53_0_o0), (zI 1, hw_53)]
theorem m_cK53_0 : zMet X_X2_takeCharacter yX2_takeCharacter 4 g_cK53_0 := zMet_oc (m_X2_takeCharactert _ _ m_cO53_0) e_cK53_0
set_option maxRecDepth 100000 in
theorem e_cL53_0 : f_X2_readSlott [zR 2, zI 0] hw_53 (zrkL [(zI 0, hw_53), (zI 1, hw_53)]) = true := by decide +kernel
noncomputable def g_cL53_0 : List zV → zH 7 → zP 7 → Bool := zocs [zR 2, zI 0] hw_53 [(zI 0, hw_53), (zI 1, hw_53)]
theorem m_cL53_0 : zMet X_X2_readSlot yX2_readSlot 3 g_cL53_0 := zMet_oc (m_X2_readSlott) e_cL53_0
set_option maxRecDepth 100000 in
theorem e_cB53_0 : (f_X2_readInBracketst g_cS53_1) [zR 2, zI 0] hv_53 (zrkL [(zI 0, hw_53), (zI 1, hw_53)]) = true := by decide +kernel
noncomputable def g_cB53_0 : List zV → zH 7 → zP 7 → Bool := zocs [zR 2, zI 0] hv_53 [(zI 0, hw_53), (zI 1, hw_53)]
theorem m_cB53_0 : zMet X_X2_readInBrackets yX2_readInBrackets 91 g_cB53_0 := zMet_oc (m_X2_readInBracketst 88 _ m_cS53_1) e_cB53_0
set_option maxRecDepth 100000 in
theorem e_cF53_0 : (f_X2_readFactort g_cB53_0 g_cL53_0 g_cK53_0) [zR 2, zI 0] hw_53 (zrkL [(zI 0, hw_53), (zI 1, hw_53)]) = true := by decide +kernel
noncomputable def g_cF53_0 : List zV → zH 7 → zP 7 → Bool := zocs [zR 2, zI 0] hw_53 [(zI 0, hw_53), (zI 1, hw_53)]
theorem m_cF53_0 : zMet X_X2_readFactor yX2_readFactor 102 g_cF53_0 := zMet_oc (m_X2_readFactort _ _ _ _ _ _ m_cB53_0 m_cL53_0 m_cK53_0) e_cF53_0
set_option maxRecDepth 100000 in
theorem e_cT53_0 : (f_X2_readTermt g_cF53_0 g_X2_multiply_53) [zR 2, zI 0] hw_53 (zrkL [(zI 0, hw_53), (zI 1, hw_53)]) = true := by decide +kernel
noncomputable def g_cT53_0 : List zV → zH 7 → zP 7 → Bool := zocs [zR 2, zI 0] hw_53 [(zI 0, hw_53), (zI 1, hw_53)]
theorem m_cT53_0 : zMet X_X2_readTerm yX2_readTerm 106 g_cT53_0 := zMet_oc (m_X2_readTermt _ _ _ _ m_cF53_0 mg_X2_multiply_53) e_cT53_0
set_option maxRecDepth 100000 in
theorem e_cS53_0 : (f_X2_readSumt g_cT53_0 g_X2_add_53) [zR 2, zI 0] hw_53 (zrkL [(zI 0, hw_53), (zI 1, hw_53)]) = true := by decide +kernel
noncomputable def g_cS53_0 : List zV → zH 7 → zP 7 → Bool := zocs [zR 2, zI 0] hw_53 [(zI 0, hw_53), (zI 1, hw_53)]
theorem m_cS53_0 : zMet X_X2_readSum yX2_readSum 110 g_cS53_0 := zMet_oc (m_X2_readSumt _ _ _ _ m_cT53_0 mg_X2_add_53) e_cS53_0
noncomputable def hw_53_t : zH 7 := (show zT 7 from ((((((zk_99_zs2_59_z53_readC_1, ((22, 2, 4), (0, 200, zun 40 200 4294967296))), zk_99_zs2_59_z53_readC_4), zk_99_zs2_59_z53_readC_6), zk_99_zs2_59_z53_readC_7), zk_99_zs2_59_z53_readC_10), zk_99_zs2_59_z53_readC_11), (86, (0, 0)))
set_option maxRecDepth 100000 in
theorem e_textC_53 : (zcutR 1 6 (f_X8_textt (f_X2_readt g_cS53_0))) [zR 1, zI 4294967296] hw_53 (zrkL [(zI 4294967296, hw_53_t)]) = true := by decide +kernel
noncomputable def g_textC_53 {d : Nat} : List zV → zH d → zP d → Bool := zsmyL [(0, 0), (1, 5), (1, 4), (3, 0), (2, 0), (5, 2), (2, 1), (7, 0), (7, 1), (7, 2), (7, 3), (7, 4), (2, 2), (13, 0), (13, 1), (13, 2), (13, 3), (13, 4), (2, 3), (19, 0), (19, 1), (19, 2), (19, 3), (19, 4), (2, 4), (2, 5), (2, 6), (2, 7), (1, 2), (29, 0), (29, 1), (29, 2), (29, 3), (29, 4), (29, 5), (2, 12), (36, 3), (37, 0), (37, 1), (37, 2), (37, 3), (37, 4), (37, 5), (37, 6), (38, 2), (39, 2), (40, 2), (41, 2), (42, 2), (43, 2), (44, 2), (36, 7), (36, 12), (53, 0), (53, 1), (53, 2), (53, 3), (53, 4), (53, 5), (53, 6), (36, 11), (61, 0), (61, 1), (61, 2), (61, 3), (61, 4), (61, 5), (61, 6), (2, 13), (69, 2), (69, 6), (71, 0), (71, 1), (71, 2), (71, 3), (71, 4), (71, 5), (71, 6), (69, 9), (79, 0), (79, 1), (79, 2), (79, 3), (79, 4), (79, 5), (79, 6)] [zR 1, zI 4294967296] hw_53 [(zI 4294967296, hw_53_t)]
theorem m_textC_53 {d : Nat} : zMet (d := d) X_X8_text yX8_text 115 g_textC_53 := zMet_smL (zMet_cutR (m_X8_textt _ _ (m_X2_readt _ _ m_cS53_0))) e_textC_53
end
section
/-! the class's reader at n = 55: by program -/
noncomputable def zk_99_zs2_59_z55_readC_0 : zC := (24, 8, 0x80000000088000000007000000000200000000038000000004000000001d80000000028000000001)
noncomputable def zk_99_zs2_59_z55_readC_1 : zT 1 := @Prod.mk (zT 0) (zT 0) zk_99_zs2_59_z55_readC_0 (18, 15, 0x1000000c900000000450000000024000000001d0000000003010000000001000000c9000000001c000000001b000000001a00000000190000000013000000000d00000000070000000005)
noncomputable def zk_99_zs2_59_z55_readC_2 : zT 1 := @Prod.mk (zT 0) (zT 0) (22, 2, 0x1000000c90000000004) (0, 200, zun 40 200 4294967296)
noncomputable def zk_99_zs2_59_z55_readC_3 : zT 1 := @Prod.mk (zT 0) (zT 0) (4, 5, 0xc000000000b000000000a00000000090000000008) (2, 11, zun 72 11 18446744073709551616)
noncomputable def zk_99_zs2_59_z55_readC_4 : zT 2 := @Prod.mk (zT 1) (zT 1) ((17, 4, 0x100000010000000000601000000000100000000), (0, 15, zun 40 15 4294967296)) zk_99_zs2_59_z55_readC_3
noncomputable def zk_99_zs2_59_z55_readC_5 : zT 1 := @Prod.mk (zT 0) (zT 0) (2, 11, zun 72 11 18446744073709551616) (2, 11, zun 72 11 18446744073709551616)
noncomputable def zk_99_zs2_59_z55_readC_6 : zT 3 := @Prod.mk (zT 2) (zT 2) (zk_99_zs2_59_z55_readC_5, zk_99_zs2_59_z55_readC_5) (((4, 5, 0x1200000000110000000010000000000f000000000e), (2, 11, zun 72 11 18446744073709551616)), zk_99_zs2_59_z55_readC_5)
noncomputable def zk_99_zs2_59_z55_readC_7 : zT 4 := @Prod.mk (zT 3) (zT 3) ((zk_99_zs2_59_z55_readC_5, ((4, 5, 0x180000000017000000001600000000150000000014), (2, 11, zun 72 11 18446744073709551616))), (zk_99_zs2_59_z55_readC_5, zk_99_zs2_59_z55_readC_5)) ((((0, 5, 0x1000000000100000000010000000001000000000100000000), (0, 5, 0x1000000000100000000010000000001000000000100000000)), ((0, 5, 0x1000000000100000000010000000001000000000100000000), (0, 6, 0x10000000001000000000100000000010000000001000000000100000000))), (((4, 6, 0x23000000002200000000210000000020000000001f000000001e), (2, 11, zun 72 11 18446744073709551616)), zk_99_zs2_59_z55_readC_5))
noncomputable def zk_99_zs2_59_z55_readC_8 : zC := (0, 7, 0x100000000010000000001000000000100000000010000000001000000000100000000)
noncomputable def zk_99_zs2_59_z55_readC_9 : zT 2 := @Prod.mk (zT 1) (zT 1) (zk_99_zs2_59_z55_readC_8, zk_99_zs2_59_z55_readC_8) (zk_99_zs2_59_z55_readC_8, zk_99_zs2_59_z55_readC_8)
noncomputable def zk_99_zs2_59_z55_readC_10 : zT 5 := @Prod.mk (zT 4) (zT 4) (((zk_99_zs2_59_z55_readC_5, ((2, 11, zun 72 11 18446744073709551616), (23, 14, 0x80000008ce0000000035000000003d80000008cb80000008ca80000008c9000000003480000008c780000008c680000008c5000000002580000008c3000000000780000008c1))), (((5, 7, 0x2c000000002b000000002a0000000029000000002800000000270000000026), (20, 16, 0x8000000950800000094f800000094e800000094d800000094c800000094b800000094a800000094980000009488000000947800000094680000009458000000944000000002d80000009428000000941)), ((20, 16, 0x8000000990800000098f800000098e800000098d800000098c800000098b800000098a800000098980000009888000000987800000098680000009858000000984000000002e80000009828000000981), (20, 16, 0x80000009d080000009cf80000009ce80000009cd80000009cc80000009cb80000009ca80000009c980000009c880000009c780000009c680000009c580000009c4000000002f80000009c280000009c1)))), ((((20, 16, 0x8000000a108000000a0f8000000a0e8000000a0d8000000a0c8000000a0b8000000a0a8000000a098000000a088000000a078000000a068000000a058000000a0400000000308000000a028000000a01), (20, 16, 0x8000000a508000000a4f8000000a4e8000000a4d8000000a4c8000000a4b8000000a4a8000000a498000000a488000000a478000000a468000000a458000000a4400000000318000000a428000000a41)), ((20, 16, 0x8000000a908000000a8f8000000a8e8000000a8d8000000a8c8000000a8b8000000a8a8000000a898000000a888000000a878000000a868000000a858000000a8400000000328000000a828000000a81), (20, 16, 0x8000000ad08000000acf8000000ace8000000acd8000000acc8000000acb8000000aca8000000ac98000000ac88000000ac78000000ac68000000ac58000000ac400000000338000000ac28000000ac1))), (((0, 1, 5), (0, 2, 0x10000000004)), ((0, 2, 0x20000000003), (0, 3, 0x100000000010000000003))))) (((((0, 3, 0x100000000020000000002), (0, 4, 0x1000000000100000000010000000002)), ((0, 5, 0x10000000001000000000100000000010000000001), (0, 7, 0x100ffffffff0000000001000000000100ffffffff00ffffffff0000000001))), (((3, 7, 0x3c000000003b000000003a0000000039000000003800000000370000000036), zk_99_zs2_59_z55_readC_8), (zk_99_zs2_59_z55_readC_8, zk_99_zs2_59_z55_readC_8))), (zk_99_zs2_59_z55_readC_9, (((3, 7, 0x440000000043000000004200000000410000000040000000003f000000003e), zk_99_zs2_59_z55_readC_8), (zk_99_zs2_59_z55_readC_8, zk_99_zs2_59_z55_readC_8))))
noncomputable def zk_99_zs2_59_z55_readC_11 : zT 6 := @Prod.mk (zT 5) (zT 5) (((zk_99_zs2_59_z55_readC_9, (((21, 12, 0x800000110c800000110b000000004f800000110980000011080000000047800000110680000011058000001104000000004680000011028000001101), (0, 7, 0xffffffff000000000500000000040000000003000000000200000000010000000000)), ((3, 7, 0x4e000000004d000000004c000000004b000000004a00000000490000000048), zk_99_zs2_59_z55_readC_8))), (zk_99_zs2_59_z55_readC_9, ((zk_99_zs2_59_z55_readC_8, zk_99_zs2_59_z55_readC_8), ((3, 7, 0x56000000005500000000540000000053000000005200000000510000000050), zk_99_zs2_59_z55_readC_8)))), ((zk_99_zs2_59_z55_readC_9, ((zk_99_zs2_59_z55_readC_8, zk_99_zs2_59_z55_readC_8), zO1)), zO3)) zO5
noncomputable def hw_55 : zH 7 := (show zT 7 from ((((((zk_99_zs2_59_z55_readC_1, zk_99_zs2_59_z55_readC_2), zk_99_zs2_59_z55_readC_4), zk_99_zs2_59_z55_readC_6), zk_99_zs2_59_z55_readC_7), zk_99_zs2_59_z55_readC_10), zk_99_zs2_59_z55_readC_11), (86, (0, 0)))
noncomputable def zk_99_zs2_59_z55_readC_12 : zT 2 := @Prod.mk (zT 1) (zT 1) (zk_99_zs2_59_z55_readC_0, (18, 15, 0x1000000c800000000450000000024000000001d0000000003010000000001000000c9000000001c000000001b000000001a00000000190000000013000000000d00000000070000000005)) zk_99_zs2_59_z55_readC_2
noncomputable def hv_55 : zH 7 := (show zT 7 from (((((zk_99_zs2_59_z55_readC_12, zk_99_zs2_59_z55_readC_4), zk_99_zs2_59_z55_readC_6), zk_99_zs2_59_z55_readC_7), zk_99_zs2_59_z55_readC_10), zk_99_zs2_59_z55_readC_11), (86, (0, 0)))
noncomputable def hs_X2_add_55 : zH 2 := (show zT 2 from (((18, 15, 0x800000000f800000000e0000000002800000000c800000000b800000000a800000000980000000088000000007800000000680000000058000000004800000000380000000028000000001), (23, 14, 0x800000004e800000004d800000004c800000004b800000004a800000004980000000488000000047800000004680000000458000000044800000004300000000078000000041)), zk_99_zs2_59_z55_readC_5), (4, (0, 0)))
noncomputable def hs_X2_add_55_o0 : zH 2 := (show zT 2 from (((18, 15, 0x800000000f800000000e0000000002800000000c800000000b800000000a800000000980000000088000000007800000000680000000058000000004800000000380000000028000000001), (23, 14, 0x800000004e800000004d800000004c800000004b800000004a800000004980000000488000000047800000004680000000458000000044800000004300000000078000000041)), zk_99_zs2_59_z55_readC_5), (4, (0, 0)))
noncomputable def hs_X2_add_55_o1 : zH 2 := (show zT 2 from (((18, 15, 0x800000000f800000000e0000000002800000000c800000000b800000000a800000000980000000088000000007800000000680000000058000000004800000000380000000028000000001), (23, 14, 0x800000004e800000004d800000004c800000004b800000004a800000004980000000488000000047800000004680000000458000000044800000004300000000078000000041)), zk_99_zs2_59_z55_readC_5), (4, (0, 0)))
set_option maxRecDepth 100000 in
theorem ev_X2_add_55 : f_X2_addt [zR 1, zR 3, zI 4294967298, zR 4] hs_X2_add_55 (zrkL [(zI 0, hs_X2_add_55_o0), (zI 1, hs_X2_add_55_o1)]) = true := by decide +kernel
noncomputable def g_X2_add_55 {d : Nat} : List zV → zH d → zP d → Bool := zsmyL [(0, 0), (1, 12), (0, 1), (0, 3)] [zR 1, zR 3, zI 4294967298, zR 4] hs_X2_add_55 [(zI 0, hs_X2_add_55_o0), (zI 1, hs_X2_add_55_o1)]
theorem mg_X2_add_55 {d : Nat} : zMet (d := d) X_X2_add yX2_add 1 g_X2_add_55 := zMet_smL m_X2_addt ev_X2_add_55

noncomputable def hs_X2_multiply_55 : zH 2 := (show zT 2 from (((18, 15, 0x800000000f800000000e0000000002800000000c800000000b800000000a800000000980000000088000000007800000000680000000058000000004800000000380000000028000000001), (23, 14, 0x800000004e800000004d800000004c800000004b800000004a800000004980000000488000000047800000004680000000458000000044800000004300000000078000000041)), zk_99_zs2_59_z55_readC_5), (4, (0, 0)))
noncomputable def hs_X2_multiply_55_o0 : zH 2 := (show zT 2 from (((18, 15, 0x800000000f800000000e0000000002800000000c800000000b800000000a800000000980000000088000000007800000000680000000058000000004800000000380000000028000000001), (23, 14, 0x800000004e800000004d800000004c800000004b800000004a800000004980000000488000000047800000004680000000458000000044800000004300000000078000000041)), zk_99_zs2_59_z55_readC_5), (4, (0, 0)))
noncomputable def hs_X2_multiply_55_o1 : zH 2 := (show zT 2 from (((18, 15, 0x800000000f800000000e0000000002800000000c800000000b800000000a800000000980000000088000000007800000000680000000058000000004800000000380000000028000000001), (23, 14, 0x800000004e800000004d800000004c800000004b800000004a800000004980000000488000000047800000004680000000458000000044800000004300000000078000000041)), zk_99_zs2_59_z55_readC_5), (4, (0, 0)))
set_option maxRecDepth 100000 in
theorem ev_X2_multiply_55 : f_X2_multiplyt [zR 1, zR 3, zR 4] hs_X2_multiply_55 (zrkL [(zI 0, hs_X2_multiply_55_o0), (zI 1, hs_X2_multiply_55_o1)]) = true := by decide +kernel
noncomputable def g_X2_multiply_55 {d : Nat} : List zV → zH d → zP d → Bool := zsmyL [(0, 0), (1, 12), (0, 1), (0, 2)] [zR 1, zR 3, zR 4] hs_X2_multiply_55 [(zI 0, hs_X2_multiply_55_o0), (zI 1, hs_X2_multiply_55_o1)]
theorem mg_X2_multiply_55 {d : Nat} : zMet (d := d) X_X2_multiply yX2_multiply 1 g_X2_multiply_55 := zMet_smL m_X2_multiplyt ev_X2_multiply_55

set_option maxRecDepth 100000 in
theorem e_cO55_0 : f_X7_numberOft [zR 36, zR 28, zI 4294967497] hw_55 (zrkL [(zI 4294967295, hw_55), (zI 4294967303, hw_55)]) = true := by decide +kernel
noncomputable def g_cO55_0 : List zV → zH 7 → zP 7 → Bool := zocs [zR 36, zR 28, zI 4294967497] hw_55 [(zI 4294967295, hw_55), (zI 4294967303, hw_55)]
theorem m_cO55_0 : zMet X_X7_numberOf yX7_numberOf 1 g_cO55_0 := zMet_oc (m_X7_numberOft) e_cO55_0
noncomputable def h_cK55_4_o0 : zH 7 := (show zT 7 from ((((((zk_99_zs2_59_z55_readC_1, zk_99_zs2_59_z55_readC_2), (((17, 4, 0xf000000000601000000000100000004), (0, 15, zun 40 15 4294967296)), zk_99_zs2_59_z55_readC_3)), zk_99_zs2_59_z55_readC_6), zk_99_zs2_59_z55_readC_7), zk_99_zs2_59_z55_readC_10), zk_99_zs2_59_z55_readC_11), (86, (0, 0)))
set_option maxRecDepth 100000 in
theorem e_cK55_4 : (f_X2_takeCharactert g_cO55_0) [zR 2, zI 4, zI 4294967296] hw_55 (zrkL [(zI 0, h_cK55_4_o0), (zI 1, hw_55)]) = true := by decide +kernel
noncomputable def g_cK55_4 : List zV → zH 7 → zP 7 → Bool := zocs [zR 2, zI 4, zI 4294967296] hw_55 [(zI 0, h_cK55_4_o0), (zI 1, hw_55)]
theorem m_cK55_4 : zMet X_X2_takeCharacter yX2_takeCharacter 4 g_cK55_4 := zMet_oc (m_X2_takeCharactert _ _ m_cO55_0) e_cK55_4
set_option maxRecDepth 100000 in
theorem e_cL55_4 : f_X2_readSlott [zR 2, zI 4] hw_55 (zrkL [(zI 0, hw_55), (zI 1, hw_55)]) = true := by decide +kernel
noncomputable def g_cL55_4 : List zV → zH 7 → zP 7 → Bool := zocs [zR 2, zI 4] hw_55 [(zI 0, hw_55), (zI 1, hw_55)]
theorem m_cL55_4 : zMet X_X2_readSlot yX2_readSlot 3 g_cL55_4 := zMet_oc (m_X2_readSlott) e_cL55_4
noncomputable def h_cB55_4_o0 : zH 7 := (show zT 7 from (((((zk_99_zs2_59_z55_readC_12, (((17, 4, 0xf000000000601000000c80000000005), (0, 15, zun 40 15 4294967296)), zk_99_zs2_59_z55_readC_3)), zk_99_zs2_59_z55_readC_6), zk_99_zs2_59_z55_readC_7), zk_99_zs2_59_z55_readC_10), zk_99_zs2_59_z55_readC_11), (86, (0, 0)))
set_option maxRecDepth 100000 in
theorem e_cB55_4 : (f_X2_readInBracketst (fun _ _ _ => false)) [zR 2, zI 4] hv_55 (zrkL [(zI 0, h_cB55_4_o0)]) = true := by decide +kernel
noncomputable def g_cB55_4 : List zV → zH 7 → zP 7 → Bool := zocs [zR 2, zI 4] hv_55 [(zI 0, h_cB55_4_o0)]
theorem m_cB55_4 : zMet X_X2_readInBrackets yX2_readInBrackets 3 g_cB55_4 := zMet_oc (m_X2_readInBracketst 0 _ zfalse) e_cB55_4
set_option maxRecDepth 100000 in
theorem e_cF55_4 : (f_X2_readFactort g_cB55_4 g_cL55_4 g_cK55_4) [zR 2, zI 4] hw_55 (zrkL [(zI 0, hw_55), (zI 1, hw_55)]) = true := by decide +kernel
noncomputable def g_cF55_4 : List zV → zH 7 → zP 7 → Bool := zocs [zR 2, zI 4] hw_55 [(zI 0, hw_55), (zI 1, hw_55)]
theorem m_cF55_4 : zMet X_X2_readFactor yX2_readFactor 14 g_cF55_4 := zMet_oc (m_X2_readFactort _ _ _ _ _ _ m_cB55_4 m_cL55_4 m_cK55_4) e_cF55_4
set_option maxRecDepth 100000 in
theorem e_cT55_4 : (f_X2_readTermt g_cF55_4 g_X2_multiply_55) [zR 2, zI 4] hw_55 (zrkL [(zI 0, hw_55), (zI 1, hw_55)]) = true := by decide +kernel
noncomputable def g_cT55_4 : List zV → zH 7 → zP 7 → Bool := zocs [zR 2, zI 4] hw_55 [(zI 0, hw_55), (zI 1, hw_55)]
theorem m_cT55_4 : zMet X_X2_readTerm yX2_readTerm 18 g_cT55_4 := zMet_oc (m_X2_readTermt _ _ _ _ m_cF55_4 mg_X2_multiply_55) e_cT55_4
set_option maxRecDepth 100000 in
theorem e_cS55_4 : (f_X2_readSumt g_cT55_4 g_X2_add_55) [zR 2, zI 4] hw_55 (zrkL [(zI 0, hw_55), (zI 1, hw_55)]) = true := by decide +kernel
noncomputable def g_cS55_4 : List zV → zH 7 → zP 7 → Bool := zocs [zR 2, zI 4] hw_55 [(zI 0, hw_55), (zI 1, hw_55)]
theorem m_cS55_4 : zMet X_X2_readSum yX2_readSum 22 g_cS55_4 := zMet_oc (m_X2_readSumt _ _ _ _ m_cT55_4 mg_X2_add_55) e_cS55_4
noncomputable def h_cK55_3_o0 : zH 7 := (show zT 7 from ((((((zk_99_zs2_59_z55_readC_1, zk_99_zs2_59_z55_readC_2), (((17, 4, 0xc000000000601000000000100000004), (0, 15, zun 40 15 4294967296)), zk_99_zs2_59_z55_readC_3)), zk_99_zs2_59_z55_readC_6), zk_99_zs2_59_z55_readC_7), zk_99_zs2_59_z55_readC_10), zk_99_zs2_59_z55_readC_11), (86, (0, 0)))
set_option maxRecDepth 100000 in
theorem e_cK55_3 : (f_X2_takeCharactert g_cO55_0) [zR 2, zI 3, zI 4294967296] hw_55 (zrkL [(zI 0, h_cK55_3_o0), (zI 1, hw_55)]) = true := by decide +kernel
noncomputable def g_cK55_3 : List zV → zH 7 → zP 7 → Bool := zocs [zR 2, zI 3, zI 4294967296] hw_55 [(zI 0, h_cK55_3_o0), (zI 1, hw_55)]
theorem m_cK55_3 : zMet X_X2_takeCharacter yX2_takeCharacter 4 g_cK55_3 := zMet_oc (m_X2_takeCharactert _ _ m_cO55_0) e_cK55_3
set_option maxRecDepth 100000 in
theorem e_cL55_3 : f_X2_readSlott [zR 2, zI 3] hw_55 (zrkL [(zI 0, hw_55), (zI 1, hw_55)]) = true := by decide +kernel
noncomputable def g_cL55_3 : List zV → zH 7 → zP 7 → Bool := zocs [zR 2, zI 3] hw_55 [(zI 0, hw_55), (zI 1, hw_55)]
theorem m_cL55_3 : zMet X_X2_readSlot yX2_readSlot 3 g_cL55_3 := zMet_oc (m_X2_readSlott) e_cL55_3
set_option maxRecDepth 100000 in
theorem e_cB55_3 : (f_X2_readInBracketst g_cS55_4) [zR 2, zI 3] hv_55 (zrkL [(zI 0, hw_55), (zI 1, hw_55)]) = true := by decide +kernel
noncomputable def g_cB55_3 : List zV → zH 7 → zP 7 → Bool := zocs [zR 2, zI 3] hv_55 [(zI 0, hw_55), (zI 1, hw_55)]
theorem m_cB55_3 : zMet X_X2_readInBrackets yX2_readInBrackets 25 g_cB55_3 := zMet_oc (m_X2_readInBracketst 22 _ m_cS55_4) e_cB55_3
set_option maxRecDepth 100000 in
theorem e_cF55_3 : (f_X2_readFactort g_cB55_3 g_cL55_3 g_cK55_3) [zR 2, zI 3] hw_55 (zrkL [(zI 0, hw_55), (zI 1, hw_55)]) = true := by decide +kernel
noncomputable def g_cF55_3 : List zV → zH 7 → zP 7 → Bool := zocs [zR 2, zI 3] hw_55 [(zI 0, hw_55), (zI 1, hw_55)]
theorem m_cF55_3 : zMet X_X2_readFactor yX2_readFactor 36 g_cF55_3 := zMet_oc (m_X2_readFactort _ _ _ _ _ _ m_cB55_3 m_cL55_3 m_cK55_3) e_cF55_3
set_option maxRecDepth 100000 in
theorem e_cT55_3 : (f_X2_readTermt g_cF55_3 g_X2_multiply_55) [zR 2, zI 3] hw_55 (zrkL [(zI 0, hw_55), (zI 1, hw_55)]) = true := by decide +kernel
noncomputable def g_cT55_3 : List zV → zH 7 → zP 7 → Bool := zocs [zR 2, zI 3] hw_55 [(zI 0, hw_55), (zI 1, hw_55)]
theorem m_cT55_3 : zMet X_X2_readTerm yX2_readTerm 40 g_cT55_3 := zMet_oc (m_X2_readTermt _ _ _ _ m_cF55_3 mg_X2_multiply_55) e_cT55_3
set_option maxRecDepth 100000 in
theorem e_cS55_3 : (f_X2_readSumt g_cT55_3 g_X2_add_55) [zR 2, zI 3] hw_55 (zrkL [(zI 0, hw_55), (zI 1, hw_55)]) = true := by decide +kernel
noncomputable def g_cS55_3 : List zV → zH 7 → zP 7 → Bool := zocs [zR 2, zI 3] hw_55 [(zI 0, hw_55), (zI 1, hw_55)]
theorem m_cS55_3 : zMet X_X2_readSum yX2_readSum 44 g_cS55_3 := zMet_oc (m_X2_readSumt _ _ _ _ m_cT55_3 mg_X2_add_55) e_cS55_3
noncomputable def h_cK55_2_o0 : zH 7 := (show zT 7 from ((((((zk_99_zs2_59_z55_readC_1, zk_99_zs2_59_z55_readC_2), (((17, 4, 0x9000000000601000000000100000004), (0, 15, zun 40 15 4294967296)), zk_99_zs2_59_z55_readC_3)), zk_99_zs2_59_z55_readC_6), zk_99_zs2_59_z55_readC_7), zk_99_zs2_59_z55_readC_10), zk_99_zs2_59_z55_readC_11), (86, (0, 0)))
set_option maxRecDepth 100000 in
theorem e_cK55_2 : (f_X2_takeCharactert g_cO55_0) [zR 2, zI 2, zI 4294967296] hw_55 (zrkL [(zI 0, h_cK55_2_o0), (zI 1, hw_55)]) = true := by decide +kernel
noncomputable def g_cK55_2 : List zV → zH 7 → zP 7 → Bool := zocs [zR 2, zI 2, zI 4294967296] hw_55 [(zI 0, h_cK55_2_o0), (zI 1, hw_55)]
theorem m_cK55_2 : zMet X_X2_takeCharacter yX2_takeCharacter 4 g_cK55_2 := zMet_oc (m_X2_takeCharactert _ _ m_cO55_0) e_cK55_2
set_option maxRecDepth 100000 in
theorem e_cL55_2 : f_X2_readSlott [zR 2, zI 2] hw_55 (zrkL [(zI 0, hw_55), (zI 1, hw_55)]) = true := by decide +kernel
noncomputable def g_cL55_2 : List zV → zH 7 → zP 7 → Bool := zocs [zR 2, zI 2] hw_55 [(zI 0, hw_55), (zI 1, hw_55)]
theorem m_cL55_2 : zMet X_X2_readSlot yX2_readSlot 3 g_cL55_2 := zMet_oc (m_X2_readSlott) e_cL55_2
set_option maxRecDepth 100000 in
theorem e_cB55_2 : (f_X2_readInBracketst g_cS55_3) [zR 2, zI 2] hv_55 (zrkL [(zI 0, hw_55), (zI 1, hw_55)]) = true := by decide +kernel
noncomputable def g_cB55_2 : List zV → zH 7 → zP 7 → Bool := zocs [zR 2, zI 2] hv_55 [(zI 0, hw_55), (zI 1, hw_55)]
theorem m_cB55_2 : zMet X_X2_readInBrackets yX2_readInBrackets 47 g_cB55_2 := zMet_oc (m_X2_readInBracketst 44 _ m_cS55_3) e_cB55_2
set_option maxRecDepth 100000 in
theorem e_cF55_2 : (f_X2_readFactort g_cB55_2 g_cL55_2 g_cK55_2) [zR 2, zI 2] hw_55 (zrkL [(zI 0, hw_55), (zI 1, hw_55)]) = true := by decide +kernel
noncomputable def g_cF55_2 : List zV → zH 7 → zP 7 → Bool := zocs [zR 2, zI 2] hw_55 [(zI 0, hw_55), (zI 1, hw_55)]
theorem m_cF55_2 : zMet X_X2_readFactor yX2_readFactor 58 g_cF55_2 := zMet_oc (m_X2_readFactort _ _ _ _ _ _ m_cB55_2 m_cL55_2 m_cK55_2) e_cF55_2
set_option maxRecDepth 100000 in
theorem e_cT55_2 : (f_X2_readTermt g_cF55_2 g_X2_multiply_55) [zR 2, zI 2] hw_55 (zrkL [(zI 0, hw_55), (zI 1, hw_55)]) = true := by decide +kernel
noncomputable def g_cT55_2 : List zV → zH 7 → zP 7 → Bool := zocs [zR 2, zI 2] hw_55 [(zI 0, hw_55), (zI 1, hw_55)]
theorem m_cT55_2 : zMet X_X2_readTerm yX2_readTerm 62 g_cT55_2 := zMet_oc (m_X2_readTermt _ _ _ _ m_cF55_2 mg_X2_multiply_55) e_cT55_2
set_option maxRecDepth 100000 in
theorem e_cS55_2 : (f_X2_readSumt g_cT55_2 g_X2_add_55) [zR 2, zI 2] hw_55 (zrkL [(zI 0, hw_55), (zI 1, hw_55)]) = true := by decide +kernel
noncomputable def g_cS55_2 : List zV → zH 7 → zP 7 → Bool := zocs [zR 2, zI 2] hw_55 [(zI 0, hw_55), (zI 1, hw_55)]
theorem m_cS55_2 : zMet X_X2_readSum yX2_readSum 66 g_cS55_2 := zMet_oc (m_X2_readSumt _ _ _ _ m_cT55_2 mg_X2_add_55) e_cS55_2
noncomputable def h_cK55_1_o0 : zH 7 := (show zT 7 from ((((((zk_99_zs2_59_z55_readC_1, zk_99_zs2_59_z55_readC_2), (((17, 4, 0x6000000000601000000000100000004), (0, 15, zun 40 15 4294967296)), zk_99_zs2_59_z55_readC_3)), zk_99_zs2_59_z55_readC_6), zk_99_zs2_59_z55_readC_7), zk_99_zs2_59_z55_readC_10), zk_99_zs2_59_z55_readC_11), (86, (0, 0)))
set_option maxRecDepth 100000 in
theorem e_cK55_1 : (f_X2_takeCharactert g_cO55_0) [zR 2, zI 1, zI 4294967296] hw_55 (zrkL [(zI 0, h_cK55_1_o0), (zI 1, hw_55)]) = true := by decide +kernel
noncomputable def g_cK55_1 : List zV → zH 7 → zP 7 → Bool := zocs [zR 2, zI 1, zI 4294967296] hw_55 [(zI 0, h_cK55_1_o0), (zI 1, hw_55)]
theorem m_cK55_1 : zMet X_X2_takeCharacter yX2_takeCharacter 4 g_cK55_1 := zMet_oc (m_X2_takeCharactert _ _ m_cO55_0) e_cK55_1
set_option maxRecDepth 100000 in
theorem e_cL55_1 : f_X2_readSlott [zR 2, zI 1] hw_55 (zrkL [(zI 0, hw_55), (zI 1, hw_55)]) = true := by decide +kernel
noncomputable def g_cL55_1 : List zV → zH 7 → zP 7 → Bool := zocs [zR 2, zI 1] hw_55 [(zI 0, hw_55), (zI 1, hw_55)]
theorem m_cL55_1 : zMet X_X2_readSlot yX2_readSlot 3 g_cL55_1 := zMet_oc (m_X2_readSlott) e_cL55_1
set_option maxRecDepth 100000 in
theorem e_cB55_1 : (f_X2_readInBracketst g_cS55_2) [zR 2, zI 1] hv_55 (zrkL [(zI 0, hw_55), (zI 1, hw_55)]) = true := by decide +kernel
noncomputable def g_cB55_1 : List zV → zH 7 → zP 7 → Bool := zocs [zR 2, zI 1] hv_55 [(zI 0, hw_55), (zI 1, hw_55)]
theorem m_cB55_1 : zMet X_X2_readInBrackets yX2_readInBrackets 69 g_cB55_1 := zMet_oc (m_X2_readInBracketst 66 _ m_cS55_2) e_cB55_1
set_option maxRecDepth 100000 in
theorem e_cF55_1 : (f_X2_readFactort g_cB55_1 g_cL55_1 g_cK55_1) [zR 2, zI 1] hw_55 (zrkL [(zI 0, hw_55), (zI 1, hw_55)]) = true := by decide +kernel
noncomputable def g_cF55_1 : List zV → zH 7 → zP 7 → Bool := zocs [zR 2, zI 1] hw_55 [(zI 0, hw_55), (zI 1, hw_55)]
theorem m_cF55_1 : zMet X_X2_readFactor yX2_readFactor 80 g_cF55_1 := zMet_oc (m_X2_readFactort _ _ _ _ _ _ m_cB55_1 m_cL55_1 m_cK55_1) e_cF55_1
set_option maxRecDepth 100000 in
theorem e_cT55_1 : (f_X2_readTermt g_cF55_1 g_X2_multiply_55) [zR 2, zI 1] hw_55 (zrkL [(zI 0, hw_55), (zI 1, hw_55)]) = true := by decide +kernel
noncomputable def g_cT55_1 : List zV → zH 7 → zP 7 → Bool := zocs [zR 2, zI 1] hw_55 [(zI 0, hw_55), (zI 1, hw_55)]
theorem m_cT55_1 : zMet X_X2_readTerm yX2_readTerm 84 g_cT55_1 := zMet_oc (m_X2_readTermt _ _ _ _ m_cF55_1 mg_X2_multiply_55) e_cT55_1
set_option maxRecDepth 100000 in
theorem e_cS55_1 : (f_X2_readSumt g_cT55_1 g_X2_add_55) [zR 2, zI 1] hw_55 (zrkL [(zI 0, hw_55), (zI 1, hw_55)]) = true := by decide +kernel
noncomputable def g_cS55_1 : List zV → zH 7 → zP 7 → Bool := zocs [zR 2, zI 1] hw_55 [(zI 0, hw_55), (zI 1, hw_55)]
theorem m_cS55_1 : zMet X_X2_readSum yX2_readSum 88 g_cS55_1 := zMet_oc (m_X2_readSumt _ _ _ _ m_cT55_1 mg_X2_add_55) e_cS55_1
noncomputable def h_cK55_0_o0 : zH 7 := (show zT 7 from ((((((zk_99_zs2_59_z55_readC_1, zk_99_zs2_59_z55_readC_2), (((17, 4, 0x3000000000601000000000100000004), (0, 15, zun 40 15 4294967296)), zk_99_zs2_59_z55_readC_3)), zk_99_zs2_59_z55_readC_6), zk_99_zs2_59_z55_readC_7), zk_99_zs2_59_z55_readC_10), zk_99_zs2_59_z55_readC_11), (86, (0, 0)))
set_option maxRecDepth 100000 in
theorem e_cK55_0 : (f_X2_takeCharactert g_cO55_0) [zR 2, zI 0, zI 4294967296] hw_55 (zrkL [(zI 0, h_cK55_0_o0), (zI 1, hw_55)]) = true := by decide +kernel
noncomputable def g_cK55_0 : List zV → zH 7 → zP 7 → Bool := zocs [zR 2, zI 0, zI 4294967296] hw_55 [(zI 0, h_cK55_0_o0), (zI 1, hw_55)]
theorem m_cK55_0 : zMet X_X2_takeCharacter yX2_takeCharacter 4 g_cK55_0 := zMet_oc (m_X2_takeCharactert _ _ m_cO55_0) e_cK55_0
set_option maxRecDepth 100000 in
theorem e_cL55_0 : f_X2_readSlott [zR 2, zI 0] hw_55 (zrkL [(zI 0, hw_55), (zI 1, hw_55)]) = true := by decide +kernel
noncomputable def g_cL55_0 : List zV → zH 7 → zP 7 → Bool := zocs [zR 2, zI 0] hw_55 [(zI 0, hw_55), (zI 1, hw_55)]
theorem m_cL55_0 : zMet X_X2_readSlot yX2_readSlot 3 g_cL55_0 := zMet_oc (m_X2_readSlott) e_cL55_0
set_option maxRecDepth 100000 in
theorem e_cB55_0 : (f_X2_readInBracketst g_cS55_1) [zR 2, zI 0] hv_55 (zrkL [(zI 0, hw_55), (zI 1, hw_55)]) = true := by decide +kernel
noncomputable def g_cB55_0 : List zV → zH 7 → zP 7 → Bool := zocs [zR 2, zI 0] hv_55 [(zI 0, hw_55), (zI 1, hw_55)]
theorem m_cB55_0 : zMet X_X2_readInBrackets yX2_readInBrackets 91 g_cB55_0 := zMet_oc (m_X2_readInBracketst 88 _ m_cS55_1) e_cB55_0
set_option maxRecDepth 100000 in
theorem e_cF55_0 : (f_X2_readFactort g_cB55_0 g_cL55_0 g_cK55_0) [zR 2, zI 0] hw_55 (zrkL [(zI 0, hw_55), (zI 1, hw_55)]) = true := by decide +kernel
noncomputable def g_cF55_0 : List zV → zH 7 → zP 7 → Bool := zocs [zR 2, zI 0] hw_55 [(zI 0, hw_55), (zI 1, hw_55)]
theorem m_cF55_0 : zMet X_X2_readFactor yX2_readFactor 102 g_cF55_0 := zMet_oc (m_X2_readFactort _ _ _ _ _ _ m_cB55_0 m_cL55_0 m_cK55_0) e_cF55_0
set_option maxRecDepth 100000 in
theorem e_cT55_0 : (f_X2_readTermt g_cF55_0 g_X2_multiply_55) [zR 2, zI 0] hw_55 (zrkL [(zI 0, hw_55), (zI 1, hw_55)]) = true := by decide +kernel
noncomputable def g_cT55_0 : List zV → zH 7 → zP 7 → Bool := zocs [zR 2, zI 0] hw_55 [(zI 0, hw_55), (zI 1, hw_55)]
theorem m_cT55_0 : zMet X_X2_readTerm yX2_readTerm 106 g_cT55_0 := zMet_oc (m_X2_readTermt _ _ _ _ m_cF55_0 mg_X2_multiply_55) e_cT55_0
set_option maxRecDepth 100000 in
theorem e_cS55_0 : (f_X2_readSumt g_cT55_0 g_X2_add_55) [zR 2, zI 0] hw_55 (zrkL [(zI 0, hw_55), (zI 1, hw_55)]) = true := by decide +kernel
noncomputable def g_cS55_0 : List zV → zH 7 → zP 7 → Bool := zocs [zR 2, zI 0] hw_55 [(zI 0, hw_55), (zI 1, hw_55)]
theorem m_cS55_0 : zMet X_X2_readSum yX2_readSum 110 g_cS55_0 := zMet_oc (m_X2_readSumt _ _ _ _ m_cT55_0 mg_X2_add_55) e_cS55_0
noncomputable def hw_55_t : zH 7 := (show zT 7 from ((((((zk_99_zs2_59_z55_readC_1, ((22, 2, 4), (0, 200, zun 40 200 4294967296))), zk_99_zs2_59_z55_readC_4), zk_99_zs2_59_z55_readC_6), zk_99_zs2_59_z55_readC_7), zk_99_zs2_59_z55_readC_10), zk_99_zs2_59_z55_readC_11), (86, (0, 0)))
set_option maxRecDepth 100000 in
theorem e_textC_55 : (zcutR 1 6 (f_X8_textt (f_X2_readt g_cS55_0))) [zR 1, zI 4294967296] hw_55 (zrkL [(zI 4294967296, hw_55_t)]) = true := by decide +kernel
noncomputable def g_textC_55 {d : Nat} : List zV → zH d → zP d → Bool := zsmyL [(0, 0), (1, 5), (1, 4), (3, 0), (2, 0), (5, 2), (2, 1), (7, 0), (7, 1), (7, 2), (7, 3), (7, 4), (2, 2), (13, 0), (13, 1), (13, 2), (13, 3), (13, 4), (2, 3), (19, 0), (19, 1), (19, 2), (19, 3), (19, 4), (2, 4), (2, 5), (2, 6), (2, 7), (1, 2), (29, 0), (29, 1), (29, 2), (29, 3), (29, 4), (29, 5), (2, 12), (36, 3), (37, 0), (37, 1), (37, 2), (37, 3), (37, 4), (37, 5), (37, 6), (38, 2), (39, 2), (40, 2), (41, 2), (42, 2), (43, 2), (44, 2), (36, 7), (36, 12), (53, 0), (53, 1), (53, 2), (53, 3), (53, 4), (53, 5), (53, 6), (36, 11), (61, 0), (61, 1), (61, 2), (61, 3), (61, 4), (61, 5), (61, 6), (2, 13), (69, 2), (69, 6), (71, 0), (71, 1), (71, 2), (71, 3), (71, 4), (71, 5), (71, 6), (69, 9), (79, 0), (79, 1), (79, 2), (79, 3), (79, 4), (79, 5), (79, 6)] [zR 1, zI 4294967296] hw_55 [(zI 4294967296, hw_55_t)]
theorem m_textC_55 {d : Nat} : zMet (d := d) X_X8_text yX8_text 115 g_textC_55 := zMet_smL (zMet_cutR (m_X8_textt _ _ (m_X2_readt _ _ m_cS55_0))) e_textC_55
end
