section
/-! the class's reader at n = 33: by program -/
noncomputable def zk_99_zs2_59_z33_readC_0 : zC := (24, 8, 0x80000000088000000007000000000200000000038000000004000000001d80000000028000000001)
noncomputable def zk_99_zs2_59_z33_readC_1 : zT 1 := @Prod.mk (zT 0) (zT 0) zk_99_zs2_59_z33_readC_0 (18, 15, 0x1000000c900000000350000000024000000001d0000000003010000000001000000c9000000001c000000001b000000001a00000000190000000013000000000d00000000070000000005)
noncomputable def zk_99_zs2_59_z33_readC_2 : zT 1 := @Prod.mk (zT 0) (zT 0) (22, 2, 0x1000000c90000000004) (0, 200, zun 40 200 4294967296)
noncomputable def zk_99_zs2_59_z33_readC_3 : zT 1 := @Prod.mk (zT 0) (zT 0) (4, 5, 0xc000000000b000000000a00000000090000000008) (2, 11, zun 72 11 18446744073709551616)
noncomputable def zk_99_zs2_59_z33_readC_4 : zT 2 := @Prod.mk (zT 1) (zT 1) ((17, 4, 0x100000010000000000601000000000100000000), (0, 15, zun 40 15 4294967296)) zk_99_zs2_59_z33_readC_3
noncomputable def zk_99_zs2_59_z33_readC_5 : zT 1 := @Prod.mk (zT 0) (zT 0) (2, 11, zun 72 11 18446744073709551616) (2, 11, zun 72 11 18446744073709551616)
noncomputable def zk_99_zs2_59_z33_readC_6 : zT 3 := @Prod.mk (zT 2) (zT 2) (zk_99_zs2_59_z33_readC_5, zk_99_zs2_59_z33_readC_5) (((4, 5, 0x1200000000110000000010000000000f000000000e), (2, 11, zun 72 11 18446744073709551616)), zk_99_zs2_59_z33_readC_5)
noncomputable def zk_99_zs2_59_z33_readC_7 : zT 4 := @Prod.mk (zT 3) (zT 3) ((zk_99_zs2_59_z33_readC_5, ((4, 5, 0x180000000017000000001600000000150000000014), (2, 11, zun 72 11 18446744073709551616))), (zk_99_zs2_59_z33_readC_5, zk_99_zs2_59_z33_readC_5)) ((((0, 5, 0x1000000000100000000010000000001000000000100000000), (0, 5, 0x1000000000100000000010000000001000000000100000000)), ((0, 5, 0x1000000000100000000010000000001000000000100000000), (0, 6, 0x10000000001000000000100000000010000000001000000000100000000))), (((4, 6, 0x23000000002200000000210000000020000000001f000000001e), (2, 11, zun 72 11 18446744073709551616)), zk_99_zs2_59_z33_readC_5))
noncomputable def zk_99_zs2_59_z33_readC_8 : zT 1 := @Prod.mk (zT 0) (zT 0) (0, 3, 0x10000000001000000000100000000) (0, 3, 0x10000000001000000000100000000)
noncomputable def zk_99_zs2_59_z33_readC_9 : zT 5 := @Prod.mk (zT 4) (zT 4) (((zk_99_zs2_59_z33_readC_5, ((2, 11, zun 72 11 18446744073709551616), (23, 14, 0x80000008ce000000002d000000003180000008cb80000008ca80000008c9000000002c80000008c780000008c680000008c5000000002580000008c3000000000380000008c1))), (((5, 3, 0x2800000000270000000026), (20, 16, 0x8000000950800000094f800000094e800000094d800000094c800000094b800000094a800000094980000009488000000947800000094680000009458000000944000000002980000009428000000941)), ((20, 16, 0x8000000990800000098f800000098e800000098d800000098c800000098b800000098a800000098980000009888000000987800000098680000009858000000984000000002a80000009828000000981), (20, 16, 0x80000009d080000009cf80000009ce80000009cd80000009cc80000009cb80000009ca80000009c980000009c880000009c780000009c680000009c580000009c4000000002b80000009c280000009c1)))), ((((0, 1, 3), (0, 2, 0x10000000002)), ((0, 3, 0x100000000010000000001), (0, 3, 0x100ffffffff0000000001))), (((3, 3, 0x30000000002f000000002e), (0, 3, 0x10000000001000000000100000000)), zk_99_zs2_59_z33_readC_8))) (((((3, 3, 0x3400000000330000000032), (0, 3, 0x10000000001000000000100000000)), zk_99_zs2_59_z33_readC_8), (((21, 12, 0x8000000d0c8000000d0b000000003b8000000d098000000d0800000000378000000d068000000d058000000d0400000000368000000d028000000d01), (0, 3, 0xffffffff00000000010000000000)), ((3, 3, 0x3a00000000390000000038), (0, 3, 0x10000000001000000000100000000)))), ((zk_99_zs2_59_z33_readC_8, ((3, 3, 0x3e000000003d000000003c), (0, 3, 0x10000000001000000000100000000))), (zk_99_zs2_59_z33_readC_8, zO1)))
noncomputable def hw_33 : zH 7 := (show zT 7 from ((((((zk_99_zs2_59_z33_readC_1, zk_99_zs2_59_z33_readC_2), zk_99_zs2_59_z33_readC_4), zk_99_zs2_59_z33_readC_6), zk_99_zs2_59_z33_readC_7), zk_99_zs2_59_z33_readC_9), zO6), (62, (0, 0)))
noncomputable def zk_99_zs2_59_z33_readC_10 : zT 2 := @Prod.mk (zT 1) (zT 1) (zk_99_zs2_59_z33_readC_0, (18, 15, 0x1000000c800000000350000000024000000001d0000000003010000000001000000c9000000001c000000001b000000001a00000000190000000013000000000d00000000070000000005)) zk_99_zs2_59_z33_readC_2
noncomputable def hv_33 : zH 7 := (show zT 7 from (((((zk_99_zs2_59_z33_readC_10, zk_99_zs2_59_z33_readC_4), zk_99_zs2_59_z33_readC_6), zk_99_zs2_59_z33_readC_7), zk_99_zs2_59_z33_readC_9), zO6), (62, (0, 0)))
noncomputable def hs_X2_add_33 : zH 2 := (show zT 2 from (((18, 15, 0x800000000f800000000e0000000002800000000c800000000b800000000a800000000980000000088000000007800000000680000000058000000004800000000380000000028000000001), (23, 14, 0x800000004e800000004d800000004c800000004b800000004a800000004980000000488000000047800000004680000000458000000044800000004300000000038000000041)), zk_99_zs2_59_z33_readC_5), (4, (0, 0)))
noncomputable def hs_X2_add_33_o0 : zH 2 := (show zT 2 from (((18, 15, 0x800000000f800000000e0000000002800000000c800000000b800000000a800000000980000000088000000007800000000680000000058000000004800000000380000000028000000001), (23, 14, 0x800000004e800000004d800000004c800000004b800000004a800000004980000000488000000047800000004680000000458000000044800000004300000000038000000041)), zk_99_zs2_59_z33_readC_5), (4, (0, 0)))
noncomputable def hs_X2_add_33_o1 : zH 2 := (show zT 2 from (((18, 15, 0x800000000f800000000e0000000002800000000c800000000b800000000a800000000980000000088000000007800000000680000000058000000004800000000380000000028000000001), (23, 14, 0x800000004e800000004d800000004c800000004b800000004a800000004980000000488000000047800000004680000000458000000044800000004300000000038000000041)), zk_99_zs2_59_z33_readC_5), (4, (0, 0)))
set_option maxRecDepth 100000 in
theorem ev_X2_add_33 : f_X2_addt [zR 1, zR 3, zI 4294967298, zR 4] hs_X2_add_33 (zrkL [(zI 0, hs_X2_add_33_o0), (zI 1, hs_X2_add_33_o1)]) = true := by decide +kernel
noncomputable def g_X2_add_33 {d : Nat} : List zV → zH d → zP d → Bool := zsmyL [(0, 0), (1, 12), (0, 1), (0, 3)] [zR 1, zR 3, zI 4294967298, zR 4] hs_X2_add_33 [(zI 0, hs_X2_add_33_o0), (zI 1, hs_X2_add_33_o1)]
theorem mg_X2_add_33 {d : Nat} : zMet (d := d) X_X2_add yX2_add 1 g_X2_add_33 := zMet_smL m_X2_addt ev_X2_add_33

noncomputable def hs_X2_multiply_33 : zH 2 := (show zT 2 from (((18, 15, 0x800000000f800000000e0000000002800000000c800000000b800000000a800000000980000000088000000007800000000680000000058000000004800000000380000000028000000001), (23, 14, 0x800000004e800000004d800000004c800000004b800000004a800000004980000000488000000047800000004680000000458000000044800000004300000000038000000041)), zk_99_zs2_59_z33_readC_5), (4, (0, 0)))
noncomputable def hs_X2_multiply_33_o0 : zH 2 := (show zT 2 from (((18, 15, 0x800000000f800000000e0000000002800000000c800000000b800000000a800000000980000000088000000007800000000680000000058000000004800000000380000000028000000001), (23, 14, 0x800000004e800000004d800000004c800000004b800000004a800000004980000000488000000047800000004680000000458000000044800000004300000000038000000041)), zk_99_zs2_59_z33_readC_5), (4, (0, 0)))
noncomputable def hs_X2_multiply_33_o1 : zH 2 := (show zT 2 from (((18, 15, 0x800000000f800000000e0000000002800000000c800000000b800000000a800000000980000000088000000007800000000680000000058000000004800000000380000000028000000001), (23, 14, 0x800000004e800000004d800000004c800000004b800000004a800000004980000000488000000047800000004680000000458000000044800000004300000000038000000041)), zk_99_zs2_59_z33_readC_5), (4, (0, 0)))
set_option maxRecDepth 100000 in
theorem ev_X2_multiply_33 : f_X2_multiplyt [zR 1, zR 3, zR 4] hs_X2_multiply_33 (zrkL [(zI 0, hs_X2_multiply_33_o0), (zI 1, hs_X2_multiply_33_o1)]) = true := by decide +kernel
noncomputable def g_X2_multiply_33 {d : Nat} : List zV → zH d → zP d → Bool := zsmyL [(0, 0), (1, 12), (0, 1), (0, 2)] [zR 1, zR 3, zR 4] hs_X2_multiply_33 [(zI 0, hs_X2_multiply_33_o0), (zI 1, hs_X2_multiply_33_o1)]
theorem mg_X2_multiply_33 {d : Nat} : zMet (d := d) X_X2_multiply yX2_multiply 1 g_X2_multiply_33 := zMet_smL m_X2_multiplyt ev_X2_multiply_33

set_option maxRecDepth 100000 in
theorem e_cO33_0 : f_X7_numberOft [zR 36, zR 28, zI 4294967497] hw_33 (zrkL [(zI 4294967295, hw_33), (zI 4294967299, hw_33)]) = true := by decide +kernel
noncomputable def g_cO33_0 : List zV → zH 7 → zP 7 → Bool := zocs [zR 36, zR 28, zI 4294967497] hw_33 [(zI 4294967295, hw_33), (zI 4294967299, hw_33)]
theorem m_cO33_0 : zMet X_X7_numberOf yX7_numberOf 1 g_cO33_0 := zMet_oc (m_X7_numberOft) e_cO33_0
noncomputable def h_cK33_4_o0 : zH 7 := (show zT 7 from ((((((zk_99_zs2_59_z33_readC_1, zk_99_zs2_59_z33_readC_2), (((17, 4, 0xf000000000601000000000100000004), (0, 15, zun 40 15 4294967296)), zk_99_zs2_59_z33_readC_3)), zk_99_zs2_59_z33_readC_6), zk_99_zs2_59_z33_readC_7), zk_99_zs2_59_z33_readC_9), zO6), (62, (0, 0)))
set_option maxRecDepth 100000 in
theorem e_cK33_4 : (f_X2_takeCharactert g_cO33_0) [zR 2, zI 4, zI 4294967296] hw_33 (zrkL [(zI 0, h_cK33_4_o0), (zI 1, hw_33)]) = true := by decide +kernel
noncomputable def g_cK33_4 : List zV → zH 7 → zP 7 → Bool := zocs [zR 2, zI 4, zI 4294967296] hw_33 [(zI 0, h_cK33_4_o0), (zI 1, hw_33)]
theorem m_cK33_4 : zMet X_X2_takeCharacter yX2_takeCharacter 4 g_cK33_4 := zMet_oc (m_X2_takeCharactert _ _ m_cO33_0) e_cK33_4
set_option maxRecDepth 100000 in
theorem e_cL33_4 : f_X2_readSlott [zR 2, zI 4] hw_33 (zrkL [(zI 0, hw_33), (zI 1, hw_33)]) = true := by decide +kernel
noncomputable def g_cL33_4 : List zV → zH 7 → zP 7 → Bool := zocs [zR 2, zI 4] hw_33 [(zI 0, hw_33), (zI 1, hw_33)]
theorem m_cL33_4 : zMet X_X2_readSlot yX2_readSlot 3 g_cL33_4 := zMet_oc (m_X2_readSlott) e_cL33_4
noncomputable def h_cB33_4_o0 : zH 7 := (show zT 7 from (((((zk_99_zs2_59_z33_readC_10, (((17, 4, 0xf000000000601000000c80000000005), (0, 15, zun 40 15 4294967296)), zk_99_zs2_59_z33_readC_3)), zk_99_zs2_59_z33_readC_6), zk_99_zs2_59_z33_readC_7), zk_99_zs2_59_z33_readC_9), zO6), (62, (0, 0)))
set_option maxRecDepth 100000 in
theorem e_cB33_4 : (f_X2_readInBracketst (fun _ _ _ => false)) [zR 2, zI 4] hv_33 (zrkL [(zI 0, h_cB33_4_o0)]) = true := by decide +kernel
noncomputable def g_cB33_4 : List zV → zH 7 → zP 7 → Bool := zocs [zR 2, zI 4] hv_33 [(zI 0, h_cB33_4_o0)]
theorem m_cB33_4 : zMet X_X2_readInBrackets yX2_readInBrackets 3 g_cB33_4 := zMet_oc (m_X2_readInBracketst 0 _ zfalse) e_cB33_4
set_option maxRecDepth 100000 in
theorem e_cF33_4 : (f_X2_readFactort g_cB33_4 g_cL33_4 g_cK33_4) [zR 2, zI 4] hw_33 (zrkL [(zI 0, hw_33), (zI 1, hw_33)]) = true := by decide +kernel
noncomputable def g_cF33_4 : List zV → zH 7 → zP 7 → Bool := zocs [zR 2, zI 4] hw_33 [(zI 0, hw_33), (zI 1, hw_33)]
theorem m_cF33_4 : zMet X_X2_readFactor yX2_readFactor 14 g_cF33_4 := zMet_oc (m_X2_readFactort _ _ _ _ _ _ m_cB33_4 m_cL33_4 m_cK33_4) e_cF33_4
set_option maxRecDepth 100000 in
theorem e_cT33_4 : (f_X2_readTermt g_cF33_4 g_X2_multiply_33) [zR 2, zI 4] hw_33 (zrkL [(zI 0, hw_33), (zI 1, hw_33)]) = true := by decide +kernel
noncomputable def g_cT33_4 : List zV → zH 7 → zP 7 → Bool := zocs [zR 2, zI 4] hw_33 [(zI 0, hw_33), (zI 1, hw_33)]
theorem m_cT33_4 : zMet X_X2_readTerm yX2_readTerm 18 g_cT33_4 := zMet_oc (m_X2_readTermt _ _ _ _ m_cF33_4 mg_X2_multiply_33) e_cT33_4
set_option maxRecDepth 100000 in
theorem e_cS33_4 : (f_X2_readSumt g_cT33_4 g_X2_add_33) [zR 2, zI 4] hw_33 (zrkL [(zI 0, hw_33), (zI 1, hw_33)]) = true := by decide +kernel
noncomputable def g_cS33_4 : List zV → zH 7 → zP 7 → Bool := zocs [zR 2, zI 4] hw_33 [(zI 0, hw_33), (zI 1, hw_33)]
theorem m_cS33_4 : zMet X_X2_readSum yX2_readSum 22 g_cS33_4 := zMet_oc (m_X2_readSumt _ _ _ _ m_cT33_4 mg_X2_add_33) e_cS33_4
noncomputable def h_cK33_3_o0 : zH 7 := (show zT 7 from ((((((zk_99_zs2_59_z33_readC_1, zk_99_zs2_59_z33_readC_2), (((17, 4, 0xc000000000601000000000100000004), (0, 15, zun 40 15 4294967296)), zk_99_zs2_59_z33_readC_3)), zk_99_zs2_59_z33_readC_6), zk_99_zs2_59_z33_readC_7), zk_99_zs2_59_z33_readC_9), zO6), (62, (0, 0)))
set_option maxRecDepth 100000 in
theorem e_cK33_3 : (f_X2_takeCharactert g_cO33_0) [zR 2, zI 3, zI 4294967296] hw_33 (zrkL [(zI 0, h_cK33_3_o0), (zI 1, hw_33)]) = true := by decide +kernel
noncomputable def g_cK33_3 : List zV → zH 7 → zP 7 → Bool := zocs [zR 2, zI 3, zI 4294967296] hw_33 [(zI 0, h_cK33_3_o0), (zI 1, hw_33)]
theorem m_cK33_3 : zMet X_X2_takeCharacter yX2_takeCharacter 4 g_cK33_3 := zMet_oc (m_X2_takeCharactert _ _ m_cO33_0) e_cK33_3
set_option maxRecDepth 100000 in
theorem e_cL33_3 : f_X2_readSlott [zR 2, zI 3] hw_33 (zrkL [(zI 0, hw_33), (zI 1, hw_33)]) = true := by decide +kernel
noncomputable def g_cL33_3 : List zV → zH 7 → zP 7 → Bool := zocs [zR 2, zI 3] hw_33 [(zI 0, hw_33), (zI 1, hw_33)]
theorem m_cL33_3 : zMet X_X2_readSlot yX2_readSlot 3 g_cL33_3 := zMet_oc (m_X2_readSlott) e_cL33_3
set_option maxRecDepth 100000 in
theorem e_cB33_3 : (f_X2_readInBracketst g_cS33_4) [zR 2, zI 3] hv_33 (zrkL [(zI 0, hw_33), (zI 1, hw_33)]) = true := by decide +kernel
noncomputable def g_cB33_3 : List zV → zH 7 → zP 7 → Bool := zocs [zR 2, zI 3] hv_33 [(zI 0, hw_33), (zI 1, hw_33)]
theorem m_cB33_3 : zMet X_X2_readInBrackets yX2_readInBrackets 25 g_cB33_3 := zMet_oc (m_X2_readInBracketst 22 _ m_cS33_4) e_cB33_3
set_option maxRecDepth 100000 in
theorem e_cF33_3 : (f_X2_readFactort g_cB33_3 g_cL33_3 g_cK33_3) [zR 2, zI 3] hw_33 (zrkL [(zI 0, hw_33), (zI 1, hw_33)]) = true := by decide +kernel
noncomputable def g_cF33_3 : List zV → zH 7 → zP 7 → Bool := zocs [zR 2, zI 3] hw_33 [(zI 0, hw_33), (zI 1, hw_33)]
theorem m_cF33_3 : zMet X_X2_readFactor yX2_readFactor 36 g_cF33_3 := zMet_oc (m_X2_readFactort _ _ _ _ _ _ m_cB33_3 m_cL33_3 m_cK33_3) e_cF33_3
set_option maxRecDepth 100000 in
theorem e_cT33_3 : (f_X2_readTermt g_cF33_3 g_X2_multiply_33) [zR 2, zI 3] hw_33 (zrkL [(zI 0, hw_33), (zI 1, hw_33)]) = true := by decide +kernel
noncomputable def g_cT33_3 : List zV → zH 7 → zP 7 → Bool := zocs [zR 2, zI 3] hw_33 [(zI 0, hw_33), (zI 1, hw_33)]
theorem m_cT33_3 : zMet X_X2_readTerm yX2_readTerm 40 g_cT33_3 := zMet_oc (m_X2_readTermt _ _ _ _ m_cF33_3 mg_X2_multiply_33) e_cT33_3
set_option maxRecDepth 100000 in
theorem e_cS33_3 : (f_X2_readSumt g_cT33_3 g_X2_add_33) [zR 2, zI 3] hw_33 (zrkL [(zI 0, hw_33), (zI 1, hw_33)]) = true := by decide +kernel
noncomputable def g_cS33_3 : List zV → zH 7 → zP 7 → Bool := zocs [zR 2, zI 3] hw_33 [(zI 0, hw_33), (zI 1, hw_33)]
theorem m_cS33_3 : zMet X_X2_readSum yX2_readSum 44 g_cS33_3 := zMet_oc (m_X2_readSumt _ _ _ _ m_cT33_3 mg_X2_add_33) e_cS33_3
noncomputable def h_cK33_2_o0 : zH 7 := (show zT 7 from ((((((zk_99_zs2_59_z33_readC_1, zk_99_zs2_59_z33_readC_2), (((17, 4, 0x9000000000601000000000100000004), (0, 15, zun 40 15 4294967296)), zk_99_zs2_59_z33_readC_3)), zk_99_zs2_59_z33_readC_6), zk_99_zs2_59_z33_readC_7), zk_99_zs2_59_z33_readC_9), zO6), (62, (0, 0)))
set_option maxRecDepth 100000 in
theorem e_cK33_2 : (f_X2_takeCharactert g_cO33_0) [zR 2, zI 2, zI 4294967296] hw_33 (zrkL [(zI 0, h_cK33_2_o0), (zI 1, hw_33)]) = true := by decide +kernel
noncomputable def g_cK33_2 : List zV → zH 7 → zP 7 → Bool := zocs [zR 2, zI 2, zI 4294967296] hw_33 [(zI 0, h_cK33_2_o0), (zI 1, hw_33)]
theorem m_cK33_2 : zMet X_X2_takeCharacter yX2_takeCharacter 4 g_cK33_2 := zMet_oc (m_X2_takeCharactert _ _ m_cO33_0) e_cK33_2
set_option maxRecDepth 100000 in
theorem e_cL33_2 : f_X2_readSlott [zR 2, zI 2] hw_33 (zrkL [(zI 0, hw_33), (zI 1, hw_33)]) = true := by decide +kernel
noncomputable def g_cL33_2 : List zV → zH 7 → zP 7 → Bool := zocs [zR 2, zI 2] hw_33 [(zI 0, hw_33), (zI 1, hw_33)]
theorem m_cL33_2 : zMet X_X2_readSlot yX2_readSlot 3 g_cL33_2 := zMet_oc (m_X2_readSlott) e_cL33_2
set_option maxRecDepth 100000 in
theorem e_cB33_2 : (f_X2_readInBracketst g_cS33_3) [zR 2, zI 2] hv_33 (zrkL [(zI 0, hw_33), (zI 1, hw_33)]) = true := by decide +kernel
noncomputable def g_cB33_2 : List zV → zH 7 → zP 7 → Bool := zocs [zR 2, zI 2] hv_33 [(zI 0, hw_33), (zI 1, hw_33)]
theorem m_cB33_2 : zMet X_X2_readInBrackets yX2_readInBrackets 47 g_cB33_2 := zMet_oc (m_X2_readInBracketst 44 _ m_cS33_3) e_cB33_2
set_option maxRecDepth 100000 in
theorem e_cF33_2 : (f_X2_readFactort g_cB33_2 g_cL33_2 g_cK33_2) [zR 2, zI 2] hw_33 (zrkL [(zI 0, hw_33), (zI 1, hw_33)]) = true := by decide +kernel
noncomputable def g_cF33_2 : List zV → zH 7 → zP 7 → Bool := zocs [zR 2, zI 2] hw_33 [(zI 0, hw_33), (zI 1, hw_33)]
theorem m_cF33_2 : zMet X_X2_readFactor yX2_readFactor 58 g_cF33_2 := zMet_oc (m_X2_readFactort _ _ _ _ _ _ m_cB33_2 m_cL33_2 m_cK33_2) e_cF33_2
set_option maxRecDepth 100000 in
theorem e_cT33_2 : (f_X2_readTermt g_cF33_2 g_X2_multiply_33) [zR 2, zI 2] hw_33 (zrkL [(zI 0, hw_33), (zI 1, hw_33)]) = true := by decide +kernel
noncomputable def g_cT33_2 : List zV → zH 7 → zP 7 → Bool := zocs [zR 2, zI 2] hw_33 [(zI 0, hw_33), (zI 1, hw_33)]
theorem m_cT33_2 : zMet X_X2_readTerm yX2_readTerm 62 g_cT33_2 := zMet_oc (m_X2_readTermt _ _ _ _ m_cF33_2 mg_X2_multiply_33) e_cT33_2
set_option maxRecDepth 100000 in
theorem e_cS33_2 : (f_X2_readSumt g_cT33_2 g_X2_add_33) [zR 2, zI 2] hw_33 (zrkL [(zI 0, hw_33), (zI 1, hw_33)]) = true := by decide +kernel
noncomputable def g_cS33_2 : List zV → zH 7 → zP 7 → Bool := zocs [zR 2, zI 2] hw_33 [(zI 0, hw_33), (zI 1, hw_33)]
theorem m_cS33_2 : zMet X_X2_readSum yX2_readSum 66 g_cS33_2 := zMet_oc (m_X2_readSumt _ _ _ _ m_cT33_2 mg_X2_add_33) e_cS33_2
noncomputable def h_cK33_1_o0 : zH 7 := (show zT 7 from ((((((zk_99_zs2_59_z33_readC_1, zk_99_zs2_59_z33_readC_2), (((17, 4, 0x6000000000601000000000100000004), (0, 15, zun 40 15 4294967296)), zk_99_zs2_59_z33_readC_3)), zk_99_zs2_59_z33_readC_6), zk_99_zs2_59_z33_readC_7), zk_99_zs2_59_z33_readC_9), zO6), (62, (0, 0)))
set_option maxRecDepth 100000 in
theorem e_cK33_1 : (f_X2_takeCharactert g_cO33_0) [zR 2, zI 1, zI 4294967296] hw_33 (zrkL [(zI 0, h_cK33_1_o0), (zI 1, hw_33)]) = true := by decide +kernel
noncomputable def g_cK33_1 : List zV → zH 7 → zP 7 → Bool := zocs [zR 2, zI 1, zI 4294967296] hw_33 [(zI 0, h_cK33_1_o0), (zI 1, hw_33)]
theorem m_cK33_1 : zMet X_X2_takeCharacter yX2_takeCharacter 4 g_cK33_1 := zMet_oc (m_X2_takeCharactert _ _ m_cO33_0) e_cK33_1
set_option maxRecDepth 100000 in
theorem e_cL33_1 : f_X2_readSlott [zR 2, zI 1] hw_33 (zrkL [(zI 0, hw_33), (zI 1, hw_33)]) = true := by decide +kernel
noncomputable def g_cL33_1 : List zV → zH 7 → zP 7 → Bool := zocs [zR 2, zI 1] hw_33 [(zI 0, hw_33), (zI 1, hw_33)]
theorem m_cL33_1 : zMet X_X2_readSlot yX2_readSlot 3 g_cL33_1 := zMet_oc (m_X2_readSlott) e_cL33_1
set_option maxRecDepth 100000 in
theorem e_cB33_1 : (f_X2_readInBracketst g_cS33_2) [zR 2, zI 1] hv_33 (zrkL [(zI 0, hw_33), (zI 1, hw_33)]) = true := by decide +kernel
noncomputable def g_cB33_1 : List zV → zH 7 → zP 7 → Bool := zocs [zR 2, zI 1] hv_33 [(zI 0, hw_33), (zI 1, hw_33)]
theorem m_cB33_1 : zMet X_X2_readInBrackets yX2_readInBrackets 69 g_cB33_1 := zMet_oc (m_X2_readInBracketst 66 _ m_cS33_2) e_cB33_1
set_option maxRecDepth 100000 in
theorem e_cF33_1 : (f_X2_readFactort g_cB33_1 g_cL33_1 g_cK33_1) [zR 2, zI 1] hw_33 (zrkL [(zI 0, hw_33), (zI 1, hw_33)]) = true := by decide +kernel
noncomputable def g_cF33_1 : List zV → zH 7 → zP 7 → Bool := zocs [zR 2, zI 1] hw_33 [(zI 0, hw_33), (zI 1, hw_33)]
theorem m_cF33_1 : zMet X_X2_readFactor yX2_readFactor 80 g_cF33_1 := zMet_oc (m_X2_readFactort _ _ _ _ _ _ m_cB33_1 m_cL33_1 m_cK33_1) e_cF33_1
set_option maxRecDepth 100000 in
theorem e_cT33_1 : (f_X2_readTermt g_cF33_1 g_X2_multiply_33) [zR 2, zI 1] hw_33 (zrkL [(zI 0, hw_33), (zI 1, hw_33)]) = true := by decide +kernel
noncomputable def g_cT33_1 : List zV → zH 7 → zP 7 → Bool := zocs [zR 2, zI 1] hw_33 [(zI 0, hw_33), (zI 1, hw_33)]
theorem m_cT33_1 : zMet X_X2_readTerm yX2_readTerm 84 g_cT33_1 := zMet_oc (m_X2_readTermt _ _ _ _ m_cF33_1 mg_X2_multiply_33) e_cT33_1
set_option maxRecDepth 100000 in
theorem e_cS33_1 : (f_X2_readSumt g_cT33_1 g_X2_add_33) [zR 2, zI 1] hw_33 (zrkL [(zI 0, hw_33), (zI 1, hw_33)]) = true := by decide +kernel
noncomputable def g_cS33_1 : List zV → zH 7 → zP 7 → Bool := zocs [zR 2, zI 1] hw_33 [(zI 0, hw_33), (zI 1, hw_33)]
theorem m_cS33_1 : zMet X_X2_readSum yX2_readSum 88 g_cS33_1 := zMet_oc (m_X2_readSumt _ _ _ _ m_cT33_1 mg_X2_add_33) e_cS33_1
noncomputable def h_cK33_0_o0 : zH 7 := (show zT 7 from ((((((zk_99_zs2_59_z33_readC_1, zk_99_zs2_59_z33_readC_2), (((17, 4, 0x3000000000601000000000100000004), (0, 15, zun 40 15 4294967296)), zk_99_zs2_59_z33_readC_3)), zk_99_zs2_59_z33_readC_6), zk_99_zs2_59_z33_readC_7), zk_99_zs2_59_z33_readC_9), zO6), (62, (0, 0)))
set_option maxRecDepth 100000 in
theorem e_cK33_0 : (f_X2_takeCharactert g_cO33_0) [zR 2, zI 0, zI 4294967296] hw_33 (zrkL [(zI 0, h_cK33_0_o0), (zI 1, hw_33)]) = true := by decide +kernel
noncomputable def g_cK33_0 : List zV → zH 7 → zP 7 → Bool := zocs [zR 2, zI 0, zI 4294967296] hw_33 [(zI 0, h_cK33_0_o0), (zI 1, hw_33)]
theorem m_cK33_0 : zMet X_X2_takeCharacter yX2_takeCharacter 4 g_cK33_0 := zMet_oc (m_X2_takeCharactert _ _ m_cO33_0) e_cK33_0
set_option maxRecDepth 100000 in
theorem e_cL33_0 : f_X2_readSlott [zR 2, zI 0] hw_33 (zrkL [(zI 0, hw_33), (zI 1, hw_33)]) = true := by decide +kernel
noncomputable def g_cL33_0 : List zV → zH 7 → zP 7 → Bool := zocs [zR 2, zI 0] hw_33 [(zI 0, hw_33), (zI 1, hw_33)]
theorem m_cL33_0 : zMet X_X2_readSlot yX2_readSlot 3 g_cL33_0 := zMet_oc (m_X2_readSlott) e_cL33_0
set_option maxRecDepth 100000 in
theorem e_cB33_0 : (f_X2_readInBracketst g_cS33_1) [zR 2, zI 0] hv_33 (zrkL [(zI 0, hw_33), (zI 1, hw_33)]) = true := by decide +kernel
noncomputable def g_cB33_0 : List zV → zH 7 → zP 7 → Bool := zocs [zR 2, zI 0] hv_33 [(zI 0, hw_33), (zI 1, hw_33)]
theorem m_cB33_0 : zMet X_X2_readInBrackets yX2_readInBrackets 91 g_cB33_0 := zMet_oc (m_X2_readInBracketst 88 _ m_cS33_1) e_cB33_0
set_option maxRecDepth 100000 in
theorem e_cF33_0 : (f_X2_readFactort g_cB33_0 g_cL33_0 g_cK33_0) [zR 2, zI 0] hw_33 (zrkL [(zI 0, hw_33), (zI 1, hw_33)]) = true := by decide +kernel
noncomputable def g_cF33_0 : List zV → zH 7 → zP 7 → Bool := zocs [zR 2, zI 0] hw_33 [(zI 0, hw_33), (zI 1, hw_33)]
theorem m_cF33_0 : zMet X_X2_readFactor yX2_readFactor 102 g_cF33_0 := zMet_oc (m_X2_readFactort _ _ _ _ _ _ m_cB33_0 m_cL33_0 m_cK33_0) e_cF33_0
set_option maxRecDepth 100000 in
theorem e_cT33_0 : (f_X2_readTermt g_cF33_0 g_X2_multiply_33) [zR 2, zI 0] hw_33 (zrkL [(zI 0, hw_33), (zI 1, hw_33)]) = true := by decide +kernel
noncomputable def g_cT33_0 : List zV → zH 7 → zP 7 → Bool := zocs [zR 2, zI 0] hw_33 [(zI 0, hw_33), (zI 1, hw_33)]
theorem m_cT33_0 : zMet X_X2_readTerm yX2_readTerm 106 g_cT33_0 := zMet_oc (m_X2_readTermt _ _ _ _ m_cF33_0 mg_X2_multiply_33) e_cT33_0
set_option maxRecDepth 100000 in
theorem e_cS33_0 : (f_X2_readSumt g_cT33_0 g_X2_add_33) [zR 2, zI 0] hw_33 (zrkL [(zI 0, hw_33), (zI 1, hw_33)]) = true := by decide +kernel
noncomputable def g_cS33_0 : List zV → zH 7 → zP 7 → Bool := zocs [zR 2, zI 0] hw_33 [(zI 0, hw_33), (zI 1, hw_33)]
theorem m_cS33_0 : zMet X_X2_readSum yX2_readSum 110 g_cS33_0 := zMet_oc (m_X2_readSumt _ _ _ _ m_cT33_0 mg_X2_add_33) e_cS33_0
noncomputable def hw_33_t : zH 7 := (show zT 7 from ((((((zk_99_zs2_59_z33_readC_1, ((22, 2, 4), (0, 200, zun 40 200 4294967296))), zk_99_zs2_59_z33_readC_4), zk_99_zs2_59_z33_readC_6), zk_99_zs2_59_z33_readC_7), zk_99_zs2_59_z33_readC_9), zO6), (62, (0, 0)))
set_option maxRecDepth 100000 in
theorem e_textC_33 : (zcutR 1 6 (f_X8_textt (f_X2_readt g_cS33_0))) [zR 1, zI 4294967296] hw_33 (zrkL [(zI 4294967296, hw_33_t)]) = true := by decide +kernel
noncomputable def g_textC_33 {d : Nat} : List zV → zH d → zP d → Bool := zsmyL [(0, 0), (1, 5), (1, 4), (3, 0), (2, 0), (5, 2), (2, 1), (7, 0), (7, 1), (7, 2), (7, 3), (7, 4), (2, 2), (13, 0), (13, 1), (13, 2), (13, 3), (13, 4), (2, 3), (19, 0), (19, 1), (19, 2), (19, 3), (19, 4), (2, 4), (2, 5), (2, 6), (2, 7), (1, 2), (29, 0), (29, 1), (29, 2), (29, 3), (29, 4), (29, 5), (2, 12), (36, 3), (37, 0), (37, 1), (37, 2), (38, 2), (39, 2), (40, 2), (36, 7), (36, 12), (45, 0), (45, 1), (45, 2), (36, 11), (49, 0), (49, 1), (49, 2), (2, 13), (53, 2), (53, 6), (55, 0), (55, 1), (55, 2), (53, 9), (59, 0), (59, 1), (59, 2)] [zR 1, zI 4294967296] hw_33 [(zI 4294967296, hw_33_t)]
theorem m_textC_33 {d : Nat} : zMet (d := d) X_X8_text yX8_text 115 g_textC_33 := zMet_smL (zMet_cutR (m_X8_textt _ _ (m_X2_readt _ _ m_cS33_0))) e_textC_33
end
section
/-! the class's reader at n = 35: by program -/
noncomputable def zk_99_zs2_59_z35_readC_0 : zC := (24, 8, 0x80000000088000000007000000000200000000038000000004000000001d80000000028000000001)
noncomputable def zk_99_zs2_59_z35_readC_1 : zT 1 := @Prod.mk (zT 0) (zT 0) zk_99_zs2_59_z35_readC_0 (18, 15, 0x1000000c900000000350000000024000000001d0000000003010000000001000000c9000000001c000000001b000000001a00000000190000000013000000000d00000000070000000005)
noncomputable def zk_99_zs2_59_z35_readC_2 : zT 1 := @Prod.mk (zT 0) (zT 0) (22, 2, 0x1000000c90000000004) (0, 200, zun 40 200 4294967296)
noncomputable def zk_99_zs2_59_z35_readC_3 : zT 1 := @Prod.mk (zT 0) (zT 0) (4, 5, 0xc000000000b000000000a00000000090000000008) (2, 11, zun 72 11 18446744073709551616)
noncomputable def zk_99_zs2_59_z35_readC_4 : zT 2 := @Prod.mk (zT 1) (zT 1) ((17, 4, 0x100000010000000000601000000000100000000), (0, 15, zun 40 15 4294967296)) zk_99_zs2_59_z35_readC_3
noncomputable def zk_99_zs2_59_z35_readC_5 : zT 1 := @Prod.mk (zT 0) (zT 0) (2, 11, zun 72 11 18446744073709551616) (2, 11, zun 72 11 18446744073709551616)
noncomputable def zk_99_zs2_59_z35_readC_6 : zT 3 := @Prod.mk (zT 2) (zT 2) (zk_99_zs2_59_z35_readC_5, zk_99_zs2_59_z35_readC_5) (((4, 5, 0x1200000000110000000010000000000f000000000e), (2, 11, zun 72 11 18446744073709551616)), zk_99_zs2_59_z35_readC_5)
noncomputable def zk_99_zs2_59_z35_readC_7 : zT 4 := @Prod.mk (zT 3) (zT 3) ((zk_99_zs2_59_z35_readC_5, ((4, 5, 0x180000000017000000001600000000150000000014), (2, 11, zun 72 11 18446744073709551616))), (zk_99_zs2_59_z35_readC_5, zk_99_zs2_59_z35_readC_5)) ((((0, 5, 0x1000000000100000000010000000001000000000100000000), (0, 5, 0x1000000000100000000010000000001000000000100000000)), ((0, 5, 0x1000000000100000000010000000001000000000100000000), (0, 6, 0x10000000001000000000100000000010000000001000000000100000000))), (((4, 6, 0x23000000002200000000210000000020000000001f000000001e), (2, 11, zun 72 11 18446744073709551616)), zk_99_zs2_59_z35_readC_5))
noncomputable def zk_99_zs2_59_z35_readC_8 : zT 1 := @Prod.mk (zT 0) (zT 0) (0, 3, 0x10000000001000000000100000000) (0, 3, 0x10000000001000000000100000000)
noncomputable def zk_99_zs2_59_z35_readC_9 : zT 5 := @Prod.mk (zT 4) (zT 4) (((zk_99_zs2_59_z35_readC_5, ((2, 11, zun 72 11 18446744073709551616), (23, 14, 0x80000008ce000000002d000000003180000008cb80000008ca80000008c9000000002c80000008c780000008c680000008c5000000002580000008c3000000000380000008c1))), (((5, 3, 0x2800000000270000000026), (20, 16, 0x8000000950800000094f800000094e800000094d800000094c800000094b800000094a800000094980000009488000000947800000094680000009458000000944000000002980000009428000000941)), ((20, 16, 0x8000000990800000098f800000098e800000098d800000098c800000098b800000098a800000098980000009888000000987800000098680000009858000000984000000002a80000009828000000981), (20, 16, 0x80000009d080000009cf80000009ce80000009cd80000009cc80000009cb80000009ca80000009c980000009c880000009c780000009c680000009c580000009c4000000002b80000009c280000009c1)))), ((((0, 1, 3), (0, 2, 0x10000000002)), ((0, 3, 0x100000000010000000001), (0, 3, 0x100ffffffff0000000001))), (((3, 3, 0x30000000002f000000002e), (0, 3, 0x10000000001000000000100000000)), zk_99_zs2_59_z35_readC_8))) (((((3, 3, 0x3400000000330000000032), (0, 3, 0x10000000001000000000100000000)), zk_99_zs2_59_z35_readC_8), (((21, 12, 0x8000000d0c8000000d0b000000003b8000000d098000000d0800000000378000000d068000000d058000000d0400000000368000000d028000000d01), (0, 3, 0x200000000010000000000)), ((3, 3, 0x3a00000000390000000038), (0, 3, 0x10000000001000000000100000000)))), ((zk_99_zs2_59_z35_readC_8, ((3, 3, 0x3e000000003d000000003c), (0, 3, 0x10000000001000000000100000000))), (zk_99_zs2_59_z35_readC_8, zO1)))
noncomputable def hw_35 : zH 7 := (show zT 7 from ((((((zk_99_zs2_59_z35_readC_1, zk_99_zs2_59_z35_readC_2), zk_99_zs2_59_z35_readC_4), zk_99_zs2_59_z35_readC_6), zk_99_zs2_59_z35_readC_7), zk_99_zs2_59_z35_readC_9), zO6), (62, (0, 0)))
noncomputable def zk_99_zs2_59_z35_readC_10 : zT 2 := @Prod.mk (zT 1) (zT 1) (zk_99_zs2_59_z35_readC_0, (18, 15, 0x1000000c800000000350000000024000000001d0000000003010000000001000000c9000000001c000000001b000000001a00000000190000000013000000000d00000000070000000005)) zk_99_zs2_59_z35_readC_2
noncomputable def hv_35 : zH 7 := (show zT 7 from (((((zk_99_zs2_59_z35_readC_10, zk_99_zs2_59_z35_readC_4), zk_99_zs2_59_z35_readC_6), zk_99_zs2_59_z35_readC_7), zk_99_zs2_59_z35_readC_9), zO6), (62, (0, 0)))
noncomputable def hs_X2_add_35 : zH 2 := (show zT 2 from (((18, 15, 0x800000000f800000000e0000000002800000000c800000000b800000000a800000000980000000088000000007800000000680000000058000000004800000000380000000028000000001), (23, 14, 0x800000004e800000004d800000004c800000004b800000004a800000004980000000488000000047800000004680000000458000000044800000004300000000038000000041)), zk_99_zs2_59_z35_readC_5), (4, (0, 0)))
noncomputable def hs_X2_add_35_o0 : zH 2 := (show zT 2 from (((18, 15, 0x800000000f800000000e0000000002800000000c800000000b800000000a800000000980000000088000000007800000000680000000058000000004800000000380000000028000000001), (23, 14, 0x800000004e800000004d800000004c800000004b800000004a800000004980000000488000000047800000004680000000458000000044800000004300000000038000000041)), zk_99_zs2_59_z35_readC_5), (4, (0, 0)))
noncomputable def hs_X2_add_35_o1 : zH 2 := (show zT 2 from (((18, 15, 0x800000000f800000000e0000000002800000000c800000000b800000000a800000000980000000088000000007800000000680000000058000000004800000000380000000028000000001), (23, 14, 0x800000004e800000004d800000004c800000004b800000004a800000004980000000488000000047800000004680000000458000000044800000004300000000038000000041)), zk_99_zs2_59_z35_readC_5), (4, (0, 0)))
set_option maxRecDepth 100000 in
theorem ev_X2_add_35 : f_X2_addt [zR 1, zR 3, zI 4294967298, zR 4] hs_X2_add_35 (zrkL [(zI 0, hs_X2_add_35_o0), (zI 1, hs_X2_add_35_o1)]) = true := by decide +kernel
noncomputable def g_X2_add_35 {d : Nat} : List zV → zH d → zP d → Bool := zsmyL [(0, 0), (1, 12), (0, 1), (0, 3)] [zR 1, zR 3, zI 4294967298, zR 4] hs_X2_add_35 [(zI 0, hs_X2_add_35_o0), (zI 1, hs_X2_add_35_o1)]
theorem mg_X2_add_35 {d : Nat} : zMet (d := d) X_X2_add yX2_add 1 g_X2_add_35 := zMet_smL m_X2_addt ev_X2_add_35

noncomputable def hs_X2_multiply_35 : zH 2 := (show zT 2 from (((18, 15, 0x800000000f800000000e0000000002800000000c800000000b800000000a800000000980000000088000000007800000000680000000058000000004800000000380000000028000000001), (23, 14, 0x800000004e800000004d800000004c800000004b800000004a800000004980000000488000000047800000004680000000458000000044800000004300000000038000000041)), zk_99_zs2_59_z35_readC_5), (4, (0, 0)))
noncomputable def hs_X2_multiply_35_o0 : zH 2 := (show zT 2 from (((18, 15, 0x800000000f800000000e0000000002800000000c800000000b800000000a800000000980000000088000000007800000000680000000058000000004800000000380000000028000000001), (23, 14, 0x800000004e800000004d800000004c800000004b800000004a800000004980000000488000000047800000004680000000458000000044800000004300000000038000000041)), zk_99_zs2_59_z35_readC_5), (4, (0, 0)))
noncomputable def hs_X2_multiply_35_o1 : zH 2 := (show zT 2 from (((18, 15, 0x800000000f800000000e0000000002800000000c800000000b800000000a800000000980000000088000000007800000000680000000058000000004800000000380000000028000000001), (23, 14, 0x800000004e800000004d800000004c800000004b800000004a800000004980000000488000000047800000004680000000458000000044800000004300000000038000000041)), zk_99_zs2_59_z35_readC_5), (4, (0, 0)))
set_option maxRecDepth 100000 in
theorem ev_X2_multiply_35 : f_X2_multiplyt [zR 1, zR 3, zR 4] hs_X2_multiply_35 (zrkL [(zI 0, hs_X2_multiply_35_o0), (zI 1, hs_X2_multiply_35_o1)]) = true := by decide +kernel
noncomputable def g_X2_multiply_35 {d : Nat} : List zV → zH d → zP d → Bool := zsmyL [(0, 0), (1, 12), (0, 1), (0, 2)] [zR 1, zR 3, zR 4] hs_X2_multiply_35 [(zI 0, hs_X2_multiply_35_o0), (zI 1, hs_X2_multiply_35_o1)]
theorem mg_X2_multiply_35 {d : Nat} : zMet (d := d) X_X2_multiply yX2_multiply 1 g_X2_multiply_35 := zMet_smL m_X2_multiplyt ev_X2_multiply_35

set_option maxRecDepth 100000 in
theorem e_cO35_0 : f_X7_numberOft [zR 36, zR 28, zI 4294967497] hw_35 (zrkL [(zI 4294967295, hw_35), (zI 4294967299, hw_35)]) = true := by decide +kernel
noncomputable def g_cO35_0 : List zV → zH 7 → zP 7 → Bool := zocs [zR 36, zR 28, zI 4294967497] hw_35 [(zI 4294967295, hw_35), (zI 4294967299, hw_35)]
theorem m_cO35_0 : zMet X_X7_numberOf yX7_numberOf 1 g_cO35_0 := zMet_oc (m_X7_numberOft) e_cO35_0
noncomputable def h_cK35_4_o0 : zH 7 := (show zT 7 from ((((((zk_99_zs2_59_z35_readC_1, zk_99_zs2_59_z35_readC_2), (((17, 4, 0xf000000000601000000000000000002), (0, 15, zun 40 15 4294967296)), zk_99_zs2_59_z35_readC_3)), zk_99_zs2_59_z35_readC_6), zk_99_zs2_59_z35_readC_7), zk_99_zs2_59_z35_readC_9), zO6), (62, (0, 0)))
set_option maxRecDepth 100000 in
theorem e_cK35_4 : (f_X2_takeCharactert g_cO35_0) [zR 2, zI 4, zI 4294967296] hw_35 (zrkL [(zI 0, h_cK35_4_o0), (zI 1, hw_35)]) = true := by decide +kernel
noncomputable def g_cK35_4 : List zV → zH 7 → zP 7 → Bool := zocs [zR 2, zI 4, zI 4294967296] hw_35 [(zI 0, h_cK35_4_o0), (zI 1, hw_35)]
theorem m_cK35_4 : zMet X_X2_takeCharacter yX2_takeCharacter 4 g_cK35_4 := zMet_oc (m_X2_takeCharactert _ _ m_cO35_0) e_cK35_4
set_option maxRecDepth 100000 in
theorem e_cL35_4 : f_X2_readSlott [zR 2, zI 4] hw_35 (zrkL [(zI 0, hw_35), (zI 1, hw_35)]) = true := by decide +kernel
noncomputable def g_cL35_4 : List zV → zH 7 → zP 7 → Bool := zocs [zR 2, zI 4] hw_35 [(zI 0, hw_35), (zI 1, hw_35)]
theorem m_cL35_4 : zMet X_X2_readSlot yX2_readSlot 3 g_cL35_4 := zMet_oc (m_X2_readSlott) e_cL35_4
noncomputable def h_cB35_4_o0 : zH 7 := (show zT 7 from (((((zk_99_zs2_59_z35_readC_10, (((17, 4, 0xf000000000601000000c80000000005), (0, 15, zun 40 15 4294967296)), zk_99_zs2_59_z35_readC_3)), zk_99_zs2_59_z35_readC_6), zk_99_zs2_59_z35_readC_7), zk_99_zs2_59_z35_readC_9), zO6), (62, (0, 0)))
set_option maxRecDepth 100000 in
theorem e_cB35_4 : (f_X2_readInBracketst (fun _ _ _ => false)) [zR 2, zI 4] hv_35 (zrkL [(zI 0, h_cB35_4_o0)]) = true := by decide +kernel
noncomputable def g_cB35_4 : List zV → zH 7 → zP 7 → Bool := zocs [zR 2, zI 4] hv_35 [(zI 0, h_cB35_4_o0)]
theorem m_cB35_4 : zMet X_X2_readInBrackets yX2_readInBrackets 3 g_cB35_4 := zMet_oc (m_X2_readInBracketst 0 _ zfalse) e_cB35_4
set_option maxRecDepth 100000 in
theorem e_cF35_4 : (f_X2_readFactort g_cB35_4 g_cL35_4 g_cK35_4) [zR 2, zI 4] hw_35 (zrkL [(zI 0, hw_35), (zI 1, hw_35)]) = true := by decide +kernel
noncomputable def g_cF35_4 : List zV → zH 7 → zP 7 → Bool := zocs [zR 2, zI 4] hw_35 [(zI 0, hw_35), (zI 1, hw_35)]
theorem m_cF35_4 : zMet X_X2_readFactor yX2_readFactor 14 g_cF35_4 := zMet_oc (m_X2_readFactort _ _ _ _ _ _ m_cB35_4 m_cL35_4 m_cK35_4) e_cF35_4
set_option maxRecDepth 100000 in
theorem e_cT35_4 : (f_X2_readTermt g_cF35_4 g_X2_multiply_35) [zR 2, zI 4] hw_35 (zrkL [(zI 0, hw_35), (zI 1, hw_35)]) = true := by decide +kernel
noncomputable def g_cT35_4 : List zV → zH 7 → zP 7 → Bool := zocs [zR 2, zI 4] hw_35 [(zI 0, hw_35), (zI 1, hw_35)]
theorem m_cT35_4 : zMet X_X2_readTerm yX2_readTerm 18 g_cT35_4 := zMet_oc (m_X2_readTermt _ _ _ _ m_cF35_4 mg_X2_multiply_35) e_cT35_4
set_option maxRecDepth 100000 in
theorem e_cS35_4 : (f_X2_readSumt g_cT35_4 g_X2_add_35) [zR 2, zI 4] hw_35 (zrkL [(zI 0, hw_35), (zI 1, hw_35)]) = true := by decide +kernel
noncomputable def g_cS35_4 : List zV → zH 7 → zP 7 → Bool := zocs [zR 2, zI 4] hw_35 [(zI 0, hw_35), (zI 1, hw_35)]
theorem m_cS35_4 : zMet X_X2_readSum yX2_readSum 22 g_cS35_4 := zMet_oc (m_X2_readSumt _ _ _ _ m_cT35_4 mg_X2_add_35) e_cS35_4
noncomputable def h_cK35_3_o0 : zH 7 := (show zT 7 from ((((((zk_99_zs2_59_z35_readC_1, zk_99_zs2_59_z35_readC_2), (((17, 4, 0xc000000000601000000000000000002), (0, 15, zun 40 15 4294967296)), zk_99_zs2_59_z35_readC_3)), zk_99_zs2_59_z35_readC_6), zk_99_zs2_59_z35_readC_7), zk_99_zs2_59_z35_readC_9), zO6), (62, (0, 0)))
set_option maxRecDepth 100000 in
theorem e_cK35_3 : (f_X2_takeCharactert g_cO35_0) [zR 2, zI 3, zI 4294967296] hw_35 (zrkL [(zI 0, h_cK35_3_o0), (zI 1, hw_35)]) = true := by decide +kernel
noncomputable def g_cK35_3 : List zV → zH 7 → zP 7 → Bool := zocs [zR 2, zI 3, zI 4294967296] hw_35 [(zI 0, h_cK35_3_o0), (zI 1, hw_35)]
theorem m_cK35_3 : zMet X_X2_takeCharacter yX2_takeCharacter 4 g_cK35_3 := zMet_oc (m_X2_takeCharactert _ _ m_cO35_0) e_cK35_3
set_option maxRecDepth 100000 in
theorem e_cL35_3 : f_X2_readSlott [zR 2, zI 3] hw_35 (zrkL [(zI 0, hw_35), (zI 1, hw_35)]) = true := by decide +kernel
noncomputable def g_cL35_3 : List zV → zH 7 → zP 7 → Bool := zocs [zR 2, zI 3] hw_35 [(zI 0, hw_35), (zI 1, hw_35)]
theorem m_cL35_3 : zMet X_X2_readSlot yX2_readSlot 3 g_cL35_3 := zMet_oc (m_X2_readSlott) e_cL35_3
set_option maxRecDepth 100000 in
theorem e_cB35_3 : (f_X2_readInBracketst g_cS35_4) [zR 2, zI 3] hv_35 (zrkL [(zI 0, hw_35), (zI 1, hw_35)]) = true := by decide +kernel
noncomputable def g_cB35_3 : List zV → zH 7 → zP 7 → Bool := zocs [zR 2, zI 3] hv_35 [(zI 0, hw_35), (zI 1, hw_35)]
theorem m_cB35_3 : zMet X_X2_readInBrackets yX2_readInBrackets 25 g_cB35_3 := zMet_oc (m_X2_readInBracketst 22 _ m_cS35_4) e_cB35_3
set_option maxRecDepth 100000 in
theorem e_cF35_3 : (f_X2_readFactort g_cB35_3 g_cL35_3 g_cK35_3) [zR 2, zI 3] hw_35 (zrkL [(zI 0, hw_35), (zI 1, hw_35)]) = true := by decide +kernel
noncomputable def g_cF35_3 : List zV → zH 7 → zP 7 → Bool := zocs [zR 2, zI 3] hw_35 [(zI 0, hw_35), (zI 1, hw_35)]
theorem m_cF35_3 : zMet X_X2_readFactor yX2_readFactor 36 g_cF35_3 := zMet_oc (m_X2_readFactort _ _ _ _ _ _ m_cB35_3 m_cL35_3 m_cK35_3) e_cF35_3
set_option maxRecDepth 100000 in
theorem e_cT35_3 : (f_X2_readTermt g_cF35_3 g_X2_multiply_35) [zR 2, zI 3] hw_35 (zrkL [(zI 0, hw_35), (zI 1, hw_35)]) = true := by decide +kernel
noncomputable def g_cT35_3 : List zV → zH 7 → zP 7 → Bool := zocs [zR 2, zI 3] hw_35 [(zI 0, hw_35), (zI 1, hw_35)]
theorem m_cT35_3 : zMet X_X2_readTerm yX2_readTerm 40 g_cT35_3 := zMet_oc (m_X2_readTermt _ _ _ _ m_cF35_3 mg_X2_multiply_35) e_cT35_3
set_option maxRecDepth 100000 in
theorem e_cS35_3 : (f_X2_readSumt g_cT35_3 g_X2_add_35) [zR 2, zI 3] hw_35 (zrkL [(zI 0, hw_35), (zI 1, hw_35)]) = true := by decide +kernel
noncomputable def g_cS35_3 : List zV → zH 7 → zP 7 → Bool := zocs [zR 2, zI 3] hw_35 [(zI 0, hw_35), (zI 1, hw_35)]
theorem m_cS35_3 : zMet X_X2_readSum yX2_readSum 44 g_cS35_3 := zMet_oc (m_X2_readSumt _ _ _ _ m_cT35_3 mg_X2_add_35) e_cS35_3
noncomputable def h_cK35_2_o0 : zH 7 := (show zT 7 from ((((((zk_99_zs2_59_z35_readC_1, zk_99_zs2_59_z35_readC_2), (((17, 4, 0x9000000000601000000000000000002), (0, 15, zun 40 15 4294967296)), zk_99_zs2_59_z35_readC_3)), zk_99_zs2_59_z35_readC_6), zk_99_zs2_59_z35_readC_7), zk_99_zs2_59_z35_readC_9), zO6), (62, (0, 0)))
set_option maxRecDepth 100000 in
theorem e_cK35_2 : (f_X2_takeCharactert g_cO35_0) [zR 2, zI 2, zI 4294967296] hw_35 (zrkL [(zI 0, h_cK35_2_o0), (zI 1, hw_35)]) = true := by decide +kernel
noncomputable def g_cK35_2 : List zV → zH 7 → zP 7 → Bool := zocs [zR 2, zI 2, zI 4294967296] hw_35 [(zI 0, h_cK35_2_o0), (zI 1, hw_35)]
theorem m_cK35_2 : zMet X_X2_takeCharacter yX2_takeCharacter 4 g_cK35_2 := zMet_oc (m_X2_takeCharactert _ _ m_cO35_0) e_cK35_2
set_option maxRecDepth 100000 in
theorem e_cL35_2 : f_X2_readSlott [zR 2, zI 2] hw_35 (zrkL [(zI 0, hw_35), (zI 1, hw_35)]) = true := by decide +kernel
noncomputable def g_cL35_2 : List zV → zH 7 → zP 7 → Bool := zocs [zR 2, zI 2] hw_35 [(zI 0, hw_35), (zI 1, hw_35)]
theorem m_cL35_2 : zMet X_X2_readSlot yX2_readSlot 3 g_cL35_2 := zMet_oc (m_X2_readSlott) e_cL35_2
set_option maxRecDepth 100000 in
theorem e_cB35_2 : (f_X2_readInBracketst g_cS35_3) [zR 2, zI 2] hv_35 (zrkL [(zI 0, hw_35), (zI 1, hw_35)]) = true := by decide +kernel
noncomputable def g_cB35_2 : List zV → zH 7 → zP 7 → Bool := zocs [zR 2, zI 2] hv_35 [(zI 0, hw_35), (zI 1, hw_35)]
theorem m_cB35_2 : zMet X_X2_readInBrackets yX2_readInBrackets 47 g_cB35_2 := zMet_oc (m_X2_readInBracketst 44 _ m_cS35_3) e_cB35_2
set_option maxRecDepth 100000 in
theorem e_cF35_2 : (f_X2_readFactort g_cB35_2 g_cL35_2 g_cK35_2) [zR 2, zI 2] hw_35 (zrkL [(zI 0, hw_35), (zI 1, hw_35)]) = true := by decide +kernel
noncomputable def g_cF35_2 : List zV → zH 7 → zP 7 → Bool := zocs [zR 2, zI 2] hw_35 [(zI 0, hw_35), (zI 1, hw_35)]
theorem m_cF35_2 : zMet X_X2_readFactor yX2_readFactor 58 g_cF35_2 := zMet_oc (m_X2_readFactort _ _ _ _ _ _ m_cB35_2 m_cL35_2 m_cK35_2) e_cF35_2
set_option maxRecDepth 100000 in
theorem e_cT35_2 : (f_X2_readTermt g_cF35_2 g_X2_multiply_35) [zR 2, zI 2] hw_35 (zrkL [(zI 0, hw_35), (zI 1, hw_35)]) = true := by decide +kernel
noncomputable def g_cT35_2 : List zV → zH 7 → zP 7 → Bool := zocs [zR 2, zI 2] hw_35 [(zI 0, hw_35), (zI 1, hw_35)]
theorem m_cT35_2 : zMet X_X2_readTerm yX2_readTerm 62 g_cT35_2 := zMet_oc (m_X2_readTermt _ _ _ _ m_cF35_2 mg_X2_multiply_35) e_cT35_2
set_option maxRecDepth 100000 in
theorem e_cS35_2 : (f_X2_readSumt g_cT35_2 g_X2_add_35) [zR 2, zI 2] hw_35 (zrkL [(zI 0, hw_35), (zI 1, hw_35)]) = true := by decide +kernel
noncomputable def g_cS35_2 : List zV → zH 7 → zP 7 → Bool := zocs [zR 2, zI 2] hw_35 [(zI 0, hw_35), (zI 1, hw_35)]
theorem m_cS35_2 : zMet X_X2_readSum yX2_readSum 66 g_cS35_2 := zMet_oc (m_X2_readSumt _ _ _ _ m_cT35_2 mg_X2_add_35) e_cS35_2
noncomputable def h_cK35_1_o0 : zH 7 := (show zT 7 from ((((((zk_99_zs2_59_z35_readC_1, zk_99_zs2_59_z35_readC_2), (((17, 4, 0x6000000000601000000000000000002), (0, 15, zun 40 15 4294967296)), zk_99_zs2_59_z35_readC_3)), zk_99_zs2_59_z35_readC_6), zk_99_zs2_59_z35_readC_7), zk_99_zs2_59_z35_readC_9), zO6), (62, (0, 0)))
set_option maxRecDepth 100000 in
theorem e_cK35_1 : (f_X2_takeCharactert g_cO35_0) [zR 2, zI 1, zI 4294967296] hw_35 (zrkL [(zI 0, h_cK35_1_o0), (zI 1, hw_35)]) = true := by decide +kernel
noncomputable def g_cK35_1 : List zV → zH 7 → zP 7 → Bool := zocs [zR 2, zI 1, zI 4294967296] hw_35 [(zI 0, h_cK35_1_o0), (zI 1, hw_35)]
theorem m_cK35_1 : zMet X_X2_takeCharacter yX2_takeCharacter 4 g_cK35_1 := zMet_oc (m_X2_takeCharactert _ _ m_cO35_0) e_cK35_1
set_option maxRecDepth 100000 in
theorem e_cL35_1 : f_X2_readSlott [zR 2, zI 1] hw_35 (zrkL [(zI 0, hw_35), (zI 1, hw_35)]) = true := by decide +kernel
noncomputable def g_cL35_1 : List zV → zH 7 → zP 7 → Bool := zocs [zR 2, zI 1] hw_35 [(zI 0, hw_35), (zI 1, hw_35)]
theorem m_cL35_1 : zMet X_X2_readSlot yX2_readSlot 3 g_cL35_1 := zMet_oc (m_X2_readSlott) e_cL35_1
set_option maxRecDepth 100000 in
theorem e_cB35_1 : (f_X2_readInBracketst g_cS35_2) [zR 2, zI 1] hv_35 (zrkL [(zI 0, hw_35), (zI 1, hw_35)]) = true := by decide +kernel
noncomputable def g_cB35_1 : List zV → zH 7 → zP 7 → Bool := zocs [zR 2, zI 1] hv_35 [(zI 0, hw_35), (zI 1, hw_35)]
theorem m_cB35_1 : zMet X_X2_readInBrackets yX2_readInBrackets 69 g_cB35_1 := zMet_oc (m_X2_readInBracketst 66 _ m_cS35_2) e_cB35_1
set_option maxRecDepth 100000 in
theorem e_cF35_1 : (f_X2_readFactort g_cB35_1 g_cL35_1 g_cK35_1) [zR 2, zI 1] hw_35 (zrkL [(zI 0, hw_35), (zI 1, hw_35)]) = true := by decide +kernel
noncomputable def g_cF35_1 : List zV → zH 7 → zP 7 → Bool := zocs [zR 2, zI 1] hw_35 [(zI 0, hw_35), (zI 1, hw_35)]
theorem m_cF35_1 : zMet X_X2_readFactor yX2_readFactor 80 g_cF35_1 := zMet_oc (m_X2_readFactort _ _ _ _ _ _ m_cB35_1 m_cL35_1 m_cK35_1) e_cF35_1
set_option maxRecDepth 100000 in
theorem e_cT35_1 : (f_X2_readTermt g_cF35_1 g_X2_multiply_35) [zR 2, zI 1] hw_35 (zrkL [(zI 0, hw_35), (zI 1, hw_35)]) = true := by decide +kernel
noncomputable def g_cT35_1 : List zV → zH 7 → zP 7 → Bool := zocs [zR 2, zI 1] hw_35 [(zI 0, hw_35), (zI 1, hw_35)]
theorem m_cT35_1 : zMet X_X2_readTerm yX2_readTerm 84 g_cT35_1 := zMet_oc (m_X2_readTermt _ _ _ _ m_cF35_1 mg_X2_multiply_35) e_cT35_1
set_option maxRecDepth 100000 in
theorem e_cS35_1 : (f_X2_readSumt g_cT35_1 g_X2_add_35) [zR 2, zI 1] hw_35 (zrkL [(zI 0, hw_35), (zI 1, hw_35)]) = true := by decide +kernel
noncomputable def g_cS35_1 : List zV → zH 7 → zP 7 → Bool := zocs [zR 2, zI 1] hw_35 [(zI 0, hw_35), (zI 1, hw_35)]
theorem m_cS35_1 : zMet X_X2_readSum yX2_readSum 88 g_cS35_1 := zMet_oc (m_X2_readSumt _ _ _ _ m_cT35_1 mg_X2_add_35) e_cS35_1
noncomputable def h_cK35_0_o0 : zH 7 := (show zT 7 from ((((((zk_99_zs2_59_z35_readC_1, zk_99_zs2_59_z35_readC_2), (((17, 4, 0x3000000000601000000000000000002), (0, 15, zun 40 15 4294967296)), zk_99_zs2_59_z35_readC_3)), zk_99_zs2_59_z35_readC_6), zk_99_zs2_59_z35_readC_7), zk_99_zs2_59_z35_readC_9), zO6), (62, (0, 0)))
set_option maxRecDepth 100000 in
theorem e_cK35_0 : (f_X2_takeCharactert g_cO35_0) [zR 2, zI 0, zI 4294967296] hw_35 (zrkL [(zI 0, h_cK35_0_o0), (zI 1, hw_35)]) = true := by decide +kernel
noncomputable def g_cK35_0 : List zV → zH 7 → zP 7 → Bool := zocs [zR 2, zI 0, zI 4294967296] hw_35 [(zI 0, h_cK35_0_o0), (zI 1, hw_35)]
theorem m_cK35_0 : zMet X_X2_takeCharacter yX2_takeCharacter 4 g_cK35_0 := zMet_oc (m_X2_takeCharactert _ _ m_cO35_0) e_cK35_0
set_option maxRecDepth 100000 in
theorem e_cL35_0 : f_X2_readSlott [zR 2, zI 0] hw_35 (zrkL [(zI 0, hw_35), (zI 1, hw_35)]) = true := by decide +kernel
noncomputable def g_cL35_0 : List zV → zH 7 → zP 7 → Bool := zocs [zR 2, zI 0] hw_35 [(zI 0, hw_35), (zI 1, hw_35)]
theorem m_cL35_0 : zMet X_X2_readSlot yX2_readSlot 3 g_cL35_0 := zMet_oc (m_X2_readSlott) e_cL35_0
set_option maxRecDepth 100000 in
theorem e_cB35_0 : (f_X2_readInBracketst g_cS35_1) [zR 2, zI 0] hv_35 (zrkL [(zI 0, hw_35), (zI 1, hw_35)]) = true := by decide +kernel
noncomputable def g_cB35_0 : List zV → zH 7 → zP 7 → Bool := zocs [zR 2, zI 0] hv_35 [(zI 0, hw_35), (zI 1, hw_35)]
theorem m_cB35_0 : zMet X_X2_readInBrackets yX2_readInBrackets 91 g_cB35_0 := zMet_oc (m_X2_readInBracketst 88 _ m_cS35_1) e_cB35_0
set_option maxRecDepth 100000 in
theorem e_cF35_0 : (f_X2_readFactort g_cB35_0 g_cL35_0 g_cK35_0) [zR 2, zI 0] hw_35 (zrkL [(zI 0, hw_35), (zI 1, hw_35)]) = true := by decide +kernel
noncomputable def g_cF35_0 : List zV → zH 7 → zP 7 → Bool := zocs [zR 2, zI 0] hw_35 [(zI 0, hw_35), (zI 1, hw_35)]
theorem m_cF35_0 : zMet X_X2_readFactor yX2_readFactor 102 g_cF35_0 := zMet_oc (m_X2_readFactort _ _ _ _ _ _ m_cB35_0 m_cL35_0 m_cK35_0) e_cF35_0
set_option maxRecDepth 100000 in
theorem e_cT35_0 : (f_X2_readTermt g_cF35_0 g_X2_multiply_35) [zR 2, zI 0] hw_35 (zrkL [(zI 0, hw_35), (zI 1, hw_35)]) = true := by decide +kernel
noncomputable def g_cT35_0 : List zV → zH 7 → zP 7 → Bool := zocs [zR 2, zI 0] hw_35 [(zI 0, hw_35), (zI 1, hw_35)]
theorem m_cT35_0 : zMet X_X2_readTerm yX2_readTerm 106 g_cT35_0 := zMet_oc (m_X2_readTermt _ _ _ _ m_cF35_0 mg_X2_multiply_35) e_cT35_0
set_option maxRecDepth 100000 in
theorem e_cS35_0 : (f_X2_readSumt g_cT35_0 g_X2_add_35) [zR 2, zI 0] hw_35 (zrkL [(zI 0, hw_35), (zI 1, hw_35)]) = true := by decide +kernel
noncomputable def g_cS35_0 : List zV → zH 7 → zP 7 → Bool := zocs [zR 2, zI 0] hw_35 [(zI 0, hw_35), (zI 1, hw_35)]
theorem m_cS35_0 : zMet X_X2_readSum yX2_readSum 110 g_cS35_0 := zMet_oc (m_X2_readSumt _ _ _ _ m_cT35_0 mg_X2_add_35) e_cS35_0
noncomputable def hw_35_t : zH 7 := (show zT 7 from ((((((zk_99_zs2_59_z35_readC_1, ((22, 2, 4), (0, 200, zun 40 200 4294967296))), zk_99_zs2_59_z35_readC_4), zk_99_zs2_59_z35_readC_6), zk_99_zs2_59_z35_readC_7), zk_99_zs2_59_z35_readC_9), zO6), (62, (0, 0)))
set_option maxRecDepth 100000 in
theorem e_textC_35 : (zcutR 1 6 (f_X8_textt (f_X2_readt g_cS35_0))) [zR 1, zI 4294967296] hw_35 (zrkL [(zI 4294967296, hw_35_t)]) = true := by decide +kernel
noncomputable def g_textC_35 {d : Nat} : List zV → zH d → zP d → Bool := zsmyL [(0, 0), (1, 5), (1, 4), (3, 0), (2, 0), (5, 2), (2, 1), (7, 0), (7, 1), (7, 2), (7, 3), (7, 4), (2, 2), (13, 0), (13, 1), (13, 2), (13, 3), (13, 4), (2, 3), (19, 0), (19, 1), (19, 2), (19, 3), (19, 4), (2, 4), (2, 5), (2, 6), (2, 7), (1, 2), (29, 0), (29, 1), (29, 2), (29, 3), (29, 4), (29, 5), (2, 12), (36, 3), (37, 0), (37, 1), (37, 2), (38, 2), (39, 2), (40, 2), (36, 7), (36, 12), (45, 0), (45, 1), (45, 2), (36, 11), (49, 0), (49, 1), (49, 2), (2, 13), (53, 2), (53, 6), (55, 0), (55, 1), (55, 2), (53, 9), (59, 0), (59, 1), (59, 2)] [zR 1, zI 4294967296] hw_35 [(zI 4294967296, hw_35_t)]
theorem m_textC_35 {d : Nat} : zMet (d := d) X_X8_text yX8_text 115 g_textC_35 := zMet_smL (zMet_cutR (m_X8_textt _ _ (m_X2_readt _ _ m_cS35_0))) e_textC_35
end
section
/-! the class's reader at n = 42: by program -/
noncomputable def zk_99_zs2_59_z42_readC_0 : zC := (24, 8, 0x80000000088000000007000000000200000000038000000004000000001d80000000028000000001)
noncomputable def zk_99_zs2_59_z42_readC_1 : zT 1 := @Prod.mk (zT 0) (zT 0) zk_99_zs2_59_z42_readC_0 (18, 15, 0x1000000c9000000003d0000000024000000001d0000000003010000000001000000c9000000001c000000001b000000001a00000000190000000013000000000d00000000070000000005)
noncomputable def zk_99_zs2_59_z42_readC_2 : zT 1 := @Prod.mk (zT 0) (zT 0) (22, 2, 0x1000000c90000000004) (0, 200, zun 40 200 4294967296)
noncomputable def zk_99_zs2_59_z42_readC_3 : zT 1 := @Prod.mk (zT 0) (zT 0) (4, 5, 0xc000000000b000000000a00000000090000000008) (2, 11, zun 72 11 18446744073709551616)
noncomputable def zk_99_zs2_59_z42_readC_4 : zT 2 := @Prod.mk (zT 1) (zT 1) ((17, 4, 0x100000010000000000601000000000100000000), (0, 15, zun 40 15 4294967296)) zk_99_zs2_59_z42_readC_3
noncomputable def zk_99_zs2_59_z42_readC_5 : zT 1 := @Prod.mk (zT 0) (zT 0) (2, 11, zun 72 11 18446744073709551616) (2, 11, zun 72 11 18446744073709551616)
noncomputable def zk_99_zs2_59_z42_readC_6 : zT 3 := @Prod.mk (zT 2) (zT 2) (zk_99_zs2_59_z42_readC_5, zk_99_zs2_59_z42_readC_5) (((4, 5, 0x1200000000110000000010000000000f000000000e), (2, 11, zun 72 11 18446744073709551616)), zk_99_zs2_59_z42_readC_5)
noncomputable def zk_99_zs2_59_z42_readC_7 : zT 1 := @Prod.mk (zT 0) (zT 0) (0, 5, 0x1000000000100000000010000000001000000000100000000) (0, 5, 0x1000000000100000000010000000001000000000100000000)
noncomputable def zk_99_zs2_59_z42_readC_8 : zT 4 := @Prod.mk (zT 3) (zT 3) ((zk_99_zs2_59_z42_readC_5, ((4, 5, 0x180000000017000000001600000000150000000014), (2, 11, zun 72 11 18446744073709551616))), (zk_99_zs2_59_z42_readC_5, zk_99_zs2_59_z42_readC_5)) ((zk_99_zs2_59_z42_readC_7, ((0, 5, 0x1000000000100000000010000000001000000000100000000), (0, 6, 0x10000000001000000000100000000010000000001000000000100000000))), (((4, 6, 0x23000000002200000000210000000020000000001f000000001e), (2, 11, zun 72 11 18446744073709551616)), zk_99_zs2_59_z42_readC_5))
noncomputable def zk_99_zs2_59_z42_readC_9 : zT 5 := @Prod.mk (zT 4) (zT 4) (((zk_99_zs2_59_z42_readC_5, ((2, 11, zun 72 11 18446744073709551616), (23, 14, 0x80000008ce0000000031000000003780000008cb80000008ca80000008c9000000003080000008c780000008c680000008c5000000002580000008c3000000000580000008c1))), (((5, 5, 0x2a0000000029000000002800000000270000000026), (20, 16, 0x8000000950800000094f800000094e800000094d800000094c800000094b800000094a800000094980000009488000000947800000094680000009458000000944000000002b80000009428000000941)), ((20, 16, 0x8000000990800000098f800000098e800000098d800000098c800000098b800000098a800000098980000009888000000987800000098680000009858000000984000000002c80000009828000000981), (20, 16, 0x80000009d080000009cf80000009ce80000009cd80000009cc80000009cb80000009ca80000009c980000009c880000009c780000009c680000009c580000009c4000000002d80000009c280000009c1)))), ((((20, 16, 0x8000000a108000000a0f8000000a0e8000000a0d8000000a0c8000000a0b8000000a0a8000000a098000000a088000000a078000000a068000000a058000000a04000000002e8000000a028000000a01), (20, 16, 0x8000000a508000000a4f8000000a4e8000000a4d8000000a4c8000000a4b8000000a4a8000000a498000000a488000000a478000000a468000000a458000000a44000000002f8000000a428000000a41)), ((0, 1, 4), (0, 2, 0x10000000003))), (((0, 2, 0x20000000002), (0, 3, 0x100000000010000000002)), ((0, 4, 0x1000000000100000000010000000001), (0, 5, 0x100ffffffff0000000001000000000100ffffffff))))) (((((3, 5, 0x360000000035000000003400000000330000000032), (0, 5, 0x1000000000100000000010000000001000000000100000000)), zk_99_zs2_59_z42_readC_7), (zk_99_zs2_59_z42_readC_7, ((3, 5, 0x3c000000003b000000003a00000000390000000038), (0, 5, 0x1000000000100000000010000000001000000000100000000)))), ((zk_99_zs2_59_z42_readC_7, zk_99_zs2_59_z42_readC_7), (((21, 12, 0x8000000f0c8000000f0b00000000458000000f098000000f08000000003f8000000f068000000f058000000f04000000003e8000000f028000000f01), (0, 5, 0xffffffff00ffffffff00ffffffff00000000010000000000)), ((3, 5, 0x440000000043000000004200000000410000000040), (0, 5, 0x1000000000100000000010000000001000000000100000000)))))
noncomputable def zk_99_zs2_59_z42_readC_10 : zT 6 := @Prod.mk (zT 5) (zT 5) ((((zk_99_zs2_59_z42_readC_7, zk_99_zs2_59_z42_readC_7), (((3, 5, 0x4a0000000049000000004800000000470000000046), (0, 5, 0x1000000000100000000010000000001000000000100000000)), zk_99_zs2_59_z42_readC_7)), ((zk_99_zs2_59_z42_readC_7, zO1), zO2)), zO4) zO5
noncomputable def hw_42 : zH 7 := (show zT 7 from ((((((zk_99_zs2_59_z42_readC_1, zk_99_zs2_59_z42_readC_2), zk_99_zs2_59_z42_readC_4), zk_99_zs2_59_z42_readC_6), zk_99_zs2_59_z42_readC_8), zk_99_zs2_59_z42_readC_9), zk_99_zs2_59_z42_readC_10), (74, (0, 0)))
noncomputable def zk_99_zs2_59_z42_readC_11 : zT 2 := @Prod.mk (zT 1) (zT 1) (zk_99_zs2_59_z42_readC_0, (18, 15, 0x1000000c8000000003d0000000024000000001d0000000003010000000001000000c9000000001c000000001b000000001a00000000190000000013000000000d00000000070000000005)) zk_99_zs2_59_z42_readC_2
noncomputable def hv_42 : zH 7 := (show zT 7 from (((((zk_99_zs2_59_z42_readC_11, zk_99_zs2_59_z42_readC_4), zk_99_zs2_59_z42_readC_6), zk_99_zs2_59_z42_readC_8), zk_99_zs2_59_z42_readC_9), zk_99_zs2_59_z42_readC_10), (74, (0, 0)))
noncomputable def hs_X2_add_42 : zH 2 := (show zT 2 from (((18, 15, 0x800000000f800000000e0000000002800000000c800000000b800000000a800000000980000000088000000007800000000680000000058000000004800000000380000000028000000001), (23, 14, 0x800000004e800000004d800000004c800000004b800000004a800000004980000000488000000047800000004680000000458000000044800000004300000000058000000041)), zk_99_zs2_59_z42_readC_5), (4, (0, 0)))
noncomputable def hs_X2_add_42_o0 : zH 2 := (show zT 2 from (((18, 15, 0x800000000f800000000e0000000002800000000c800000000b800000000a800000000980000000088000000007800000000680000000058000000004800000000380000000028000000001), (23, 14, 0x800000004e800000004d800000004c800000004b800000004a800000004980000000488000000047800000004680000000458000000044800000004300000000058000000041)), zk_99_zs2_59_z42_readC_5), (4, (0, 0)))
noncomputable def hs_X2_add_42_o1 : zH 2 := (show zT 2 from (((18, 15, 0x800000000f800000000e0000000002800000000c800000000b800000000a800000000980000000088000000007800000000680000000058000000004800000000380000000028000000001), (23, 14, 0x800000004e800000004d800000004c800000004b800000004a800000004980000000488000000047800000004680000000458000000044800000004300000000058000000041)), zk_99_zs2_59_z42_readC_5), (4, (0, 0)))
set_option maxRecDepth 100000 in
theorem ev_X2_add_42 : f_X2_addt [zR 1, zR 3, zI 4294967298, zR 4] hs_X2_add_42 (zrkL [(zI 0, hs_X2_add_42_o0), (zI 1, hs_X2_add_42_o1)]) = true := by decide +kernel
noncomputable def g_X2_add_42 {d : Nat} : List zV → zH d → zP d → Bool := zsmyL [(0, 0), (1, 12), (0, 1), (0, 3)] [zR 1, zR 3, zI 4294967298, zR 4] hs_X2_add_42 [(zI 0, hs_X2_add_42_o0), (zI 1, hs_X2_add_42_o1)]
theorem mg_X2_add_42 {d : Nat} : zMet (d := d) X_X2_add yX2_add 1 g_X2_add_42 := zMet_smL m_X2_addt ev_X2_add_42

noncomputable def hs_X2_multiply_42 : zH 2 := (show zT 2 from (((18, 15, 0x800000000f800000000e0000000002800000000c800000000b800000000a800000000980000000088000000007800000000680000000058000000004800000000380000000028000000001), (23, 14, 0x800000004e800000004d800000004c800000004b800000004a800000004980000000488000000047800000004680000000458000000044800000004300000000058000000041)), zk_99_zs2_59_z42_readC_5), (4, (0, 0)))
noncomputable def hs_X2_multiply_42_o0 : zH 2 := (show zT 2 from (((18, 15, 0x800000000f800000000e0000000002800000000c800000000b800000000a800000000980000000088000000007800000000680000000058000000004800000000380000000028000000001), (23, 14, 0x800000004e800000004d800000004c800000004b800000004a800000004980000000488000000047800000004680000000458000000044800000004300000000058000000041)), zk_99_zs2_59_z42_readC_5), (4, (0, 0)))
noncomputable def hs_X2_multiply_42_o1 : zH 2 := (show zT 2 from (((18, 15, 0x800000000f800000000e0000000002800000000c800000000b800000000a800000000980000000088000000007800000000680000000058000000004800000000380000000028000000001), (23, 14, 0x800000004e800000004d800000004c800000004b800000004a800000004980000000488000000047800000004680000000458000000044800000004300000000058000000041)), zk_99_zs2_59_z42_readC_5), (4, (0, 0)))
set_option maxRecDepth 100000 in
theorem ev_X2_multiply_42 : f_X2_multiplyt [zR 1, zR 3, zR 4] hs_X2_multiply_42 (zrkL [(zI 0, hs_X2_multiply_42_o0), (zI 1, hs_X2_multiply_42_o1)]) = true := by decide +kernel
noncomputable def g_X2_multiply_42 {d : Nat} : List zV → zH d → zP d → Bool := zsmyL [(0, 0), (1, 12), (0, 1), (0, 2)] [zR 1, zR 3, zR 4] hs_X2_multiply_42 [(zI 0, hs_X2_multiply_42_o0), (zI 1, hs_X2_multiply_42_o1)]
theorem mg_X2_multiply_42 {d : Nat} : zMet (d := d) X_X2_multiply yX2_multiply 1 g_X2_multiply_42 := zMet_smL m_X2_multiplyt ev_X2_multiply_42

set_option maxRecDepth 100000 in
theorem e_cO42_0 : f_X7_numberOft [zR 36, zR 28, zI 4294967497] hw_42 (zrkL [(zI 4294967295, hw_42), (zI 4294967301, hw_42)]) = true := by decide +kernel
noncomputable def g_cO42_0 : List zV → zH 7 → zP 7 → Bool := zocs [zR 36, zR 28, zI 4294967497] hw_42 [(zI 4294967295, hw_42), (zI 4294967301, hw_42)]
theorem m_cO42_0 : zMet X_X7_numberOf yX7_numberOf 1 g_cO42_0 := zMet_oc (m_X7_numberOft) e_cO42_0
noncomputable def h_cK42_4_o0 : zH 7 := (show zT 7 from ((((((zk_99_zs2_59_z42_readC_1, zk_99_zs2_59_z42_readC_2), (((17, 4, 0xf000000000601000000000100000004), (0, 15, zun 40 15 4294967296)), zk_99_zs2_59_z42_readC_3)), zk_99_zs2_59_z42_readC_6), zk_99_zs2_59_z42_readC_8), zk_99_zs2_59_z42_readC_9), zk_99_zs2_59_z42_readC_10), (74, (0, 0)))
set_option maxRecDepth 100000 in
theorem e_cK42_4 : (f_X2_takeCharactert g_cO42_0) [zR 2, zI 4, zI 4294967296] hw_42 (zrkL [(zI 0, h_cK42_4_o0), (zI 1, hw_42)]) = true := by decide +kernel
noncomputable def g_cK42_4 : List zV → zH 7 → zP 7 → Bool := zocs [zR 2, zI 4, zI 4294967296] hw_42 [(zI 0, h_cK42_4_o0), (zI 1, hw_42)]
theorem m_cK42_4 : zMet X_X2_takeCharacter yX2_takeCharacter 4 g_cK42_4 := zMet_oc (m_X2_takeCharactert _ _ m_cO42_0) e_cK42_4
set_option maxRecDepth 100000 in
theorem e_cL42_4 : f_X2_readSlott [zR 2, zI 4] hw_42 (zrkL [(zI 0, hw_42), (zI 1, hw_42)]) = true := by decide +kernel
noncomputable def g_cL42_4 : List zV → zH 7 → zP 7 → Bool := zocs [zR 2, zI 4] hw_42 [(zI 0, hw_42), (zI 1, hw_42)]
theorem m_cL42_4 : zMet X_X2_readSlot yX2_readSlot 3 g_cL42_4 := zMet_oc (m_X2_readSlott) e_cL42_4
noncomputable def h_cB42_4_o0 : zH 7 := (show zT 7 from (((((zk_99_zs2_59_z42_readC_11, (((17, 4, 0xf000000000601000000c80000000005), (0, 15, zun 40 15 4294967296)), zk_99_zs2_59_z42_readC_3)), zk_99_zs2_59_z42_readC_6), zk_99_zs2_59_z42_readC_8), zk_99_zs2_59_z42_readC_9), zk_99_zs2_59_z42_readC_10), (74, (0, 0)))
set_option maxRecDepth 100000 in
theorem e_cB42_4 : (f_X2_readInBracketst (fun _ _ _ => false)) [zR 2, zI 4] hv_42 (zrkL [(zI 0, h_cB42_4_o0)]) = true := by decide +kernel
noncomputable def g_cB42_4 : List zV → zH 7 → zP 7 → Bool := zocs [zR 2, zI 4] hv_42 [(zI 0, h_cB42_4_o0)]
theorem m_cB42_4 : zMet X_X2_readInBrackets yX2_readInBrackets 3 g_cB42_4 := zMet_oc (m_X2_readInBracketst 0 _ zfalse) e_cB42_4
set_option maxRecDepth 100000 in
theorem e_cF42_4 : (f_X2_readFactort g_cB42_4 g_cL42_4 g_cK42_4) [zR 2, zI 4] hw_42 (zrkL [(zI 0, hw_42), (zI 1, hw_42)]) = true := by decide +kernel
noncomputable def g_cF42_4 : List zV → zH 7 → zP 7 → Bool := zocs [zR 2, zI 4] hw_42 [(zI 0, hw_42), (zI 1, hw_42)]
theorem m_cF42_4 : zMet X_X2_readFactor yX2_readFactor 14 g_cF42_4 := zMet_oc (m_X2_readFactort _ _ _ _ _ _ m_cB42_4 m_cL42_4 m_cK42_4) e_cF42_4
set_option maxRecDepth 100000 in
theorem e_cT42_4 : (f_X2_readTermt g_cF42_4 g_X2_multiply_42) [zR 2, zI 4] hw_42 (zrkL [(zI 0, hw_42), (zI 1, hw_42)]) = true := by decide +kernel
noncomputable def g_cT42_4 : List zV → zH 7 → zP 7 → Bool := zocs [zR 2, zI 4] hw_42 [(zI 0, hw_42), (zI 1, hw_42)]
theorem m_cT42_4 : zMet X_X2_readTerm yX2_readTerm 18 g_cT42_4 := zMet_oc (m_X2_readTermt _ _ _ _ m_cF42_4 mg_X2_multiply_42) e_cT42_4
set_option maxRecDepth 100000 in
theorem e_cS42_4 : (f_X2_readSumt g_cT42_4 g_X2_add_42) [zR 2, zI 4] hw_42 (zrkL [(zI 0, hw_42), (zI 1, hw_42)]) = true := by decide +kernel
noncomputable def g_cS42_4 : List zV → zH 7 → zP 7 → Bool := zocs [zR 2, zI 4] hw_42 [(zI 0, hw_42), (zI 1, hw_42)]
theorem m_cS42_4 : zMet X_X2_readSum yX2_readSum 22 g_cS42_4 := zMet_oc (m_X2_readSumt _ _ _ _ m_cT42_4 mg_X2_add_42) e_cS42_4
noncomputable def h_cK42_3_o0 : zH 7 := (show zT 7 from ((((((zk_99_zs2_59_z42_readC_1, zk_99_zs2_59_z42_readC_2), (((17, 4, 0xc000000000601000000000100000004), (0, 15, zun 40 15 4294967296)), zk_99_zs2_59_z42_readC_3)), zk_99_zs2_59_z42_readC_6), zk_99_zs2_59_z42_readC_8), zk_99_zs2_59_z42_readC_9), zk_99_zs2_59_z42_readC_10), (74, (0, 0)))
set_option maxRecDepth 100000 in
theorem e_cK42_3 : (f_X2_takeCharactert g_cO42_0) [zR 2, zI 3, zI 4294967296] hw_42 (zrkL [(zI 0, h_cK42_3_o0), (zI 1, hw_42)]) = true := by decide +kernel
noncomputable def g_cK42_3 : List zV → zH 7 → zP 7 → Bool := zocs [zR 2, zI 3, zI 4294967296] hw_42 [(zI 0, h_cK42_3_o0), (zI 1, hw_42)]
theorem m_cK42_3 : zMet X_X2_takeCharacter yX2_takeCharacter 4 g_cK42_3 := zMet_oc (m_X2_takeCharactert _ _ m_cO42_0) e_cK42_3
set_option maxRecDepth 100000 in
theorem e_cL42_3 : f_X2_readSlott [zR 2, zI 3] hw_42 (zrkL [(zI 0, hw_42), (zI 1, hw_42)]) = true := by decide +kernel
noncomputable def g_cL42_3 : List zV → zH 7 → zP 7 → Bool := zocs [zR 2, zI 3] hw_42 [(zI 0, hw_42), (zI 1, hw_42)]
theorem m_cL42_3 : zMet X_X2_readSlot yX2_readSlot 3 g_cL42_3 := zMet_oc (m_X2_readSlott) e_cL42_3
set_option maxRecDepth 100000 in
theorem e_cB42_3 : (f_X2_readInBracketst g_cS42_4) [zR 2, zI 3] hv_42 (zrkL [(zI 0, hw_42), (zI 1, hw_42)]) = true := by decide +kernel
noncomputable def g_cB42_3 : List zV → zH 7 → zP 7 → Bool := zocs [zR 2, zI 3] hv_42 [(zI 0, hw_42), (zI 1, hw_42)]
theorem m_cB42_3 : zMet X_X2_readInBrackets yX2_readInBrackets 25 g_cB42_3 := zMet_oc (m_X2_readInBracketst 22 _ m_cS42_4) e_cB42_3
set_option maxRecDepth 100000 in
theorem e_cF42_3 : (f_X2_readFactort g_cB42_3 g_cL42_3 g_cK42_3) [zR 2, zI 3] hw_42 (zrkL [(zI 0, hw_42), (zI 1, hw_42)]) = true := by decide +kernel
noncomputable def g_cF42_3 : List zV → zH 7 → zP 7 → Bool := zocs [zR 2, zI 3] hw_42 [(zI 0, hw_42), (zI 1, hw_42)]
theorem m_cF42_3 : zMet X_X2_readFactor yX2_readFactor 36 g_cF42_3 := zMet_oc (m_X2_readFactort _ _ _ _ _ _ m_cB42_3 m_cL42_3 m_cK42_3) e_cF42_3
set_option maxRecDepth 100000 in
theorem e_cT42_3 : (f_X2_readTermt g_cF42_3 g_X2_multiply_42) [zR 2, zI 3] hw_42 (zrkL [(zI 0, hw_42), (zI 1, hw_42)]) = true := by decide +kernel
noncomputable def g_cT42_3 : List zV → zH 7 → zP 7 → Bool := zocs [zR 2, zI 3] hw_42 [(zI 0, hw_42), (zI 1, hw_42)]
theorem m_cT42_3 : zMet X_X2_readTerm yX2_readTerm 40 g_cT42_3 := zMet_oc (m_X2_readTermt _ _ _ _ m_cF42_3 mg_X2_multiply_42) e_cT42_3
set_option maxRecDepth 100000 in
theorem e_cS42_3 : (f_X2_readSumt g_cT42_3 g_X2_add_42) [zR 2, zI 3] hw_42 (zrkL [(zI 0, hw_42), (zI 1, hw_42)]) = true := by decide +kernel
noncomputable def g_cS42_3 : List zV → zH 7 → zP 7 → Bool := zocs [zR 2, zI 3] hw_42 [(zI 0, hw_42), (zI 1, hw_42)]
theorem m_cS42_3 : zMet X_X2_readSum yX2_readSum 44 g_cS42_3 := zMet_oc (m_X2_readSumt _ _ _ _ m_cT42_3 mg_X2_add_42) e_cS42_3
noncomputable def h_cK42_2_o0 : zH 7 := (show zT 7 from ((((((zk_99_zs2_59_z42_readC_1, zk_99_zs2_59_z42_readC_2), (((17, 4, 0x9000000000601000000000100000004), (0, 15, zun 40 15 4294967296)), zk_99_zs2_59_z42_readC_3)), zk_99_zs2_59_z42_readC_6), zk_99_zs2_59_z42_readC_8), zk_99_zs2_59_z42_readC_9), zk_99_zs2_59_z42_readC_10), (74, (0, 0)))
set_option maxRecDepth 100000 in
theorem e_cK42_2 : (f_X2_takeCharactert g_cO42_0) [zR 2, zI 2, zI 4294967296] hw_42 (zrkL [(zI 0, h_cK42_2_o0), (zI 1, hw_42)]) = true := by decide +kernel
noncomputable def g_cK42_2 : List zV → zH 7 → zP 7 → Bool := zocs [zR 2, zI 2, zI 4294967296] hw_42 [(zI 0, h_cK42_2_o0), (zI 1, hw_42)]
theorem m_cK42_2 : zMet X_X2_takeCharacter yX2_takeCharacter 4 g_cK42_2 := zMet_oc (m_X2_takeCharactert _ _ m_cO42_0) e_cK42_2
set_option maxRecDepth 100000 in
theorem e_cL42_2 : f_X2_readSlott [zR 2, zI 2] hw_42 (zrkL [(zI 0, hw_42), (zI 1, hw_42)]) = true := by decide +kernel
noncomputable def g_cL42_2 : List zV → zH 7 → zP 7 → Bool := zocs [zR 2, zI 2] hw_42 [(zI 0, hw_42), (zI 1, hw_42)]
theorem m_cL42_2 : zMet X_X2_readSlot yX2_readSlot 3 g_cL42_2 := zMet_oc (m_X2_readSlott) e_cL42_2
set_option maxRecDepth 100000 in
theorem e_cB42_2 : (f_X2_readInBracketst g_cS42_3) [zR 2, zI 2] hv_42 (zrkL [(zI 0, hw_42), (zI 1, hw_42)]) = true := by decide +kernel
noncomputable def g_cB42_2 : List zV → zH 7 → zP 7 → Bool := zocs [zR 2, zI 2] hv_42 [(zI 0, hw_42), (zI 1, hw_42)]
theorem m_cB42_2 : zMet X_X2_readInBrackets yX2_readInBrackets 47 g_cB42_2 := zMet_oc (m_X2_readInBracketst 44 _ m_cS42_3) e_cB42_2
set_option maxRecDepth 100000 in
theorem e_cF42_2 : (f_X2_readFactort g_cB42_2 g_cL42_2 g_cK42_2) [zR 2, zI 2] hw_42 (zrkL [(zI 0, hw_42), (zI 1, hw_42)]) = true := by decide +kernel
noncomputable def g_cF42_2 : List zV → zH 7 → zP 7 → Bool := zocs [zR 2, zI 2] hw_42 [(zI 0, hw_42), (zI 1, hw_42)]
theorem m_cF42_2 : zMet X_X2_readFactor yX2_readFactor 58 g_cF42_2 := zMet_oc (m_X2_readFactort _ _ _ _ _ _ m_cB42_2 m_cL42_2 m_cK42_2) e_cF42_2
set_option maxRecDepth 100000 in
theorem e_cT42_2 : (f_X2_readTermt g_cF42_2 g_X2_multiply_42) [zR 2, zI 2] hw_42 (zrkL [(zI 0, hw_42), (zI 1, hw_42)]) = true := by decide +kernel
noncomputable def g_cT42_2 : List zV → zH 7 → zP 7 → Bool := zocs [zR 2, zI 2] hw_42 [(zI 0, hw_42), (zI 1, hw_42)]
theorem m_cT42_2 : zMet X_X2_readTerm yX2_readTerm 62 g_cT42_2 := zMet_oc (m_X2_readTermt _ _ _ _ m_cF42_2 mg_X2_multiply_42) e_cT42_2
set_option maxRecDepth 100000 in
theorem e_cS42_2 : (f_X2_readSumt g_cT42_2 g_X2_add_42) [zR 2, zI 2] hw_42 (zrkL [(zI 0, hw_42), (zI 1, hw_42)]) = true := by decide +kernel
noncomputable def g_cS42_2 : List zV → zH 7 → zP 7 → Bool := zocs [zR 2, zI 2] hw_42 [(zI 0, hw_42), (zI 1, hw_42)]
theorem m_cS42_2 : zMet X_X2_readSum yX2_readSum 66 g_cS42_2 := zMet_oc (m_X2_readSumt _ _ _ _ m_cT42_2 mg_X2_add_42) e_cS42_2
noncomputable def h_cK42_1_o0 : zH 7 := (show zT 7 from ((((((zk_99_zs2_59_z42_readC_1, zk_99_zs2_59_z42_readC_2), (((17, 4, 0x6000000000601000000000100000004), (0, 15, zun 40 15 4294967296)), zk_99_zs2_59_z42_readC_3)), zk_99_zs2_59_z42_readC_6), zk_99_zs2_59_z42_readC_8), zk_99_zs2_59_z42_readC_9), zk_99_zs2_59_z42_readC_10), (74, (0, 0)))
set_option maxRecDepth 100000 in
theorem e_cK42_1 : (f_X2_takeCharactert g_cO42_0) [zR 2, zI 1, zI 4294967296] hw_42 (zrkL [(zI 0, h_cK42_1_o0), (zI 1, hw_42)]) = true := by decide +kernel
noncomputable def g_cK42_1 : List zV → zH 7 → zP 7 → Bool := zocs [zR 2, zI 1, zI 4294967296] hw_42 [(zI 0, h_cK42_1_o0), (zI 1, hw_42)]
theorem m_cK42_1 : zMet X_X2_takeCharacter yX2_takeCharacter 4 g_cK42_1 := zMet_oc (m_X2_takeCharactert _ _ m_cO42_0) e_cK42_1
set_option maxRecDepth 100000 in
theorem e_cL42_1 : f_X2_readSlott [zR 2, zI 1] hw_42 (zrkL [(zI 0, hw_42), (zI 1, hw_42)]) = true := by decide +kernel
noncomputable def g_cL42_1 : List zV → zH 7 → zP 7 → Bool := zocs [zR 2, zI 1] hw_42 [(zI 0, hw_42), (zI 1, hw_42)]
theorem m_cL42_1 : zMet X_X2_readSlot yX2_readSlot 3 g_cL42_1 := zMet_oc (m_X2_readSlott) e_cL42_1
set_option maxRecDepth 100000 in
theorem e_cB42_1 : (f_X2_readInBracketst g_cS42_2) [zR 2, zI 1] hv_42 (zrkL [(zI 0, hw_42), (zI 1, hw_42)]) = true := by decide +kernel
noncomputable def g_cB42_1 : List zV → zH 7 → zP 7 → Bool := zocs [zR 2, zI 1] hv_42 [(zI 0, hw_42), (zI 1, hw_42)]
theorem m_cB42_1 : zMet X_X2_readInBrackets yX2_readInBrackets 69 g_cB42_1 := zMet_oc (m_X2_readInBracketst 66 _ m_cS42_2) e_cB42_1
set_option maxRecDepth 100000 in
theorem e_cF42_1 : (f_X2_readFactort g_cB42_1 g_cL42_1 g_cK42_1) [zR 2, zI 1] hw_42 (zrkL [(zI 0, hw_42), (zI 1, hw_42)]) = true := by decide +kernel
noncomputable def g_cF42_1 : List zV → zH 7 → zP 7 → Bool := zocs [zR 2, zI 1] hw_42 [(zI 0, hw_42), (zI 1, hw_42)]
theorem m_cF42_1 : zMet X_X2_readFactor yX2_readFactor 80 g_cF42_1 := zMet_oc (m_X2_readFactort _ _ _ _ _ _ m_cB42_1 m_cL42_1 m_cK42_1) e_cF42_1
set_option maxRecDepth 100000 in
theorem e_cT42_1 : (f_X2_readTermt g_cF42_1 g_X2_multiply_42) [zR 2, zI 1] hw_42 (zrkL [(zI 0, hw_42), (zI 1, hw_42)]) = true := by decide +kernel
noncomputable def g_cT42_1 : List zV → zH 7 → zP 7 → Bool := zocs [zR 2, zI 1] hw_42 [(zI 0, hw_42), (zI 1, hw_42)]
theorem m_cT42_1 : zMet X_X2_readTerm yX2_readTerm 84 g_cT42_1 := zMet_oc (m_X2_readTermt _ _ _ _ m_cF42_1 mg_X2_multiply_42) e_cT42_1
set_option maxRecDepth 100000 in
theorem e_cS42_1 : (f_X2_readSumt g_cT42_1 g_X2_add_42) [zR 2, zI 1] hw_42 (zrkL [(zI 0, hw_42), (zI 1, hw_42)]) = true := by decide +kernel
noncomputable def g_cS42_1 : List zV → zH 7 → zP 7 → Bool := zocs [zR 2, zI 1] hw_42 [(zI 0, hw_42), (zI 1, hw_42)]
theorem m_cS42_1 : zMet X_X2_readSum yX2_readSum 88 g_cS42_1 := zMet_oc (m_X2_readSumt _ _ _ _ m_cT42_1 mg_X2_add_42) e_cS42_1
noncomputable def h_cK42_0_o0 : zH 7 := (show zT 7 from ((((((zk_99_zs2_59_z42_readC_1, zk_99_zs2_59_z42_readC_2), (((17, 4, 0x3000000000601000000000100000004), (0, 15, zun 40 15 4294967296)), zk_99_zs2_59_z42_readC_3)), zk_99_zs2_59_z42_readC_6), zk_99_zs2_59_z42_readC_8), zk_99_zs2_59_z42_readC_9), zk_99_zs2_59_z42_readC_10), (74, (0, 0)))
set_option maxRecDepth 100000 in
theorem e_cK42_0 : (f_X2_takeCharactert g_cO42_0) [zR 2, zI 0, zI 4294967296] hw_42 (zrkL [(zI 0, h_cK42_0_o0), (zI 1, hw_42)]) = true := by decide +kernel
noncomputable def g_cK42_0 : List zV → zH 7 → zP 7 → Bool := zocs [zR 2, zI 0, zI 4294967296] hw_42 [(zI 0, h_cK42_0_o0), (zI 1, hw_42)]
theorem m_cK42_0 : zMet X_X2_takeCharacter yX2_takeCharacter 4 g_cK42_0 := zMet_oc (m_X2_takeCharactert _ _ m_cO42_0) e_cK42_0
set_option maxRecDepth 100000 in
theorem e_cL42_0 : f_X2_readSlott [zR 2, zI 0] hw_42 (zrkL [(zI 0, hw_42), (zI 1, hw_42)]) = true := by decide +kernel
noncomputable def g_cL42_0 : List zV → zH 7 → zP 7 → Bool := zocs [zR 2, zI 0] hw_42 [(zI 0, hw_42), (zI 1, hw_42)]
theorem m_cL42_0 : zMet X_X2_readSlot yX2_readSlot 3 g_cL42_0 := zMet_oc (m_X2_readSlott) e_cL42_0
set_option maxRecDepth 100000 in
theorem e_cB42_0 : (f_X2_readInBracketst g_cS42_1) [zR 2, zI 0] hv_42 (zrkL [(zI 0, hw_42), (zI 1, hw_42)]) = true := by decide +kernel
noncomputable def g_cB42_0 : List zV → zH 7 → zP 7 → Bool := zocs [zR 2, zI 0] hv_42 [(zI 0, hw_42), (zI 1, hw_42)]
theorem m_cB42_0 : zMet X_X2_readInBrackets yX2_readInBrackets 91 g_cB42_0 := zMet_oc (m_X2_readInBracketst 88 _ m_cS42_1) e_cB42_0
set_option maxRecDepth 100000 in
theorem e_cF42_0 : (f_X2_readFactort g_cB42_0 g_cL42_0 g_cK42_0) [zR 2, zI 0] hw_42 (zrkL [(zI 0, hw_42), (zI 1, hw_42)]) = true := by decide +kernel
noncomputable def g_cF42_0 : List zV → zH 7 → zP 7 → Bool := zocs [zR 2, zI 0] hw_42 [(zI 0, hw_42), (zI 1, hw_42)]
theorem m_cF42_0 : zMet X_X2_readFactor yX2_readFactor 102 g_cF42_0 := zMet_oc (m_X2_readFactort _ _ _ _ _ _ m_cB42_0 m_cL42_0 m_cK42_0) e_cF42_0
set_option maxRecDepth 100000 in
theorem e_cT42_0 : (f_X2_readTermt g_cF42_0 g_X2_multiply_42) [zR 2, zI 0] hw_42 (zrkL [(zI 0, hw_42), (zI 1, hw_42)]) = true := by decide +kernel
noncomputable def g_cT42_0 : List zV → zH 7 → zP 7 → Bool := zocs [zR 2, zI 0] hw_42 [(zI 0, hw_42), (zI 1, hw_42)]
theorem m_cT42_0 : zMet X_X2_readTerm yX2_readTerm 106 g_cT42_0 := zMet_oc (m_X2_readTermt _ _ _ _ m_cF42_0 mg_X2_multiply_42) e_cT42_0
set_option maxRecDepth 100000 in
theorem e_cS42_0 : (f_X2_readSumt g_cT42_0 g_X2_add_42) [zR 2, zI 0] hw_42 (zrkL [(zI 0, hw_42), (zI 1, hw_42)]) = true := by decide +kernel
noncomputable def g_cS42_0 : List zV → zH 7 → zP 7 → Bool := zocs [zR 2, zI 0] hw_42 [(zI 0, hw_42), (zI 1, hw_42)]
theorem m_cS42_0 : zMet X_X2_readSum yX2_readSum 110 g_cS42_0 := zMet_oc (m_X2_readSumt _ _ _ _ m_cT42_0 mg_X2_add_42) e_cS42_0
noncomputable def hw_42_t : zH 7 := (show zT 7 from ((((((zk_99_zs2_59_z42_readC_1, ((22, 2, 4), (0, 200, zun 40 200 4294967296))), zk_99_zs2_59_z42_readC_4), zk_99_zs2_59_z42_readC_6), zk_99_zs2_59_z42_readC_8), zk_99_zs2_59_z42_readC_9), zk_99_zs2_59_z42_readC_10), (74, (0, 0)))
set_option maxRecDepth 100000 in
theorem e_textC_42 : (zcutR 1 6 (f_X8_textt (f_X2_readt g_cS42_0))) [zR 1, zI 4294967296] hw_42 (zrkL [(zI 4294967296, hw_42_t)]) = true := by decide +kernel
noncomputable def g_textC_42 {d : Nat} : List zV → zH d → zP d → Bool := zsmyL [(0, 0), (1, 5), (1, 4), (3, 0), (2, 0), (5, 2), (2, 1), (7, 0), (7, 1), (7, 2), (7, 3), (7, 4), (2, 2), (13, 0), (13, 1), (13, 2), (13, 3), (13, 4), (2, 3), (19, 0), (19, 1), (19, 2), (19, 3), (19, 4), (2, 4), (2, 5), (2, 6), (2, 7), (1, 2), (29, 0), (29, 1), (29, 2), (29, 3), (29, 4), (29, 5), (2, 12), (36, 3), (37, 0), (37, 1), (37, 2), (37, 3), (37, 4), (38, 2), (39, 2), (40, 2), (41, 2), (42, 2), (36, 7), (36, 12), (49, 0), (49, 1), (49, 2), (49, 3), (49, 4), (36, 11), (55, 0), (55, 1), (55, 2), (55, 3), (55, 4), (2, 13), (61, 2), (61, 6), (63, 0), (63, 1), (63, 2), (63, 3), (63, 4), (61, 9), (69, 0), (69, 1), (69, 2), (69, 3), (69, 4)] [zR 1, zI 4294967296] hw_42 [(zI 4294967296, hw_42_t)]
theorem m_textC_42 {d : Nat} : zMet (d := d) X_X8_text yX8_text 115 g_textC_42 := zMet_smL (zMet_cutR (m_X8_textt _ _ (m_X2_readt _ _ m_cS42_0))) e_textC_42
end
section
/-! the class's reader at n = 43: by program -/
noncomputable def zk_99_zs2_59_z43_readC_0 : zC := (24, 8, 0x80000000088000000007000000000200000000038000000004000000001d80000000028000000001)
noncomputable def zk_99_zs2_59_z43_readC_1 : zT 1 := @Prod.mk (zT 0) (zT 0) zk_99_zs2_59_z43_readC_0 (18, 15, 0x1000000c9000000003d0000000024000000001d0000000003010000000001000000c9000000001c000000001b000000001a00000000190000000013000000000d00000000070000000005)
noncomputable def zk_99_zs2_59_z43_readC_2 : zT 1 := @Prod.mk (zT 0) (zT 0) (22, 2, 0x1000000c90000000004) (0, 200, zun 40 200 4294967296)
noncomputable def zk_99_zs2_59_z43_readC_3 : zT 1 := @Prod.mk (zT 0) (zT 0) (4, 5, 0xc000000000b000000000a00000000090000000008) (2, 11, zun 72 11 18446744073709551616)
noncomputable def zk_99_zs2_59_z43_readC_4 : zT 2 := @Prod.mk (zT 1) (zT 1) ((17, 4, 0x100000010000000000601000000000100000000), (0, 15, zun 40 15 4294967296)) zk_99_zs2_59_z43_readC_3
noncomputable def zk_99_zs2_59_z43_readC_5 : zT 1 := @Prod.mk (zT 0) (zT 0) (2, 11, zun 72 11 18446744073709551616) (2, 11, zun 72 11 18446744073709551616)
noncomputable def zk_99_zs2_59_z43_readC_6 : zT 3 := @Prod.mk (zT 2) (zT 2) (zk_99_zs2_59_z43_readC_5, zk_99_zs2_59_z43_readC_5) (((4, 5, 0x1200000000110000000010000000000f000000000e), (2, 11, zun 72 11 18446744073709551616)), zk_99_zs2_59_z43_readC_5)
noncomputable def zk_99_zs2_59_z43_readC_7 : zT 1 := @Prod.mk (zT 0) (zT 0) (0, 5, 0x1000000000100000000010000000001000000000100000000) (0, 5, 0x1000000000100000000010000000001000000000100000000)
noncomputable def zk_99_zs2_59_z43_readC_8 : zT 4 := @Prod.mk (zT 3) (zT 3) ((zk_99_zs2_59_z43_readC_5, ((4, 5, 0x180000000017000000001600000000150000000014), (2, 11, zun 72 11 18446744073709551616))), (zk_99_zs2_59_z43_readC_5, zk_99_zs2_59_z43_readC_5)) ((zk_99_zs2_59_z43_readC_7, ((0, 5, 0x1000000000100000000010000000001000000000100000000), (0, 6, 0x10000000001000000000100000000010000000001000000000100000000))), (((4, 6, 0x23000000002200000000210000000020000000001f000000001e), (2, 11, zun 72 11 18446744073709551616)), zk_99_zs2_59_z43_readC_5))
noncomputable def zk_99_zs2_59_z43_readC_9 : zT 5 := @Prod.mk (zT 4) (zT 4) (((zk_99_zs2_59_z43_readC_5, ((2, 11, zun 72 11 18446744073709551616), (23, 14, 0x80000008ce0000000031000000003780000008cb80000008ca80000008c9000000003080000008c780000008c680000008c5000000002580000008c3000000000580000008c1))), (((5, 5, 0x2a0000000029000000002800000000270000000026), (20, 16, 0x8000000950800000094f800000094e800000094d800000094c800000094b800000094a800000094980000009488000000947800000094680000009458000000944000000002b80000009428000000941)), ((20, 16, 0x8000000990800000098f800000098e800000098d800000098c800000098b800000098a800000098980000009888000000987800000098680000009858000000984000000002c80000009828000000981), (20, 16, 0x80000009d080000009cf80000009ce80000009cd80000009cc80000009cb80000009ca80000009c980000009c880000009c780000009c680000009c580000009c4000000002d80000009c280000009c1)))), ((((20, 16, 0x8000000a108000000a0f8000000a0e8000000a0d8000000a0c8000000a0b8000000a0a8000000a098000000a088000000a078000000a068000000a058000000a04000000002e8000000a028000000a01), (20, 16, 0x8000000a508000000a4f8000000a4e8000000a4d8000000a4c8000000a4b8000000a4a8000000a498000000a488000000a478000000a468000000a458000000a44000000002f8000000a428000000a41)), ((0, 1, 4), (0, 2, 0x10000000003))), (((0, 2, 0x20000000002), (0, 3, 0x100000000010000000002)), ((0, 4, 0x1000000000100000000010000000001), (0, 5, 0x100ffffffff0000000001000000000100ffffffff))))) (((((3, 5, 0x360000000035000000003400000000330000000032), (0, 5, 0x1000000000100000000010000000001000000000100000000)), zk_99_zs2_59_z43_readC_7), (zk_99_zs2_59_z43_readC_7, ((3, 5, 0x3c000000003b000000003a00000000390000000038), (0, 5, 0x1000000000100000000010000000001000000000100000000)))), ((zk_99_zs2_59_z43_readC_7, zk_99_zs2_59_z43_readC_7), (((21, 12, 0x8000000f0c8000000f0b00000000458000000f098000000f08000000003f8000000f068000000f058000000f04000000003e8000000f028000000f01), (0, 5, 0xffffffff0000000003000000000200000000010000000000)), ((3, 5, 0x440000000043000000004200000000410000000040), (0, 5, 0x1000000000100000000010000000001000000000100000000)))))
noncomputable def zk_99_zs2_59_z43_readC_10 : zT 6 := @Prod.mk (zT 5) (zT 5) ((((zk_99_zs2_59_z43_readC_7, zk_99_zs2_59_z43_readC_7), (((3, 5, 0x4a0000000049000000004800000000470000000046), (0, 5, 0x1000000000100000000010000000001000000000100000000)), zk_99_zs2_59_z43_readC_7)), ((zk_99_zs2_59_z43_readC_7, zO1), zO2)), zO4) zO5
noncomputable def hw_43 : zH 7 := (show zT 7 from ((((((zk_99_zs2_59_z43_readC_1, zk_99_zs2_59_z43_readC_2), zk_99_zs2_59_z43_readC_4), zk_99_zs2_59_z43_readC_6), zk_99_zs2_59_z43_readC_8), zk_99_zs2_59_z43_readC_9), zk_99_zs2_59_z43_readC_10), (74, (0, 0)))
noncomputable def zk_99_zs2_59_z43_readC_11 : zT 2 := @Prod.mk (zT 1) (zT 1) (zk_99_zs2_59_z43_readC_0, (18, 15, 0x1000000c8000000003d0000000024000000001d0000000003010000000001000000c9000000001c000000001b000000001a00000000190000000013000000000d00000000070000000005)) zk_99_zs2_59_z43_readC_2
noncomputable def hv_43 : zH 7 := (show zT 7 from (((((zk_99_zs2_59_z43_readC_11, zk_99_zs2_59_z43_readC_4), zk_99_zs2_59_z43_readC_6), zk_99_zs2_59_z43_readC_8), zk_99_zs2_59_z43_readC_9), zk_99_zs2_59_z43_readC_10), (74, (0, 0)))
noncomputable def hs_X2_add_43 : zH 2 := (show zT 2 from (((18, 15, 0x800000000f800000000e0000000002800000000c800000000b800000000a800000000980000000088000000007800000000680000000058000000004800000000380000000028000000001), (23, 14, 0x800000004e800000004d800000004c800000004b800000004a800000004980000000488000000047800000004680000000458000000044800000004300000000058000000041)), zk_99_zs2_59_z43_readC_5), (4, (0, 0)))
noncomputable def hs_X2_add_43_o0 : zH 2 := (show zT 2 from (((18, 15, 0x800000000f800000000e0000000002800000000c800000000b800000000a800000000980000000088000000007800000000680000000058000000004800000000380000000028000000001), (23, 14, 0x800000004e800000004d800000004c800000004b800000004a800000004980000000488000000047800000004680000000458000000044800000004300000000058000000041)), zk_99_zs2_59_z43_readC_5), (4, (0, 0)))
noncomputable def hs_X2_add_43_o1 : zH 2 := (show zT 2 from (((18, 15, 0x800000000f800000000e0000000002800000000c800000000b800000000a800000000980000000088000000007800000000680000000058000000004800000000380000000028000000001), (23, 14, 0x800000004e800000004d800000004c800000004b800000004a800000004980000000488000000047800000004680000000458000000044800000004300000000058000000041)), zk_99_zs2_59_z43_readC_5), (4, (0, 0)))
set_option maxRecDepth 100000 in
theorem ev_X2_add_43 : f_X2_addt [zR 1, zR 3, zI 4294967298, zR 4] hs_X2_add_43 (zrkL [(zI 0, hs_X2_add_43_o0), (zI 1, hs_X2_add_43_o1)]) = true := by decide +kernel
noncomputable def g_X2_add_43 {d : Nat} : List zV → zH d → zP d → Bool := zsmyL [(0, 0), (1, 12), (0, 1), (0, 3)] [zR 1, zR 3, zI 4294967298, zR 4] hs_X2_add_43 [(zI 0, hs_X2_add_43_o0), (zI 1, hs_X2_add_43_o1)]
theorem mg_X2_add_43 {d : Nat} : zMet (d := d) X_X2_add yX2_add 1 g_X2_add_43 := zMet_smL m_X2_addt ev_X2_add_43

noncomputable def hs_X2_multiply_43 : zH 2 := (show zT 2 from (((18, 15, 0x800000000f800000000e0000000002800000000c800000000b800000000a800000000980000000088000000007800000000680000000058000000004800000000380000000028000000001), (23, 14, 0x800000004e800000004d800000004c800000004b800000004a800000004980000000488000000047800000004680000000458000000044800000004300000000058000000041)), zk_99_zs2_59_z43_readC_5), (4, (0, 0)))
noncomputable def hs_X2_multiply_43_o0 : zH 2 := (show zT 2 from (((18, 15, 0x800000000f800000000e0000000002800000000c800000000b800000000a800000000980000000088000000007800000000680000000058000000004800000000380000000028000000001), (23, 14, 0x800000004e800000004d800000004c800000004b800000004a800000004980000000488000000047800000004680000000458000000044800000004300000000058000000041)), zk_99_zs2_59_z43_readC_5), (4, (0, 0)))
noncomputable def hs_X2_multiply_43_o1 : zH 2 := (show zT 2 from (((18, 15, 0x800000000f800000000e0000000002800000000c800000000b800000000a800000000980000000088000000007800000000680000000058000000004800000000380000000028000000001), (23, 14, 0x800000004e800000004d800000004c800000004b800000004a800000004980000000488000000047800000004680000000458000000044800000004300000000058000000041)), zk_99_zs2_59_z43_readC_5), (4, (0, 0)))
set_option maxRecDepth 100000 in
theorem ev_X2_multiply_43 : f_X2_multiplyt [zR 1, zR 3, zR 4] hs_X2_multiply_43 (zrkL [(zI 0, hs_X2_multiply_43_o0), (zI 1, hs_X2_multiply_43_o1)]) = true := by decide +kernel
noncomputable def g_X2_multiply_43 {d : Nat} : List zV → zH d → zP d → Bool := zsmyL [(0, 0), (1, 12), (0, 1), (0, 2)] [zR 1, zR 3, zR 4] hs_X2_multiply_43 [(zI 0, hs_X2_multiply_43_o0), (zI 1, hs_X2_multiply_43_o1)]
theorem mg_X2_multiply_43 {d : Nat} : zMet (d := d) X_X2_multiply yX2_multiply 1 g_X2_multiply_43 := zMet_smL m_X2_multiplyt ev_X2_multiply_43

set_option maxRecDepth 100000 in
theorem e_cO43_0 : f_X7_numberOft [zR 36, zR 28, zI 4294967497] hw_43 (zrkL [(zI 4294967295, hw_43), (zI 4294967301, hw_43)]) = true := by decide +kernel
noncomputable def g_cO43_0 : List zV → zH 7 → zP 7 → Bool := zocs [zR 36, zR 28, zI 4294967497] hw_43 [(zI 4294967295, hw_43), (zI 4294967301, hw_43)]
theorem m_cO43_0 : zMet X_X7_numberOf yX7_numberOf 1 g_cO43_0 := zMet_oc (m_X7_numberOft) e_cO43_0
noncomputable def h_cK43_4_o0 : zH 7 := (show zT 7 from ((((((zk_99_zs2_59_z43_readC_1, zk_99_zs2_59_z43_readC_2), (((17, 4, 0xf000000000601000000000100000004), (0, 15, zun 40 15 4294967296)), zk_99_zs2_59_z43_readC_3)), zk_99_zs2_59_z43_readC_6), zk_99_zs2_59_z43_readC_8), zk_99_zs2_59_z43_readC_9), zk_99_zs2_59_z43_readC_10), (74, (0, 0)))
set_option maxRecDepth 100000 in
theorem e_cK43_4 : (f_X2_takeCharactert g_cO43_0) [zR 2, zI 4, zI 4294967296] hw_43 (zrkL [(zI 0, h_cK43_4_o0), (zI 1, hw_43)]) = true := by decide +kernel
noncomputable def g_cK43_4 : List zV → zH 7 → zP 7 → Bool := zocs [zR 2, zI 4, zI 4294967296] hw_43 [(zI 0, h_cK43_4_o0), (zI 1, hw_43)]
theorem m_cK43_4 : zMet X_X2_takeCharacter yX2_takeCharacter 4 g_cK43_4 := zMet_oc (m_X2_takeCharactert _ _ m_cO43_0) e_cK43_4
set_option maxRecDepth 100000 in
theorem e_cL43_4 : f_X2_readSlott [zR 2, zI 4] hw_43 (zrkL [(zI 0, hw_43), (zI 1, hw_43)]) = true := by decide +kernel
noncomputable def g_cL43_4 : List zV → zH 7 → zP 7 → Bool := zocs [zR 2, zI 4] hw_43 [(zI 0, hw_43), (zI 1, hw_43)]
theorem m_cL43_4 : zMet X_X2_readSlot yX2_readSlot 3 g_cL43_4 := zMet_oc (m_X2_readSlott) e_cL43_4
noncomputable def h_cB43_4_o0 : zH 7 := (show zT 7 from (((((zk_99_zs2_59_z43_readC_11, (((17, 4, 0xf000000000601000000c80000000005), (0, 15, zun 40 15 4294967296)), zk_99_zs2_59_z43_readC_3)), zk_99_zs2_59_z43_readC_6), zk_99_zs2_59_z43_readC_8), zk_99_zs2_59_z43_readC_9), zk_99_zs2_59_z43_readC_10), (74, (0, 0)))
set_option maxRecDepth 100000 in
theorem e_cB43_4 : (f_X2_readInBracketst (fun _ _ _ => false)) [zR 2, zI 4] hv_43 (zrkL [(zI 0, h_cB43_4_o0)]) = true := by decide +kernel
noncomputable def g_cB43_4 : List zV → zH 7 → zP 7 → Bool := zocs [zR 2, zI 4] hv_43 [(zI 0, h_cB43_4_o0)]
theorem m_cB43_4 : zMet X_X2_readInBrackets yX2_readInBrackets 3 g_cB43_4 := zMet_oc (m_X2_readInBracketst 0 _ zfalse) e_cB43_4
set_option maxRecDepth 100000 in
theorem e_cF43_4 : (f_X2_readFactort g_cB43_4 g_cL43_4 g_cK43_4) [zR 2, zI 4] hw_43 (zrkL [(zI 0, hw_43), (zI 1, hw_43)]) = true := by decide +kernel
noncomputable def g_cF43_4 : List zV → zH 7 → zP 7 → Bool := zocs [zR 2, zI 4] hw_43 [(zI 0, hw_43), (zI 1, hw_43)]
theorem m_cF43_4 : zMet X_X2_readFactor yX2_readFactor 14 g_cF43_4 := zMet_oc (m_X2_readFactort _ _ _ _ _ _ m_cB43_4 m_cL43_4 m_cK43_4) e_cF43_4
set_option maxRecDepth 100000 in
theorem e_cT43_4 : (f_X2_readTermt g_cF43_4 g_X2_multiply_43) [zR 2, zI 4] hw_43 (zrkL [(zI 0, hw_43), (zI 1, hw_43)]) = true := by decide +kernel
noncomputable def g_cT43_4 : List zV → zH 7 → zP 7 → Bool := zocs [zR 2, zI 4] hw_43 [(zI 0, hw_43), (zI 1, hw_43)]
theorem m_cT43_4 : zMet X_X2_readTerm yX2_readTerm 18 g_cT43_4 := zMet_oc (m_X2_readTermt _ _ _ _ m_cF43_4 mg_X2_multiply_43) e_cT43_4
set_option maxRecDepth 100000 in
theorem e_cS43_4 : (f_X2_readSumt g_cT43_4 g_X2_add_43) [zR 2, zI 4] hw_43 (zrkL [(zI 0, hw_43), (zI 1, hw_43)]) = true := by decide +kernel
noncomputable def g_cS43_4 : List zV → zH 7 → zP 7 → Bool := zocs [zR 2, zI 4] hw_43 [(zI 0, hw_43), (zI 1, hw_43)]
theorem m_cS43_4 : zMet X_X2_readSum yX2_readSum 22 g_cS43_4 := zMet_oc (m_X2_readSumt _ _ _ _ m_cT43_4 mg_X2_add_43) e_cS43_4
noncomputable def h_cK43_3_o0 : zH 7 := (show zT 7 from ((((((zk_99_zs2_59_z43_readC_1, zk_99_zs2_59_z43_readC_2), (((17, 4, 0xc000000000601000000000100000004), (0, 15, zun 40 15 4294967296)), zk_99_zs2_59_z43_readC_3)), zk_99_zs2_59_z43_readC_6), zk_99_zs2_59_z43_readC_8), zk_99_zs2_59_z43_readC_9), zk_99_zs2_59_z43_readC_10), (74, (0, 0)))
set_option maxRecDepth 100000 in
theorem e_cK43_3 : (f_X2_takeCharactert g_cO43_0) [zR 2, zI 3, zI 4294967296] hw_43 (zrkL [(zI 0, h_cK43_3_o0), (zI 1, hw_43)]) = true := by decide +kernel
noncomputable def g_cK43_3 : List zV → zH 7 → zP 7 → Bool := zocs [zR 2, zI 3, zI 4294967296] hw_43 [(zI 0, h_cK43_3_o0), (zI 1, hw_43)]
theorem m_cK43_3 : zMet X_X2_takeCharacter yX2_takeCharacter 4 g_cK43_3 := zMet_oc (m_X2_takeCharactert _ _ m_cO43_0) e_cK43_3
set_option maxRecDepth 100000 in
theorem e_cL43_3 : f_X2_readSlott [zR 2, zI 3] hw_43 (zrkL [(zI 0, hw_43), (zI 1, hw_43)]) = true := by decide +kernel
noncomputable def g_cL43_3 : List zV → zH 7 → zP 7 → Bool := zocs [zR 2, zI 3] hw_43 [(zI 0, hw_43), (zI 1, hw_43)]
theorem m_cL43_3 : zMet X_X2_readSlot yX2_readSlot 3 g_cL43_3 := zMet_oc (m_X2_readSlott) e_cL43_3
set_option maxRecDepth 100000 in
theorem e_cB43_3 : (f_X2_readInBracketst g_cS43_4) [zR 2, zI 3] hv_43 (zrkL [(zI 0, hw_43), (zI 1, hw_43)]) = true := by decide +kernel
noncomputable def g_cB43_3 : List zV → zH 7 → zP 7 → Bool := zocs [zR 2, zI 3] hv_43 [(zI 0, hw_43), (zI 1, hw_43)]
theorem m_cB43_3 : zMet X_X2_readInBrackets yX2_readInBrackets 25 g_cB43_3 := zMet_oc (m_X2_readInBracketst 22 _ m_cS43_4) e_cB43_3
set_option maxRecDepth 100000 in
theorem e_cF43_3 : (f_X2_readFactort g_cB43_3 g_cL43_3 g_cK43_3) [zR 2, zI 3] hw_43 (zrkL [(zI 0, hw_43), (zI 1, hw_43)]) = true := by decide +kernel
noncomputable def g_cF43_3 : List zV → zH 7 → zP 7 → Bool := zocs [zR 2, zI 3] hw_43 [(zI 0, hw_43), (zI 1, hw_43)]
theorem m_cF43_3 : zMet X_X2_readFactor yX2_readFactor 36 g_cF43_3 := zMet_oc (m_X2_readFactort _ _ _ _ _ _ m_cB43_3 m_cL43_3 m_cK43_3) e_cF43_3
set_option maxRecDepth 100000 in
theorem e_cT43_3 : (f_X2_readTermt g_cF43_3 g_X2_multiply_43) [zR 2, zI 3] hw_43 (zrkL [(zI 0, hw_43), (zI 1, hw_43)]) = true := by decide +kernel
noncomputable def g_cT43_3 : List zV → zH 7 → zP 7 → Bool := zocs [zR 2, zI 3] hw_43 [(zI 0, hw_43), (zI 1, hw_43)]
theorem m_cT43_3 : zMet X_X2_readTerm yX2_readTerm 40 g_cT43_3 := zMet_oc (m_X2_readTermt _ _ _ _ m_cF43_3 mg_X2_multiply_43) e_cT43_3
set_option maxRecDepth 100000 in
theorem e_cS43_3 : (f_X2_readSumt g_cT43_3 g_X2_add_43) [zR 2, zI 3] hw_43 (zrkL [(zI 0, hw_43), (zI 1, hw_43)]) = true := by decide +kernel
noncomputable def g_cS43_3 : List zV → zH 7 → zP 7 → Bool := zocs [zR 2, zI 3] hw_43 [(zI 0, hw_43), (zI 1, hw_43)]
theorem m_cS43_3 : zMet X_X2_readSum yX2_readSum 44 g_cS43_3 := zMet_oc (m_X2_readSumt _ _ _ _ m_cT43_3 mg_X2_add_43) e_cS43_3
noncomputable def h_cK43_2_o0 : zH 7 := (show zT 7 from ((((((zk_99_zs2_59_z43_readC_1, zk_99_zs2_59_z43_readC_2), (((17, 4, 0x9000000000601000000000100000004), (0, 15, zun 40 15 4294967296)), zk_99_zs2_59_z43_readC_3)), zk_99_zs2_59_z43_readC_6), zk_99_zs2_59_z43_readC_8), zk_99_zs2_59_z43_readC_9), zk_99_zs2_59_z43_readC_10), (74, (0, 0)))
set_option maxRecDepth 100000 in
theorem e_cK43_2 : (f_X2_takeCharactert g_cO43_0) [zR 2, zI 2, zI 4294967296] hw_43 (zrkL [(zI 0, h_cK43_2_o0), (zI 1, hw_43)]) = true := by decide +kernel
noncomputable def g_cK43_2 : List zV → zH 7 → zP 7 → Bool := zocs [zR 2, zI 2, zI 4294967296] hw_43 [(zI 0, h_cK43_2_o0), (zI 1, hw_43)]
theorem m_cK43_2 : zMet X_X2_takeCharacter yX2_takeCharacter 4 g_cK43_2 := zMet_oc (m_X2_takeCharactert _ _ m_cO43_0) e_cK43_2
set_option maxRecDepth 100000 in
theorem e_cL43_2 : f_X2_readSlott [zR 2, zI 2] hw_43 (zrkL [(zI 0, hw_43), (zI 1, hw_43)]) = true := by decide +kernel
noncomputable def g_cL43_2 : List zV → zH 7 → zP 7 → Bool := zocs [zR 2, zI 2] hw_43 [(zI 0, hw_43), (zI 1, hw_43)]
theorem m_cL43_2 : zMet X_X2_readSlot yX2_readSlot 3 g_cL43_2 := zMet_oc (m_X2_readSlott) e_cL43_2
set_option maxRecDepth 100000 in
theorem e_cB43_2 : (f_X2_readInBracketst g_cS43_3) [zR 2, zI 2] hv_43 (zrkL [(zI 0, hw_43), (zI 1, hw_43)]) = true := by decide +kernel
noncomputable def g_cB43_2 : List zV → zH 7 → zP 7 → Bool := zocs [zR 2, zI 2] hv_43 [(zI 0, hw_43), (zI 1, hw_43)]
theorem m_cB43_2 : zMet X_X2_readInBrackets yX2_readInBrackets 47 g_cB43_2 := zMet_oc (m_X2_readInBracketst 44 _ m_cS43_3) e_cB43_2
set_option maxRecDepth 100000 in
theorem e_cF43_2 : (f_X2_readFactort g_cB43_2 g_cL43_2 g_cK43_2) [zR 2, zI 2] hw_43 (zrkL [(zI 0, hw_43), (zI 1, hw_43)]) = true := by decide +kernel
noncomputable def g_cF43_2 : List zV → zH 7 → zP 7 → Bool := zocs [zR 2, zI 2] hw_43 [(zI 0, hw_43), (zI 1, hw_43)]
theorem m_cF43_2 : zMet X_X2_readFactor yX2_readFactor 58 g_cF43_2 := zMet_oc (m_X2_readFactort _ _ _ _ _ _ m_cB43_2 m_cL43_2 m_cK43_2) e_cF43_2
set_option maxRecDepth 100000 in
theorem e_cT43_2 : (f_X2_readTermt g_cF43_2 g_X2_multiply_43) [zR 2, zI 2] hw_43 (zrkL [(zI 0, hw_43), (zI 1, hw_43)]) = true := by decide +kernel
noncomputable def g_cT43_2 : List zV → zH 7 → zP 7 → Bool := zocs [zR 2, zI 2] hw_43 [(zI 0, hw_43), (zI 1, hw_43)]
theorem m_cT43_2 : zMet X_X2_readTerm yX2_readTerm 62 g_cT43_2 := zMet_oc (m_X2_readTermt _ _ _ _ m_cF43_2 mg_X2_multiply_43) e_cT43_2
set_option maxRecDepth 100000 in
theorem e_cS43_2 : (f_X2_readSumt g_cT43_2 g_X2_add_43) [zR 2, zI 2] hw_43 (zrkL [(zI 0, hw_43), (zI 1, hw_43)]) = true := by decide +kernel
noncomputable def g_cS43_2 : List zV → zH 7 → zP 7 → Bool := zocs [zR 2, zI 2] hw_43 [(zI 0, hw_43), (zI 1, hw_43)]
theorem m_cS43_2 : zMet X_X2_readSum yX2_readSum 66 g_cS43_2 := zMet_oc (m_X2_readSumt _ _ _ _ m_cT43_2 mg_X2_add_43) e_cS43_2
noncomputable def h_cK43_1_o0 : zH 7 := (show zT 7 from ((((((zk_99_zs2_59_z43_readC_1, zk_99_zs2_59_z43_readC_2), (((17, 4, 0x6000000000601000000000100000004), (0, 15, zun 40 15 4294967296)), zk_99_zs2_59_z43_readC_3)), zk_99_zs2_59_z43_readC_6), zk_99_zs2_59_z43_readC_8), zk_99_zs2_59_z43_readC_9), zk_99_zs2_59_z43_readC_10), (74, (0, 0)))
set_option maxRecDepth 100000 in
theorem e_cK43_1 : (f_X2_takeCharactert g_cO43_0) [zR 2, zI 1, zI 4294967296] hw_43 (zrkL [(zI 0, h_cK43_1_o0), (zI 1, hw_43)]) = true := by decide +kernel
noncomputable def g_cK43_1 : List zV → zH 7 → zP 7 → Bool := zocs [zR 2, zI 1, zI 4294967296] hw_43 [(zI 0, h_cK43_1_o0), (zI 1, hw_43)]
theorem m_cK43_1 : zMet X_X2_takeCharacter yX2_takeCharacter 4 g_cK43_1 := zMet_oc (m_X2_takeCharactert _ _ m_cO43_0) e_cK43_1
set_option maxRecDepth 100000 in
theorem e_cL43_1 : f_X2_readSlott [zR 2, zI 1] hw_43 (zrkL [(zI 0, hw_43), (zI 1, hw_43)]) = true := by decide +kernel
noncomputable def g_cL43_1 : List zV → zH 7 → zP 7 → Bool := zocs [zR 2, zI 1] hw_43 [(zI 0, hw_43), (zI 1, hw_43)]
theorem m_cL43_1 : zMet X_X2_readSlot yX2_readSlot 3 g_cL43_1 := zMet_oc (m_X2_readSlott) e_cL43_1
set_option maxRecDepth 100000 in
theorem e_cB43_1 : (f_X2_readInBracketst g_cS43_2) [zR 2, zI 1] hv_43 (zrkL [(zI 0, hw_43), (zI 1, hw_43)]) = true := by decide +kernel
noncomputable def g_cB43_1 : List zV → zH 7 → zP 7 → Bool := zocs [zR 2, zI 1] hv_43 [(zI 0, hw_43), (zI 1, hw_43)]
theorem m_cB43_1 : zMet X_X2_readInBrackets yX2_readInBrackets 69 g_cB43_1 := zMet_oc (m_X2_readInBracketst 66 _ m_cS43_2) e_cB43_1
set_option maxRecDepth 100000 in
theorem e_cF43_1 : (f_X2_readFactort g_cB43_1 g_cL43_1 g_cK43_1) [zR 2, zI 1] hw_43 (zrkL [(zI 0, hw_43), (zI 1, hw_43)]) = true := by decide +kernel
noncomputable def g_cF43_1 : List zV → zH 7 → zP 7 → Bool := zocs [zR 2, zI 1] hw_43 [(zI 0, hw_43), (zI 1, hw_43)]
theorem m_cF43_1 : zMet X_X2_readFactor yX2_readFactor 80 g_cF43_1 := zMet_oc (m_X2_readFactort _ _ _ _ _ _ m_cB43_1 m_cL43_1 m_cK43_1) e_cF43_1
set_option maxRecDepth 100000 in
theorem e_cT43_1 : (f_X2_readTermt g_cF43_1 g_X2_multiply_43) [zR 2, zI 1] hw_43 (zrkL [(zI 0, hw_43), (zI 1, hw_43)]) = true := by decide +kernel
noncomputable def g_cT43_1 : List zV → zH 7 → zP 7 → Bool := zocs [zR 2, zI 1] hw_43 [(zI 0, hw_43), (zI 1, hw_43)]
theorem m_cT43_1 : zMet X_X2_readTerm yX2_readTerm 84 g_cT43_1 := zMet_oc (m_X2_readTermt _ _ _ _ m_cF43_1 mg_X2_multiply_43) e_cT43_1
set_option maxRecDepth 100000 in
theorem e_cS43_1 : (f_X2_readSumt g_cT43_1 g_X2_add_43) [zR 2, zI 1] hw_43 (zrkL [(zI 0, hw_43), (zI 1, hw_43)]) = true := by decide +kernel
noncomputable def g_cS43_1 : List zV → zH 7 → zP 7 → Bool := zocs [zR 2, zI 1] hw_43 [(zI 0, hw_43), (zI 1, hw_43)]
theorem m_cS43_1 : zMet X_X2_readSum yX2_readSum 88 g_cS43_1 := zMet_oc (m_X2_readSumt _ _ _ _ m_cT43_1 mg_X2_add_43) e_cS43_1
noncomputable def h_cK43_0_o0 : zH 7 := (show zT 7 from ((((((zk_99_zs2_59_z43_readC_1, zk_99_zs2_59_z43_readC_2), (((17, 4, 0x3000000000601000000000100000004), (0, 15, zun 40 15 4294967296)), zk_99_zs2_59_z43_readC_3)), zk_99_zs2_59_z43_readC_6), zk_99_zs2_59_z43_readC_8), zk_99_zs2_59_z43_readC_9), zk_99_zs2_59_z43_readC_10), (74, (0, 0)))
set_option maxRecDepth 100000 in
theorem e_cK43_0 : (f_X2_takeCharactert g_cO43_0) [zR 2, zI 0, zI 4294967296] hw_43 (zrkL [(zI 0, h_cK43_0_o0), (zI 1, hw_43)]) = true := by decide +kernel
noncomputable def g_cK43_0 : List zV → zH 7 → zP 7 → Bool := zocs [zR 2, zI 0, zI 4294967296] hw_43 [(zI 0, h_cK43_0_o0), (zI 1, hw_43)]
theorem m_cK43_0 : zMet X_X2_takeCharacter yX2_takeCharacter 4 g_cK43_0 := zMet_oc (m_X2_takeCharactert _ _ m_cO43_0) e_cK43_0
set_option maxRecDepth 100000 in
theorem e_cL43_0 : f_X2_readSlott [zR 2, zI 0] hw_43 (zrkL [(zI 0, hw_43), (zI 1, hw_43)]) = true := by decide +kernel
noncomputable def g_cL43_0 : List zV → zH 7 → zP 7 → Bool := zocs [zR 2, zI 0] hw_43 [(zI 0, hw_43), (zI 1, hw_43)]
theorem m_cL43_0 : zMet X_X2_readSlot yX2_readSlot 3 g_cL43_0 := zMet_oc (m_X2_readSlott) e_cL43_0
set_option maxRecDepth 100000 in
theorem e_cB43_0 : (f_X2_readInBracketst g_cS43_1) [zR 2, zI 0] hv_43 (zrkL [(zI 0, hw_43), (zI 1, hw_43)]) = true := by decide +kernel
noncomputable def g_cB43_0 : List zV → zH 7 → zP 7 → Bool := zocs [zR 2, zI 0] hv_43 [(zI 0, hw_43), (zI 1, hw_43)]
theorem m_cB43_0 : zMet X_X2_readInBrackets yX2_readInBrackets 91 g_cB43_0 := zMet_oc (m_X2_readInBracketst 88 _ m_cS43_1) e_cB43_0
set_option maxRecDepth 100000 in
theorem e_cF43_0 : (f_X2_readFactort g_cB43_0 g_cL43_0 g_cK43_0) [zR 2, zI 0] hw_43 (zrkL [(zI 0, hw_43), (zI 1, hw_43)]) = true := by decide +kernel
noncomputable def g_cF43_0 : List zV → zH 7 → zP 7 → Bool := zocs [zR 2, zI 0] hw_43 [(zI 0, hw_43), (zI 1, hw_43)]
theorem m_cF43_0 : zMet X_X2_readFactor yX2_readFactor 102 g_cF43_0 := zMet_oc (m_X2_readFactort _ _ _ _ _ _ m_cB43_0 m_cL43_0 m_cK43_0) e_cF43_0
set_option maxRecDepth 100000 in
theorem e_cT43_0 : (f_X2_readTermt g_cF43_0 g_X2_multiply_43) [zR 2, zI 0] hw_43 (zrkL [(zI 0, hw_43), (zI 1, hw_43)]) = true := by decide +kernel
noncomputable def g_cT43_0 : List zV → zH 7 → zP 7 → Bool := zocs [zR 2, zI 0] hw_43 [(zI 0, hw_43), (zI 1, hw_43)]
theorem m_cT43_0 : zMet X_X2_readTerm yX2_readTerm 106 g_cT43_0 := zMet_oc (m_X2_readTermt _ _ _ _ m_cF43_0 mg_X2_multiply_43) e_cT43_0
set_option maxRecDepth 100000 in
theorem e_cS43_0 : (f_X2_readSumt g_cT43_0 g_X2_add_43) [zR 2, zI 0] hw_43 (zrkL [(zI 0, hw_43), (zI 1, hw_43)]) = true := by decide +kernel
noncomputable def g_cS43_0 : List zV → zH 7 → zP 7 → Bool := zocs [zR 2, zI 0] hw_43 [(zI 0, hw_43), (zI 1, hw_43)]
theorem m_cS43_0 : zMet X_X2_readSum yX2_readSum 110 g_cS43_0 := zMet_oc (m_X2_readSumt _ _ _ _ m_cT43_0 mg_X2_add_43) e_cS43_0
noncomputable def hw_43_t : zH 7 := (show zT 7 from ((((((zk_99_zs2_59_z43_readC_1, ((22, 2, 4), (0, 200, zun 40 200 4294967296))), zk_99_zs2_59_z43_readC_4), zk_99_zs2_59_z43_readC_6), zk_99_zs2_59_z43_readC_8), zk_99_zs2_59_z43_readC_9), zk_99_zs2_59_z43_readC_10), (74, (0, 0)))
set_option maxRecDepth 100000 in
theorem e_textC_43 : (zcutR 1 6 (f_X8_textt (f_X2_readt g_cS43_0))) [zR 1, zI 4294967296] hw_43 (zrkL [(zI 4294967296, hw_43_t)]) = true := by decide +kernel
noncomputable def g_textC_43 {d : Nat} : List zV → zH d → zP d → Bool := zsmyL [(0, 0), (1, 5), (1, 4), (3, 0), (2, 0), (5, 2), (2, 1), (7, 0), (7, 1), (7, 2), (7, 3), (7, 4), (2, 2), (13, 0), (13, 1), (13, 2), (13, 3), (13, 4), (2, 3), (19, 0), (19, 1), (19, 2), (19, 3), (19, 4), (2, 4), (2, 5), (2, 6), (2, 7), (1, 2), (29, 0), (29, 1), (29, 2), (29, 3), (29, 4), (29, 5), (2, 12), (36, 3), (37, 0), (37, 1), (37, 2), (37, 3), (37, 4), (38, 2), (39, 2), (40, 2), (41, 2), (42, 2), (36, 7), (36, 12), (49, 0), (49, 1), (49, 2), (49, 3), (49, 4), (36, 11), (55, 0), (55, 1), (55, 2), (55, 3), (55, 4), (2, 13), (61, 2), (61, 6), (63, 0), (63, 1), (63, 2), (63, 3), (63, 4), (61, 9), (69, 0), (69, 1), (69, 2), (69, 3), (69, 4)] [zR 1, zI 4294967296] hw_43 [(zI 4294967296, hw_43_t)]
theorem m_textC_43 {d : Nat} : zMet (d := d) X_X8_text yX8_text 115 g_textC_43 := zMet_smL (zMet_cutR (m_X8_textt _ _ (m_X2_readt _ _ m_cS43_0))) e_textC_43
end
