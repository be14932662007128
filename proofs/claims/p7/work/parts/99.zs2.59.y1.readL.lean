/-! readList: by program -/
noncomputable def zk_99_zs2_59_y1_readL_0 : zT 1 := @Prod.mk (zT 0) (zT 0) (0, 200, zun 40 200 4294967296) (17, 4, 0x10000001080000000c301000000000100000000)
noncomputable def zk_99_zs2_59_y1_readL_1 : zT 2 := @Prod.mk (zT 1) (zT 1) ((0, 6, 0x10000000001000000000100000000010000000001000000000100000000), (0, 0, 0)) zO1
noncomputable def hs_X2_readList : zH 3 := (show zT 3 from ((((18, 15, 0x1000000c9800000000e800000000d800000000c0000000002010000000001000000c900000000058000000007800000000680000000058000000004800000000380000000020000000004), (22, 2, 0x1000000c90000000003)), zk_99_zs2_59_y1_readL_0), zk_99_zs2_59_y1_readL_1), (5, (0, 0)))
noncomputable def hs_X2_readList_o0 : zH 3 := (show zT 3 from ((((18, 15, 0x1000000c9800000000e800000000d800000000c0000000002010000000001000000c900000000058000000007800000000680000000058000000004800000000380000000020000000004), (22, 2, 0x1000000c90000000003)), zk_99_zs2_59_y1_readL_0), zk_99_zs2_59_y1_readL_1), (5, (0, 0)))
noncomputable def hs_X2_readList_o1 : zH 3 := (show zT 3 from ((((18, 15, 0x1000000c9800000000e800000000d800000000c000000000201000000c801000000c900000000058000000007800000000680000000058000000004800000000380000000020000000004), (22, 2, 0x1000000c90000000003)), zk_99_zs2_59_y1_readL_0), zk_99_zs2_59_y1_readL_1), (5, (0, 0)))
set_option maxRecDepth 100000 in
theorem ev_X2_readList : f_X2_readListt [zR 1] hs_X2_readList (zrkL [(zI 0, hs_X2_readList_o0), (zI 1, hs_X2_readList_o1)]) = true := by decide +kernel
noncomputable def g_X2_readList {d : Nat} : List zV → zH d → zP d → Bool := zsmyL [(0, 0), (1, 10), (2, 0), (1, 0), (1, 7)] [zR 1] hs_X2_readList [(zI 0, hs_X2_readList_o0), (zI 1, hs_X2_readList_o1)]
theorem mg_X2_readList {d : Nat} : zMet (d := d) X_X2_readList yX2_readList 3 g_X2_readList := zMet_smL m_X2_readListt ev_X2_readList
