section
/-! links of the law, by program -/
noncomputable abbrev X_lw (nm : String) : zM := ("PrimeBlocksLaw", code, 4, ret, nm)
theorem X_lw_c (nm : String) : (X_lw nm).2.1 = code := by dsimp only [X_lw]
theorem lr_x {nm : String} : zRun (X_lw nm) (RX8, cX8_init, 1, none, "<init>") yX8_init 1000 13 4 1 1100 82000 (fun ws As => ∃ (b : Nat) (As' : List Value) (q0 : Nat) (fs : List Value), As = .ref b :: As' ∧ ws[q0]? = some (b, .inr (8, fs))) := zrunI (n := 0) (ci := 8) wd_19 rfl wd_1 wd_17 wd_18 rfl (by decide) (by omega) (by decide) (by rw [X_lw_c]; exact dl_4)
theorem lr_m {nm : String} : zRun (X_lw nm) (RX9, cX9_init, 1, none, "<init>") yX9_init 1000 21 12 1 100 80000 (fun ws As => ∃ (b : Nat) (As' : List Value) (q0 : Nat) (fs : List Value), As = .ref b :: As' ∧ ws[q0]? = some (b, .inr (9, fs))) := zrunI (n := 0) (ci := 9) wd_906 rfl wd_14 wd_904 wd_905 rfl (by decide) (by omega) (by decide) (by rw [X_lw_c]; exact dl_12)
theorem lr8_group {nm : String} : zRun (X_lw nm) (RX8, cX8_group, 5, (some .int), "group") yX8_group 1000 13 155 3 1000 80000 (qrc 8) := zrunV (n := 2) (ci := 8) rfl rfl wd_646 wd_1 wd_643 wd_644 wd_645 (by decide) (by omega) (by decide) (by rw [X_lw_c]; exact dl_155)
theorem lr9_group {nm : String} : zRun (X_lw nm) (RX9, cX9_group, 3, (some .int), "group") yX9_group 1000 21 170 3 0 0 (qrc 9) := zrunV (n := 2) (ci := 9) rfl rfl wd_1211 wd_14 wd_1208 wd_1209 wd_1210 (by decide) (by omega) (by decide) (by rw [X_lw_c]; exact dl_170)
theorem lr8_group0 {nm : String} : zRun (X_lw nm) (RX8, cX8_group, 5, (some .int), "group") yX8_group 1000 13 155 3 0 0 (qrc 8) := zrunV (n := 2) (ci := 8) rfl rfl wd_646 wd_1 wd_643 wd_644 wd_645 (by decide) (by omega) (by decide) (by rw [X_lw_c]; exact dl_155)
theorem lr8_feed {nm : String} : zRun (X_lw nm) (RX8, cX8_feed, 6, (some .int), "feed") yX8_feed 1000 2 203 6 0 0 (qrc 8) := zrunV (n := 5) (ci := 8) rfl rfl wd_657 wd_1 wd_654 wd_655 wd_656 (by decide) (by omega) (by decide) (by rw [X_lw_c]; exact dl_203)
theorem lr9_feed {nm : String} : zRun (X_lw nm) (RX9, cX9_feed, 6, (some .int), "feed") yX9_feed 1000 2 233 6 0 0 (qrc 9) := zrunV (n := 5) (ci := 9) rfl rfl wd_1349 wd_14 wd_1346 wd_1347 wd_1348 (by decide) (by omega) (by decide) (by rw [X_lw_c]; exact dl_233)
theorem lr8_end {nm : String} : zRun (X_lw nm) (RX8, cX8_end, 2, (some .boolean), "end") yX8_end 1000 1 246 2 0 0 (qrc 8) := zrunV (n := 1) (ci := 8) rfl rfl wd_669 wd_1 wd_666 wd_667 wd_668 (by decide) (by omega) (by decide) (by rw [X_lw_c]; exact dl_246)
theorem lr9_end {nm : String} : zRun (X_lw nm) (RX9, cX9_end, 2, (some .boolean), "end") yX9_end 1000 2 256 2 0 0 (qrc 9) := zrunV (n := 1) (ci := 9) rfl rfl wd_1357 wd_14 wd_1354 wd_1355 wd_1356 (by decide) (by omega) (by decide) (by rw [X_lw_c]; exact dl_256)
theorem lr8_text {nm : String} : zRun (X_lw nm) (RX8, cX8_text, 3, (some .int), "text") yX8_text 1000 115 269 2 0 0 (qrc 8) := zrunV (n := 1) (ci := 8) rfl rfl wd_673 wd_1 wd_670 wd_671 wd_672 (by decide) (by omega) (by decide) (by rw [X_lw_c]; exact dl_269)
theorem lr9_text {nm : String} : zRun (X_lw nm) (RX9, cX9_text, 4, (some .int), "text") yX9_text 1000 413 279 2 0 0 (qrc 9) := zrunV (n := 1) (ci := 9) rfl rfl wd_1361 wd_14 wd_1358 wd_1359 wd_1360 (by decide) (by omega) (by decide) (by rw [X_lw_c]; exact dl_279)
theorem lr8_fault {nm : String} : zRun (X_lw nm) (RX8, cX8_fault, 3, (some .int), "fault") yX8_fault 1000 1 292 2 0 0 (qrc 8) := zrunV (n := 1) (ci := 8) rfl rfl wd_775 wd_1 wd_772 wd_773 wd_774 (by decide) (by omega) (by decide) (by rw [X_lw_c]; exact dl_292)
theorem lr9_fault {nm : String} : zRun (X_lw nm) (RX9, cX9_fault, 2, (some .int), "fault") yX9_fault 1000 2 302 2 0 0 (qrc 9) := zrunV (n := 1) (ci := 9) rfl rfl wd_1426 wd_14 wd_1423 wd_1424 wd_1425 (by decide) (by omega) (by decide) (by rw [X_lw_c]; exact dl_302)
theorem lr8_partition {nm : String} : zRun (X_lw nm) (RX8, cX8_partition, 4, (some .int), "partition") yX8_partition 1000 2 320 3 0 0 (qrc 8) := zrunV (n := 2) (ci := 8) rfl rfl wd_779 wd_1 wd_776 wd_777 wd_778 (by decide) (by omega) (by decide) (by rw [X_lw_c]; exact dl_320)
theorem lr9_partition {nm : String} : zRun (X_lw nm) (RX9, cX9_partition, 3, (some .int), "partition") yX9_partition 1000 3 334 3 0 0 (qrc 9) := zrunV (n := 2) (ci := 9) rfl rfl wd_1219 wd_14 wd_1216 wd_1217 wd_1218 (by decide) (by omega) (by decide) (by rw [X_lw_c]; exact dl_334)
theorem lr8_of {nm : String} : zRun (X_lw nm) (RX8, cX8_of, 3, (some .int), "of") yX8_of 1000 2 353 3 0 0 (qrc 8) := zrunV (n := 2) (ci := 8) rfl rfl wd_790 wd_1 wd_787 wd_788 wd_789 (by decide) (by omega) (by decide) (by rw [X_lw_c]; exact dl_353)
theorem lr9_of {nm : String} : zRun (X_lw nm) (RX9, cX9_of, 3, (some .int), "of") yX9_of 1000 4 368 3 0 0 (qrc 9) := zrunV (n := 2) (ci := 9) rfl rfl wd_1227 wd_14 wd_1224 wd_1225 wd_1226 (by decide) (by omega) (by decide) (by rw [X_lw_c]; exact dl_368)
theorem lr8_core {nm : String} : zRun (X_lw nm) (RX8, cX8_core, 4, (some .int), "core") yX8_core 1000 2 386 3 0 0 (qrc 8) := zrunV (n := 2) (ci := 8) rfl rfl wd_796 wd_1 wd_793 wd_794 wd_795 (by decide) (by omega) (by decide) (by rw [X_lw_c]; exact dl_386)
theorem lr9_core {nm : String} : zRun (X_lw nm) (RX9, cX9_core, 3, (some .int), "core") yX9_core 1000 3 401 3 0 0 (qrc 9) := zrunV (n := 2) (ci := 9) rfl rfl wd_1239 wd_14 wd_1236 wd_1237 wd_1238 (by decide) (by omega) (by decide) (by rw [X_lw_c]; exact dl_401)
theorem lr8_hook {nm : String} : zRun (X_lw nm) (RX8, cX8_hook, 4, (some .int), "hook") yX8_hook 1000 2 424 4 0 0 (qrc 8) := zrunV (n := 3) (ci := 8) rfl rfl wd_800 wd_1 wd_797 wd_798 wd_799 (by decide) (by omega) (by decide) (by rw [X_lw_c]; exact dl_424)
theorem lr9_hook {nm : String} : zRun (X_lw nm) (RX9, cX9_hook, 6, (some .int), "hook") yX9_hook 1000 3 444 4 0 0 (qrc 9) := zrunV (n := 3) (ci := 9) rfl rfl wd_1246 wd_14 wd_1243 wd_1244 wd_1245 (by decide) (by omega) (by decide) (by rw [X_lw_c]; exact dl_444)
theorem lr8_classOf {nm : String} : zRun (X_lw nm) (RX8, cX8_classOf, 3, (some .int), "classOf") yX8_classOf 1000 2 462 3 0 0 (qrc 8) := zrunV (n := 2) (ci := 8) rfl rfl wd_809 wd_1 wd_806 wd_807 wd_808 (by decide) (by omega) (by decide) (by rw [X_lw_c]; exact dl_462)
theorem lr9_classOf {nm : String} : zRun (X_lw nm) (RX9, cX9_classOf, 3, (some .int), "classOf") yX9_classOf 1000 3 477 3 0 0 (qrc 9) := zrunV (n := 2) (ci := 9) rfl rfl wd_1251 wd_14 wd_1248 wd_1249 wd_1250 (by decide) (by omega) (by decide) (by rw [X_lw_c]; exact dl_477)
theorem lr8_character {nm : String} : zRun (X_lw nm) (RX8, cX8_character, 3, (some .int), "character") yX8_character 1000 2 495 3 0 0 (qrc 8) := zrunV (n := 2) (ci := 8) rfl rfl wd_813 wd_1 wd_810 wd_811 wd_812 (by decide) (by omega) (by decide) (by rw [X_lw_c]; exact dl_495)
theorem lr9_character {nm : String} : zRun (X_lw nm) (RX9, cX9_character, 3, (some .int), "character") yX9_character 1000 3 510 3 0 0 (qrc 9) := zrunV (n := 2) (ci := 9) rfl rfl wd_1255 wd_14 wd_1252 wd_1253 wd_1254 (by decide) (by omega) (by decide) (by rw [X_lw_c]; exact dl_510)
theorem lr8_modular {nm : String} : zRun (X_lw nm) (RX8, cX8_modular, 3, (some .int), "modular") yX8_modular 1000 3 528 3 0 0 (qrc 8) := zrunV (n := 2) (ci := 8) rfl rfl wd_817 wd_1 wd_814 wd_815 wd_816 (by decide) (by omega) (by decide) (by rw [X_lw_c]; exact dl_528)
theorem lr9_modular {nm : String} : zRun (X_lw nm) (RX9, cX9_modular, 3, (some .int), "modular") yX9_modular 1000 3 543 3 0 0 (qrc 9) := zrunV (n := 2) (ci := 9) rfl rfl wd_1259 wd_14 wd_1256 wd_1257 wd_1258 (by decide) (by omega) (by decide) (by rw [X_lw_c]; exact dl_543)
theorem lr8_projective {nm : String} : zRun (X_lw nm) (RX8, cX8_projective, 3, (some .int), "projective") yX8_projective 1000 3 561 3 0 0 (qrc 8) := zrunV (n := 2) (ci := 8) rfl rfl wd_825 wd_1 wd_822 wd_823 wd_824 (by decide) (by omega) (by decide) (by rw [X_lw_c]; exact dl_561)
theorem lr9_projective {nm : String} : zRun (X_lw nm) (RX9, cX9_projective, 3, (some .int), "projective") yX9_projective 1000 3 576 3 0 0 (qrc 9) := zrunV (n := 2) (ci := 9) rfl rfl wd_1263 wd_14 wd_1260 wd_1261 wd_1262 (by decide) (by omega) (by decide) (by rw [X_lw_c]; exact dl_576)
theorem lr8_decomposition {nm : String} : zRun (X_lw nm) (RX8, cX8_decomposition, 3, (some .int), "decomposition") yX8_decomposition 1000 3 594 3 0 0 (qrc 8) := zrunV (n := 2) (ci := 8) rfl rfl wd_829 wd_1 wd_826 wd_827 wd_828 (by decide) (by omega) (by decide) (by rw [X_lw_c]; exact dl_594)
theorem lr9_decomposition {nm : String} : zRun (X_lw nm) (RX9, cX9_decomposition, 3, (some .int), "decomposition") yX9_decomposition 1000 4 609 3 0 0 (qrc 9) := zrunV (n := 2) (ci := 9) rfl rfl wd_1267 wd_14 wd_1264 wd_1265 wd_1266 (by decide) (by omega) (by decide) (by rw [X_lw_c]; exact dl_609)
theorem lr8_cartan {nm : String} : zRun (X_lw nm) (RX8, cX8_cartan, 3, (some .int), "cartan") yX8_cartan 1000 3 627 3 0 0 (qrc 8) := zrunV (n := 2) (ci := 8) rfl rfl wd_833 wd_1 wd_830 wd_831 wd_832 (by decide) (by omega) (by decide) (by rw [X_lw_c]; exact dl_627)
theorem lr9_cartan {nm : String} : zRun (X_lw nm) (RX9, cX9_cartan, 3, (some .int), "cartan") yX9_cartan 1000 4 642 3 0 0 (qrc 9) := zrunV (n := 2) (ci := 9) rfl rfl wd_1275 wd_14 wd_1272 wd_1273 wd_1274 (by decide) (by omega) (by decide) (by rw [X_lw_c]; exact dl_642)
theorem lr8_tableau {nm : String} : zRun (X_lw nm) (RX8, cX8_tableau, 6, (some .int), "tableau") yX8_tableau 1000 2 670 5 0 0 (qrc 8) := zrunV (n := 4) (ci := 8) rfl rfl wd_837 wd_1 wd_834 wd_835 wd_836 (by decide) (by omega) (by decide) (by rw [X_lw_c]; exact dl_670)
theorem lr9_tableau {nm : String} : zRun (X_lw nm) (RX9, cX9_tableau, 5, (some .int), "tableau") yX9_tableau 1000 3 695 5 0 0 (qrc 9) := zrunV (n := 4) (ci := 9) rfl rfl wd_1283 wd_14 wd_1280 wd_1281 wd_1282 (by decide) (by omega) (by decide) (by rw [X_lw_c]; exact dl_695)
theorem lr8_gram {nm : String} : zRun (X_lw nm) (RX8, cX8_gram, 5, (some .int), "gram") yX8_gram 1000 2 718 4 0 0 (qrc 8) := zrunV (n := 3) (ci := 8) rfl rfl wd_841 wd_1 wd_838 wd_839 wd_840 (by decide) (by omega) (by decide) (by rw [X_lw_c]; exact dl_718)
theorem lr9_gram {nm : String} : zRun (X_lw nm) (RX9, cX9_gram, 4, (some .int), "gram") yX9_gram 1000 3 738 4 0 0 (qrc 9) := zrunV (n := 3) (ci := 9) rfl rfl wd_1287 wd_14 wd_1284 wd_1285 wd_1286 (by decide) (by omega) (by decide) (by rw [X_lw_c]; exact dl_738)
theorem lr8_block {nm : String} : zRun (X_lw nm) (RX8, cX8_block, 4, (some .int), "block") yX8_block 1000 1 756 3 0 0 (qrc 8) := zrunV (n := 2) (ci := 8) rfl rfl wd_845 wd_1 wd_842 wd_843 wd_844 (by decide) (by omega) (by decide) (by rw [X_lw_c]; exact dl_756)
theorem lr9_block {nm : String} : zRun (X_lw nm) (RX9, cX9_block, 7, (some .int), "block") yX9_block 1000 2 771 3 0 0 (qrc 9) := zrunV (n := 2) (ci := 9) rfl rfl wd_1291 wd_14 wd_1288 wd_1289 wd_1290 (by decide) (by omega) (by decide) (by rw [X_lw_c]; exact dl_771)
theorem lr8_value {nm : String} : zRun (X_lw nm) (RX8, cX8_value, 3, (some .long), "value") yX8_value 1000 2 789 3 0 0 (qrc 8) := zrunV (n := 2) (ci := 8) rfl rfl wd_849 wd_1 wd_846 wd_847 wd_848 (by decide) (by omega) (by decide) (by rw [X_lw_c]; exact dl_789)
theorem lr9_value {nm : String} : zRun (X_lw nm) (RX9, cX9_value, 3, (some .long), "value") yX9_value 1000 3 804 3 0 0 (qrc 9) := zrunV (n := 2) (ci := 9) rfl rfl wd_1307 wd_14 wd_1304 wd_1305 wd_1306 (by decide) (by omega) (by decide) (by rw [X_lw_c]; exact dl_804)
theorem lr8_parts {nm : String} : zRun (X_lw nm) (RX8, cX8_parts, 9, (some .long), "parts") yX8_parts 1000 2 827 4 0 0 (qrc 8) := zrunV (n := 3) (ci := 8) rfl rfl wd_854 wd_1 wd_851 wd_852 wd_853 (by decide) (by omega) (by decide) (by rw [X_lw_c]; exact dl_827)
theorem lr9_parts {nm : String} : zRun (X_lw nm) (RX9, cX9_parts, 8, (some .long), "parts") yX9_parts 1000 3 847 4 0 0 (qrc 9) := zrunV (n := 3) (ci := 9) rfl rfl wd_1315 wd_14 wd_1312 wd_1313 wd_1314 (by decide) (by omega) (by decide) (by rw [X_lw_c]; exact dl_847)
theorem lr8_inner {nm : String} : zRun (X_lw nm) (RX8, cX8_inner, 6, (some .long), "inner") yX8_inner 1000 2 865 3 0 0 (qrc 8) := zrunV (n := 2) (ci := 8) rfl rfl wd_864 wd_1 wd_861 wd_862 wd_863 (by decide) (by omega) (by decide) (by rw [X_lw_c]; exact dl_865)
theorem lr9_inner {nm : String} : zRun (X_lw nm) (RX9, cX9_inner, 6, (some .long), "inner") yX9_inner 1000 3 880 3 0 0 (qrc 9) := zrunV (n := 2) (ci := 9) rfl rfl wd_1331 wd_14 wd_1328 wd_1329 wd_1330 (by decide) (by omega) (by decide) (by rw [X_lw_c]; exact dl_880)
theorem lr8_kind {nm : String} : zRun (X_lw nm) (RX8, cX8_kind, 4, (some .int), "kind") yX8_kind 1000 3 898 3 0 0 (qrc 8) := zrunV (n := 2) (ci := 8) rfl rfl wd_869 wd_1 wd_866 wd_867 wd_868 (by decide) (by omega) (by decide) (by rw [X_lw_c]; exact dl_898)
theorem lr9_kind {nm : String} : zRun (X_lw nm) (RX9, cX9_kind, 5, (some .int), "kind") yX9_kind 1000 3 913 3 0 0 (qrc 9) := zrunV (n := 2) (ci := 9) rfl rfl wd_1336 wd_14 wd_1333 wd_1334 wd_1335 (by decide) (by omega) (by decide) (by rw [X_lw_c]; exact dl_913)
theorem lr8_cut {nm : String} : zRun (X_lw nm) (RX8, cX8_cut, 7, (some .int), "cut") yX8_cut 1000 2 936 4 0 0 (qrc 8) := zrunV (n := 3) (ci := 8) rfl rfl wd_885 wd_1 wd_882 wd_883 wd_884 (by decide) (by omega) (by decide) (by rw [X_lw_c]; exact dl_936)
theorem lr9_cut {nm : String} : zRun (X_lw nm) (RX9, cX9_cut, 8, (some .int), "cut") yX9_cut 1000 3 956 4 0 0 (qrc 9) := zrunV (n := 3) (ci := 9) rfl rfl wd_1345 wd_14 wd_1342 wd_1343 wd_1344 (by decide) (by omega) (by decide) (by rw [X_lw_c]; exact dl_956)
theorem lr8_look {nm : String} : zRun (X_lw nm) (RX8, cX8_look, 2, (some .int), "look") yX8_look 1000 3 969 2 0 0 (qrc 8) := zrunV (n := 1) (ci := 8) rfl rfl wd_893 wd_1 wd_890 wd_891 wd_892 (by decide) (by omega) (by decide) (by rw [X_lw_c]; exact dl_969)
theorem lr9_look {nm : String} : zRun (X_lw nm) (RX9, cX9_look, 5, (some .int), "look") yX9_look 1000 2 979 2 0 0 (qrc 9) := zrunV (n := 1) (ci := 9) rfl rfl wd_1431 wd_14 wd_1428 wd_1429 wd_1430 (by decide) (by omega) (by decide) (by rw [X_lw_c]; exact dl_979)
end
section
/-! the calls of the law, by program -/
theorem lw_c_group [G : zGh] {p : Program} {l : Launch} {e : Env} {s : State} {m : MethodId} {below : List Frame} {meth : Method} {c : Code} {b L i0 : Nat} {xs : Nat → Int32} {cA : Nat → ClassId} {D : va_G} {Q : State → Prop} {ls : Array Slot} {H : Heap} {locs : List Loc} {own : Nat → Nat} {ax am g cells slots : Nat} {w0 wR : va_W}
  (Cx : zCx (X_lw meth.name) cA D p s m #[Value.ref b] meth c (fun q => s.heap.size ≤ q)) (hX : va_X b L xs s s.heap) (hbl : b < s.heap.size) (hL : i0 + 6 ≤ L) (hLm : L ≤ 3072) (hg : g < 24) (I0 : qI cA D (fun q => s.heap.size ≤ q) H own ax am g w0 wR) (hS : va_S (fun q => s.heap.size ≤ q) s.heap H locs)
  (hl : lv_has ls 4 [(3, .int (nI i0)), (2, .ref am), (1, .ref ax), (0, .ref b)]) (hcb : cells + 1000 * qMis w0 ≤ 600000) (hsb : slots + 80000 * qMis w0 ≤ 7302250)
  (fin : ∀ (H1 : Heap) (locs1 : List Loc) (own1 : Nat → Nat) (g1 : Nat) (w1 wR1 : va_W) (cells1 slots1 : Nat), g1 < 24 → qI cA D (fun q => s.heap.size ≤ q) H1 own1 ax am g1 w1 wR1 → va_S (fun q => s.heap.size ≤ q) s.heap H1 locs1 → cells1 + 1000 * qMis w1 ≤ 600000 → slots1 + 80000 * qMis w1 ≤ 7302250 → W p l e (zRm 1000 600000 7302250) s m #[Value.ref b] below meth c H1 locs1 cells1 slots1 Q (F0 m 986 ls [])) :
  W p l e (zRm 1000 600000 7302250) s m #[Value.ref b] below meth c H locs cells slots Q (F0 m 144 ls []) := by
  have hb : c.code = code := Cx.2.1.trans (X_lw_c _)
  obtain ⟨IC, IR, ht, htl⟩ := I0
  refine lv_aload_n (pc := 144) Cx.1 hb dl_144 rfl (lv_at hl 2 rfl) ?_
  refine lw_argk (pc := 145) (j := 1) (k0 := 3) (k3 := 0) dl_145 dl_146 dl_147 dl_148 dl_149 rfl (by omega) hLm Cx.1 hb hX hbl hS hl rfl rfl ?_
  refine lw_argk (pc := 150) (j := 2) (k0 := 3) (k3 := 0) dl_150 dl_151 dl_152 dl_153 dl_154 rfl (by omega) hLm Cx.1 hb hX hbl hS hl rfl rfl ?_
  rcases ev_grp G (xs (i0 + 1)) (xs (i0 + 2)) with ⟨g', hg', b1, b2⟩ | ⟨r1, r2, hr1, hr2, hT, hT2⟩
  · refine q_groupC (X := X_lw meth.name) (pc := 155) (as' := [zI (qgN g'), zI (qgP g')]) (av' := [.int (xs (i0 + 1)), .int (xs (i0 + 2))]) (st := []) hg' m_X8_groupa lr8_group lr8_group0 Cx IC (ev_grpA g' hg') (ev_grpB g' hg') (ev_grpC g' hg') hS hl.1 (fun ad => ⟨⟨_, rfl, zIs_e b1⟩, ⟨_, rfl, zIs_e b2⟩, trivial⟩) (Nat.zero_le _) rfl hcb hsb (fun w1 own1 ad1 r ov H1 locs1 cells1 slots1 hov hP1 IC1 ht1 hfr1 hS1 hcb1 hsb1 => ?_)
    obtain ⟨i1, e1, d1⟩ := zeqI_c hP1 hov
    subst e1
    refine lv_pop (pc := 158) (va := .int i1) Cx.1 hb dl_158 rfl ?_
    refine lv_aload_n (pc := 159) Cx.1 hb dl_159 rfl (lv_at hl 1 rfl) ?_
    refine lw_argk (pc := 160) (j := 1) (k0 := 3) (k3 := 0) dl_160 dl_161 dl_162 dl_163 dl_164 rfl (by omega) hLm Cx.1 hb hX hbl hS1 hl rfl rfl ?_
    refine lw_argk (pc := 165) (j := 2) (k0 := 3) (k3 := 0) dl_165 dl_166 dl_167 dl_168 dl_169 rfl (by omega) hLm Cx.1 hb hX hbl hS1 hl rfl rfl ?_
    refine q_grpR (X := X_lw meth.name) (pc := 170) (as' := [zI (qgN g'), zI (qgP g')]) (av' := [.int (xs (i0 + 1)), .int (xs (i0 + 2))]) (st := []) hg hg' m_X9_groupb lr9_group Cx (qR_kept hfr1 IR) (ev_grpR g' hg') ev_hRw hS1 hl.1 (fun ad => ⟨⟨_, rfl, zIs_e b1⟩, ⟨_, rfl, zIs_e b2⟩, trivial⟩) (Nat.zero_le _) rfl (by omega) (by omega) (fun wR1 ad2 r2 ov2 H2 locs2 hov2 hP2 IR2 ht2 hfr2 hS2 => ?_)
    obtain ⟨i2, e2, d2⟩ := zeqI_c hP2 hov2
    subst e2
    refine lv_pop (pc := 173) (va := .int i2) Cx.1 hb dl_173 rfl ?_
    refine lv_goto (pc := 174) (tgt := 986) Cx.1 hb dl_174 (by decide) ?_
    exact fin _ _ _ _ _ _ _ _ hg' ⟨qC_kept hfr2 IC1, IR2, by rw [ht2, ht1, ht], by rw [ht1]; exact htl⟩ hS2 hcb1 hsb1
  · refine q_subC0 (X := X_lw meth.name) (pc := 155) (as' := [zI r1, zI r2]) (av' := [.int (xs (i0 + 1)), .int (xs (i0 + 2))]) (st := []) hg m_X8_groupa lr8_group0 Cx IC hT hS hl.1 (fun ad => ⟨⟨_, rfl, hr1⟩, ⟨_, rfl, hr2⟩, trivial⟩) (Nat.zero_le _) rfl (by omega) (by omega) (fun w1 ad1 r ov H1 locs1 hov hP1 IC1 hm1 ht1 hfr1 hS1 => ?_)
    obtain ⟨i1, e1, d1⟩ := zeqI_c hP1 hov
    subst e1
    refine lv_pop (pc := 158) (va := .int i1) Cx.1 hb dl_158 rfl ?_
    refine lv_aload_n (pc := 159) Cx.1 hb dl_159 rfl (lv_at hl 1 rfl) ?_
    refine lw_argk (pc := 160) (j := 1) (k0 := 3) (k3 := 0) dl_160 dl_161 dl_162 dl_163 dl_164 rfl (by omega) hLm Cx.1 hb hX hbl hS1 hl rfl rfl ?_
    refine lw_argk (pc := 165) (j := 2) (k0 := 3) (k3 := 0) dl_165 dl_166 dl_167 dl_168 dl_169 rfl (by omega) hLm Cx.1 hb hX hbl hS1 hl rfl rfl ?_
    refine q_subR0 (X := X_lw meth.name) (pc := 170) (as' := [zI r1, zI r2]) (av' := [.int (xs (i0 + 1)), .int (xs (i0 + 2))]) (st := []) hg m_X9_groupb lr9_group Cx (qR_kept hfr1 IR) hT2 ev_obR hS1 hl.1 (fun ad => ⟨⟨_, rfl, hr1⟩, ⟨_, rfl, hr2⟩, trivial⟩) (Nat.zero_le _) rfl (by omega) (by omega) (fun wR1 ad2 r2 ov2 H2 locs2 hov2 hP2 IR2 ht2 hfr2 hS2 => ?_)
    obtain ⟨i2, e2, d2⟩ := zeqI_c hP2 hov2
    subst e2
    refine lv_pop (pc := 173) (va := .int i2) Cx.1 hb dl_173 rfl ?_
    refine lv_goto (pc := 174) (tgt := 986) Cx.1 hb dl_174 (by decide) ?_
    exact fin _ _ _ _ _ _ _ _ hg ⟨qC_kept hfr2 IC1, IR2, by rw [ht2, ht1, ht], by rw [ht1]; exact htl⟩ hS2 (by rw [hm1]; exact hcb) (by rw [hm1]; exact hsb)

theorem lw_c_feed [G : zGh] {p : Program} {l : Launch} {e : Env} {s : State} {m : MethodId} {below : List Frame} {meth : Method} {c : Code} {b L i0 : Nat} {xs : Nat → Int32} {cA : Nat → ClassId} {D : va_G} {Q : State → Prop} {ls : Array Slot} {H : Heap} {locs : List Loc} {own : Nat → Nat} {ax am g cells slots : Nat} {w0 wR : va_W}
  (Cx : zCx (X_lw meth.name) cA D p s m #[Value.ref b] meth c (fun q => s.heap.size ≤ q)) (hX : va_X b L xs s s.heap) (hbl : b < s.heap.size) (hL : i0 + 6 ≤ L) (hLm : L ≤ 3072) (hg : g < 24) (I0 : qI cA D (fun q => s.heap.size ≤ q) H own ax am g w0 wR) (hS : va_S (fun q => s.heap.size ≤ q) s.heap H locs)
  (hl : lv_has ls 4 [(3, .int (nI i0)), (2, .ref am), (1, .ref ax), (0, .ref b)]) (hcb : cells + 1000 * qMis w0 ≤ 600000) (hsb : slots + 80000 * qMis w0 ≤ 7302250)
  (fin : ∀ (H1 : Heap) (locs1 : List Loc) (own1 : Nat → Nat) (g1 : Nat) (w1 wR1 : va_W) (cells1 slots1 : Nat), g1 < 24 → qI cA D (fun q => s.heap.size ≤ q) H1 own1 ax am g1 w1 wR1 → va_S (fun q => s.heap.size ≤ q) s.heap H1 locs1 → cells1 + 1000 * qMis w1 ≤ 600000 → slots1 + 80000 * qMis w1 ≤ 7302250 → W p l e (zRm 1000 600000 7302250) s m #[Value.ref b] below meth c H1 locs1 cells1 slots1 Q (F0 m 986 ls [])) :
  W p l e (zRm 1000 600000 7302250) s m #[Value.ref b] below meth c H locs cells slots Q (F0 m 177 ls []) := by
  have hb : c.code = code := Cx.2.1.trans (X_lw_c _)
  obtain ⟨IC, IR, ht, htl⟩ := I0
  have hT := q_feedC _ htl
  have hT2 := q_feedR _ htl
  refine lv_aload_n (pc := 177) Cx.1 hb dl_177 rfl (lv_at hl 2 rfl) ?_
  refine lw_argk (pc := 178) (j := 1) (k0 := 3) (k3 := 0) dl_178 dl_179 dl_180 dl_181 dl_182 rfl (by omega) hLm Cx.1 hb hX hbl hS hl rfl rfl ?_
  refine lw_argk (pc := 183) (j := 2) (k0 := 3) (k3 := 0) dl_183 dl_184 dl_185 dl_186 dl_187 rfl (by omega) hLm Cx.1 hb hX hbl hS hl rfl rfl ?_
  refine lw_argk (pc := 188) (j := 3) (k0 := 3) (k3 := 0) dl_188 dl_189 dl_190 dl_191 dl_192 rfl (by omega) hLm Cx.1 hb hX hbl hS hl rfl rfl ?_
  refine lw_argk (pc := 193) (j := 4) (k0 := 3) (k3 := 0) dl_193 dl_194 dl_195 dl_196 dl_197 rfl (by omega) hLm Cx.1 hb hX hbl hS hl rfl rfl ?_
  refine lw_argk (pc := 198) (j := 5) (k0 := 3) (k3 := 0) dl_198 dl_199 dl_200 dl_201 dl_202 rfl (by omega) hLm Cx.1 hb hX hbl hS hl rfl rfl ?_
  refine q_subC (X := X_lw meth.name) (pc := 203) (as' := [zI 4294967296, zI 4294967296, zI 4294967296, zI 4294967296, zI 4294967296]) (av' := [.int (xs (i0 + 1)), .int (xs (i0 + 2)), .int (xs (i0 + 3)), .int (xs (i0 + 4)), .int (xs (i0 + 5))]) (st := []) hg m_X8_feeda lr8_feed Cx IC (fun Ch cB ws hH hz => hTC_op hH hz htl) (qfT_le htl) hT hS hl.1 (fun ad => ⟨⟨_, rfl, zIs_u _⟩, ⟨_, rfl, zIs_u _⟩, ⟨_, rfl, zIs_u _⟩, ⟨_, rfl, zIs_u _⟩, ⟨_, rfl, zIs_u _⟩, trivial⟩) (Nat.zero_le _) rfl (by omega) (by omega) (fun w1 ad1 r ov H1 locs1 hov hP1 IC1 hm1 ht1 hfr1 hS1 => ?_)
  obtain ⟨i1, e1, d1⟩ := zeqI_c hP1 hov
  subst e1
  refine lv_pop (pc := 206) (va := .int i1) Cx.1 hb dl_206 rfl ?_
  refine lv_aload_n (pc := 207) Cx.1 hb dl_207 rfl (lv_at hl 1 rfl) ?_
  refine lw_argk (pc := 208) (j := 1) (k0 := 3) (k3 := 0) dl_208 dl_209 dl_210 dl_211 dl_212 rfl (by omega) hLm Cx.1 hb hX hbl hS1 hl rfl rfl ?_
  refine lw_argk (pc := 213) (j := 2) (k0 := 3) (k3 := 0) dl_213 dl_214 dl_215 dl_216 dl_217 rfl (by omega) hLm Cx.1 hb hX hbl hS1 hl rfl rfl ?_
  refine lw_argk (pc := 218) (j := 3) (k0 := 3) (k3 := 0) dl_218 dl_219 dl_220 dl_221 dl_222 rfl (by omega) hLm Cx.1 hb hX hbl hS1 hl rfl rfl ?_
  refine lw_argk (pc := 223) (j := 4) (k0 := 3) (k3 := 0) dl_223 dl_224 dl_225 dl_226 dl_227 rfl (by omega) hLm Cx.1 hb hX hbl hS1 hl rfl rfl ?_
  refine lw_argk (pc := 228) (j := 5) (k0 := 3) (k3 := 0) dl_228 dl_229 dl_230 dl_231 dl_232 rfl (by omega) hLm Cx.1 hb hX hbl hS1 hl rfl rfl ?_
  refine q_subR (X := X_lw meth.name) (pc := 233) (as' := [zI 4294967296, zI 4294967296, zI 4294967296, zI 4294967296, zI 4294967296]) (av' := [.int (xs (i0 + 1)), .int (xs (i0 + 2)), .int (xs (i0 + 3)), .int (xs (i0 + 4)), .int (xs (i0 + 5))]) (st := []) hg m_X9_feeda lr9_feed Cx (qR_kept hfr1 IR) (fun Ch cB ws hH hz => hTR_op hH (hz.trans ht) htl) (qfT_le htl) hT2 hS1 hl.1 (fun ad => ⟨⟨_, rfl, zIs_u _⟩, ⟨_, rfl, zIs_u _⟩, ⟨_, rfl, zIs_u _⟩, ⟨_, rfl, zIs_u _⟩, ⟨_, rfl, zIs_u _⟩, trivial⟩) (Nat.zero_le _) rfl (by omega) (by omega) (fun wR1 ad2 r2 ov2 H2 locs2 hov2 hP2 IR2 ht2 hfr2 hS2 => ?_)
  obtain ⟨i2, e2, d2⟩ := zeqI_c hP2 hov2
  subst e2
  refine lv_pop (pc := 236) (va := .int i2) Cx.1 hb dl_236 rfl ?_
  refine lv_goto (pc := 237) (tgt := 986) Cx.1 hb dl_237 (by decide) ?_
  exact fin _ _ _ _ _ _ _ _ hg ⟨qC_kept hfr2 IC1, IR2, by rw [ht2, ht1], by rw [ht1]; exact qfT_le htl⟩ hS2 (by rw [hm1]; exact hcb) (by rw [hm1]; exact hsb)

theorem lw_c_end [G : zGh] {p : Program} {l : Launch} {e : Env} {s : State} {m : MethodId} {below : List Frame} {meth : Method} {c : Code} {b L i0 : Nat} {xs : Nat → Int32} {cA : Nat → ClassId} {D : va_G} {Q : State → Prop} {ls : Array Slot} {H : Heap} {locs : List Loc} {own : Nat → Nat} {ax am g cells slots : Nat} {w0 wR : va_W}
  (Cx : zCx (X_lw meth.name) cA D p s m #[Value.ref b] meth c (fun q => s.heap.size ≤ q)) (hX : va_X b L xs s s.heap) (hbl : b < s.heap.size) (hL : i0 + 6 ≤ L) (hLm : L ≤ 3072) (hg : g < 24) (I0 : qI cA D (fun q => s.heap.size ≤ q) H own ax am g w0 wR) (hS : va_S (fun q => s.heap.size ≤ q) s.heap H locs)
  (hl : lv_has ls 4 [(3, .int (nI i0)), (2, .ref am), (1, .ref ax), (0, .ref b)]) (hcb : cells + 1000 * qMis w0 ≤ 600000) (hsb : slots + 80000 * qMis w0 ≤ 7302250)
  (fin : ∀ (H1 : Heap) (locs1 : List Loc) (own1 : Nat → Nat) (g1 : Nat) (w1 wR1 : va_W) (cells1 slots1 : Nat), g1 < 24 → qI cA D (fun q => s.heap.size ≤ q) H1 own1 ax am g1 w1 wR1 → va_S (fun q => s.heap.size ≤ q) s.heap H1 locs1 → cells1 + 1000 * qMis w1 ≤ 600000 → slots1 + 80000 * qMis w1 ≤ 7302250 → W p l e (zRm 1000 600000 7302250) s m #[Value.ref b] below meth c H1 locs1 cells1 slots1 Q (F0 m 986 ls [])) :
  W p l e (zRm 1000 600000 7302250) s m #[Value.ref b] below meth c H locs cells slots Q (F0 m 240 ls []) := by
  have hb : c.code = code := Cx.2.1.trans (X_lw_c _)
  obtain ⟨IC, IR, ht, htl⟩ := I0
  obtain ⟨r1, v1, hr1, ho1, hT⟩ := q_endC _ htl (xs (i0 + 1))
  obtain ⟨q1, v2, hq1, ho2, hT2⟩ := q_endR _ htl (xs (i0 + 1))
  refine lv_aload_n (pc := 240) Cx.1 hb dl_240 rfl (lv_at hl 2 rfl) ?_
  refine lw_argk (pc := 241) (j := 1) (k0 := 3) (k3 := 0) dl_241 dl_242 dl_243 dl_244 dl_245 rfl (by omega) hLm Cx.1 hb hX hbl hS hl rfl rfl ?_
  refine q_subC (X := X_lw meth.name) (pc := 246) (as' := [zI r1]) (av' := [.int (xs (i0 + 1))]) (st := []) hg m_X8_endt lr8_end Cx IC (fun Ch cB ws hH hz => ho1 Ch cB ws hH hz) (qeT_le htl) hT hS hl.1 (fun ad => ⟨⟨_, rfl, hr1 G⟩, trivial⟩) (Nat.zero_le _) rfl (by omega) (by omega) (fun w1 ad1 r ov H1 locs1 hov hP1 IC1 hm1 ht1 hfr1 hS1 => ?_)
  obtain ⟨i1, e1, d1⟩ := zeqI_c hP1 hov
  subst e1
  refine lv_pop (pc := 249) (va := .int i1) Cx.1 hb dl_249 rfl ?_
  refine lv_aload_n (pc := 250) Cx.1 hb dl_250 rfl (lv_at hl 1 rfl) ?_
  refine lw_argk (pc := 251) (j := 1) (k0 := 3) (k3 := 0) dl_251 dl_252 dl_253 dl_254 dl_255 rfl (by omega) hLm Cx.1 hb hX hbl hS1 hl rfl rfl ?_
  refine q_subR (X := X_lw meth.name) (pc := 256) (as' := [zI q1]) (av' := [.int (xs (i0 + 1))]) (st := []) hg m_X9_endt lr9_end Cx (qR_kept hfr1 IR) (fun Ch cB ws hH hz => ho2 Ch cB ws hH (hz.trans ht)) (qeT_le htl) hT2 hS1 hl.1 (fun ad => ⟨⟨_, rfl, hq1 G⟩, trivial⟩) (Nat.zero_le _) rfl (by omega) (by omega) (fun wR1 ad2 r2 ov2 H2 locs2 hov2 hP2 IR2 ht2 hfr2 hS2 => ?_)
  obtain ⟨i2, e2, d2⟩ := zeqI_c hP2 hov2
  subst e2
  refine lv_pop (pc := 259) (va := .int i2) Cx.1 hb dl_259 rfl ?_
  refine lv_goto (pc := 260) (tgt := 986) Cx.1 hb dl_260 (by decide) ?_
  exact fin _ _ _ _ _ _ _ _ hg ⟨qC_kept hfr2 IC1, IR2, by rw [ht2, ht1], by rw [ht1]; exact qeT_le htl⟩ hS2 (by rw [hm1]; exact hcb) (by rw [hm1]; exact hsb)

theorem lw_c_text [G : zGh] {p : Program} {l : Launch} {e : Env} {s : State} {m : MethodId} {below : List Frame} {meth : Method} {c : Code} {b L i0 : Nat} {xs : Nat → Int32} {cA : Nat → ClassId} {D : va_G} {Q : State → Prop} {ls : Array Slot} {H : Heap} {locs : List Loc} {own : Nat → Nat} {ax am g cells slots : Nat} {w0 wR : va_W}
  (Cx : zCx (X_lw meth.name) cA D p s m #[Value.ref b] meth c (fun q => s.heap.size ≤ q)) (hX : va_X b L xs s s.heap) (hbl : b < s.heap.size) (hL : i0 + 6 ≤ L) (hLm : L ≤ 3072) (hg : g < 24) (I0 : qI cA D (fun q => s.heap.size ≤ q) H own ax am g w0 wR) (hS : va_S (fun q => s.heap.size ≤ q) s.heap H locs)
  (hl : lv_has ls 4 [(3, .int (nI i0)), (2, .ref am), (1, .ref ax), (0, .ref b)]) (hcb : cells + 1000 * qMis w0 ≤ 600000) (hsb : slots + 80000 * qMis w0 ≤ 7302250)
  (fin : ∀ (H1 : Heap) (locs1 : List Loc) (own1 : Nat → Nat) (g1 : Nat) (w1 wR1 : va_W) (cells1 slots1 : Nat), g1 < 24 → qI cA D (fun q => s.heap.size ≤ q) H1 own1 ax am g1 w1 wR1 → va_S (fun q => s.heap.size ≤ q) s.heap H1 locs1 → cells1 + 1000 * qMis w1 ≤ 600000 → slots1 + 80000 * qMis w1 ≤ 7302250 → W p l e (zRm 1000 600000 7302250) s m #[Value.ref b] below meth c H1 locs1 cells1 slots1 Q (F0 m 986 ls [])) :
  W p l e (zRm 1000 600000 7302250) s m #[Value.ref b] below meth c H locs cells slots Q (F0 m 263 ls []) := by
  have hb : c.code = code := Cx.2.1.trans (X_lw_c _)
  obtain ⟨IC, IR, ht, htl⟩ := I0
  refine lv_aload_n (pc := 263) Cx.1 hb dl_263 rfl (lv_at hl 2 rfl) ?_
  refine lw_argk (pc := 264) (j := 1) (k0 := 3) (k3 := 0) dl_264 dl_265 dl_266 dl_267 dl_268 rfl (by omega) hLm Cx.1 hb hX hbl hS hl rfl rfl ?_
  refine q_txtC (X := X_lw meth.name) (pc := 269) (as' := [zI 4294967296]) (av' := [.int (xs (i0 + 1))]) (st := []) hg (mTC g) lr8_text Cx IC htl (ev_txtC g hg) (fun r h hP => (zands_c (zands_c hP).2).1) hS hl.1 (fun ad => ⟨⟨_, rfl, zIs_u _⟩, trivial⟩) (Nat.zero_le _) rfl (by omega) (by omega) (fun w1 ad1 r h1 ov H1 locs1 hov hP1 IC1 hm1 ht1 hfr1 hS1 => ?_)
  obtain ⟨v_, e_⟩ := zrI_t (zands_c hP1).1 hov
  subst e_
  refine lv_pop (pc := 272) (va := .int v_) Cx.1 hb dl_272 rfl ?_
  refine lv_aload_n (pc := 273) Cx.1 hb dl_273 rfl (lv_at hl 1 rfl) ?_
  refine lw_argk (pc := 274) (j := 1) (k0 := 3) (k3 := 0) dl_274 dl_275 dl_276 dl_277 dl_278 rfl (by omega) hLm Cx.1 hb hX hbl hS1 hl rfl rfl ?_
  refine q_txtR (X := X_lw meth.name) (pc := 279) (as' := [zI 4294967296]) (av' := [.int (xs (i0 + 1))]) (st := []) hg (mTR g) lr9_text Cx (qR_kept hfr1 IR) (by rw [ht]; exact htl) (ev_txtR g hg) (fun r h hP => (zands_c (zands_c hP).2).1) hS1 hl.1 (fun ad => ⟨⟨_, rfl, zIs_u _⟩, trivial⟩) (Nat.zero_le _) rfl (by omega) (by omega) (fun wR1 ad2 r2 h2 ov2 H2 locs2 hov2 hP2 IR2 ht2 hfr2 hS2 => ?_)
  obtain ⟨v_, e_⟩ := zrI_t (zands_c hP2).1 hov2
  subst e_
  refine lv_pop (pc := 282) (va := .int v_) Cx.1 hb dl_282 rfl ?_
  refine lv_goto (pc := 283) (tgt := 986) Cx.1 hb dl_283 (by decide) ?_
  exact fin _ _ _ _ _ _ _ _ hg ⟨qC_kept hfr2 IC1, IR2, by rw [ht2, ht1], by rw [ht1]; exact Nat.zero_le _⟩ hS2 (by rw [hm1]; exact hcb) (by rw [hm1]; exact hsb)

theorem lw_c_fault [G : zGh] {p : Program} {l : Launch} {e : Env} {s : State} {m : MethodId} {below : List Frame} {meth : Method} {c : Code} {b L i0 : Nat} {xs : Nat → Int32} {cA : Nat → ClassId} {D : va_G} {Q : State → Prop} {ls : Array Slot} {H : Heap} {locs : List Loc} {own : Nat → Nat} {ax am g cells slots : Nat} {w0 wR : va_W}
  (Cx : zCx (X_lw meth.name) cA D p s m #[Value.ref b] meth c (fun q => s.heap.size ≤ q)) (hX : va_X b L xs s s.heap) (hbl : b < s.heap.size) (hL : i0 + 6 ≤ L) (hLm : L ≤ 3072) (hg : g < 24) (I0 : qI cA D (fun q => s.heap.size ≤ q) H own ax am g w0 wR) (hS : va_S (fun q => s.heap.size ≤ q) s.heap H locs)
  (hl : lv_has ls 4 [(3, .int (nI i0)), (2, .ref am), (1, .ref ax), (0, .ref b)]) (hcb : cells + 1000 * qMis w0 ≤ 600000) (hsb : slots + 80000 * qMis w0 ≤ 7302250)
  (fin : ∀ (H1 : Heap) (locs1 : List Loc) (own1 : Nat → Nat) (g1 : Nat) (w1 wR1 : va_W) (cells1 slots1 : Nat), g1 < 24 → qI cA D (fun q => s.heap.size ≤ q) H1 own1 ax am g1 w1 wR1 → va_S (fun q => s.heap.size ≤ q) s.heap H1 locs1 → cells1 + 1000 * qMis w1 ≤ 600000 → slots1 + 80000 * qMis w1 ≤ 7302250 → W p l e (zRm 1000 600000 7302250) s m #[Value.ref b] below meth c H1 locs1 cells1 slots1 Q (F0 m 986 ls [])) :
  W p l e (zRm 1000 600000 7302250) s m #[Value.ref b] below meth c H locs cells slots Q (F0 m 286 ls []) := by
  have hb : c.code = code := Cx.2.1.trans (X_lw_c _)
  obtain ⟨IC, IR, ht, htl⟩ := I0
  obtain ⟨r1, hr1, hT⟩ := evC_fault g hg G (xs (i0 + 1))
  obtain ⟨q1, hq1, hT2⟩ := evR_fault g hg G (xs (i0 + 1))
  refine lv_aload_n (pc := 286) Cx.1 hb dl_286 rfl (lv_at hl 2 rfl) ?_
  refine lw_argk (pc := 287) (j := 1) (k0 := 3) (k3 := 0) dl_287 dl_288 dl_289 dl_290 dl_291 rfl (by omega) hLm Cx.1 hb hX hbl hS hl rfl rfl ?_
  refine q_ordC1 (X := X_lw meth.name) (pc := 292) (as' := [zI r1]) (av' := [.int (xs (i0 + 1))]) (st := []) hg m_X8_faulta lr8_fault Cx IC hT (fun r h hP => (zands_c (zands_c hP).2).1) hS hl.1 (fun ad => ⟨⟨_, rfl, hr1⟩, trivial⟩) (Nat.zero_le _) rfl (by omega) (by omega) (fun w1 ad1 r h1 ov H1 locs1 hov hP1 IC1 hm1 ht1 hfr1 hS1 => ?_)
  obtain ⟨v_, e_⟩ := zrI_t (zands_c hP1).1 hov
  subst e_
  refine lv_pop (pc := 295) (va := .int v_) Cx.1 hb dl_295 rfl ?_
  refine lv_aload_n (pc := 296) Cx.1 hb dl_296 rfl (lv_at hl 1 rfl) ?_
  refine lw_argk (pc := 297) (j := 1) (k0 := 3) (k3 := 0) dl_297 dl_298 dl_299 dl_300 dl_301 rfl (by omega) hLm Cx.1 hb hX hbl hS1 hl rfl rfl ?_
  refine q_ordR1 (X := X_lw meth.name) (pc := 302) (as' := [zI q1]) (av' := [.int (xs (i0 + 1))]) (st := []) hg m_X9_faulta lr9_fault Cx (qR_kept hfr1 IR) hT2 (fun r h hP => (zands_c (zands_c hP).2).1) hS1 hl.1 (fun ad => ⟨⟨_, rfl, hq1⟩, trivial⟩) (Nat.zero_le _) rfl (by omega) (by omega) (fun wR1 ad2 r2 h2 ov2 H2 locs2 hov2 hP2 IR2 ht2 hfr2 hS2 => ?_)
  obtain ⟨v_, e_⟩ := zrI_t (zands_c hP2).1 hov2
  subst e_
  refine lv_pop (pc := 305) (va := .int v_) Cx.1 hb dl_305 rfl ?_
  refine lv_goto (pc := 306) (tgt := 986) Cx.1 hb dl_306 (by decide) ?_
  exact fin _ _ _ _ _ _ _ _ hg ⟨qC_kept hfr2 IC1, IR2, by rw [ht2, ht1, ht], by rw [ht1]; exact htl⟩ hS2 (by rw [hm1]; exact hcb) (by rw [hm1]; exact hsb)

theorem lw_c_partition [G : zGh] {p : Program} {l : Launch} {e : Env} {s : State} {m : MethodId} {below : List Frame} {meth : Method} {c : Code} {b L i0 : Nat} {xs : Nat → Int32} {cA : Nat → ClassId} {D : va_G} {Q : State → Prop} {ls : Array Slot} {H : Heap} {locs : List Loc} {own : Nat → Nat} {ax am g cells slots : Nat} {w0 wR : va_W}
  (Cx : zCx (X_lw meth.name) cA D p s m #[Value.ref b] meth c (fun q => s.heap.size ≤ q)) (hX : va_X b L xs s s.heap) (hbl : b < s.heap.size) (hL : i0 + 6 ≤ L) (hLm : L ≤ 3072) (hg : g < 24) (I0 : qI cA D (fun q => s.heap.size ≤ q) H own ax am g w0 wR) (hS : va_S (fun q => s.heap.size ≤ q) s.heap H locs)
  (hl : lv_has ls 4 [(3, .int (nI i0)), (2, .ref am), (1, .ref ax), (0, .ref b)]) (hcb : cells + 1000 * qMis w0 ≤ 600000) (hsb : slots + 80000 * qMis w0 ≤ 7302250)
  (fin : ∀ (H1 : Heap) (locs1 : List Loc) (own1 : Nat → Nat) (g1 : Nat) (w1 wR1 : va_W) (cells1 slots1 : Nat), g1 < 24 → qI cA D (fun q => s.heap.size ≤ q) H1 own1 ax am g1 w1 wR1 → va_S (fun q => s.heap.size ≤ q) s.heap H1 locs1 → cells1 + 1000 * qMis w1 ≤ 600000 → slots1 + 80000 * qMis w1 ≤ 7302250 → W p l e (zRm 1000 600000 7302250) s m #[Value.ref b] below meth c H1 locs1 cells1 slots1 Q (F0 m 986 ls [])) :
  W p l e (zRm 1000 600000 7302250) s m #[Value.ref b] below meth c H locs cells slots Q (F0 m 309 ls []) := by
  have hb : c.code = code := Cx.2.1.trans (X_lw_c _)
  obtain ⟨IC, IR, ht, htl⟩ := I0
  obtain ⟨r1, r2, hr1, hr2, hT⟩ := evB_partition g hg G (xs (i0 + 1)) (xs (i0 + 2))
  refine lv_aload_n (pc := 309) Cx.1 hb dl_309 rfl (lv_at hl 2 rfl) ?_
  refine lw_argk (pc := 310) (j := 1) (k0 := 3) (k3 := 0) dl_310 dl_311 dl_312 dl_313 dl_314 rfl (by omega) hLm Cx.1 hb hX hbl hS hl rfl rfl ?_
  refine lw_argk (pc := 315) (j := 2) (k0 := 3) (k3 := 0) dl_315 dl_316 dl_317 dl_318 dl_319 rfl (by omega) hLm Cx.1 hb hX hbl hS hl rfl rfl ?_
  refine q_ordC1 (X := X_lw meth.name) (pc := 320) (as' := [zI r1, zI r2]) (av' := [.int (xs (i0 + 1)), .int (xs (i0 + 2))]) (st := []) hg m_X8_partitiona lr8_partition Cx IC hT (fun r h hP => (zands_c hP).1) hS hl.1 (fun ad => ⟨⟨_, rfl, hr1⟩, ⟨_, rfl, hr2⟩, trivial⟩) (Nat.zero_le _) rfl (by omega) (by omega) (fun w1 ad1 r h1 ov H1 locs1 hov hP1 IC1 hm1 ht1 hfr1 hS1 => ?_)
  refine lv_aload_n (pc := 323) Cx.1 hb dl_323 rfl (lv_at hl 1 rfl) ?_
  refine lw_argk (pc := 324) (j := 1) (k0 := 3) (k3 := 0) dl_324 dl_325 dl_326 dl_327 dl_328 rfl (by omega) hLm Cx.1 hb hX hbl hS1 hl rfl rfl ?_
  refine lw_argk (pc := 329) (j := 2) (k0 := 3) (k3 := 0) dl_329 dl_330 dl_331 dl_332 dl_333 rfl (by omega) hLm Cx.1 hb hX hbl hS1 hl rfl rfl ?_
  refine q_ordR1 (X := X_lw meth.name) (pc := 334) (as' := [zI r1, zI r2]) (av' := [.int (xs (i0 + 1)), .int (xs (i0 + 2))]) (st := (ov.toList ++ [])) hg m_X9_partitiona lr9_partition Cx (qR_kept hfr1 IR) (zands_c (zands_c hP1).2).1 (fun r h hP => (zands_c (zands_c hP).2).1) hS1 hl.1 (fun ad => ⟨⟨_, rfl, hr1⟩, ⟨_, rfl, hr2⟩, trivial⟩) (zcat1 hov) rfl (by omega) (by omega) (fun wR1 ad2 r2 h2 ov2 H2 locs2 hov2 hP2 IR2 ht2 hfr2 hS2 => ?_)
  obtain ⟨iv, e1, e2⟩ := zeqI_t (zands_c hP2).1 hov hov2
  subst e1
  subst e2
  refine lv_icmp_eq (pc := 337) (tgt := 986) Cx.1 hb dl_337 (by decide) (fun _ => fin _ _ _ _ _ _ _ _ hg ⟨qC_kept hfr2 IC1, IR2, by rw [ht2, ht1, ht], by rw [ht1]; exact htl⟩ hS2 (by rw [hm1]; exact hcb) (by rw [hm1]; exact hsb)) (fun h => absurd rfl h)

theorem lw_c_of [G : zGh] {p : Program} {l : Launch} {e : Env} {s : State} {m : MethodId} {below : List Frame} {meth : Method} {c : Code} {b L i0 : Nat} {xs : Nat → Int32} {cA : Nat → ClassId} {D : va_G} {Q : State → Prop} {ls : Array Slot} {H : Heap} {locs : List Loc} {own : Nat → Nat} {ax am g cells slots : Nat} {w0 wR : va_W}
  (Cx : zCx (X_lw meth.name) cA D p s m #[Value.ref b] meth c (fun q => s.heap.size ≤ q)) (hX : va_X b L xs s s.heap) (hbl : b < s.heap.size) (hL : i0 + 6 ≤ L) (hLm : L ≤ 3072) (hg : g < 24) (I0 : qI cA D (fun q => s.heap.size ≤ q) H own ax am g w0 wR) (hS : va_S (fun q => s.heap.size ≤ q) s.heap H locs)
  (hl : lv_has ls 4 [(3, .int (nI i0)), (2, .ref am), (1, .ref ax), (0, .ref b)]) (hcb : cells + 1000 * qMis w0 ≤ 600000) (hsb : slots + 80000 * qMis w0 ≤ 7302250)
  (fin : ∀ (H1 : Heap) (locs1 : List Loc) (own1 : Nat → Nat) (g1 : Nat) (w1 wR1 : va_W) (cells1 slots1 : Nat), g1 < 24 → qI cA D (fun q => s.heap.size ≤ q) H1 own1 ax am g1 w1 wR1 → va_S (fun q => s.heap.size ≤ q) s.heap H1 locs1 → cells1 + 1000 * qMis w1 ≤ 600000 → slots1 + 80000 * qMis w1 ≤ 7302250 → W p l e (zRm 1000 600000 7302250) s m #[Value.ref b] below meth c H1 locs1 cells1 slots1 Q (F0 m 986 ls [])) :
  W p l e (zRm 1000 600000 7302250) s m #[Value.ref b] below meth c H locs cells slots Q (F0 m 342 ls []) := by
  have hb : c.code = code := Cx.2.1.trans (X_lw_c _)
  obtain ⟨IC, IR, ht, htl⟩ := I0
  obtain ⟨r1, r2, hr1, hr2, hT⟩ := evC_of g hg G (xs (i0 + 1)) (xs (i0 + 2))
  obtain ⟨q1, q2, hq1, hq2, hT2⟩ := evR_of g hg G (xs (i0 + 1)) (xs (i0 + 2))
  refine lv_aload_n (pc := 342) Cx.1 hb dl_342 rfl (lv_at hl 2 rfl) ?_
  refine lw_argk (pc := 343) (j := 1) (k0 := 3) (k3 := 0) dl_343 dl_344 dl_345 dl_346 dl_347 rfl (by omega) hLm Cx.1 hb hX hbl hS hl rfl rfl ?_
  refine lw_argk (pc := 348) (j := 2) (k0 := 3) (k3 := 0) dl_348 dl_349 dl_350 dl_351 dl_352 rfl (by omega) hLm Cx.1 hb hX hbl hS hl rfl rfl ?_
  refine q_ordC1 (X := X_lw meth.name) (pc := 353) (as' := [zI r1, zI r2]) (av' := [.int (xs (i0 + 1)), .int (xs (i0 + 2))]) (st := []) hg m_X8_ofa lr8_of Cx IC hT (fun r h hP => (zands_c (zands_c hP).2).1) hS hl.1 (fun ad => ⟨⟨_, rfl, hr1⟩, ⟨_, rfl, hr2⟩, trivial⟩) (Nat.zero_le _) rfl (by omega) (by omega) (fun w1 ad1 r h1 ov H1 locs1 hov hP1 IC1 hm1 ht1 hfr1 hS1 => ?_)
  obtain ⟨v_, e_⟩ := zrI_t (zands_c hP1).1 hov
  subst e_
  refine lv_pop (pc := 356) (va := .int v_) Cx.1 hb dl_356 rfl ?_
  refine lv_aload_n (pc := 357) Cx.1 hb dl_357 rfl (lv_at hl 1 rfl) ?_
  refine lw_argk (pc := 358) (j := 1) (k0 := 3) (k3 := 0) dl_358 dl_359 dl_360 dl_361 dl_362 rfl (by omega) hLm Cx.1 hb hX hbl hS1 hl rfl rfl ?_
  refine lw_argk (pc := 363) (j := 2) (k0 := 3) (k3 := 0) dl_363 dl_364 dl_365 dl_366 dl_367 rfl (by omega) hLm Cx.1 hb hX hbl hS1 hl rfl rfl ?_
  refine q_ordR1 (X := X_lw meth.name) (pc := 368) (as' := [zI q1, zI q2]) (av' := [.int (xs (i0 + 1)), .int (xs (i0 + 2))]) (st := []) hg m_X9_ofa lr9_of Cx (qR_kept hfr1 IR) hT2 (fun r h hP => (zands_c (zands_c hP).2).1) hS1 hl.1 (fun ad => ⟨⟨_, rfl, hq1⟩, ⟨_, rfl, hq2⟩, trivial⟩) (Nat.zero_le _) rfl (by omega) (by omega) (fun wR1 ad2 r2 h2 ov2 H2 locs2 hov2 hP2 IR2 ht2 hfr2 hS2 => ?_)
  obtain ⟨v_, e_⟩ := zrI_t (zands_c hP2).1 hov2
  subst e_
  refine lv_pop (pc := 371) (va := .int v_) Cx.1 hb dl_371 rfl ?_
  refine lv_goto (pc := 372) (tgt := 986) Cx.1 hb dl_372 (by decide) ?_
  exact fin _ _ _ _ _ _ _ _ hg ⟨qC_kept hfr2 IC1, IR2, by rw [ht2, ht1, ht], by rw [ht1]; exact htl⟩ hS2 (by rw [hm1]; exact hcb) (by rw [hm1]; exact hsb)

theorem lw_c_core [G : zGh] {p : Program} {l : Launch} {e : Env} {s : State} {m : MethodId} {below : List Frame} {meth : Method} {c : Code} {b L i0 : Nat} {xs : Nat → Int32} {cA : Nat → ClassId} {D : va_G} {Q : State → Prop} {ls : Array Slot} {H : Heap} {locs : List Loc} {own : Nat → Nat} {ax am g cells slots : Nat} {w0 wR : va_W}
  (Cx : zCx (X_lw meth.name) cA D p s m #[Value.ref b] meth c (fun q => s.heap.size ≤ q)) (hX : va_X b L xs s s.heap) (hbl : b < s.heap.size) (hL : i0 + 6 ≤ L) (hLm : L ≤ 3072) (hg : g < 24) (I0 : qI cA D (fun q => s.heap.size ≤ q) H own ax am g w0 wR) (hS : va_S (fun q => s.heap.size ≤ q) s.heap H locs)
  (hl : lv_has ls 4 [(3, .int (nI i0)), (2, .ref am), (1, .ref ax), (0, .ref b)]) (hcb : cells + 1000 * qMis w0 ≤ 600000) (hsb : slots + 80000 * qMis w0 ≤ 7302250)
  (fin : ∀ (H1 : Heap) (locs1 : List Loc) (own1 : Nat → Nat) (g1 : Nat) (w1 wR1 : va_W) (cells1 slots1 : Nat), g1 < 24 → qI cA D (fun q => s.heap.size ≤ q) H1 own1 ax am g1 w1 wR1 → va_S (fun q => s.heap.size ≤ q) s.heap H1 locs1 → cells1 + 1000 * qMis w1 ≤ 600000 → slots1 + 80000 * qMis w1 ≤ 7302250 → W p l e (zRm 1000 600000 7302250) s m #[Value.ref b] below meth c H1 locs1 cells1 slots1 Q (F0 m 986 ls [])) :
  W p l e (zRm 1000 600000 7302250) s m #[Value.ref b] below meth c H locs cells slots Q (F0 m 375 ls []) := by
  have hb : c.code = code := Cx.2.1.trans (X_lw_c _)
  obtain ⟨IC, IR, ht, htl⟩ := I0
  obtain ⟨r1, r2, hr1, hr2, hT⟩ := evC_core g hg G (xs (i0 + 1)) (xs (i0 + 2))
  obtain ⟨q1, q2, hq1, hq2, hT2⟩ := evR_core g hg G (xs (i0 + 1)) (xs (i0 + 2))
  refine lv_aload_n (pc := 375) Cx.1 hb dl_375 rfl (lv_at hl 2 rfl) ?_
  refine lw_argk (pc := 376) (j := 1) (k0 := 3) (k3 := 0) dl_376 dl_377 dl_378 dl_379 dl_380 rfl (by omega) hLm Cx.1 hb hX hbl hS hl rfl rfl ?_
  refine lw_argk (pc := 381) (j := 2) (k0 := 3) (k3 := 0) dl_381 dl_382 dl_383 dl_384 dl_385 rfl (by omega) hLm Cx.1 hb hX hbl hS hl rfl rfl ?_
  refine q_ordC1 (X := X_lw meth.name) (pc := 386) (as' := [zI r1, zI r2]) (av' := [.int (xs (i0 + 1)), .int (xs (i0 + 2))]) (st := []) hg m_X8_corea lr8_core Cx IC hT (fun r h hP => (zands_c (zands_c hP).2).1) hS hl.1 (fun ad => ⟨⟨_, rfl, hr1⟩, ⟨_, rfl, hr2⟩, trivial⟩) (Nat.zero_le _) rfl (by omega) (by omega) (fun w1 ad1 r h1 ov H1 locs1 hov hP1 IC1 hm1 ht1 hfr1 hS1 => ?_)
  obtain ⟨v_, e_⟩ := zrI_t (zands_c hP1).1 hov
  subst e_
  refine lv_pop (pc := 389) (va := .int v_) Cx.1 hb dl_389 rfl ?_
  refine lv_aload_n (pc := 390) Cx.1 hb dl_390 rfl (lv_at hl 1 rfl) ?_
  refine lw_argk (pc := 391) (j := 1) (k0 := 3) (k3 := 0) dl_391 dl_392 dl_393 dl_394 dl_395 rfl (by omega) hLm Cx.1 hb hX hbl hS1 hl rfl rfl ?_
  refine lw_argk (pc := 396) (j := 2) (k0 := 3) (k3 := 0) dl_396 dl_397 dl_398 dl_399 dl_400 rfl (by omega) hLm Cx.1 hb hX hbl hS1 hl rfl rfl ?_
  refine q_ordR1 (X := X_lw meth.name) (pc := 401) (as' := [zI q1, zI q2]) (av' := [.int (xs (i0 + 1)), .int (xs (i0 + 2))]) (st := []) hg m_X9_corea lr9_core Cx (qR_kept hfr1 IR) hT2 (fun r h hP => (zands_c (zands_c hP).2).1) hS1 hl.1 (fun ad => ⟨⟨_, rfl, hq1⟩, ⟨_, rfl, hq2⟩, trivial⟩) (Nat.zero_le _) rfl (by omega) (by omega) (fun wR1 ad2 r2 h2 ov2 H2 locs2 hov2 hP2 IR2 ht2 hfr2 hS2 => ?_)
  obtain ⟨v_, e_⟩ := zrI_t (zands_c hP2).1 hov2
  subst e_
  refine lv_pop (pc := 404) (va := .int v_) Cx.1 hb dl_404 rfl ?_
  refine lv_goto (pc := 405) (tgt := 986) Cx.1 hb dl_405 (by decide) ?_
  exact fin _ _ _ _ _ _ _ _ hg ⟨qC_kept hfr2 IC1, IR2, by rw [ht2, ht1, ht], by rw [ht1]; exact htl⟩ hS2 (by rw [hm1]; exact hcb) (by rw [hm1]; exact hsb)

theorem lw_c_hook [G : zGh] {p : Program} {l : Launch} {e : Env} {s : State} {m : MethodId} {below : List Frame} {meth : Method} {c : Code} {b L i0 : Nat} {xs : Nat → Int32} {cA : Nat → ClassId} {D : va_G} {Q : State → Prop} {ls : Array Slot} {H : Heap} {locs : List Loc} {own : Nat → Nat} {ax am g cells slots : Nat} {w0 wR : va_W}
  (Cx : zCx (X_lw meth.name) cA D p s m #[Value.ref b] meth c (fun q => s.heap.size ≤ q)) (hX : va_X b L xs s s.heap) (hbl : b < s.heap.size) (hL : i0 + 6 ≤ L) (hLm : L ≤ 3072) (hg : g < 24) (I0 : qI cA D (fun q => s.heap.size ≤ q) H own ax am g w0 wR) (hS : va_S (fun q => s.heap.size ≤ q) s.heap H locs)
  (hl : lv_has ls 4 [(3, .int (nI i0)), (2, .ref am), (1, .ref ax), (0, .ref b)]) (hcb : cells + 1000 * qMis w0 ≤ 600000) (hsb : slots + 80000 * qMis w0 ≤ 7302250)
  (fin : ∀ (H1 : Heap) (locs1 : List Loc) (own1 : Nat → Nat) (g1 : Nat) (w1 wR1 : va_W) (cells1 slots1 : Nat), g1 < 24 → qI cA D (fun q => s.heap.size ≤ q) H1 own1 ax am g1 w1 wR1 → va_S (fun q => s.heap.size ≤ q) s.heap H1 locs1 → cells1 + 1000 * qMis w1 ≤ 600000 → slots1 + 80000 * qMis w1 ≤ 7302250 → W p l e (zRm 1000 600000 7302250) s m #[Value.ref b] below meth c H1 locs1 cells1 slots1 Q (F0 m 986 ls [])) :
  W p l e (zRm 1000 600000 7302250) s m #[Value.ref b] below meth c H locs cells slots Q (F0 m 408 ls []) := by
  have hb : c.code = code := Cx.2.1.trans (X_lw_c _)
  obtain ⟨IC, IR, ht, htl⟩ := I0
  obtain ⟨r1, r2, r3, hr1, hr2, hr3, hT⟩ := evC_hook g hg G (xs (i0 + 1)) (xs (i0 + 2)) (xs (i0 + 3))
  obtain ⟨q1, q2, q3, hq1, hq2, hq3, hT2⟩ := evR_hook g hg G (xs (i0 + 1)) (xs (i0 + 2)) (xs (i0 + 3))
  refine lv_aload_n (pc := 408) Cx.1 hb dl_408 rfl (lv_at hl 2 rfl) ?_
  refine lw_argk (pc := 409) (j := 1) (k0 := 3) (k3 := 0) dl_409 dl_410 dl_411 dl_412 dl_413 rfl (by omega) hLm Cx.1 hb hX hbl hS hl rfl rfl ?_
  refine lw_argk (pc := 414) (j := 2) (k0 := 3) (k3 := 0) dl_414 dl_415 dl_416 dl_417 dl_418 rfl (by omega) hLm Cx.1 hb hX hbl hS hl rfl rfl ?_
  refine lw_argk (pc := 419) (j := 3) (k0 := 3) (k3 := 0) dl_419 dl_420 dl_421 dl_422 dl_423 rfl (by omega) hLm Cx.1 hb hX hbl hS hl rfl rfl ?_
  refine q_ordC1 (X := X_lw meth.name) (pc := 424) (as' := [zI r1, zI r2, zI r3]) (av' := [.int (xs (i0 + 1)), .int (xs (i0 + 2)), .int (xs (i0 + 3))]) (st := []) hg m_X8_hooka lr8_hook Cx IC hT (fun r h hP => (zands_c (zands_c hP).2).1) hS hl.1 (fun ad => ⟨⟨_, rfl, hr1⟩, ⟨_, rfl, hr2⟩, ⟨_, rfl, hr3⟩, trivial⟩) (Nat.zero_le _) rfl (by omega) (by omega) (fun w1 ad1 r h1 ov H1 locs1 hov hP1 IC1 hm1 ht1 hfr1 hS1 => ?_)
  obtain ⟨v_, e_⟩ := zrI_t (zands_c hP1).1 hov
  subst e_
  refine lv_pop (pc := 427) (va := .int v_) Cx.1 hb dl_427 rfl ?_
  refine lv_aload_n (pc := 428) Cx.1 hb dl_428 rfl (lv_at hl 1 rfl) ?_
  refine lw_argk (pc := 429) (j := 1) (k0 := 3) (k3 := 0) dl_429 dl_430 dl_431 dl_432 dl_433 rfl (by omega) hLm Cx.1 hb hX hbl hS1 hl rfl rfl ?_
  refine lw_argk (pc := 434) (j := 2) (k0 := 3) (k3 := 0) dl_434 dl_435 dl_436 dl_437 dl_438 rfl (by omega) hLm Cx.1 hb hX hbl hS1 hl rfl rfl ?_
  refine lw_argk (pc := 439) (j := 3) (k0 := 3) (k3 := 0) dl_439 dl_440 dl_441 dl_442 dl_443 rfl (by omega) hLm Cx.1 hb hX hbl hS1 hl rfl rfl ?_
  refine q_ordR1 (X := X_lw meth.name) (pc := 444) (as' := [zI q1, zI q2, zI q3]) (av' := [.int (xs (i0 + 1)), .int (xs (i0 + 2)), .int (xs (i0 + 3))]) (st := []) hg m_X9_hooka lr9_hook Cx (qR_kept hfr1 IR) hT2 (fun r h hP => (zands_c (zands_c hP).2).1) hS1 hl.1 (fun ad => ⟨⟨_, rfl, hq1⟩, ⟨_, rfl, hq2⟩, ⟨_, rfl, hq3⟩, trivial⟩) (Nat.zero_le _) rfl (by omega) (by omega) (fun wR1 ad2 r2 h2 ov2 H2 locs2 hov2 hP2 IR2 ht2 hfr2 hS2 => ?_)
  obtain ⟨v_, e_⟩ := zrI_t (zands_c hP2).1 hov2
  subst e_
  refine lv_pop (pc := 447) (va := .int v_) Cx.1 hb dl_447 rfl ?_
  refine lv_goto (pc := 448) (tgt := 986) Cx.1 hb dl_448 (by decide) ?_
  exact fin _ _ _ _ _ _ _ _ hg ⟨qC_kept hfr2 IC1, IR2, by rw [ht2, ht1, ht], by rw [ht1]; exact htl⟩ hS2 (by rw [hm1]; exact hcb) (by rw [hm1]; exact hsb)

theorem lw_c_classOf [G : zGh] {p : Program} {l : Launch} {e : Env} {s : State} {m : MethodId} {below : List Frame} {meth : Method} {c : Code} {b L i0 : Nat} {xs : Nat → Int32} {cA : Nat → ClassId} {D : va_G} {Q : State → Prop} {ls : Array Slot} {H : Heap} {locs : List Loc} {own : Nat → Nat} {ax am g cells slots : Nat} {w0 wR : va_W}
  (Cx : zCx (X_lw meth.name) cA D p s m #[Value.ref b] meth c (fun q => s.heap.size ≤ q)) (hX : va_X b L xs s s.heap) (hbl : b < s.heap.size) (hL : i0 + 6 ≤ L) (hLm : L ≤ 3072) (hg : g < 24) (I0 : qI cA D (fun q => s.heap.size ≤ q) H own ax am g w0 wR) (hS : va_S (fun q => s.heap.size ≤ q) s.heap H locs)
  (hl : lv_has ls 4 [(3, .int (nI i0)), (2, .ref am), (1, .ref ax), (0, .ref b)]) (hcb : cells + 1000 * qMis w0 ≤ 600000) (hsb : slots + 80000 * qMis w0 ≤ 7302250)
  (fin : ∀ (H1 : Heap) (locs1 : List Loc) (own1 : Nat → Nat) (g1 : Nat) (w1 wR1 : va_W) (cells1 slots1 : Nat), g1 < 24 → qI cA D (fun q => s.heap.size ≤ q) H1 own1 ax am g1 w1 wR1 → va_S (fun q => s.heap.size ≤ q) s.heap H1 locs1 → cells1 + 1000 * qMis w1 ≤ 600000 → slots1 + 80000 * qMis w1 ≤ 7302250 → W p l e (zRm 1000 600000 7302250) s m #[Value.ref b] below meth c H1 locs1 cells1 slots1 Q (F0 m 986 ls [])) :
  W p l e (zRm 1000 600000 7302250) s m #[Value.ref b] below meth c H locs cells slots Q (F0 m 451 ls []) := by
  have hb : c.code = code := Cx.2.1.trans (X_lw_c _)
  obtain ⟨IC, IR, ht, htl⟩ := I0
  obtain ⟨r1, r2, hr1, hr2, hT⟩ := evC_classOf g hg G (xs (i0 + 1)) (xs (i0 + 2))
  obtain ⟨q1, q2, hq1, hq2, hT2⟩ := evR_classOf g hg G (xs (i0 + 1)) (xs (i0 + 2))
  refine lv_aload_n (pc := 451) Cx.1 hb dl_451 rfl (lv_at hl 2 rfl) ?_
  refine lw_argk (pc := 452) (j := 1) (k0 := 3) (k3 := 0) dl_452 dl_453 dl_454 dl_455 dl_456 rfl (by omega) hLm Cx.1 hb hX hbl hS hl rfl rfl ?_
  refine lw_argk (pc := 457) (j := 2) (k0 := 3) (k3 := 0) dl_457 dl_458 dl_459 dl_460 dl_461 rfl (by omega) hLm Cx.1 hb hX hbl hS hl rfl rfl ?_
  refine q_ordC1 (X := X_lw meth.name) (pc := 462) (as' := [zI r1, zI r2]) (av' := [.int (xs (i0 + 1)), .int (xs (i0 + 2))]) (st := []) hg m_X8_classOfa lr8_classOf Cx IC hT (fun r h hP => (zands_c (zands_c hP).2).1) hS hl.1 (fun ad => ⟨⟨_, rfl, hr1⟩, ⟨_, rfl, hr2⟩, trivial⟩) (Nat.zero_le _) rfl (by omega) (by omega) (fun w1 ad1 r h1 ov H1 locs1 hov hP1 IC1 hm1 ht1 hfr1 hS1 => ?_)
  obtain ⟨v_, e_⟩ := zrI_t (zands_c hP1).1 hov
  subst e_
  refine lv_pop (pc := 465) (va := .int v_) Cx.1 hb dl_465 rfl ?_
  refine lv_aload_n (pc := 466) Cx.1 hb dl_466 rfl (lv_at hl 1 rfl) ?_
  refine lw_argk (pc := 467) (j := 1) (k0 := 3) (k3 := 0) dl_467 dl_468 dl_469 dl_470 dl_471 rfl (by omega) hLm Cx.1 hb hX hbl hS1 hl rfl rfl ?_
  refine lw_argk (pc := 472) (j := 2) (k0 := 3) (k3 := 0) dl_472 dl_473 dl_474 dl_475 dl_476 rfl (by omega) hLm Cx.1 hb hX hbl hS1 hl rfl rfl ?_
  refine q_ordR1 (X := X_lw meth.name) (pc := 477) (as' := [zI q1, zI q2]) (av' := [.int (xs (i0 + 1)), .int (xs (i0 + 2))]) (st := []) hg m_X9_classOfa lr9_classOf Cx (qR_kept hfr1 IR) hT2 (fun r h hP => (zands_c (zands_c hP).2).1) hS1 hl.1 (fun ad => ⟨⟨_, rfl, hq1⟩, ⟨_, rfl, hq2⟩, trivial⟩) (Nat.zero_le _) rfl (by omega) (by omega) (fun wR1 ad2 r2 h2 ov2 H2 locs2 hov2 hP2 IR2 ht2 hfr2 hS2 => ?_)
  obtain ⟨v_, e_⟩ := zrI_t (zands_c hP2).1 hov2
  subst e_
  refine lv_pop (pc := 480) (va := .int v_) Cx.1 hb dl_480 rfl ?_
  refine lv_goto (pc := 481) (tgt := 986) Cx.1 hb dl_481 (by decide) ?_
  exact fin _ _ _ _ _ _ _ _ hg ⟨qC_kept hfr2 IC1, IR2, by rw [ht2, ht1, ht], by rw [ht1]; exact htl⟩ hS2 (by rw [hm1]; exact hcb) (by rw [hm1]; exact hsb)

theorem lw_c_character [G : zGh] {p : Program} {l : Launch} {e : Env} {s : State} {m : MethodId} {below : List Frame} {meth : Method} {c : Code} {b L i0 : Nat} {xs : Nat → Int32} {cA : Nat → ClassId} {D : va_G} {Q : State → Prop} {ls : Array Slot} {H : Heap} {locs : List Loc} {own : Nat → Nat} {ax am g cells slots : Nat} {w0 wR : va_W}
  (Cx : zCx (X_lw meth.name) cA D p s m #[Value.ref b] meth c (fun q => s.heap.size ≤ q)) (hX : va_X b L xs s s.heap) (hbl : b < s.heap.size) (hL : i0 + 6 ≤ L) (hLm : L ≤ 3072) (hg : g < 24) (I0 : qI cA D (fun q => s.heap.size ≤ q) H own ax am g w0 wR) (hS : va_S (fun q => s.heap.size ≤ q) s.heap H locs)
  (hl : lv_has ls 4 [(3, .int (nI i0)), (2, .ref am), (1, .ref ax), (0, .ref b)]) (hcb : cells + 1000 * qMis w0 ≤ 600000) (hsb : slots + 80000 * qMis w0 ≤ 7302250)
  (fin : ∀ (H1 : Heap) (locs1 : List Loc) (own1 : Nat → Nat) (g1 : Nat) (w1 wR1 : va_W) (cells1 slots1 : Nat), g1 < 24 → qI cA D (fun q => s.heap.size ≤ q) H1 own1 ax am g1 w1 wR1 → va_S (fun q => s.heap.size ≤ q) s.heap H1 locs1 → cells1 + 1000 * qMis w1 ≤ 600000 → slots1 + 80000 * qMis w1 ≤ 7302250 → W p l e (zRm 1000 600000 7302250) s m #[Value.ref b] below meth c H1 locs1 cells1 slots1 Q (F0 m 986 ls [])) :
  W p l e (zRm 1000 600000 7302250) s m #[Value.ref b] below meth c H locs cells slots Q (F0 m 484 ls []) := by
  have hb : c.code = code := Cx.2.1.trans (X_lw_c _)
  obtain ⟨IC, IR, ht, htl⟩ := I0
  obtain ⟨r1, r2, hr1, hr2, hT⟩ := evC_character g hg G (xs (i0 + 1)) (xs (i0 + 2))
  obtain ⟨q1, q2, hq1, hq2, hT2⟩ := evR_character g hg G (xs (i0 + 1)) (xs (i0 + 2))
  refine lv_aload_n (pc := 484) Cx.1 hb dl_484 rfl (lv_at hl 2 rfl) ?_
  refine lw_argk (pc := 485) (j := 1) (k0 := 3) (k3 := 0) dl_485 dl_486 dl_487 dl_488 dl_489 rfl (by omega) hLm Cx.1 hb hX hbl hS hl rfl rfl ?_
  refine lw_argk (pc := 490) (j := 2) (k0 := 3) (k3 := 0) dl_490 dl_491 dl_492 dl_493 dl_494 rfl (by omega) hLm Cx.1 hb hX hbl hS hl rfl rfl ?_
  refine q_ordC1 (X := X_lw meth.name) (pc := 495) (as' := [zI r1, zI r2]) (av' := [.int (xs (i0 + 1)), .int (xs (i0 + 2))]) (st := []) hg m_X8_charactera lr8_character Cx IC hT (fun r h hP => (zands_c (zands_c hP).2).1) hS hl.1 (fun ad => ⟨⟨_, rfl, hr1⟩, ⟨_, rfl, hr2⟩, trivial⟩) (Nat.zero_le _) rfl (by omega) (by omega) (fun w1 ad1 r h1 ov H1 locs1 hov hP1 IC1 hm1 ht1 hfr1 hS1 => ?_)
  obtain ⟨v_, e_⟩ := zrI_t (zands_c hP1).1 hov
  subst e_
  refine lv_pop (pc := 498) (va := .int v_) Cx.1 hb dl_498 rfl ?_
  refine lv_aload_n (pc := 499) Cx.1 hb dl_499 rfl (lv_at hl 1 rfl) ?_
  refine lw_argk (pc := 500) (j := 1) (k0 := 3) (k3 := 0) dl_500 dl_501 dl_502 dl_503 dl_504 rfl (by omega) hLm Cx.1 hb hX hbl hS1 hl rfl rfl ?_
  refine lw_argk (pc := 505) (j := 2) (k0 := 3) (k3 := 0) dl_505 dl_506 dl_507 dl_508 dl_509 rfl (by omega) hLm Cx.1 hb hX hbl hS1 hl rfl rfl ?_
  refine q_ordR1 (X := X_lw meth.name) (pc := 510) (as' := [zI q1, zI q2]) (av' := [.int (xs (i0 + 1)), .int (xs (i0 + 2))]) (st := []) hg m_X9_charactera lr9_character Cx (qR_kept hfr1 IR) hT2 (fun r h hP => (zands_c (zands_c hP).2).1) hS1 hl.1 (fun ad => ⟨⟨_, rfl, hq1⟩, ⟨_, rfl, hq2⟩, trivial⟩) (Nat.zero_le _) rfl (by omega) (by omega) (fun wR1 ad2 r2 h2 ov2 H2 locs2 hov2 hP2 IR2 ht2 hfr2 hS2 => ?_)
  obtain ⟨v_, e_⟩ := zrI_t (zands_c hP2).1 hov2
  subst e_
  refine lv_pop (pc := 513) (va := .int v_) Cx.1 hb dl_513 rfl ?_
  refine lv_goto (pc := 514) (tgt := 986) Cx.1 hb dl_514 (by decide) ?_
  exact fin _ _ _ _ _ _ _ _ hg ⟨qC_kept hfr2 IC1, IR2, by rw [ht2, ht1, ht], by rw [ht1]; exact htl⟩ hS2 (by rw [hm1]; exact hcb) (by rw [hm1]; exact hsb)

theorem lw_c_modular [G : zGh] {p : Program} {l : Launch} {e : Env} {s : State} {m : MethodId} {below : List Frame} {meth : Method} {c : Code} {b L i0 : Nat} {xs : Nat → Int32} {cA : Nat → ClassId} {D : va_G} {Q : State → Prop} {ls : Array Slot} {H : Heap} {locs : List Loc} {own : Nat → Nat} {ax am g cells slots : Nat} {w0 wR : va_W}
  (Cx : zCx (X_lw meth.name) cA D p s m #[Value.ref b] meth c (fun q => s.heap.size ≤ q)) (hX : va_X b L xs s s.heap) (hbl : b < s.heap.size) (hL : i0 + 6 ≤ L) (hLm : L ≤ 3072) (hg : g < 24) (I0 : qI cA D (fun q => s.heap.size ≤ q) H own ax am g w0 wR) (hS : va_S (fun q => s.heap.size ≤ q) s.heap H locs)
  (hl : lv_has ls 4 [(3, .int (nI i0)), (2, .ref am), (1, .ref ax), (0, .ref b)]) (hcb : cells + 1000 * qMis w0 ≤ 600000) (hsb : slots + 80000 * qMis w0 ≤ 7302250)
  (fin : ∀ (H1 : Heap) (locs1 : List Loc) (own1 : Nat → Nat) (g1 : Nat) (w1 wR1 : va_W) (cells1 slots1 : Nat), g1 < 24 → qI cA D (fun q => s.heap.size ≤ q) H1 own1 ax am g1 w1 wR1 → va_S (fun q => s.heap.size ≤ q) s.heap H1 locs1 → cells1 + 1000 * qMis w1 ≤ 600000 → slots1 + 80000 * qMis w1 ≤ 7302250 → W p l e (zRm 1000 600000 7302250) s m #[Value.ref b] below meth c H1 locs1 cells1 slots1 Q (F0 m 986 ls [])) :
  W p l e (zRm 1000 600000 7302250) s m #[Value.ref b] below meth c H locs cells slots Q (F0 m 517 ls []) := by
  have hb : c.code = code := Cx.2.1.trans (X_lw_c _)
  obtain ⟨IC, IR, ht, htl⟩ := I0
  obtain ⟨r1, r2, hr1, hr2, hT⟩ := evC_modular g hg G (xs (i0 + 1)) (xs (i0 + 2))
  obtain ⟨q1, q2, hq1, hq2, hT2⟩ := evR_modular g hg G (xs (i0 + 1)) (xs (i0 + 2))
  refine lv_aload_n (pc := 517) Cx.1 hb dl_517 rfl (lv_at hl 2 rfl) ?_
  refine lw_argk (pc := 518) (j := 1) (k0 := 3) (k3 := 0) dl_518 dl_519 dl_520 dl_521 dl_522 rfl (by omega) hLm Cx.1 hb hX hbl hS hl rfl rfl ?_
  refine lw_argk (pc := 523) (j := 2) (k0 := 3) (k3 := 0) dl_523 dl_524 dl_525 dl_526 dl_527 rfl (by omega) hLm Cx.1 hb hX hbl hS hl rfl rfl ?_
  refine q_ordC1 (X := X_lw meth.name) (pc := 528) (as' := [zI r1, zI r2]) (av' := [.int (xs (i0 + 1)), .int (xs (i0 + 2))]) (st := []) hg m_X8_modulara lr8_modular Cx IC hT (fun r h hP => (zands_c (zands_c hP).2).1) hS hl.1 (fun ad => ⟨⟨_, rfl, hr1⟩, ⟨_, rfl, hr2⟩, trivial⟩) (Nat.zero_le _) rfl (by omega) (by omega) (fun w1 ad1 r h1 ov H1 locs1 hov hP1 IC1 hm1 ht1 hfr1 hS1 => ?_)
  obtain ⟨v_, e_⟩ := zrI_t (zands_c hP1).1 hov
  subst e_
  refine lv_pop (pc := 531) (va := .int v_) Cx.1 hb dl_531 rfl ?_
  refine lv_aload_n (pc := 532) Cx.1 hb dl_532 rfl (lv_at hl 1 rfl) ?_
  refine lw_argk (pc := 533) (j := 1) (k0 := 3) (k3 := 0) dl_533 dl_534 dl_535 dl_536 dl_537 rfl (by omega) hLm Cx.1 hb hX hbl hS1 hl rfl rfl ?_
  refine lw_argk (pc := 538) (j := 2) (k0 := 3) (k3 := 0) dl_538 dl_539 dl_540 dl_541 dl_542 rfl (by omega) hLm Cx.1 hb hX hbl hS1 hl rfl rfl ?_
  refine q_ordR1 (X := X_lw meth.name) (pc := 543) (as' := [zI q1, zI q2]) (av' := [.int (xs (i0 + 1)), .int (xs (i0 + 2))]) (st := []) hg m_X9_modulara lr9_modular Cx (qR_kept hfr1 IR) hT2 (fun r h hP => (zands_c (zands_c hP).2).1) hS1 hl.1 (fun ad => ⟨⟨_, rfl, hq1⟩, ⟨_, rfl, hq2⟩, trivial⟩) (Nat.zero_le _) rfl (by omega) (by omega) (fun wR1 ad2 r2 h2 ov2 H2 locs2 hov2 hP2 IR2 ht2 hfr2 hS2 => ?_)
  obtain ⟨v_, e_⟩ := zrI_t (zands_c hP2).1 hov2
  subst e_
  refine lv_pop (pc := 546) (va := .int v_) Cx.1 hb dl_546 rfl ?_
  refine lv_goto (pc := 547) (tgt := 986) Cx.1 hb dl_547 (by decide) ?_
  exact fin _ _ _ _ _ _ _ _ hg ⟨qC_kept hfr2 IC1, IR2, by rw [ht2, ht1, ht], by rw [ht1]; exact htl⟩ hS2 (by rw [hm1]; exact hcb) (by rw [hm1]; exact hsb)

theorem lw_c_projective [G : zGh] {p : Program} {l : Launch} {e : Env} {s : State} {m : MethodId} {below : List Frame} {meth : Method} {c : Code} {b L i0 : Nat} {xs : Nat → Int32} {cA : Nat → ClassId} {D : va_G} {Q : State → Prop} {ls : Array Slot} {H : Heap} {locs : List Loc} {own : Nat → Nat} {ax am g cells slots : Nat} {w0 wR : va_W}
  (Cx : zCx (X_lw meth.name) cA D p s m #[Value.ref b] meth c (fun q => s.heap.size ≤ q)) (hX : va_X b L xs s s.heap) (hbl : b < s.heap.size) (hL : i0 + 6 ≤ L) (hLm : L ≤ 3072) (hg : g < 24) (I0 : qI cA D (fun q => s.heap.size ≤ q) H own ax am g w0 wR) (hS : va_S (fun q => s.heap.size ≤ q) s.heap H locs)
  (hl : lv_has ls 4 [(3, .int (nI i0)), (2, .ref am), (1, .ref ax), (0, .ref b)]) (hcb : cells + 1000 * qMis w0 ≤ 600000) (hsb : slots + 80000 * qMis w0 ≤ 7302250)
  (fin : ∀ (H1 : Heap) (locs1 : List Loc) (own1 : Nat → Nat) (g1 : Nat) (w1 wR1 : va_W) (cells1 slots1 : Nat), g1 < 24 → qI cA D (fun q => s.heap.size ≤ q) H1 own1 ax am g1 w1 wR1 → va_S (fun q => s.heap.size ≤ q) s.heap H1 locs1 → cells1 + 1000 * qMis w1 ≤ 600000 → slots1 + 80000 * qMis w1 ≤ 7302250 → W p l e (zRm 1000 600000 7302250) s m #[Value.ref b] below meth c H1 locs1 cells1 slots1 Q (F0 m 986 ls [])) :
  W p l e (zRm 1000 600000 7302250) s m #[Value.ref b] below meth c H locs cells slots Q (F0 m 550 ls []) := by
  have hb : c.code = code := Cx.2.1.trans (X_lw_c _)
  obtain ⟨IC, IR, ht, htl⟩ := I0
  obtain ⟨r1, r2, hr1, hr2, hT⟩ := evC_projective g hg G (xs (i0 + 1)) (xs (i0 + 2))
  obtain ⟨q1, q2, hq1, hq2, hT2⟩ := evR_projective g hg G (xs (i0 + 1)) (xs (i0 + 2))
  refine lv_aload_n (pc := 550) Cx.1 hb dl_550 rfl (lv_at hl 2 rfl) ?_
  refine lw_argk (pc := 551) (j := 1) (k0 := 3) (k3 := 0) dl_551 dl_552 dl_553 dl_554 dl_555 rfl (by omega) hLm Cx.1 hb hX hbl hS hl rfl rfl ?_
  refine lw_argk (pc := 556) (j := 2) (k0 := 3) (k3 := 0) dl_556 dl_557 dl_558 dl_559 dl_560 rfl (by omega) hLm Cx.1 hb hX hbl hS hl rfl rfl ?_
  refine q_ordC1 (X := X_lw meth.name) (pc := 561) (as' := [zI r1, zI r2]) (av' := [.int (xs (i0 + 1)), .int (xs (i0 + 2))]) (st := []) hg m_X8_projectivea lr8_projective Cx IC hT (fun r h hP => (zands_c (zands_c hP).2).1) hS hl.1 (fun ad => ⟨⟨_, rfl, hr1⟩, ⟨_, rfl, hr2⟩, trivial⟩) (Nat.zero_le _) rfl (by omega) (by omega) (fun w1 ad1 r h1 ov H1 locs1 hov hP1 IC1 hm1 ht1 hfr1 hS1 => ?_)
  obtain ⟨v_, e_⟩ := zrI_t (zands_c hP1).1 hov
  subst e_
  refine lv_pop (pc := 564) (va := .int v_) Cx.1 hb dl_564 rfl ?_
  refine lv_aload_n (pc := 565) Cx.1 hb dl_565 rfl (lv_at hl 1 rfl) ?_
  refine lw_argk (pc := 566) (j := 1) (k0 := 3) (k3 := 0) dl_566 dl_567 dl_568 dl_569 dl_570 rfl (by omega) hLm Cx.1 hb hX hbl hS1 hl rfl rfl ?_
  refine lw_argk (pc := 571) (j := 2) (k0 := 3) (k3 := 0) dl_571 dl_572 dl_573 dl_574 dl_575 rfl (by omega) hLm Cx.1 hb hX hbl hS1 hl rfl rfl ?_
  refine q_ordR1 (X := X_lw meth.name) (pc := 576) (as' := [zI q1, zI q2]) (av' := [.int (xs (i0 + 1)), .int (xs (i0 + 2))]) (st := []) hg m_X9_projectivea lr9_projective Cx (qR_kept hfr1 IR) hT2 (fun r h hP => (zands_c (zands_c hP).2).1) hS1 hl.1 (fun ad => ⟨⟨_, rfl, hq1⟩, ⟨_, rfl, hq2⟩, trivial⟩) (Nat.zero_le _) rfl (by omega) (by omega) (fun wR1 ad2 r2 h2 ov2 H2 locs2 hov2 hP2 IR2 ht2 hfr2 hS2 => ?_)
  obtain ⟨v_, e_⟩ := zrI_t (zands_c hP2).1 hov2
  subst e_
  refine lv_pop (pc := 579) (va := .int v_) Cx.1 hb dl_579 rfl ?_
  refine lv_goto (pc := 580) (tgt := 986) Cx.1 hb dl_580 (by decide) ?_
  exact fin _ _ _ _ _ _ _ _ hg ⟨qC_kept hfr2 IC1, IR2, by rw [ht2, ht1, ht], by rw [ht1]; exact htl⟩ hS2 (by rw [hm1]; exact hcb) (by rw [hm1]; exact hsb)

theorem lw_c_decomposition [G : zGh] {p : Program} {l : Launch} {e : Env} {s : State} {m : MethodId} {below : List Frame} {meth : Method} {c : Code} {b L i0 : Nat} {xs : Nat → Int32} {cA : Nat → ClassId} {D : va_G} {Q : State → Prop} {ls : Array Slot} {H : Heap} {locs : List Loc} {own : Nat → Nat} {ax am g cells slots : Nat} {w0 wR : va_W}
  (Cx : zCx (X_lw meth.name) cA D p s m #[Value.ref b] meth c (fun q => s.heap.size ≤ q)) (hX : va_X b L xs s s.heap) (hbl : b < s.heap.size) (hL : i0 + 6 ≤ L) (hLm : L ≤ 3072) (hg : g < 24) (I0 : qI cA D (fun q => s.heap.size ≤ q) H own ax am g w0 wR) (hS : va_S (fun q => s.heap.size ≤ q) s.heap H locs)
  (hl : lv_has ls 4 [(3, .int (nI i0)), (2, .ref am), (1, .ref ax), (0, .ref b)]) (hcb : cells + 1000 * qMis w0 ≤ 600000) (hsb : slots + 80000 * qMis w0 ≤ 7302250)
  (fin : ∀ (H1 : Heap) (locs1 : List Loc) (own1 : Nat → Nat) (g1 : Nat) (w1 wR1 : va_W) (cells1 slots1 : Nat), g1 < 24 → qI cA D (fun q => s.heap.size ≤ q) H1 own1 ax am g1 w1 wR1 → va_S (fun q => s.heap.size ≤ q) s.heap H1 locs1 → cells1 + 1000 * qMis w1 ≤ 600000 → slots1 + 80000 * qMis w1 ≤ 7302250 → W p l e (zRm 1000 600000 7302250) s m #[Value.ref b] below meth c H1 locs1 cells1 slots1 Q (F0 m 986 ls [])) :
  W p l e (zRm 1000 600000 7302250) s m #[Value.ref b] below meth c H locs cells slots Q (F0 m 583 ls []) := by
  have hb : c.code = code := Cx.2.1.trans (X_lw_c _)
  obtain ⟨IC, IR, ht, htl⟩ := I0
  obtain ⟨r1, r2, hr1, hr2, hT⟩ := evC_decomposition g hg G (xs (i0 + 1)) (xs (i0 + 2))
  obtain ⟨q1, q2, hq1, hq2, hT2⟩ := evR_decomposition g hg G (xs (i0 + 1)) (xs (i0 + 2))
  refine lv_aload_n (pc := 583) Cx.1 hb dl_583 rfl (lv_at hl 2 rfl) ?_
  refine lw_argk (pc := 584) (j := 1) (k0 := 3) (k3 := 0) dl_584 dl_585 dl_586 dl_587 dl_588 rfl (by omega) hLm Cx.1 hb hX hbl hS hl rfl rfl ?_
  refine lw_argk (pc := 589) (j := 2) (k0 := 3) (k3 := 0) dl_589 dl_590 dl_591 dl_592 dl_593 rfl (by omega) hLm Cx.1 hb hX hbl hS hl rfl rfl ?_
  refine q_ordC1 (X := X_lw meth.name) (pc := 594) (as' := [zI r1, zI r2]) (av' := [.int (xs (i0 + 1)), .int (xs (i0 + 2))]) (st := []) hg m_X8_decompositiona lr8_decomposition Cx IC hT (fun r h hP => (zands_c (zands_c hP).2).1) hS hl.1 (fun ad => ⟨⟨_, rfl, hr1⟩, ⟨_, rfl, hr2⟩, trivial⟩) (Nat.zero_le _) rfl (by omega) (by omega) (fun w1 ad1 r h1 ov H1 locs1 hov hP1 IC1 hm1 ht1 hfr1 hS1 => ?_)
  obtain ⟨v_, e_⟩ := zrI_t (zands_c hP1).1 hov
  subst e_
  refine lv_pop (pc := 597) (va := .int v_) Cx.1 hb dl_597 rfl ?_
  refine lv_aload_n (pc := 598) Cx.1 hb dl_598 rfl (lv_at hl 1 rfl) ?_
  refine lw_argk (pc := 599) (j := 1) (k0 := 3) (k3 := 0) dl_599 dl_600 dl_601 dl_602 dl_603 rfl (by omega) hLm Cx.1 hb hX hbl hS1 hl rfl rfl ?_
  refine lw_argk (pc := 604) (j := 2) (k0 := 3) (k3 := 0) dl_604 dl_605 dl_606 dl_607 dl_608 rfl (by omega) hLm Cx.1 hb hX hbl hS1 hl rfl rfl ?_
  refine q_ordR1 (X := X_lw meth.name) (pc := 609) (as' := [zI q1, zI q2]) (av' := [.int (xs (i0 + 1)), .int (xs (i0 + 2))]) (st := []) hg m_X9_decompositiona lr9_decomposition Cx (qR_kept hfr1 IR) hT2 (fun r h hP => (zands_c (zands_c hP).2).1) hS1 hl.1 (fun ad => ⟨⟨_, rfl, hq1⟩, ⟨_, rfl, hq2⟩, trivial⟩) (Nat.zero_le _) rfl (by omega) (by omega) (fun wR1 ad2 r2 h2 ov2 H2 locs2 hov2 hP2 IR2 ht2 hfr2 hS2 => ?_)
  obtain ⟨v_, e_⟩ := zrI_t (zands_c hP2).1 hov2
  subst e_
  refine lv_pop (pc := 612) (va := .int v_) Cx.1 hb dl_612 rfl ?_
  refine lv_goto (pc := 613) (tgt := 986) Cx.1 hb dl_613 (by decide) ?_
  exact fin _ _ _ _ _ _ _ _ hg ⟨qC_kept hfr2 IC1, IR2, by rw [ht2, ht1, ht], by rw [ht1]; exact htl⟩ hS2 (by rw [hm1]; exact hcb) (by rw [hm1]; exact hsb)

theorem lw_c_cartan [G : zGh] {p : Program} {l : Launch} {e : Env} {s : State} {m : MethodId} {below : List Frame} {meth : Method} {c : Code} {b L i0 : Nat} {xs : Nat → Int32} {cA : Nat → ClassId} {D : va_G} {Q : State → Prop} {ls : Array Slot} {H : Heap} {locs : List Loc} {own : Nat → Nat} {ax am g cells slots : Nat} {w0 wR : va_W}
  (Cx : zCx (X_lw meth.name) cA D p s m #[Value.ref b] meth c (fun q => s.heap.size ≤ q)) (hX : va_X b L xs s s.heap) (hbl : b < s.heap.size) (hL : i0 + 6 ≤ L) (hLm : L ≤ 3072) (hg : g < 24) (I0 : qI cA D (fun q => s.heap.size ≤ q) H own ax am g w0 wR) (hS : va_S (fun q => s.heap.size ≤ q) s.heap H locs)
  (hl : lv_has ls 4 [(3, .int (nI i0)), (2, .ref am), (1, .ref ax), (0, .ref b)]) (hcb : cells + 1000 * qMis w0 ≤ 600000) (hsb : slots + 80000 * qMis w0 ≤ 7302250)
  (fin : ∀ (H1 : Heap) (locs1 : List Loc) (own1 : Nat → Nat) (g1 : Nat) (w1 wR1 : va_W) (cells1 slots1 : Nat), g1 < 24 → qI cA D (fun q => s.heap.size ≤ q) H1 own1 ax am g1 w1 wR1 → va_S (fun q => s.heap.size ≤ q) s.heap H1 locs1 → cells1 + 1000 * qMis w1 ≤ 600000 → slots1 + 80000 * qMis w1 ≤ 7302250 → W p l e (zRm 1000 600000 7302250) s m #[Value.ref b] below meth c H1 locs1 cells1 slots1 Q (F0 m 986 ls [])) :
  W p l e (zRm 1000 600000 7302250) s m #[Value.ref b] below meth c H locs cells slots Q (F0 m 616 ls []) := by
  have hb : c.code = code := Cx.2.1.trans (X_lw_c _)
  obtain ⟨IC, IR, ht, htl⟩ := I0
  obtain ⟨r1, r2, hr1, hr2, hT⟩ := evC_cartan g hg G (xs (i0 + 1)) (xs (i0 + 2))
  obtain ⟨q1, q2, hq1, hq2, hT2⟩ := evR_cartan g hg G (xs (i0 + 1)) (xs (i0 + 2))
  refine lv_aload_n (pc := 616) Cx.1 hb dl_616 rfl (lv_at hl 2 rfl) ?_
  refine lw_argk (pc := 617) (j := 1) (k0 := 3) (k3 := 0) dl_617 dl_618 dl_619 dl_620 dl_621 rfl (by omega) hLm Cx.1 hb hX hbl hS hl rfl rfl ?_
  refine lw_argk (pc := 622) (j := 2) (k0 := 3) (k3 := 0) dl_622 dl_623 dl_624 dl_625 dl_626 rfl (by omega) hLm Cx.1 hb hX hbl hS hl rfl rfl ?_
  refine q_ordC1 (X := X_lw meth.name) (pc := 627) (as' := [zI r1, zI r2]) (av' := [.int (xs (i0 + 1)), .int (xs (i0 + 2))]) (st := []) hg m_X8_cartana lr8_cartan Cx IC hT (fun r h hP => (zands_c (zands_c hP).2).1) hS hl.1 (fun ad => ⟨⟨_, rfl, hr1⟩, ⟨_, rfl, hr2⟩, trivial⟩) (Nat.zero_le _) rfl (by omega) (by omega) (fun w1 ad1 r h1 ov H1 locs1 hov hP1 IC1 hm1 ht1 hfr1 hS1 => ?_)
  obtain ⟨v_, e_⟩ := zrI_t (zands_c hP1).1 hov
  subst e_
  refine lv_pop (pc := 630) (va := .int v_) Cx.1 hb dl_630 rfl ?_
  refine lv_aload_n (pc := 631) Cx.1 hb dl_631 rfl (lv_at hl 1 rfl) ?_
  refine lw_argk (pc := 632) (j := 1) (k0 := 3) (k3 := 0) dl_632 dl_633 dl_634 dl_635 dl_636 rfl (by omega) hLm Cx.1 hb hX hbl hS1 hl rfl rfl ?_
  refine lw_argk (pc := 637) (j := 2) (k0 := 3) (k3 := 0) dl_637 dl_638 dl_639 dl_640 dl_641 rfl (by omega) hLm Cx.1 hb hX hbl hS1 hl rfl rfl ?_
  refine q_ordR1 (X := X_lw meth.name) (pc := 642) (as' := [zI q1, zI q2]) (av' := [.int (xs (i0 + 1)), .int (xs (i0 + 2))]) (st := []) hg m_X9_cartana lr9_cartan Cx (qR_kept hfr1 IR) hT2 (fun r h hP => (zands_c (zands_c hP).2).1) hS1 hl.1 (fun ad => ⟨⟨_, rfl, hq1⟩, ⟨_, rfl, hq2⟩, trivial⟩) (Nat.zero_le _) rfl (by omega) (by omega) (fun wR1 ad2 r2 h2 ov2 H2 locs2 hov2 hP2 IR2 ht2 hfr2 hS2 => ?_)
  obtain ⟨v_, e_⟩ := zrI_t (zands_c hP2).1 hov2
  subst e_
  refine lv_pop (pc := 645) (va := .int v_) Cx.1 hb dl_645 rfl ?_
  refine lv_goto (pc := 646) (tgt := 986) Cx.1 hb dl_646 (by decide) ?_
  exact fin _ _ _ _ _ _ _ _ hg ⟨qC_kept hfr2 IC1, IR2, by rw [ht2, ht1, ht], by rw [ht1]; exact htl⟩ hS2 (by rw [hm1]; exact hcb) (by rw [hm1]; exact hsb)

theorem lw_c_tableau [G : zGh] {p : Program} {l : Launch} {e : Env} {s : State} {m : MethodId} {below : List Frame} {meth : Method} {c : Code} {b L i0 : Nat} {xs : Nat → Int32} {cA : Nat → ClassId} {D : va_G} {Q : State → Prop} {ls : Array Slot} {H : Heap} {locs : List Loc} {own : Nat → Nat} {ax am g cells slots : Nat} {w0 wR : va_W}
  (Cx : zCx (X_lw meth.name) cA D p s m #[Value.ref b] meth c (fun q => s.heap.size ≤ q)) (hX : va_X b L xs s s.heap) (hbl : b < s.heap.size) (hL : i0 + 6 ≤ L) (hLm : L ≤ 3072) (hg : g < 24) (I0 : qI cA D (fun q => s.heap.size ≤ q) H own ax am g w0 wR) (hS : va_S (fun q => s.heap.size ≤ q) s.heap H locs)
  (hl : lv_has ls 4 [(3, .int (nI i0)), (2, .ref am), (1, .ref ax), (0, .ref b)]) (hcb : cells + 1000 * qMis w0 ≤ 600000) (hsb : slots + 80000 * qMis w0 ≤ 7302250)
  (fin : ∀ (H1 : Heap) (locs1 : List Loc) (own1 : Nat → Nat) (g1 : Nat) (w1 wR1 : va_W) (cells1 slots1 : Nat), g1 < 24 → qI cA D (fun q => s.heap.size ≤ q) H1 own1 ax am g1 w1 wR1 → va_S (fun q => s.heap.size ≤ q) s.heap H1 locs1 → cells1 + 1000 * qMis w1 ≤ 600000 → slots1 + 80000 * qMis w1 ≤ 7302250 → W p l e (zRm 1000 600000 7302250) s m #[Value.ref b] below meth c H1 locs1 cells1 slots1 Q (F0 m 986 ls [])) :
  W p l e (zRm 1000 600000 7302250) s m #[Value.ref b] below meth c H locs cells slots Q (F0 m 649 ls []) := by
  have hb : c.code = code := Cx.2.1.trans (X_lw_c _)
  obtain ⟨IC, IR, ht, htl⟩ := I0
  obtain ⟨r1, r2, r3, r4, hr1, hr2, hr3, hr4, hT⟩ := evC_tableau g hg G (xs (i0 + 1)) (xs (i0 + 2)) (xs (i0 + 3)) (xs (i0 + 4))
  obtain ⟨q1, q2, q3, q4, hq1, hq2, hq3, hq4, hT2⟩ := evR_tableau g hg G (xs (i0 + 1)) (xs (i0 + 2)) (xs (i0 + 3)) (xs (i0 + 4))
  refine lv_aload_n (pc := 649) Cx.1 hb dl_649 rfl (lv_at hl 2 rfl) ?_
  refine lw_argk (pc := 650) (j := 1) (k0 := 3) (k3 := 0) dl_650 dl_651 dl_652 dl_653 dl_654 rfl (by omega) hLm Cx.1 hb hX hbl hS hl rfl rfl ?_
  refine lw_argk (pc := 655) (j := 2) (k0 := 3) (k3 := 0) dl_655 dl_656 dl_657 dl_658 dl_659 rfl (by omega) hLm Cx.1 hb hX hbl hS hl rfl rfl ?_
  refine lw_argk (pc := 660) (j := 3) (k0 := 3) (k3 := 0) dl_660 dl_661 dl_662 dl_663 dl_664 rfl (by omega) hLm Cx.1 hb hX hbl hS hl rfl rfl ?_
  refine lw_argk (pc := 665) (j := 4) (k0 := 3) (k3 := 0) dl_665 dl_666 dl_667 dl_668 dl_669 rfl (by omega) hLm Cx.1 hb hX hbl hS hl rfl rfl ?_
  refine q_ordC1 (X := X_lw meth.name) (pc := 670) (as' := [zI r1, zI r2, zI r3, zI r4]) (av' := [.int (xs (i0 + 1)), .int (xs (i0 + 2)), .int (xs (i0 + 3)), .int (xs (i0 + 4))]) (st := []) hg m_X8_tableaua lr8_tableau Cx IC hT (fun r h hP => (zands_c (zands_c hP).2).1) hS hl.1 (fun ad => ⟨⟨_, rfl, hr1⟩, ⟨_, rfl, hr2⟩, ⟨_, rfl, hr3⟩, ⟨_, rfl, hr4⟩, trivial⟩) (Nat.zero_le _) rfl (by omega) (by omega) (fun w1 ad1 r h1 ov H1 locs1 hov hP1 IC1 hm1 ht1 hfr1 hS1 => ?_)
  obtain ⟨v_, e_⟩ := zrI_t (zands_c hP1).1 hov
  subst e_
  refine lv_pop (pc := 673) (va := .int v_) Cx.1 hb dl_673 rfl ?_
  refine lv_aload_n (pc := 674) Cx.1 hb dl_674 rfl (lv_at hl 1 rfl) ?_
  refine lw_argk (pc := 675) (j := 1) (k0 := 3) (k3 := 0) dl_675 dl_676 dl_677 dl_678 dl_679 rfl (by omega) hLm Cx.1 hb hX hbl hS1 hl rfl rfl ?_
  refine lw_argk (pc := 680) (j := 2) (k0 := 3) (k3 := 0) dl_680 dl_681 dl_682 dl_683 dl_684 rfl (by omega) hLm Cx.1 hb hX hbl hS1 hl rfl rfl ?_
  refine lw_argk (pc := 685) (j := 3) (k0 := 3) (k3 := 0) dl_685 dl_686 dl_687 dl_688 dl_689 rfl (by omega) hLm Cx.1 hb hX hbl hS1 hl rfl rfl ?_
  refine lw_argk (pc := 690) (j := 4) (k0 := 3) (k3 := 0) dl_690 dl_691 dl_692 dl_693 dl_694 rfl (by omega) hLm Cx.1 hb hX hbl hS1 hl rfl rfl ?_
  refine q_ordR1 (X := X_lw meth.name) (pc := 695) (as' := [zI q1, zI q2, zI q3, zI q4]) (av' := [.int (xs (i0 + 1)), .int (xs (i0 + 2)), .int (xs (i0 + 3)), .int (xs (i0 + 4))]) (st := []) hg m_X9_tableaua lr9_tableau Cx (qR_kept hfr1 IR) hT2 (fun r h hP => (zands_c (zands_c hP).2).1) hS1 hl.1 (fun ad => ⟨⟨_, rfl, hq1⟩, ⟨_, rfl, hq2⟩, ⟨_, rfl, hq3⟩, ⟨_, rfl, hq4⟩, trivial⟩) (Nat.zero_le _) rfl (by omega) (by omega) (fun wR1 ad2 r2 h2 ov2 H2 locs2 hov2 hP2 IR2 ht2 hfr2 hS2 => ?_)
  obtain ⟨v_, e_⟩ := zrI_t (zands_c hP2).1 hov2
  subst e_
  refine lv_pop (pc := 698) (va := .int v_) Cx.1 hb dl_698 rfl ?_
  refine lv_goto (pc := 699) (tgt := 986) Cx.1 hb dl_699 (by decide) ?_
  exact fin _ _ _ _ _ _ _ _ hg ⟨qC_kept hfr2 IC1, IR2, by rw [ht2, ht1, ht], by rw [ht1]; exact htl⟩ hS2 (by rw [hm1]; exact hcb) (by rw [hm1]; exact hsb)

theorem lw_c_gram [G : zGh] {p : Program} {l : Launch} {e : Env} {s : State} {m : MethodId} {below : List Frame} {meth : Method} {c : Code} {b L i0 : Nat} {xs : Nat → Int32} {cA : Nat → ClassId} {D : va_G} {Q : State → Prop} {ls : Array Slot} {H : Heap} {locs : List Loc} {own : Nat → Nat} {ax am g cells slots : Nat} {w0 wR : va_W}
  (Cx : zCx (X_lw meth.name) cA D p s m #[Value.ref b] meth c (fun q => s.heap.size ≤ q)) (hX : va_X b L xs s s.heap) (hbl : b < s.heap.size) (hL : i0 + 6 ≤ L) (hLm : L ≤ 3072) (hg : g < 24) (I0 : qI cA D (fun q => s.heap.size ≤ q) H own ax am g w0 wR) (hS : va_S (fun q => s.heap.size ≤ q) s.heap H locs)
  (hl : lv_has ls 4 [(3, .int (nI i0)), (2, .ref am), (1, .ref ax), (0, .ref b)]) (hcb : cells + 1000 * qMis w0 ≤ 600000) (hsb : slots + 80000 * qMis w0 ≤ 7302250)
  (fin : ∀ (H1 : Heap) (locs1 : List Loc) (own1 : Nat → Nat) (g1 : Nat) (w1 wR1 : va_W) (cells1 slots1 : Nat), g1 < 24 → qI cA D (fun q => s.heap.size ≤ q) H1 own1 ax am g1 w1 wR1 → va_S (fun q => s.heap.size ≤ q) s.heap H1 locs1 → cells1 + 1000 * qMis w1 ≤ 600000 → slots1 + 80000 * qMis w1 ≤ 7302250 → W p l e (zRm 1000 600000 7302250) s m #[Value.ref b] below meth c H1 locs1 cells1 slots1 Q (F0 m 986 ls [])) :
  W p l e (zRm 1000 600000 7302250) s m #[Value.ref b] below meth c H locs cells slots Q (F0 m 702 ls []) := by
  have hb : c.code = code := Cx.2.1.trans (X_lw_c _)
  obtain ⟨IC, IR, ht, htl⟩ := I0
  obtain ⟨r1, r2, r3, hr1, hr2, hr3, hT⟩ := evC_gram g hg G (xs (i0 + 1)) (xs (i0 + 2)) (xs (i0 + 3))
  obtain ⟨q1, q2, q3, hq1, hq2, hq3, hT2⟩ := evR_gram g hg G (xs (i0 + 1)) (xs (i0 + 2)) (xs (i0 + 3))
  refine lv_aload_n (pc := 702) Cx.1 hb dl_702 rfl (lv_at hl 2 rfl) ?_
  refine lw_argk (pc := 703) (j := 1) (k0 := 3) (k3 := 0) dl_703 dl_704 dl_705 dl_706 dl_707 rfl (by omega) hLm Cx.1 hb hX hbl hS hl rfl rfl ?_
  refine lw_argk (pc := 708) (j := 2) (k0 := 3) (k3 := 0) dl_708 dl_709 dl_710 dl_711 dl_712 rfl (by omega) hLm Cx.1 hb hX hbl hS hl rfl rfl ?_
  refine lw_argk (pc := 713) (j := 3) (k0 := 3) (k3 := 0) dl_713 dl_714 dl_715 dl_716 dl_717 rfl (by omega) hLm Cx.1 hb hX hbl hS hl rfl rfl ?_
  refine q_ordC1 (X := X_lw meth.name) (pc := 718) (as' := [zI r1, zI r2, zI r3]) (av' := [.int (xs (i0 + 1)), .int (xs (i0 + 2)), .int (xs (i0 + 3))]) (st := []) hg m_X8_grama lr8_gram Cx IC hT (fun r h hP => (zands_c (zands_c hP).2).1) hS hl.1 (fun ad => ⟨⟨_, rfl, hr1⟩, ⟨_, rfl, hr2⟩, ⟨_, rfl, hr3⟩, trivial⟩) (Nat.zero_le _) rfl (by omega) (by omega) (fun w1 ad1 r h1 ov H1 locs1 hov hP1 IC1 hm1 ht1 hfr1 hS1 => ?_)
  obtain ⟨v_, e_⟩ := zrI_t (zands_c hP1).1 hov
  subst e_
  refine lv_pop (pc := 721) (va := .int v_) Cx.1 hb dl_721 rfl ?_
  refine lv_aload_n (pc := 722) Cx.1 hb dl_722 rfl (lv_at hl 1 rfl) ?_
  refine lw_argk (pc := 723) (j := 1) (k0 := 3) (k3 := 0) dl_723 dl_724 dl_725 dl_726 dl_727 rfl (by omega) hLm Cx.1 hb hX hbl hS1 hl rfl rfl ?_
  refine lw_argk (pc := 728) (j := 2) (k0 := 3) (k3 := 0) dl_728 dl_729 dl_730 dl_731 dl_732 rfl (by omega) hLm Cx.1 hb hX hbl hS1 hl rfl rfl ?_
  refine lw_argk (pc := 733) (j := 3) (k0 := 3) (k3 := 0) dl_733 dl_734 dl_735 dl_736 dl_737 rfl (by omega) hLm Cx.1 hb hX hbl hS1 hl rfl rfl ?_
  refine q_ordR1 (X := X_lw meth.name) (pc := 738) (as' := [zI q1, zI q2, zI q3]) (av' := [.int (xs (i0 + 1)), .int (xs (i0 + 2)), .int (xs (i0 + 3))]) (st := []) hg m_X9_grama lr9_gram Cx (qR_kept hfr1 IR) hT2 (fun r h hP => (zands_c (zands_c hP).2).1) hS1 hl.1 (fun ad => ⟨⟨_, rfl, hq1⟩, ⟨_, rfl, hq2⟩, ⟨_, rfl, hq3⟩, trivial⟩) (Nat.zero_le _) rfl (by omega) (by omega) (fun wR1 ad2 r2 h2 ov2 H2 locs2 hov2 hP2 IR2 ht2 hfr2 hS2 => ?_)
  obtain ⟨v_, e_⟩ := zrI_t (zands_c hP2).1 hov2
  subst e_
  refine lv_pop (pc := 741) (va := .int v_) Cx.1 hb dl_741 rfl ?_
  refine lv_goto (pc := 742) (tgt := 986) Cx.1 hb dl_742 (by decide) ?_
  exact fin _ _ _ _ _ _ _ _ hg ⟨qC_kept hfr2 IC1, IR2, by rw [ht2, ht1, ht], by rw [ht1]; exact htl⟩ hS2 (by rw [hm1]; exact hcb) (by rw [hm1]; exact hsb)

theorem lw_c_block [G : zGh] {p : Program} {l : Launch} {e : Env} {s : State} {m : MethodId} {below : List Frame} {meth : Method} {c : Code} {b L i0 : Nat} {xs : Nat → Int32} {cA : Nat → ClassId} {D : va_G} {Q : State → Prop} {ls : Array Slot} {H : Heap} {locs : List Loc} {own : Nat → Nat} {ax am g cells slots : Nat} {w0 wR : va_W}
  (Cx : zCx (X_lw meth.name) cA D p s m #[Value.ref b] meth c (fun q => s.heap.size ≤ q)) (hX : va_X b L xs s s.heap) (hbl : b < s.heap.size) (hL : i0 + 6 ≤ L) (hLm : L ≤ 3072) (hg : g < 24) (I0 : qI cA D (fun q => s.heap.size ≤ q) H own ax am g w0 wR) (hS : va_S (fun q => s.heap.size ≤ q) s.heap H locs)
  (hl : lv_has ls 4 [(3, .int (nI i0)), (2, .ref am), (1, .ref ax), (0, .ref b)]) (hcb : cells + 1000 * qMis w0 ≤ 600000) (hsb : slots + 80000 * qMis w0 ≤ 7302250)
  (fin : ∀ (H1 : Heap) (locs1 : List Loc) (own1 : Nat → Nat) (g1 : Nat) (w1 wR1 : va_W) (cells1 slots1 : Nat), g1 < 24 → qI cA D (fun q => s.heap.size ≤ q) H1 own1 ax am g1 w1 wR1 → va_S (fun q => s.heap.size ≤ q) s.heap H1 locs1 → cells1 + 1000 * qMis w1 ≤ 600000 → slots1 + 80000 * qMis w1 ≤ 7302250 → W p l e (zRm 1000 600000 7302250) s m #[Value.ref b] below meth c H1 locs1 cells1 slots1 Q (F0 m 986 ls [])) :
  W p l e (zRm 1000 600000 7302250) s m #[Value.ref b] below meth c H locs cells slots Q (F0 m 745 ls []) := by
  have hb : c.code = code := Cx.2.1.trans (X_lw_c _)
  obtain ⟨IC, IR, ht, htl⟩ := I0
  obtain ⟨r1, r2, hr1, hr2, hT⟩ := evC_block g hg G (xs (i0 + 1)) (xs (i0 + 2))
  obtain ⟨q1, q2, hq1, hq2, hT2⟩ := evR_block g hg G (xs (i0 + 1)) (xs (i0 + 2))
  refine lv_aload_n (pc := 745) Cx.1 hb dl_745 rfl (lv_at hl 2 rfl) ?_
  refine lw_argk (pc := 746) (j := 1) (k0 := 3) (k3 := 0) dl_746 dl_747 dl_748 dl_749 dl_750 rfl (by omega) hLm Cx.1 hb hX hbl hS hl rfl rfl ?_
  refine lw_argk (pc := 751) (j := 2) (k0 := 3) (k3 := 0) dl_751 dl_752 dl_753 dl_754 dl_755 rfl (by omega) hLm Cx.1 hb hX hbl hS hl rfl rfl ?_
  refine q_ordC1 (X := X_lw meth.name) (pc := 756) (as' := [zI r1, zI r2]) (av' := [.int (xs (i0 + 1)), .int (xs (i0 + 2))]) (st := []) hg m_X8_blocka lr8_block Cx IC hT (fun r h hP => (zands_c (zands_c hP).2).1) hS hl.1 (fun ad => ⟨⟨_, rfl, hr1⟩, ⟨_, rfl, hr2⟩, trivial⟩) (Nat.zero_le _) rfl (by omega) (by omega) (fun w1 ad1 r h1 ov H1 locs1 hov hP1 IC1 hm1 ht1 hfr1 hS1 => ?_)
  obtain ⟨v_, e_⟩ := zrI_t (zands_c hP1).1 hov
  subst e_
  refine lv_pop (pc := 759) (va := .int v_) Cx.1 hb dl_759 rfl ?_
  refine lv_aload_n (pc := 760) Cx.1 hb dl_760 rfl (lv_at hl 1 rfl) ?_
  refine lw_argk (pc := 761) (j := 1) (k0 := 3) (k3 := 0) dl_761 dl_762 dl_763 dl_764 dl_765 rfl (by omega) hLm Cx.1 hb hX hbl hS1 hl rfl rfl ?_
  refine lw_argk (pc := 766) (j := 2) (k0 := 3) (k3 := 0) dl_766 dl_767 dl_768 dl_769 dl_770 rfl (by omega) hLm Cx.1 hb hX hbl hS1 hl rfl rfl ?_
  refine q_ordR1 (X := X_lw meth.name) (pc := 771) (as' := [zI q1, zI q2]) (av' := [.int (xs (i0 + 1)), .int (xs (i0 + 2))]) (st := []) hg m_X9_blockt lr9_block Cx (qR_kept hfr1 IR) hT2 (fun r h hP => (zands_c (zands_c hP).2).1) hS1 hl.1 (fun ad => ⟨⟨_, rfl, hq1⟩, ⟨_, rfl, hq2⟩, trivial⟩) (Nat.zero_le _) rfl (by omega) (by omega) (fun wR1 ad2 r2 h2 ov2 H2 locs2 hov2 hP2 IR2 ht2 hfr2 hS2 => ?_)
  obtain ⟨v_, e_⟩ := zrI_t (zands_c hP2).1 hov2
  subst e_
  refine lv_pop (pc := 774) (va := .int v_) Cx.1 hb dl_774 rfl ?_
  refine lv_goto (pc := 775) (tgt := 986) Cx.1 hb dl_775 (by decide) ?_
  exact fin _ _ _ _ _ _ _ _ hg ⟨qC_kept hfr2 IC1, IR2, by rw [ht2, ht1, ht], by rw [ht1]; exact htl⟩ hS2 (by rw [hm1]; exact hcb) (by rw [hm1]; exact hsb)

theorem lw_c_value [G : zGh] {p : Program} {l : Launch} {e : Env} {s : State} {m : MethodId} {below : List Frame} {meth : Method} {c : Code} {b L i0 : Nat} {xs : Nat → Int32} {cA : Nat → ClassId} {D : va_G} {Q : State → Prop} {ls : Array Slot} {H : Heap} {locs : List Loc} {own : Nat → Nat} {ax am g cells slots : Nat} {w0 wR : va_W}
  (Cx : zCx (X_lw meth.name) cA D p s m #[Value.ref b] meth c (fun q => s.heap.size ≤ q)) (hX : va_X b L xs s s.heap) (hbl : b < s.heap.size) (hL : i0 + 6 ≤ L) (hLm : L ≤ 3072) (hg : g < 24) (I0 : qI cA D (fun q => s.heap.size ≤ q) H own ax am g w0 wR) (hS : va_S (fun q => s.heap.size ≤ q) s.heap H locs)
  (hl : lv_has ls 4 [(3, .int (nI i0)), (2, .ref am), (1, .ref ax), (0, .ref b)]) (hcb : cells + 1000 * qMis w0 ≤ 600000) (hsb : slots + 80000 * qMis w0 ≤ 7302250)
  (fin : ∀ (H1 : Heap) (locs1 : List Loc) (own1 : Nat → Nat) (g1 : Nat) (w1 wR1 : va_W) (cells1 slots1 : Nat), g1 < 24 → qI cA D (fun q => s.heap.size ≤ q) H1 own1 ax am g1 w1 wR1 → va_S (fun q => s.heap.size ≤ q) s.heap H1 locs1 → cells1 + 1000 * qMis w1 ≤ 600000 → slots1 + 80000 * qMis w1 ≤ 7302250 → W p l e (zRm 1000 600000 7302250) s m #[Value.ref b] below meth c H1 locs1 cells1 slots1 Q (F0 m 986 ls [])) :
  W p l e (zRm 1000 600000 7302250) s m #[Value.ref b] below meth c H locs cells slots Q (F0 m 778 ls []) := by
  have hb : c.code = code := Cx.2.1.trans (X_lw_c _)
  obtain ⟨IC, IR, ht, htl⟩ := I0
  obtain ⟨r1, r2, hr1, hr2, hT⟩ := evC_value g hg G (xs (i0 + 1)) (xs (i0 + 2))
  obtain ⟨q1, q2, hq1, hq2, hT2⟩ := evR_value g hg G (xs (i0 + 1)) (xs (i0 + 2))
  refine lv_aload_n (pc := 778) Cx.1 hb dl_778 rfl (lv_at hl 2 rfl) ?_
  refine lw_argk (pc := 779) (j := 1) (k0 := 3) (k3 := 0) dl_779 dl_780 dl_781 dl_782 dl_783 rfl (by omega) hLm Cx.1 hb hX hbl hS hl rfl rfl ?_
  refine lw_argk (pc := 784) (j := 2) (k0 := 3) (k3 := 0) dl_784 dl_785 dl_786 dl_787 dl_788 rfl (by omega) hLm Cx.1 hb hX hbl hS hl rfl rfl ?_
  refine q_ordC1 (X := X_lw meth.name) (pc := 789) (as' := [zI r1, zI r2]) (av' := [.int (xs (i0 + 1)), .int (xs (i0 + 2))]) (st := []) hg m_X8_valuea lr8_value Cx IC hT (fun r h hP => (zands_c (zands_c hP).2).1) hS hl.1 (fun ad => ⟨⟨_, rfl, hr1⟩, ⟨_, rfl, hr2⟩, trivial⟩) (Nat.zero_le _) rfl (by omega) (by omega) (fun w1 ad1 r h1 ov H1 locs1 hov hP1 IC1 hm1 ht1 hfr1 hS1 => ?_)
  obtain ⟨v_, e_⟩ := zrJ_t (zands_c hP1).1 hov
  subst e_
  refine lv_pop2_2 (pc := 792) (va := .long v_) Cx.1 hb dl_792 rfl ?_
  refine lv_aload_n (pc := 793) Cx.1 hb dl_793 rfl (lv_at hl 1 rfl) ?_
  refine lw_argk (pc := 794) (j := 1) (k0 := 3) (k3 := 0) dl_794 dl_795 dl_796 dl_797 dl_798 rfl (by omega) hLm Cx.1 hb hX hbl hS1 hl rfl rfl ?_
  refine lw_argk (pc := 799) (j := 2) (k0 := 3) (k3 := 0) dl_799 dl_800 dl_801 dl_802 dl_803 rfl (by omega) hLm Cx.1 hb hX hbl hS1 hl rfl rfl ?_
  refine q_ordR1 (X := X_lw meth.name) (pc := 804) (as' := [zI q1, zI q2]) (av' := [.int (xs (i0 + 1)), .int (xs (i0 + 2))]) (st := []) hg m_X9_valuev lr9_value Cx (qR_kept hfr1 IR) hT2 (fun r h hP => (zands_c (zands_c hP).2).1) hS1 hl.1 (fun ad => ⟨⟨_, rfl, hq1⟩, ⟨_, rfl, hq2⟩, trivial⟩) (Nat.zero_le _) rfl (by omega) (by omega) (fun wR1 ad2 r2 h2 ov2 H2 locs2 hov2 hP2 IR2 ht2 hfr2 hS2 => ?_)
  obtain ⟨v_, e_⟩ := zrJ_t (zands_c hP2).1 hov2
  subst e_
  refine lv_pop2_2 (pc := 807) (va := .long v_) Cx.1 hb dl_807 rfl ?_
  refine lv_goto (pc := 808) (tgt := 986) Cx.1 hb dl_808 (by decide) ?_
  exact fin _ _ _ _ _ _ _ _ hg ⟨qC_kept hfr2 IC1, IR2, by rw [ht2, ht1, ht], by rw [ht1]; exact htl⟩ hS2 (by rw [hm1]; exact hcb) (by rw [hm1]; exact hsb)

theorem lw_c_parts [G : zGh] {p : Program} {l : Launch} {e : Env} {s : State} {m : MethodId} {below : List Frame} {meth : Method} {c : Code} {b L i0 : Nat} {xs : Nat → Int32} {cA : Nat → ClassId} {D : va_G} {Q : State → Prop} {ls : Array Slot} {H : Heap} {locs : List Loc} {own : Nat → Nat} {ax am g cells slots : Nat} {w0 wR : va_W}
  (Cx : zCx (X_lw meth.name) cA D p s m #[Value.ref b] meth c (fun q => s.heap.size ≤ q)) (hX : va_X b L xs s s.heap) (hbl : b < s.heap.size) (hL : i0 + 6 ≤ L) (hLm : L ≤ 3072) (hg : g < 24) (I0 : qI cA D (fun q => s.heap.size ≤ q) H own ax am g w0 wR) (hS : va_S (fun q => s.heap.size ≤ q) s.heap H locs)
  (hl : lv_has ls 4 [(3, .int (nI i0)), (2, .ref am), (1, .ref ax), (0, .ref b)]) (hcb : cells + 1000 * qMis w0 ≤ 600000) (hsb : slots + 80000 * qMis w0 ≤ 7302250)
  (fin : ∀ (H1 : Heap) (locs1 : List Loc) (own1 : Nat → Nat) (g1 : Nat) (w1 wR1 : va_W) (cells1 slots1 : Nat), g1 < 24 → qI cA D (fun q => s.heap.size ≤ q) H1 own1 ax am g1 w1 wR1 → va_S (fun q => s.heap.size ≤ q) s.heap H1 locs1 → cells1 + 1000 * qMis w1 ≤ 600000 → slots1 + 80000 * qMis w1 ≤ 7302250 → W p l e (zRm 1000 600000 7302250) s m #[Value.ref b] below meth c H1 locs1 cells1 slots1 Q (F0 m 986 ls [])) :
  W p l e (zRm 1000 600000 7302250) s m #[Value.ref b] below meth c H locs cells slots Q (F0 m 811 ls []) := by
  have hb : c.code = code := Cx.2.1.trans (X_lw_c _)
  obtain ⟨IC, IR, ht, htl⟩ := I0
  obtain ⟨r1, r2, r3, hr1, hr2, hr3, hT⟩ := evC_parts g hg G (xs (i0 + 1)) (xs (i0 + 2)) (xs (i0 + 3))
  obtain ⟨q1, q2, q3, hq1, hq2, hq3, hT2⟩ := evR_parts g hg G (xs (i0 + 1)) (xs (i0 + 2)) (xs (i0 + 3))
  refine lv_aload_n (pc := 811) Cx.1 hb dl_811 rfl (lv_at hl 2 rfl) ?_
  refine lw_argk (pc := 812) (j := 1) (k0 := 3) (k3 := 0) dl_812 dl_813 dl_814 dl_815 dl_816 rfl (by omega) hLm Cx.1 hb hX hbl hS hl rfl rfl ?_
  refine lw_argk (pc := 817) (j := 2) (k0 := 3) (k3 := 0) dl_817 dl_818 dl_819 dl_820 dl_821 rfl (by omega) hLm Cx.1 hb hX hbl hS hl rfl rfl ?_
  refine lw_argk (pc := 822) (j := 3) (k0 := 3) (k3 := 0) dl_822 dl_823 dl_824 dl_825 dl_826 rfl (by omega) hLm Cx.1 hb hX hbl hS hl rfl rfl ?_
  refine q_ordC1 (X := X_lw meth.name) (pc := 827) (as' := [zI r1, zI r2, zI r3]) (av' := [.int (xs (i0 + 1)), .int (xs (i0 + 2)), .int (xs (i0 + 3))]) (st := []) hg m_X8_partst lr8_parts Cx IC hT (fun r h hP => (zands_c (zands_c hP).2).1) hS hl.1 (fun ad => ⟨⟨_, rfl, hr1⟩, ⟨_, rfl, hr2⟩, ⟨_, rfl, hr3⟩, trivial⟩) (Nat.zero_le _) rfl (by omega) (by omega) (fun w1 ad1 r h1 ov H1 locs1 hov hP1 IC1 hm1 ht1 hfr1 hS1 => ?_)
  obtain ⟨v_, e_⟩ := zrJ_t (zands_c hP1).1 hov
  subst e_
  refine lv_pop2_2 (pc := 830) (va := .long v_) Cx.1 hb dl_830 rfl ?_
  refine lv_aload_n (pc := 831) Cx.1 hb dl_831 rfl (lv_at hl 1 rfl) ?_
  refine lw_argk (pc := 832) (j := 1) (k0 := 3) (k3 := 0) dl_832 dl_833 dl_834 dl_835 dl_836 rfl (by omega) hLm Cx.1 hb hX hbl hS1 hl rfl rfl ?_
  refine lw_argk (pc := 837) (j := 2) (k0 := 3) (k3 := 0) dl_837 dl_838 dl_839 dl_840 dl_841 rfl (by omega) hLm Cx.1 hb hX hbl hS1 hl rfl rfl ?_
  refine lw_argk (pc := 842) (j := 3) (k0 := 3) (k3 := 0) dl_842 dl_843 dl_844 dl_845 dl_846 rfl (by omega) hLm Cx.1 hb hX hbl hS1 hl rfl rfl ?_
  refine q_ordR1 (X := X_lw meth.name) (pc := 847) (as' := [zI q1, zI q2, zI q3]) (av' := [.int (xs (i0 + 1)), .int (xs (i0 + 2)), .int (xs (i0 + 3))]) (st := []) hg m_X9_partsv lr9_parts Cx (qR_kept hfr1 IR) hT2 (fun r h hP => (zands_c (zands_c hP).2).1) hS1 hl.1 (fun ad => ⟨⟨_, rfl, hq1⟩, ⟨_, rfl, hq2⟩, ⟨_, rfl, hq3⟩, trivial⟩) (Nat.zero_le _) rfl (by omega) (by omega) (fun wR1 ad2 r2 h2 ov2 H2 locs2 hov2 hP2 IR2 ht2 hfr2 hS2 => ?_)
  obtain ⟨v_, e_⟩ := zrJ_t (zands_c hP2).1 hov2
  subst e_
  refine lv_pop2_2 (pc := 850) (va := .long v_) Cx.1 hb dl_850 rfl ?_
  refine lv_goto (pc := 851) (tgt := 986) Cx.1 hb dl_851 (by decide) ?_
  exact fin _ _ _ _ _ _ _ _ hg ⟨qC_kept hfr2 IC1, IR2, by rw [ht2, ht1, ht], by rw [ht1]; exact htl⟩ hS2 (by rw [hm1]; exact hcb) (by rw [hm1]; exact hsb)

theorem lw_c_inner [G : zGh] {p : Program} {l : Launch} {e : Env} {s : State} {m : MethodId} {below : List Frame} {meth : Method} {c : Code} {b L i0 : Nat} {xs : Nat → Int32} {cA : Nat → ClassId} {D : va_G} {Q : State → Prop} {ls : Array Slot} {H : Heap} {locs : List Loc} {own : Nat → Nat} {ax am g cells slots : Nat} {w0 wR : va_W}
  (Cx : zCx (X_lw meth.name) cA D p s m #[Value.ref b] meth c (fun q => s.heap.size ≤ q)) (hX : va_X b L xs s s.heap) (hbl : b < s.heap.size) (hL : i0 + 6 ≤ L) (hLm : L ≤ 3072) (hg : g < 24) (I0 : qI cA D (fun q => s.heap.size ≤ q) H own ax am g w0 wR) (hS : va_S (fun q => s.heap.size ≤ q) s.heap H locs)
  (hl : lv_has ls 4 [(3, .int (nI i0)), (2, .ref am), (1, .ref ax), (0, .ref b)]) (hcb : cells + 1000 * qMis w0 ≤ 600000) (hsb : slots + 80000 * qMis w0 ≤ 7302250)
  (fin : ∀ (H1 : Heap) (locs1 : List Loc) (own1 : Nat → Nat) (g1 : Nat) (w1 wR1 : va_W) (cells1 slots1 : Nat), g1 < 24 → qI cA D (fun q => s.heap.size ≤ q) H1 own1 ax am g1 w1 wR1 → va_S (fun q => s.heap.size ≤ q) s.heap H1 locs1 → cells1 + 1000 * qMis w1 ≤ 600000 → slots1 + 80000 * qMis w1 ≤ 7302250 → W p l e (zRm 1000 600000 7302250) s m #[Value.ref b] below meth c H1 locs1 cells1 slots1 Q (F0 m 986 ls [])) :
  W p l e (zRm 1000 600000 7302250) s m #[Value.ref b] below meth c H locs cells slots Q (F0 m 854 ls []) := by
  have hb : c.code = code := Cx.2.1.trans (X_lw_c _)
  obtain ⟨IC, IR, ht, htl⟩ := I0
  obtain ⟨r1, r2, hr1, hr2, hT⟩ := evC_inner g hg G (xs (i0 + 1)) (xs (i0 + 2))
  obtain ⟨q1, q2, hq1, hq2, hT2⟩ := evR_inner g hg G (xs (i0 + 1)) (xs (i0 + 2))
  refine lv_aload_n (pc := 854) Cx.1 hb dl_854 rfl (lv_at hl 2 rfl) ?_
  refine lw_argk (pc := 855) (j := 1) (k0 := 3) (k3 := 0) dl_855 dl_856 dl_857 dl_858 dl_859 rfl (by omega) hLm Cx.1 hb hX hbl hS hl rfl rfl ?_
  refine lw_argk (pc := 860) (j := 2) (k0 := 3) (k3 := 0) dl_860 dl_861 dl_862 dl_863 dl_864 rfl (by omega) hLm Cx.1 hb hX hbl hS hl rfl rfl ?_
  refine q_ordC1 (X := X_lw meth.name) (pc := 865) (as' := [zI r1, zI r2]) (av' := [.int (xs (i0 + 1)), .int (xs (i0 + 2))]) (st := []) hg m_X8_innera lr8_inner Cx IC hT (fun r h hP => (zands_c (zands_c hP).2).1) hS hl.1 (fun ad => ⟨⟨_, rfl, hr1⟩, ⟨_, rfl, hr2⟩, trivial⟩) (Nat.zero_le _) rfl (by omega) (by omega) (fun w1 ad1 r h1 ov H1 locs1 hov hP1 IC1 hm1 ht1 hfr1 hS1 => ?_)
  obtain ⟨v_, e_⟩ := zrJ_t (zands_c hP1).1 hov
  subst e_
  refine lv_pop2_2 (pc := 868) (va := .long v_) Cx.1 hb dl_868 rfl ?_
  refine lv_aload_n (pc := 869) Cx.1 hb dl_869 rfl (lv_at hl 1 rfl) ?_
  refine lw_argk (pc := 870) (j := 1) (k0 := 3) (k3 := 0) dl_870 dl_871 dl_872 dl_873 dl_874 rfl (by omega) hLm Cx.1 hb hX hbl hS1 hl rfl rfl ?_
  refine lw_argk (pc := 875) (j := 2) (k0 := 3) (k3 := 0) dl_875 dl_876 dl_877 dl_878 dl_879 rfl (by omega) hLm Cx.1 hb hX hbl hS1 hl rfl rfl ?_
  refine q_ordR1 (X := X_lw meth.name) (pc := 880) (as' := [zI q1, zI q2]) (av' := [.int (xs (i0 + 1)), .int (xs (i0 + 2))]) (st := []) hg m_X9_innerv lr9_inner Cx (qR_kept hfr1 IR) hT2 (fun r h hP => (zands_c (zands_c hP).2).1) hS1 hl.1 (fun ad => ⟨⟨_, rfl, hq1⟩, ⟨_, rfl, hq2⟩, trivial⟩) (Nat.zero_le _) rfl (by omega) (by omega) (fun wR1 ad2 r2 h2 ov2 H2 locs2 hov2 hP2 IR2 ht2 hfr2 hS2 => ?_)
  obtain ⟨v_, e_⟩ := zrJ_t (zands_c hP2).1 hov2
  subst e_
  refine lv_pop2_2 (pc := 883) (va := .long v_) Cx.1 hb dl_883 rfl ?_
  refine lv_goto (pc := 884) (tgt := 986) Cx.1 hb dl_884 (by decide) ?_
  exact fin _ _ _ _ _ _ _ _ hg ⟨qC_kept hfr2 IC1, IR2, by rw [ht2, ht1, ht], by rw [ht1]; exact htl⟩ hS2 (by rw [hm1]; exact hcb) (by rw [hm1]; exact hsb)

theorem lw_c_kind [G : zGh] {p : Program} {l : Launch} {e : Env} {s : State} {m : MethodId} {below : List Frame} {meth : Method} {c : Code} {b L i0 : Nat} {xs : Nat → Int32} {cA : Nat → ClassId} {D : va_G} {Q : State → Prop} {ls : Array Slot} {H : Heap} {locs : List Loc} {own : Nat → Nat} {ax am g cells slots : Nat} {w0 wR : va_W}
  (Cx : zCx (X_lw meth.name) cA D p s m #[Value.ref b] meth c (fun q => s.heap.size ≤ q)) (hX : va_X b L xs s s.heap) (hbl : b < s.heap.size) (hL : i0 + 6 ≤ L) (hLm : L ≤ 3072) (hg : g < 24) (I0 : qI cA D (fun q => s.heap.size ≤ q) H own ax am g w0 wR) (hS : va_S (fun q => s.heap.size ≤ q) s.heap H locs)
  (hl : lv_has ls 4 [(3, .int (nI i0)), (2, .ref am), (1, .ref ax), (0, .ref b)]) (hcb : cells + 1000 * qMis w0 ≤ 600000) (hsb : slots + 80000 * qMis w0 ≤ 7302250)
  (fin : ∀ (H1 : Heap) (locs1 : List Loc) (own1 : Nat → Nat) (g1 : Nat) (w1 wR1 : va_W) (cells1 slots1 : Nat), g1 < 24 → qI cA D (fun q => s.heap.size ≤ q) H1 own1 ax am g1 w1 wR1 → va_S (fun q => s.heap.size ≤ q) s.heap H1 locs1 → cells1 + 1000 * qMis w1 ≤ 600000 → slots1 + 80000 * qMis w1 ≤ 7302250 → W p l e (zRm 1000 600000 7302250) s m #[Value.ref b] below meth c H1 locs1 cells1 slots1 Q (F0 m 986 ls [])) :
  W p l e (zRm 1000 600000 7302250) s m #[Value.ref b] below meth c H locs cells slots Q (F0 m 887 ls []) := by
  have hb : c.code = code := Cx.2.1.trans (X_lw_c _)
  obtain ⟨IC, IR, ht, htl⟩ := I0
  obtain ⟨r1, r2, hr1, hr2, hT⟩ := evC_kind g hg G (xs (i0 + 1)) (xs (i0 + 2))
  obtain ⟨q1, q2, hq1, hq2, hT2⟩ := evR_kind g hg G (xs (i0 + 1)) (xs (i0 + 2))
  refine lv_aload_n (pc := 887) Cx.1 hb dl_887 rfl (lv_at hl 2 rfl) ?_
  refine lw_argk (pc := 888) (j := 1) (k0 := 3) (k3 := 0) dl_888 dl_889 dl_890 dl_891 dl_892 rfl (by omega) hLm Cx.1 hb hX hbl hS hl rfl rfl ?_
  refine lw_argk (pc := 893) (j := 2) (k0 := 3) (k3 := 0) dl_893 dl_894 dl_895 dl_896 dl_897 rfl (by omega) hLm Cx.1 hb hX hbl hS hl rfl rfl ?_
  refine q_ordC1 (X := X_lw meth.name) (pc := 898) (as' := [zI r1, zI r2]) (av' := [.int (xs (i0 + 1)), .int (xs (i0 + 2))]) (st := []) hg m_X8_kinda lr8_kind Cx IC hT (fun r h hP => (zands_c (zands_c hP).2).1) hS hl.1 (fun ad => ⟨⟨_, rfl, hr1⟩, ⟨_, rfl, hr2⟩, trivial⟩) (Nat.zero_le _) rfl (by omega) (by omega) (fun w1 ad1 r h1 ov H1 locs1 hov hP1 IC1 hm1 ht1 hfr1 hS1 => ?_)
  obtain ⟨v_, e_⟩ := zrI_t (zands_c hP1).1 hov
  subst e_
  refine lv_pop (pc := 901) (va := .int v_) Cx.1 hb dl_901 rfl ?_
  refine lv_aload_n (pc := 902) Cx.1 hb dl_902 rfl (lv_at hl 1 rfl) ?_
  refine lw_argk (pc := 903) (j := 1) (k0 := 3) (k3 := 0) dl_903 dl_904 dl_905 dl_906 dl_907 rfl (by omega) hLm Cx.1 hb hX hbl hS1 hl rfl rfl ?_
  refine lw_argk (pc := 908) (j := 2) (k0 := 3) (k3 := 0) dl_908 dl_909 dl_910 dl_911 dl_912 rfl (by omega) hLm Cx.1 hb hX hbl hS1 hl rfl rfl ?_
  refine q_ordR1 (X := X_lw meth.name) (pc := 913) (as' := [zI q1, zI q2]) (av' := [.int (xs (i0 + 1)), .int (xs (i0 + 2))]) (st := []) hg m_X9_kindv lr9_kind Cx (qR_kept hfr1 IR) hT2 (fun r h hP => (zands_c (zands_c hP).2).1) hS1 hl.1 (fun ad => ⟨⟨_, rfl, hq1⟩, ⟨_, rfl, hq2⟩, trivial⟩) (Nat.zero_le _) rfl (by omega) (by omega) (fun wR1 ad2 r2 h2 ov2 H2 locs2 hov2 hP2 IR2 ht2 hfr2 hS2 => ?_)
  obtain ⟨v_, e_⟩ := zrI_t (zands_c hP2).1 hov2
  subst e_
  refine lv_pop (pc := 916) (va := .int v_) Cx.1 hb dl_916 rfl ?_
  refine lv_goto (pc := 917) (tgt := 986) Cx.1 hb dl_917 (by decide) ?_
  exact fin _ _ _ _ _ _ _ _ hg ⟨qC_kept hfr2 IC1, IR2, by rw [ht2, ht1, ht], by rw [ht1]; exact htl⟩ hS2 (by rw [hm1]; exact hcb) (by rw [hm1]; exact hsb)

theorem lw_c_cut [G : zGh] {p : Program} {l : Launch} {e : Env} {s : State} {m : MethodId} {below : List Frame} {meth : Method} {c : Code} {b L i0 : Nat} {xs : Nat → Int32} {cA : Nat → ClassId} {D : va_G} {Q : State → Prop} {ls : Array Slot} {H : Heap} {locs : List Loc} {own : Nat → Nat} {ax am g cells slots : Nat} {w0 wR : va_W}
  (Cx : zCx (X_lw meth.name) cA D p s m #[Value.ref b] meth c (fun q => s.heap.size ≤ q)) (hX : va_X b L xs s s.heap) (hbl : b < s.heap.size) (hL : i0 + 6 ≤ L) (hLm : L ≤ 3072) (hg : g < 24) (I0 : qI cA D (fun q => s.heap.size ≤ q) H own ax am g w0 wR) (hS : va_S (fun q => s.heap.size ≤ q) s.heap H locs)
  (hl : lv_has ls 4 [(3, .int (nI i0)), (2, .ref am), (1, .ref ax), (0, .ref b)]) (hcb : cells + 1000 * qMis w0 ≤ 600000) (hsb : slots + 80000 * qMis w0 ≤ 7302250)
  (fin : ∀ (H1 : Heap) (locs1 : List Loc) (own1 : Nat → Nat) (g1 : Nat) (w1 wR1 : va_W) (cells1 slots1 : Nat), g1 < 24 → qI cA D (fun q => s.heap.size ≤ q) H1 own1 ax am g1 w1 wR1 → va_S (fun q => s.heap.size ≤ q) s.heap H1 locs1 → cells1 + 1000 * qMis w1 ≤ 600000 → slots1 + 80000 * qMis w1 ≤ 7302250 → W p l e (zRm 1000 600000 7302250) s m #[Value.ref b] below meth c H1 locs1 cells1 slots1 Q (F0 m 986 ls [])) :
  W p l e (zRm 1000 600000 7302250) s m #[Value.ref b] below meth c H locs cells slots Q (F0 m 920 ls []) := by
  have hb : c.code = code := Cx.2.1.trans (X_lw_c _)
  obtain ⟨IC, IR, ht, htl⟩ := I0
  obtain ⟨r1, r2, r3, hr1, hr2, hr3, hT⟩ := evC_cut g hg G (xs (i0 + 1)) (xs (i0 + 2)) (xs (i0 + 3))
  obtain ⟨q1, q2, q3, hq1, hq2, hq3, hT2⟩ := evR_cut g hg G (xs (i0 + 1)) (xs (i0 + 2)) (xs (i0 + 3))
  refine lv_aload_n (pc := 920) Cx.1 hb dl_920 rfl (lv_at hl 2 rfl) ?_
  refine lw_argk (pc := 921) (j := 1) (k0 := 3) (k3 := 0) dl_921 dl_922 dl_923 dl_924 dl_925 rfl (by omega) hLm Cx.1 hb hX hbl hS hl rfl rfl ?_
  refine lw_argk (pc := 926) (j := 2) (k0 := 3) (k3 := 0) dl_926 dl_927 dl_928 dl_929 dl_930 rfl (by omega) hLm Cx.1 hb hX hbl hS hl rfl rfl ?_
  refine lw_argk (pc := 931) (j := 3) (k0 := 3) (k3 := 0) dl_931 dl_932 dl_933 dl_934 dl_935 rfl (by omega) hLm Cx.1 hb hX hbl hS hl rfl rfl ?_
  refine q_ordC1 (X := X_lw meth.name) (pc := 936) (as' := [zI r1, zI r2, zI r3]) (av' := [.int (xs (i0 + 1)), .int (xs (i0 + 2)), .int (xs (i0 + 3))]) (st := []) hg m_X8_cuta lr8_cut Cx IC hT (fun r h hP => (zands_c (zands_c hP).2).1) hS hl.1 (fun ad => ⟨⟨_, rfl, hr1⟩, ⟨_, rfl, hr2⟩, ⟨_, rfl, hr3⟩, trivial⟩) (Nat.zero_le _) rfl (by omega) (by omega) (fun w1 ad1 r h1 ov H1 locs1 hov hP1 IC1 hm1 ht1 hfr1 hS1 => ?_)
  obtain ⟨v_, e_⟩ := zrI_t (zands_c hP1).1 hov
  subst e_
  refine lv_pop (pc := 939) (va := .int v_) Cx.1 hb dl_939 rfl ?_
  refine lv_aload_n (pc := 940) Cx.1 hb dl_940 rfl (lv_at hl 1 rfl) ?_
  refine lw_argk (pc := 941) (j := 1) (k0 := 3) (k3 := 0) dl_941 dl_942 dl_943 dl_944 dl_945 rfl (by omega) hLm Cx.1 hb hX hbl hS1 hl rfl rfl ?_
  refine lw_argk (pc := 946) (j := 2) (k0 := 3) (k3 := 0) dl_946 dl_947 dl_948 dl_949 dl_950 rfl (by omega) hLm Cx.1 hb hX hbl hS1 hl rfl rfl ?_
  refine lw_argk (pc := 951) (j := 3) (k0 := 3) (k3 := 0) dl_951 dl_952 dl_953 dl_954 dl_955 rfl (by omega) hLm Cx.1 hb hX hbl hS1 hl rfl rfl ?_
  refine q_ordR1 (X := X_lw meth.name) (pc := 956) (as' := [zI q1, zI q2, zI q3]) (av' := [.int (xs (i0 + 1)), .int (xs (i0 + 2)), .int (xs (i0 + 3))]) (st := []) hg m_X9_cutv lr9_cut Cx (qR_kept hfr1 IR) hT2 (fun r h hP => (zands_c (zands_c hP).2).1) hS1 hl.1 (fun ad => ⟨⟨_, rfl, hq1⟩, ⟨_, rfl, hq2⟩, ⟨_, rfl, hq3⟩, trivial⟩) (Nat.zero_le _) rfl (by omega) (by omega) (fun wR1 ad2 r2 h2 ov2 H2 locs2 hov2 hP2 IR2 ht2 hfr2 hS2 => ?_)
  obtain ⟨v_, e_⟩ := zrI_t (zands_c hP2).1 hov2
  subst e_
  refine lv_pop (pc := 959) (va := .int v_) Cx.1 hb dl_959 rfl ?_
  refine lv_goto (pc := 960) (tgt := 986) Cx.1 hb dl_960 (by decide) ?_
  exact fin _ _ _ _ _ _ _ _ hg ⟨qC_kept hfr2 IC1, IR2, by rw [ht2, ht1, ht], by rw [ht1]; exact htl⟩ hS2 (by rw [hm1]; exact hcb) (by rw [hm1]; exact hsb)

theorem lw_c_look [G : zGh] {p : Program} {l : Launch} {e : Env} {s : State} {m : MethodId} {below : List Frame} {meth : Method} {c : Code} {b L i0 : Nat} {xs : Nat → Int32} {cA : Nat → ClassId} {D : va_G} {Q : State → Prop} {ls : Array Slot} {H : Heap} {locs : List Loc} {own : Nat → Nat} {ax am g cells slots : Nat} {w0 wR : va_W}
  (Cx : zCx (X_lw meth.name) cA D p s m #[Value.ref b] meth c (fun q => s.heap.size ≤ q)) (hX : va_X b L xs s s.heap) (hbl : b < s.heap.size) (hL : i0 + 6 ≤ L) (hLm : L ≤ 3072) (hg : g < 24) (I0 : qI cA D (fun q => s.heap.size ≤ q) H own ax am g w0 wR) (hS : va_S (fun q => s.heap.size ≤ q) s.heap H locs)
  (hl : lv_has ls 4 [(3, .int (nI i0)), (2, .ref am), (1, .ref ax), (0, .ref b)]) (hcb : cells + 1000 * qMis w0 ≤ 600000) (hsb : slots + 80000 * qMis w0 ≤ 7302250)
  (fin : ∀ (H1 : Heap) (locs1 : List Loc) (own1 : Nat → Nat) (g1 : Nat) (w1 wR1 : va_W) (cells1 slots1 : Nat), g1 < 24 → qI cA D (fun q => s.heap.size ≤ q) H1 own1 ax am g1 w1 wR1 → va_S (fun q => s.heap.size ≤ q) s.heap H1 locs1 → cells1 + 1000 * qMis w1 ≤ 600000 → slots1 + 80000 * qMis w1 ≤ 7302250 → W p l e (zRm 1000 600000 7302250) s m #[Value.ref b] below meth c H1 locs1 cells1 slots1 Q (F0 m 986 ls [])) :
  W p l e (zRm 1000 600000 7302250) s m #[Value.ref b] below meth c H locs cells slots Q (F0 m 963 ls []) := by
  have hb : c.code = code := Cx.2.1.trans (X_lw_c _)
  obtain ⟨IC, IR, ht, htl⟩ := I0
  obtain ⟨r1, hr1, hT⟩ := evC_look g hg G (xs (i0 + 1))
  obtain ⟨q1, hq1, hT2⟩ := evR_look g hg G (xs (i0 + 1))
  refine lv_aload_n (pc := 963) Cx.1 hb dl_963 rfl (lv_at hl 2 rfl) ?_
  refine lw_argk (pc := 964) (j := 1) (k0 := 3) (k3 := 0) dl_964 dl_965 dl_966 dl_967 dl_968 rfl (by omega) hLm Cx.1 hb hX hbl hS hl rfl rfl ?_
  refine q_ordC1 (X := X_lw meth.name) (pc := 969) (as' := [zI r1]) (av' := [.int (xs (i0 + 1))]) (st := []) hg m_X8_lookt lr8_look Cx IC hT (fun r h hP => (zands_c (zands_c hP).2).1) hS hl.1 (fun ad => ⟨⟨_, rfl, hr1⟩, trivial⟩) (Nat.zero_le _) rfl (by omega) (by omega) (fun w1 ad1 r h1 ov H1 locs1 hov hP1 IC1 hm1 ht1 hfr1 hS1 => ?_)
  obtain ⟨v_, e_⟩ := zrI_t (zands_c hP1).1 hov
  subst e_
  refine lv_pop (pc := 972) (va := .int v_) Cx.1 hb dl_972 rfl ?_
  refine lv_aload_n (pc := 973) Cx.1 hb dl_973 rfl (lv_at hl 1 rfl) ?_
  refine lw_argk (pc := 974) (j := 1) (k0 := 3) (k3 := 0) dl_974 dl_975 dl_976 dl_977 dl_978 rfl (by omega) hLm Cx.1 hb hX hbl hS1 hl rfl rfl ?_
  refine q_ordR1 (X := X_lw meth.name) (pc := 979) (as' := [zI q1]) (av' := [.int (xs (i0 + 1))]) (st := []) hg m_X9_lookv lr9_look Cx (qR_kept hfr1 IR) hT2 (fun r h hP => (zands_c (zands_c hP).2).1) hS1 hl.1 (fun ad => ⟨⟨_, rfl, hq1⟩, trivial⟩) (Nat.zero_le _) rfl (by omega) (by omega) (fun wR1 ad2 r2 h2 ov2 H2 locs2 hov2 hP2 IR2 ht2 hfr2 hS2 => ?_)
  obtain ⟨v_, e_⟩ := zrI_t (zands_c hP2).1 hov2
  subst e_
  refine lv_pop (pc := 982) (va := .int v_) Cx.1 hb dl_982 rfl ?_
  refine lv_goto (pc := 983) (tgt := 986) Cx.1 hb dl_983 (by decide) ?_
  exact fin _ _ _ _ _ _ _ _ hg ⟨qC_kept hfr2 IC1, IR2, by rw [ht2, ht1, ht], by rw [ht1]; exact htl⟩ hS2 (by rw [hm1]; exact hcb) (by rw [hm1]; exact hsb)
end
section
/-! the place of the law (the kit's skeleton, turned), and its context -/
noncomputable def R_law : String := "PrimeBlocksLaw"
def lw_P (b : Addr) (xs : List Int32) (args : Array Value) (s : State) : Prop := args = #[.ref b] ∧ s.IntsAt b xs ∧ xs.length ≤ 3072 ∧ (Jvm.Cond.and given_1 narrow_1).before args s = true
def lw_Q (_ : Array Value) (s : State) (o : Outcome) (t : State) : Prop := o = .returned (some (.int 1)) ∧ Framed s o t [] 600000 7302250
noncomputable def lw_Z (below : List Frame) (a : Array Value) (s : State) : State → Prop := fun t => ∃ o, t.status = .running ∧ Ended t below o ∧ lw_Q a s o t
/-- the law's own end, with 1 on the stack, nothing written that was there before, its room as the claim has it -/
theorem lw_ret {p : Program} {l : Launch} {e : Env} {s : State} {m : MethodId} {below : List Frame} {meth : Method} {c : Code} {b : Nat} (hx : p.tables.exec = Jvm.exec) (hb : c.code = code) (hr : meth.sig.returnType = ret) (hlocks : meth.locks = false) {pc : Nat} {H : Heap} {ls : Array Slot} (hdg : decode code pc = .ok (.ireturn, 1)) : W p l e room_1 s m #[Value.ref b] below meth c H [] 600000 7302250 (lw_Z below #[Value.ref b] s) (F0 m pc ls [.int 1]) := by
  intro T hT X
  obtain ⟨fs, hret, hrun, hended, hW, hframe⟩ := X.leave (v := some (.int 1)) (hlocks := hlocks) (fun h => by rw [hr] at h; cases h)
  have hmeth' : T.vm.method? m = some meth := X.method'
  refine ⟨T.setFrames fs, ?_, .returned (some (.int 1)), hrun, hended, rfl, ⟨_, rfl⟩, hW, hframe⟩
  jvm_step X.here [X.here.top, hx, hb, hdg, hmeth', hr, ret, narrow_b1]
  (try refine ⟨rfl, ?_⟩); (try refine ⟨rfl, ?_⟩)
  first | (intro acts; rw [hret _ acts rfl rfl rfl]) | rw [hret _ _ rfl rfl rfl]
  exact Steps.refl _
/-- what holds at the law's entry: the machine, the code, the tables' words (any of lw_tbl by 'hts w (by decide +kernel)'), the script of L ints xs at the cell b, what the Statement gives of the start (any of its parts by flat_of_before) -/
def lw_At (p : Program) (s : State) (m : MethodId) (meth : Method) (c : Code) (b L : Nat) (xs : Nat → Int32) : Prop :=
  p.tables.exec = Jvm.exec ∧ c.code = code ∧ meth.sig.returnType = ret ∧ c.maxLocals = 4 ∧ s.vm.findClass R_law = some m.cls ∧ (∀ w ∈ lw_tbl, w.before #[Value.ref b] s = true) ∧ va_X b L xs s s.heap ∧ b < s.heap.size ∧ meth.locks = false ∧ (Jvm.Cond.and given_1 narrow_1).before #[Value.ref b] s = true
/-- the same in any room -/
theorem lw_retR {R : Room} {p : Program} {l : Launch} {e : Env} {s : State} {m : MethodId} {below : List Frame} {meth : Method} {c : Code} {b : Nat} (hx : p.tables.exec = Jvm.exec) (hb : c.code = code) (hr : meth.sig.returnType = ret) (hlocks : meth.locks = false) {pc : Nat} {H : Heap} {ls : Array Slot} (hdg : decode code pc = .ok (.ireturn, 1)) : W p l e R s m #[Value.ref b] below meth c H [] 600000 7302250 (lw_Z below #[Value.ref b] s) (F0 m pc ls [.int 1]) := by
  intro T hT X
  obtain ⟨fs, hret, hrun, hended, hW, hframe⟩ := X.leave (v := some (.int 1)) (hlocks := hlocks) (fun h => by rw [hr] at h; cases h)
  have hmeth' : T.vm.method? m = some meth := X.method'
  refine ⟨T.setFrames fs, ?_, .returned (some (.int 1)), hrun, hended, rfl, ⟨_, rfl⟩, hW, hframe⟩
  jvm_step X.here [X.here.top, hx, hb, hdg, hmeth', hr, ret, narrow_b1]
  (try refine ⟨rfl, ?_⟩); (try refine ⟨rfl, ?_⟩)
  first | (intro acts; rw [hret _ acts rfl rfl rfl]) | rw [hret _ _ rfl rfl rfl]
  exact Steps.refl _

theorem lw_st1 {args : Array Value} {s : State} {C n : String} {A : Nat → Prop} (hl : (Cond.laysStatic C n "[I").before args s = true) (hini : (Cond.initialized C).before args s = true) (harr : (Cond.arrayOf (.static C n "[I") .int).before args s = true) (hlen : (Cond.eq (.length (.static C n "[I")) (.int 7)).before args s = true) (v : Nat → Int32) (tb : List Nat) (hel : ∀ j : Nat, j < 7 → (Cond.eq (.elem (.static C n "[I") (.int (Int32.ofNat j))) (.int (v j))).before args s = true) (h7 : tb.length = 7) (htb : ∀ j, j < 7 → tb[j]? = some (zi (v j))) (hA : ∀ a : Nat, a < s.heap.size → ¬ A a) : zSt1 C n tb A s s.heap := by
  obtain ⟨t, ht, hT⟩ := va_Tof (N := 7) (f := fun j => .int (v j)) (by decide) harr (va_eqt hlen) (fun j hj => va_eqt (hel j hj)) hA
  refine ⟨t, va_Zof hl hini ht hA, _, hT, fun j u hj => ⟨v j, rfl, ?_⟩⟩
  have hj7 : j < 7 := by rw [← h7]; exact (List.getElem?_eq_some_iff.mp hj).1
  rw [htb j hj7] at hj
  exact Option.some.inj hj
theorem lw_nest : ∀ q ∈ zNest, Cond.methodLinkNest q.1 q.2.1 q.2.2.1 q.2.2.2 ∈ lw_tbl := by decide +kernel
theorem lw_ctx [G : zGh] (hG : @zg G 0 = 0) {p : Program} {s : State} {m : MethodId} {meth : Method} {c : Code} {b L : Nat} {xs : Nat → Int32} (C0 : lw_At p s m meth c b L xs) : ∃ (cA : Nat → ClassId) (D : va_G), zCx (X_lw meth.name) cA D p s m #[Value.ref b] meth c (fun q => s.heap.size ≤ q) := by
  obtain ⟨hx, hb, hr, hml, hown, hts, hX, hbl, hlk, hgv⟩ := C0
  have hz : ∀ w ∈ ztbl, w.before #[Value.ref b] s = true := fun w hw => hts w (List.mem_filter.mp hw).1
  obtain ⟨k0, i0, u0⟩ := u_known hz inz0 (hz _ wd_421)
  obtain ⟨k1, i1, u1⟩ := u_known hz inz1 (hz _ wd_547)
  obtain ⟨k2, i2, u2⟩ := u_known hz inz2 (hz _ wd_541)
  obtain ⟨k3, i3, u3⟩ := u_known hz inz3 (hz _ wd_346)
  obtain ⟨k4, i4, u4⟩ := u_known hz inz4 (hz _ wd_60)
  obtain ⟨k5, i5, u5⟩ := u_known hz inz5 (hz _ wd_327)
  obtain ⟨k6, i6, u6⟩ := u_known hz inz6 (hz _ wd_30)
  obtain ⟨k7, i7, u7⟩ := u_known hz inz7 (hz _ wd_47)
  obtain ⟨k8, i8, u8⟩ := u_known hz inz8 (hz _ wd_16)
  obtain ⟨k9, i9, u9⟩ := u_known hz inz9 (hz _ wd_903)
  obtain ⟨a0, g0, c0, f0, e0, t0⟩ := Cond.arrayClass_spec (hz _ wd_46)
  obtain ⟨a1, g1, c1, f1, e1, t1⟩ := Cond.arrayClass_spec (hz _ wd_360)
  obtain ⟨a2, g2, c2, f2, e2, t2⟩ := Cond.arrayClass_spec (hz _ wd_45)
  have w3 : (Cond.arrayOver (.array .int)).before #[Value.ref b] s = true := hts _ (by decide +kernel)
  obtain ⟨c3, a3, g3, -, -, e3, t3, f3⟩ := arrayOverA_spec w3
  have w4 : (Cond.arrayOver (.array .long)).before #[Value.ref b] s = true := hts _ (by decide +kernel)
  obtain ⟨c4, a4, g4, -, -, e4, t4, f4⟩ := arrayOverA_spec w4
  have w5 : (Cond.arrayOver (.object RX4)).before #[Value.ref b] s = true := hts _ (by decide +kernel)
  obtain ⟨c5, a5, g5, j5, -, e5, t5, f5⟩ := Cond.arrayOver_spec w5
  have w6 : (Cond.arrayOver (.object RX7)).before #[Value.ref b] s = true := hts _ (by decide +kernel)
  obtain ⟨c6, a6, g6, j6, -, e6, t6, f6⟩ := Cond.arrayOver_spec w6
  have w7 : (Cond.arrayOver (.object RX5)).before #[Value.ref b] s = true := hts _ (by decide +kernel)
  obtain ⟨c7, a7, g7, j7, -, e7, t7, f7⟩ := Cond.arrayOver_spec w7
  have hs := flat_of_before _ hgv
  have hA : ∀ a : Nat, a < s.heap.size → ¬ s.heap.size ≤ a := fun a h1 h2 => absurd h2 (Nat.not_le.mpr h1)
  have seven : ∀ j : Nat, j < 7 → j = 0 ∨ j = 1 ∨ j = 2 ∨ j = 3 ∨ j = 4 ∨ j = 5 ∨ j = 6 := fun j hj => by omega
  refine ⟨fun i => [a0, a1, a2, a3, a4, a5, a6, a7].getD i 0, (fun i => [k0, k1, k2, k3, k4, k5, k6, k7, k8, k9].getD i 0, fun i => [i0, i1, i2, i3, i4, i5, i6, i7, i8, i9].getD i i0), hx, hb.trans (X_lw_c _).symm, hml, hown, hz, ⟨fun cc q hq => ?_, fun kk q hq => ?_⟩, fun q h => h, hr, ⟨hlk, (show (0 : Nat) = zg 0 from hG.symm)⟩, rfl, ⟨?_, ?_, ?_⟩, ⟨w5, w6, w7, w3, w4, fun q hq => va_Nw.of rfl (hts _ (lw_nest q hq)), va_Nw.of rfl (hts _ (by decide +kernel))⟩⟩
  · match cc, hq with
    | 0, hq => cases hq; exact u0
    | 1, hq => cases hq; exact u1
    | 2, hq => cases hq; exact u2
    | 3, hq => cases hq; exact u3
    | 4, hq => cases hq; exact u4
    | 5, hq => cases hq; exact u5
    | 6, hq => cases hq; exact u6
    | 7, hq => cases hq; exact u7
    | 8, hq => cases hq; exact u8
    | 9, hq => cases hq; exact u9
    | n + 10, hq => cases hq
  · match kk, hq with
    | 0, hq => cases hq; exact ⟨fun n z => ⟨(fun k h => by cases h), g0, e0, c0, t0⟩, f0⟩
    | 1, hq => cases hq; exact ⟨fun n z => ⟨(fun k h => by cases h), g1, e1, c1, t1⟩, f1⟩
    | 2, hq => cases hq; exact ⟨fun n z => ⟨(fun k h => by cases h), g2, e2, c2, t2⟩, f2⟩
    | 3, hq => cases hq; exact ⟨fun n z => ⟨(fun k h => by cases h), g3, e3, c3, t3⟩, f3⟩
    | 4, hq => cases hq; exact ⟨fun n z => ⟨(fun k h => by cases h), g4, e4, c4, t4⟩, f4⟩
    | 5, hq => cases hq; exact ⟨fun n z => ⟨(fun k h => by cases h), g5, e5, c5, t5⟩, ⟨g5, c5, e5, t5, j5, f5⟩⟩
    | 6, hq => cases hq; exact ⟨fun n z => ⟨(fun k h => by cases h), g6, e6, c6, t6⟩, ⟨g6, c6, e6, t6, j6, f6⟩⟩
    | 7, hq => cases hq; exact ⟨fun n z => ⟨(fun k h => by cases h), g7, e7, c7, t7⟩, ⟨g7, c7, e7, t7, j7, f7⟩⟩
    | n + 8, hq => cases hq
  · refine lw_st1 (hts _ (by decide +kernel)) (hz _ wd_3) (hs _ (by decide +kernel)) (hs _ (by decide +kernel)) (fun j => ([1, 1, 2, 3, 5, 7, 11] : List Int32).getD j 0) ztb1 (fun j hj => ?_) rfl (by decide) hA
    rcases seven j hj with rfl | rfl | rfl | rfl | rfl | rfl | rfl <;> exact hs _ (by decide +kernel)
  · refine lw_st1 (hts _ (by decide +kernel)) (hz _ wd_9) (hs _ (by decide +kernel)) (hs _ (by decide +kernel)) (fun j => ([0, 1, -1, -1, 0, -1, 1] : List Int32).getD j 0) ztb2 (fun j hj => ?_) rfl (by decide) hA
    rcases seven j hj with rfl | rfl | rfl | rfl | rfl | rfl | rfl <;> exact hs _ (by decide +kernel)
  · refine lw_st1 (hts _ (by decide +kernel)) (hz _ wd_9) (hs _ (by decide +kernel)) (hs _ (by decide +kernel)) (fun j => ([1, 1, 1, 2, 2, 4, 2] : List Int32).getD j 0) ztb3 (fun j hj => ?_) rfl (by decide) hA
    rcases seven j hj with rfl | rfl | rfl | rfl | rfl | rfl | rfl <;> exact hs _ (by decide +kernel)
end
section
/-! the loop, by program -/
set_option maxRecDepth 100000 in
set_option maxHeartbeats 8000000 in
theorem lw_turn [G : zGh] {p : Program} {l : Launch} {e : Env} {s : State} {m : MethodId} {below : List Frame} {meth : Method} {c : Code} {b L i0 : Nat} {xs : Nat → Int32} {cA : Nat → ClassId} {D : va_G} {Q : State → Prop} {ls : Array Slot} {H : Heap} {locs : List Loc} {own : Nat → Nat} {ax am g cells slots : Nat} {w0 wR : va_W}
  (Cx : zCx (X_lw meth.name) cA D p s m #[Value.ref b] meth c (fun q => s.heap.size ≤ q)) (hX : va_X b L xs s s.heap) (hbl : b < s.heap.size) (hL : i0 + 6 ≤ L) (hLm : L ≤ 3072) (hg : g < 24) (I0 : qI cA D (fun q => s.heap.size ≤ q) H own ax am g w0 wR) (hS : va_S (fun q => s.heap.size ≤ q) s.heap H locs)
  (hl : lv_has ls 4 [(3, .int (nI i0)), (2, .ref am), (1, .ref ax), (0, .ref b)]) (hcb : cells + 1000 * qMis w0 ≤ 600000) (hsb : slots + 80000 * qMis w0 ≤ 7302250)
  (fin : ∀ (H1 : Heap) (locs1 : List Loc) (own1 : Nat → Nat) (g1 : Nat) (w1 wR1 : va_W) (cells1 slots1 : Nat), g1 < 24 → qI cA D (fun q => s.heap.size ≤ q) H1 own1 ax am g1 w1 wR1 → va_S (fun q => s.heap.size ≤ q) s.heap H1 locs1 → cells1 + 1000 * qMis w1 ≤ 600000 → slots1 + 80000 * qMis w1 ≤ 7302250 → W p l e (zRm 1000 600000 7302250) s m #[Value.ref b] below meth c H1 locs1 cells1 slots1 Q (F0 m 986 ls [])) :
  W p l e (zRm 1000 600000 7302250) s m #[Value.ref b] below meth c H locs cells slots Q (F0 m 27 ls []) := by
  have hb : c.code = code := Cx.2.1.trans (X_lw_c _)
  refine lv_aload_n (pc := 27) Cx.1 hb dl_27 rfl (lv_at hl 3 rfl) ?_
  refine lv_iload_n (pc := 28) Cx.1 hb dl_28 rfl (lv_at hl 0 rfl) ?_
  refine va_sld (pc := 29) Cx.1 hb hX hbl (Nat.not_le.mpr hbl) hS (vp_in_nI (by omega) (by omega)) dl_29 ?_
  refine lv_bipush (pc := 30) (v := 31) Cx.1 hb dl_30 rfl ?_
  refine lv_iand (pc := 32) Cx.1 hb dl_32 ?_
  generalize (xs (Int32.toNatClampNeg (nI i0)) &&& 31) = y
  by_cases hy : y.toInt < 0 ∨ 23 < y.toInt
  · exact lv_tableOut (pc := 33) (tgt := 986) Cx.1 hb dl_33 hy (by decide) (fin _ _ _ _ _ _ _ _ hg I0 hS hcb hsb)
  · have h1 : ¬ y.toInt < 0 := fun z => hy (Or.inl z)
    have h2 : ¬ (23 : Int) < y.toInt := fun z => hy (Or.inr z)
    obtain ⟨n, hn⟩ : ∃ n : Nat, y.toInt = (n : Int) := ⟨y.toInt.toNat, by omega⟩
    have hn24 : n < 24 := by omega
    have hc : n = 0 ∨ n = 1 ∨ n = 2 ∨ n = 3 ∨ n = 4 ∨ n = 5 ∨ n = 6 ∨ n = 7 ∨ n = 8 ∨ n = 9 ∨ n = 10 ∨ n = 11 ∨ n = 12 ∨ n = 13 ∨ n = 14 ∨ n = 15 ∨ n = 16 ∨ n = 17 ∨ n = 18 ∨ n = 19 ∨ n = 20 ∨ n = 21 ∨ n = 22 ∨ n = 23 := by omega
    rcases hc with rfl | rfl | rfl | rfl | rfl | rfl | rfl | rfl | rfl | rfl | rfl | rfl | rfl | rfl | rfl | rfl | rfl | rfl | rfl | rfl | rfl | rfl | rfl | rfl
    · refine lv_tableIn (pc := 33) (off := 111) (tgt := 144) Cx.1 hb dl_33 h1 h2 (by rw [hn]; rfl) (by decide) ?_
      exact lw_c_group Cx hX hbl hL hLm hg I0 hS hl hcb hsb fin
    · refine lv_tableIn (pc := 33) (off := 144) (tgt := 177) Cx.1 hb dl_33 h1 h2 (by rw [hn]; rfl) (by decide) ?_
      exact lw_c_feed Cx hX hbl hL hLm hg I0 hS hl hcb hsb fin
    · refine lv_tableIn (pc := 33) (off := 207) (tgt := 240) Cx.1 hb dl_33 h1 h2 (by rw [hn]; rfl) (by decide) ?_
      exact lw_c_end Cx hX hbl hL hLm hg I0 hS hl hcb hsb fin
    · refine lv_tableIn (pc := 33) (off := 230) (tgt := 263) Cx.1 hb dl_33 h1 h2 (by rw [hn]; rfl) (by decide) ?_
      exact lw_c_text Cx hX hbl hL hLm hg I0 hS hl hcb hsb fin
    · refine lv_tableIn (pc := 33) (off := 253) (tgt := 286) Cx.1 hb dl_33 h1 h2 (by rw [hn]; rfl) (by decide) ?_
      exact lw_c_fault Cx hX hbl hL hLm hg I0 hS hl hcb hsb fin
    · refine lv_tableIn (pc := 33) (off := 276) (tgt := 309) Cx.1 hb dl_33 h1 h2 (by rw [hn]; rfl) (by decide) ?_
      exact lw_c_partition Cx hX hbl hL hLm hg I0 hS hl hcb hsb fin
    · refine lv_tableIn (pc := 33) (off := 309) (tgt := 342) Cx.1 hb dl_33 h1 h2 (by rw [hn]; rfl) (by decide) ?_
      exact lw_c_of Cx hX hbl hL hLm hg I0 hS hl hcb hsb fin
    · refine lv_tableIn (pc := 33) (off := 342) (tgt := 375) Cx.1 hb dl_33 h1 h2 (by rw [hn]; rfl) (by decide) ?_
      exact lw_c_core Cx hX hbl hL hLm hg I0 hS hl hcb hsb fin
    · refine lv_tableIn (pc := 33) (off := 375) (tgt := 408) Cx.1 hb dl_33 h1 h2 (by rw [hn]; rfl) (by decide) ?_
      exact lw_c_hook Cx hX hbl hL hLm hg I0 hS hl hcb hsb fin
    · refine lv_tableIn (pc := 33) (off := 418) (tgt := 451) Cx.1 hb dl_33 h1 h2 (by rw [hn]; rfl) (by decide) ?_
      exact lw_c_classOf Cx hX hbl hL hLm hg I0 hS hl hcb hsb fin
    · refine lv_tableIn (pc := 33) (off := 451) (tgt := 484) Cx.1 hb dl_33 h1 h2 (by rw [hn]; rfl) (by decide) ?_
      exact lw_c_character Cx hX hbl hL hLm hg I0 hS hl hcb hsb fin
    · refine lv_tableIn (pc := 33) (off := 484) (tgt := 517) Cx.1 hb dl_33 h1 h2 (by rw [hn]; rfl) (by decide) ?_
      exact lw_c_modular Cx hX hbl hL hLm hg I0 hS hl hcb hsb fin
    · refine lv_tableIn (pc := 33) (off := 517) (tgt := 550) Cx.1 hb dl_33 h1 h2 (by rw [hn]; rfl) (by decide) ?_
      exact lw_c_projective Cx hX hbl hL hLm hg I0 hS hl hcb hsb fin
    · refine lv_tableIn (pc := 33) (off := 550) (tgt := 583) Cx.1 hb dl_33 h1 h2 (by rw [hn]; rfl) (by decide) ?_
      exact lw_c_decomposition Cx hX hbl hL hLm hg I0 hS hl hcb hsb fin
    · refine lv_tableIn (pc := 33) (off := 583) (tgt := 616) Cx.1 hb dl_33 h1 h2 (by rw [hn]; rfl) (by decide) ?_
      exact lw_c_cartan Cx hX hbl hL hLm hg I0 hS hl hcb hsb fin
    · refine lv_tableIn (pc := 33) (off := 616) (tgt := 649) Cx.1 hb dl_33 h1 h2 (by rw [hn]; rfl) (by decide) ?_
      exact lw_c_tableau Cx hX hbl hL hLm hg I0 hS hl hcb hsb fin
    · refine lv_tableIn (pc := 33) (off := 669) (tgt := 702) Cx.1 hb dl_33 h1 h2 (by rw [hn]; rfl) (by decide) ?_
      exact lw_c_gram Cx hX hbl hL hLm hg I0 hS hl hcb hsb fin
    · refine lv_tableIn (pc := 33) (off := 712) (tgt := 745) Cx.1 hb dl_33 h1 h2 (by rw [hn]; rfl) (by decide) ?_
      exact lw_c_block Cx hX hbl hL hLm hg I0 hS hl hcb hsb fin
    · refine lv_tableIn (pc := 33) (off := 745) (tgt := 778) Cx.1 hb dl_33 h1 h2 (by rw [hn]; rfl) (by decide) ?_
      exact lw_c_value Cx hX hbl hL hLm hg I0 hS hl hcb hsb fin
    · refine lv_tableIn (pc := 33) (off := 778) (tgt := 811) Cx.1 hb dl_33 h1 h2 (by rw [hn]; rfl) (by decide) ?_
      exact lw_c_parts Cx hX hbl hL hLm hg I0 hS hl hcb hsb fin
    · refine lv_tableIn (pc := 33) (off := 821) (tgt := 854) Cx.1 hb dl_33 h1 h2 (by rw [hn]; rfl) (by decide) ?_
      exact lw_c_inner Cx hX hbl hL hLm hg I0 hS hl hcb hsb fin
    · refine lv_tableIn (pc := 33) (off := 854) (tgt := 887) Cx.1 hb dl_33 h1 h2 (by rw [hn]; rfl) (by decide) ?_
      exact lw_c_kind Cx hX hbl hL hLm hg I0 hS hl hcb hsb fin
    · refine lv_tableIn (pc := 33) (off := 887) (tgt := 920) Cx.1 hb dl_33 h1 h2 (by rw [hn]; rfl) (by decide) ?_
      exact lw_c_cut Cx hX hbl hL hLm hg I0 hS hl hcb hsb fin
    · refine lv_tableIn (pc := 33) (off := 930) (tgt := 963) Cx.1 hb dl_33 h1 h2 (by rw [hn]; rfl) (by decide) ?_
      exact lw_c_look Cx hX hbl hL hLm hg I0 hS hl hcb hsb fin
theorem lw_loop [G : zGh] {p : Program} {l : Launch} {e : Env} {s : State} {m : MethodId} {below : List Frame} {meth : Method} {c : Code} {b L : Nat} {xs : Nat → Int32} {cA : Nat → ClassId} {D : va_G} {ax am : Nat}
  (Cx : zCx (X_lw meth.name) cA D p s m #[Value.ref b] meth c (fun q => s.heap.size ≤ q)) (hX : va_X b L xs s s.heap) (hbl : b < s.heap.size) (hLm : L ≤ 3072) (hr : meth.sig.returnType = ret) (hlk : meth.locks = false) :
  ∀ (n i0 : Nat) {ls : Array Slot} {H : Heap} {locs : List Loc} {own : Nat → Nat} {g cells slots : Nat} {w0 wR : va_W}, L ≤ i0 + 6 * n + 5 → i0 ≤ 3072 → g < 24 → qI cA D (fun q => s.heap.size ≤ q) H own ax am g w0 wR → va_S (fun q => s.heap.size ≤ q) s.heap H locs → lv_has ls 4 [(3, .int (nI i0)), (2, .ref am), (1, .ref ax), (0, .ref b)] → cells + 1000 * qMis w0 ≤ 600000 → slots + 80000 * qMis w0 ≤ 7302250 → W p l e (zRm 1000 600000 7302250) s m #[Value.ref b] below meth c H locs cells slots (lw_Z below #[Value.ref b] s) (F0 m 18 ls []) := by
  have hb : c.code = code := Cx.2.1.trans (X_lw_c _)
  have done : ∀ (H1 : Heap) (locs1 : List Loc) (cells1 slots1 : Nat) (lsx : Array Slot), va_S (fun q => s.heap.size ≤ q) s.heap H1 locs1 → cells1 ≤ 600000 → slots1 ≤ 7302250 → W p l e (zRm 1000 600000 7302250) s m #[Value.ref b] below meth c H1 locs1 cells1 slots1 (lw_Z below #[Value.ref b] s) (F0 m 992 lsx []) := by
    intro H1 locs1 cells1 slots1 lsx hSx hc1 hs1
    refine lv_iconst (pc := 992) (v := 1) Cx.1 hb dl_992 rfl ?_
    refine va_forget (fun q hq => hSx.2.2 q hq) ?_
    refine W.widen hc1 hs1 ?_
    exact lw_retR (pc := 993) Cx.1 hb hr hlk dl_993
  intro n
  induction n with
  | zero =>
    intro i0 ls H locs own g cells slots w0 wR h1 h2 hg I0 hS hl hcb hsb
    refine lv_iload_n (pc := 18) Cx.1 hb dl_18 rfl (lv_at hl 0 rfl) ?_
    refine lv_aload_n (pc := 19) Cx.1 hb dl_19 rfl (lv_at hl 3 rfl) ?_
    refine va_slen (pc := 20) Cx.1 hb hX hbl (Nat.not_le.mpr hbl) hS dl_20 ?_
    refine lv_bipush (pc := 21) (v := 6) Cx.1 hb dl_21 rfl ?_
    refine lv_isub (pc := 23) Cx.1 hb dl_23 ?_
    refine lv_icmp_gt (pc := 24) (tgt := 992) Cx.1 hb dl_24 (by decide) (fun _ => done _ _ _ _ _ hS (by omega) (by omega)) (fun hgt => ?_)
    refine absurd (Int32.lt_iff_toInt_lt.mpr ?_) hgt
    have e1 : (Int32.ofNat L - 6).toInt = (L : Int) - 6 := pk_sub_toInt (a := L) (b := 6) (by omega) (by decide)
    have e2 : (nI i0).toInt = (i0 : Int) := nI_toInt (by omega)
    rw [e1, e2]
    omega
  | succ n ih =>
    intro i0 ls H locs own g cells slots w0 wR h1 h2 hg I0 hS hl hcb hsb
    refine lv_iload_n (pc := 18) Cx.1 hb dl_18 rfl (lv_at hl 0 rfl) ?_
    refine lv_aload_n (pc := 19) Cx.1 hb dl_19 rfl (lv_at hl 3 rfl) ?_
    refine va_slen (pc := 20) Cx.1 hb hX hbl (Nat.not_le.mpr hbl) hS dl_20 ?_
    refine lv_bipush (pc := 21) (v := 6) Cx.1 hb dl_21 rfl ?_
    refine lv_isub (pc := 23) Cx.1 hb dl_23 ?_
    refine lv_icmp_gt (pc := 24) (tgt := 992) Cx.1 hb dl_24 (by decide) (fun _ => done _ _ _ _ _ hS (by omega) (by omega)) (fun hgt => ?_)
    have e1 : (Int32.ofNat L - 6).toInt = (L : Int) - 6 := pk_sub_toInt (a := L) (b := 6) (by omega) (by decide)
    have e2 : (nI i0).toInt = (i0 : Int) := nI_toInt (by omega)
    have h6 : i0 + 6 ≤ L := by
      have := mt Int32.lt_iff_toInt_lt.mpr hgt
      rw [e1, e2] at this
      omega
    refine lw_turn Cx hX hbl h6 hLm hg I0 hS hl hcb hsb (fun H1 locs1 own1 g1 w1 wR1 cells1 slots1 hg1 I1 hS1 hc1 hs1 => ?_)
    refine lv_iinc (pc := 986) (k := 0) (v := nI (i0 + 6)) Cx.1 hb dl_986 hl rfl (nI_add i0 6) (by decide) rfl (fun ls4 hl4 => ?_)
    refine lv_goto (pc := 989) (tgt := 18) Cx.1 hb dl_989 (by decide) ?_
    exact ih (i0 + 6) (by omega) (by omega) hg1 I1 hS1 hl4 hc1 hs1
end
section
/-! the start: both made, then told by blocks -/
/-- a call, its end told -/
theorem pt_call [G : zGh] {Ch : zCh} {d : Nat} {X Xc : zM} {yc : MethodName} {fr frc pc n mc ms : Nat} {f : List zV → zH d → zP d → Bool} {recv : va_W → List Value → Prop} {cA : Nat → ClassId} {D : va_G} {A : Nat → Prop} {MC MS : Nat} {p : Program} {l : Launch} {e : Env} {s : State} {m : MethodId} {args : Array Value} {below : List Frame} {meth : Method} {c : Code} {Q : State → Prop} {ls : Array Slot} {H : Heap} {locs : List Loc} {cells slots : Nat} {as : List zV} {st av : List Value} {h : zH d} {ws : va_W} {kr : zV → zH d → Bool}
    (hM : zMet Xc yc frc f) (run : zRun X Xc yc fr frc pc n mc ms recv) (Cx : zCx X cA D p s m args meth c A) (hk : zgo mc ms f as h kr = true) (hHp : @zHp Ch d cA h ws) (hP : va_P D zcl ws H) (hD : va_D A ws) (hS : va_S A s.heap H locs) (hls : ls.size = X.2.2.1) (has : zRepL (zad cA ws) as av) (hcat : (st.map fun v => v.category).sum ≤ 8) (hn : av.length = n) (hrc : recv ws av) (hcb : cells + h.2.2.1 ≤ MC) (hsb : slots + h.2.2.2 ≤ MS)
    (kk : ∀ (Ch' : zCh) (r : zV) (h' : zH d) (ws' : va_W) (ov : Option Value) (H1 : Heap) (locs1 : List Loc), ((ov = none ∧ r = zU) ∨ ∃ x, ov = some x ∧ ∀ (_ : zGh), zRep (zad cA ws') r x) → kr r (h'.1, (h'.2.1, (h.2.2.1 - mc, h.2.2.2 - ms))) = true → @zHp Ch' d cA (h'.1, (h'.2.1, (h.2.2.1 - mc, h.2.2.2 - ms))) ws' → zPre (zad cA ws) (zad cA ws') → va_P D zcl ws' H1 → va_D A ws' → va_S A s.heap H1 locs1 → W p l e (zRm fr MC MS) s m args below meth c H1 locs1 (cells + mc) (slots + ms) Q (F0 m (pc + 3) ls (ov.toList ++ st))) :
    W p l e (zRm fr MC MS) s m args below meth c H locs cells slots Q (F0 m pc ls (av.reverse ++ st)) := by
  obtain ⟨g1, g2, hk⟩ := zgo_t hk
  have hF := zfree hD hS Cx.2.2.2.2.2.2.1
  have hMet := @hM G Ch l cA D ws av as (h.1, (h.2.1, (mc, ms))) _ H.size hk has hHp Cx.2.2.2.2.2.2.2.2.1.2
  refine zrun (run (l := l) (e := e) (below := below) (MC := MC) (MS := MS) (locs := locs) (cells := cells) (slots := slots) (ls := ls) (rest := st) Cx hP hrc hMet zPc_blind (fun U hU hW => ⟨rfl, by rw [hU], by rw [hU]; exact hP, va_K.moved hW.alike Cx.2.2.2.2.2.1, hD.weaken (fun _ _ _ _ => trivial), zStat_to Cx.2.2.2.2.2.2.2.2.2.2.1 hS hF hU hW.alike, zEx_moved hW Cx.2.2.2.2.2.2.2.2.2.2.2⟩) hn hls hcat (by omega) (by omega)) hS (fun q _ h => hF q h) hF (@fun Ch' r h' ws' ov H1 locs1 hov hPk hHp' hpre' hP' hD' hS' => ?_)
  exact kk Ch' r h' ws' ov H1 locs1 hov hPk hHp' hpre' hP' (hD'.weaken (fun _ q _ hq => hF _ hq)) hS'
/-- an object made, its end told -/
theorem pt_new [G : zGh] {Ch : zCh} {d : Nat} {X : zM} {fr pc ci index : Nat} {C : String} {T : u_T} {N : Nat} {ty0 : Nat → FieldType} {cA : Nat → ClassId} {D : va_G} {A : Nat → Prop} {MC MS : Nat} {p : Program} {l : Launch} {e : Env} {s : State} {m : MethodId} {args : Array Value} {below : List Frame} {meth : Method} {c : Code} {Q : State → Prop} {ls : Array Slot} {st : List Value} {H : Heap} {locs : List Loc} {cells slots : Nat} {h : zH d} {ws : va_W} {kr : Nat → zH d → Bool}
    (hN : N = zN ci) (hfty : ∀ j, j < N → ty0 j = zfty ci j) (hall : ∀ j, j < N → zfty ci j = .int ∨ zisR (zfty ci j) = true) (hin : ∀ w ∈ u_ws C T N, w ∈ ztbl) (hty : ∀ k, k < N → parseFieldDescriptor (T k).2.2.1 = some (ty0 k)) (hc : zcl[ci]? = some (C, T, N)) (hcl : Cond.classLink X.1 index C ∈ ztbl) (hinst : Cond.instantiable C N ∈ ztbl) (hini : Cond.initialized C ∈ ztbl) (dg : decode X.2.1 pc = .ok (.new index, 3))
    (Cx : zCx X cA D p s m args meth c A) (hk : zmk h N (16 + ci, N, 0) kr = true) (hHp : @zHp Ch d cA h ws) (hP : va_P D zcl ws H) (hD : va_D A ws) (hS : va_S A s.heap H locs) (hcb : cells + h.2.2.1 ≤ MC) (hsb : slots + h.2.2.2 ≤ MS)
    (kk : ∀ (q : Nat) (fs : List Value) (H1 : Heap), kr (h.2.1 + 1) (zset d h.1 h.2.1 (16 + ci, N, 0), (h.2.1 + 1, (h.2.2.1 - 1, h.2.2.2 - N))) = true → @zHp Ch d cA (zset d h.1 h.2.1 (16 + ci, N, 0), (h.2.1 + 1, (h.2.2.1 - 1, h.2.2.2 - N))) (ws ++ [(q, .inr (ci, fs))]) → (zad cA (ws ++ [(q, .inr (ci, fs))])).1[h.2.1]? = some q → (ws ++ [(q, .inr (ci, fs))])[h.2.1]? = some (q, .inr (ci, fs)) → va_P D zcl (ws ++ [(q, .inr (ci, fs))]) H1 → va_D A (ws ++ [(q, .inr (ci, fs))]) → va_S A s.heap H1 locs → zPre (zad cA ws) (zad cA (ws ++ [(q, .inr (ci, fs))])) → 1 ≤ h.2.2.1 → N ≤ h.2.2.2 → W p l e (zRm fr MC MS) s m args below meth c H1 locs (cells + 1) (slots + N) Q (F0 m (pc + 3) ls (.ref q :: st))) :
    W p l e (zRm fr MC MS) s m args below meth c H locs cells slots Q (F0 m pc ls st) := by
  obtain ⟨h1, h2, h3, hk⟩ := zmk_t hk
  refine va_new (fs := (List.range N).map (fun j => defaultValue (ty0 j))) Cx.1 Cx.2.1 Cx.2.2.2.2.1 hin ty0 hty Cx.2.2.2.1 (Cx.2.2.2.2.1 _ hcl) (Cx.2.2.2.2.1 _ hinst) (Cx.2.2.2.2.1 _ hini) Cx.2.2.2.2.2.1 hP hD hS Cx.2.2.2.2.2.2.1 hc (fun j hj => ?_) (by show cells + 1 ≤ MC; omega) (by show slots + N ≤ MS; omega) dg (fun q H1 hP1 hD1 hS1 => ?_)
  · show _ = ((List.range N).map (fun j => defaultValue (ty0 j))).getD j .null
    rw [List.getD_eq_getElem?_getD, List.getElem?_map, List.getElem?_range hj]
    rfl
  · have hp := zPre_push (cA := cA) ws q (.inr (ci, (List.range N).map (fun j => defaultValue (ty0 j))))
    refine kk q _ H1 hk (zHp_push hHp h3 (zCell_ok (by rw [List.length_map, List.length_range]; exact hN) (fun j v hj => ?_))) (zad_new hHp.1) ?_ hP1 hD1 hS1 hp h1 h2
    · have hj2 : j < N := by
        have := (List.getElem?_eq_some_iff.mp hj).1
        rw [List.length_map, List.length_range] at this
        exact this
      rw [List.getElem?_map, List.getElem?_range hj2] at hj
      cases hj
      unfold zFl
      rw [zwd_zero]
      show zRepC _ _ (defaultValue (ty0 j))
      rw [hfty j hj2]
      exact zdef _ _ (hall j hj2)
    · rw [← hHp.1, List.getElem?_concat_length]
noncomputable def krD (r : zV) (h : zH 10) : Bool := cond (zisU r) (zsubH h hB_lw) false
noncomputable def krC (r : Nat) (h : zH 10) : Bool := zgo 100 80000 g_X9_init_0 [zR r] h krD
noncomputable def krB (r : zV) (h : zH 10) : Bool := cond (zisU r) (cond (Nat.beq h.2.1 165) (zmk h 63 (16 + 9, 63, 0) krC) false) false
noncomputable def krA (r : Nat) (h : zH 10) : Bool := zgo 1100 82000 g_X8_init_0 [zR r] h krB
theorem ev_make2 : zmk hS_lw 8 (16 + 8, 8, 0) krA = true := by decide +kernel
theorem krA_t {r : Nat} {h : zH 10} (hk : krA r h = true) : zgo 1100 82000 g_X8_init_0 [zR r] h krB = true := hk
theorem krB_t {r : zV} {h : zH 10} (hk : krB r h = true) : r = zU ∧ h.2.1 = 165 ∧ zmk h 63 (16 + 9, 63, 0) krC = true := by
  unfold krB at hk
  obtain ⟨h1, hk1⟩ := zcnd_t hk
  obtain ⟨h2, hk2⟩ := zcnd_t hk1
  exact ⟨zisU_t h1, Nat.eq_of_beq_eq_true h2, hk2⟩
theorem krC_t {r : Nat} {h : zH 10} (hk : krC r h = true) : zgo 100 80000 g_X9_init_0 [zR r] h krD = true := hk
theorem krD_t {r : zV} {h : zH 10} (hk : krD r h = true) : r = zU ∧ zsubH h hB_lw = true := by
  unfold krD at hk
  obtain ⟨h1, hk1⟩ := zcnd_t hk
  exact ⟨zisU_t h1, hk1⟩
theorem lw_all8 : ∀ j, j < 8 → zfty 8 j = .int ∨ zisR (zfty 8 j) = true := by decide
theorem lw_all9 : ∀ j, j < 63 → zfty 9 j = .int ∨ zisR (zfty 9 j) = true := by decide +kernel
theorem hS_n : hS_lw.2.1 = 0 := rfl
theorem hS_c : hS_lw.2.2.1 = 10000 := rfl
theorem hS_s : hS_lw.2.2.2 = 1000000 := rfl
theorem lw_e0 {cA : Nat → ClassId} (Ch : zCh) : @zHp Ch 10 cA hS_lw [] := ⟨rfl, Nat.le_of_ble_eq_true rfl, fun i q h => by simp at h⟩
noncomputable def ph0C : List Nat := [0, 1, 2, 3, 4, 5, 6, 7, 8, 9, 10, 11, 12, 140, 141, 142, 143, 144, 145, 146, 147, 148, 149, 150, 151, 152, 153, 154, 155, 156, 157, 158, 159, 160, 161, 162, 163, 164]
noncomputable def ph0T : List Nat := [13, 14, 16, 17, 18, 19, 20, 21, 22, 23, 24, 25, 26, 27, 28, 29, 30, 31, 32, 33, 34, 35, 36, 37, 38, 39, 40, 41, 42, 43, 44, 45, 46, 47, 48, 49, 50, 51, 52, 53, 54, 55, 56, 57, 58, 59, 60, 61, 62, 63, 64, 65, 66, 67, 68, 69, 70, 71, 72, 73, 74, 75, 76, 77, 78, 79, 80, 81, 82, 83, 84, 89]
noncomputable def ph0S : List Nat := [90, 91, 92, 93, 94, 95, 96, 97, 106, 107, 108, 109, 115, 116, 117, 118, 119, 120, 121, 122, 123, 124, 125, 126, 127, 128, 129, 130, 131, 132, 133, 135]
noncomputable def ph0R : List Nat := [165, 166, 167, 168, 169, 170, 171, 172, 173, 174, 175, 176, 177, 178, 179, 180, 181, 182, 183, 184, 185, 186, 187, 188, 189, 190, 191, 192, 193, 194, 195, 196, 197, 198, 199, 200, 201, 202, 203, 204, 205, 206, 207, 208, 209]
noncomputable def zdjL (a b : List Nat) : Bool := List.rec (motive := fun _ => Bool) true (fun x _ r => cond (zmmb x b) false r) a
theorem zdjL_t {b : List Nat} : ∀ {a : List Nat}, zdjL a b = true → ∀ (p q x : Nat), a[p]? = some x → b[q]? = some x → False
  | [], _, p, q, x, hp, _ => by simp at hp
  | y :: a, h, p, q, x, hp, hq => by
    have h : cond (zmmb y b) false (zdjL a b) = true := h
    cases hb : zmmb y b
    · rw [hb, cond_false] at h
      cases p with
      | zero =>
        have e : y = x := by simpa using hp
        subst e
        exact zmmb_f hb (List.mem_of_getElem? hq)
      | succ p => exact zdjL_t h p q x (by simpa using hp) hq
    · rw [hb] at h
      cases h
noncomputable def qw0 (t j : Nat) : Nat := zwd 40 (zget 10 hB_lw.1 t).2.2 j
noncomputable def qkc (t kd len : Nat) : Bool := cond (Nat.beq (zget 10 hB_lw.1 t).1 kd) (Nat.beq (zget 10 hB_lw.1 t).2.1 len) false
set_option maxRecDepth 100000 in
theorem ev_B1 : zands [zsubB ph0C hB_lw hcore, zsubB ph0T hB_lw (hTf 3), zsubB ph0S hB_lw (hSf 8), zsubB ph0R hB_lw (hRf 8), zdjL ph0T ph0C, zdjL ph0S ph0C, zdjL ph0S ph0T, zdjL ph0R ph0C, zdjL ph0R ph0T, zdjL ph0R ph0S] = true := by decide +kernel
theorem ev_B2 : zands [qkc 0 24 8, qkc 1 6 7, qkc 2 7 56, qkc 140 18 15, qkc 11 22 2, qkc 165 25 63, Nat.beq (qw0 0 6) 14, Nat.beq (qw0 0 7) 91, Nat.beq (qw0 140 12) 14, Nat.beq (qw0 140 13) 91, Nat.beq (qw0 1 3) 14, Nat.beq (qw0 2 26) 91, Nat.beq (qw0 11 1) 0, Nat.beq (qw0 165 46) 0, zall 7 (fun k => cond (Nat.beq k 3) true (Nat.beq (qw0 1 k) 0)), zall 24 (fun g => cond (Nat.beq g 8) true (Nat.beq (qw0 2 (qgS g)) 0))] = true := by decide +kernel
theorem ev_B3 : hB_lw.2.1 = 210 := rfl
theorem zsum_le {f : Nat → Nat} (h : ∀ i, f i ≤ 1) : ∀ n, zsum n f ≤ n
  | 0 => Nat.le_refl _
  | n + 1 => by
    have := zsum_le h n
    have := h n
    show zsum n f + f n ≤ n + 1
    omega
theorem qMis_le (w0 : va_W) : qMis w0 ≤ 24 := zsum_le (fun i => by cases Nat.beq (zgw w0 2 (qgS i)) 0 <;> decide) 24
theorem qkc_t {t kd len : Nat} (h : qkc t kd len = true) : zget 10 hB_lw.1 t = (kd, len, (zget 10 hB_lw.1 t).2.2) := by
  obtain ⟨h1, h2⟩ := zcnd_t h
  exact zc3 h1 h2
theorem q_begin {Ch : zCh} {cA : Nat → ClassId} {D : va_G} {A : Nat → Prop} {H : Heap} {ws : va_W} {ax am : Nat} (hH : @zHp Ch 10 cA hB_lw ws) (hP : va_P D zcl ws H) (hD : va_D A ws) (hax : (zad cA ws).1[0]? = some ax) (ham : (zad cA ws).1[165]? = some am) : ∃ (own : Nat → Nat) (w0 wR : va_W), qI cA D A H own ax am 8 w0 wR := by
  classical
  obtain ⟨s1, k⟩ := zands_c ev_B1
  obtain ⟨s2, k⟩ := zands_c k
  obtain ⟨s3, k⟩ := zands_c k
  obtain ⟨s4, k⟩ := zands_c k
  obtain ⟨j1, k⟩ := zands_c k
  obtain ⟨j2, k⟩ := zands_c k
  obtain ⟨j3, k⟩ := zands_c k
  obtain ⟨j4, k⟩ := zands_c k
  obtain ⟨j5, k⟩ := zands_c k
  obtain ⟨j6, -⟩ := zands_c k
  obtain ⟨c0, k⟩ := zands_c ev_B2
  obtain ⟨c1, k⟩ := zands_c k
  obtain ⟨c2, k⟩ := zands_c k
  obtain ⟨c3, k⟩ := zands_c k
  obtain ⟨c4, k⟩ := zands_c k
  obtain ⟨c5, k⟩ := zands_c k
  obtain ⟨w1, k⟩ := zands_c k
  obtain ⟨w2, k⟩ := zands_c k
  obtain ⟨w3, k⟩ := zands_c k
  obtain ⟨w4, k⟩ := zands_c k
  obtain ⟨w5, k⟩ := zands_c k
  obtain ⟨w6, k⟩ := zands_c k
  obtain ⟨w7, k⟩ := zands_c k
  obtain ⟨w8, k⟩ := zands_c k
  obtain ⟨w9, k⟩ := zands_c k
  obtain ⟨w10, -⟩ := zands_c k
  have hl : ws.length = 210 := hH.1.trans ev_B3
  let inn : List Nat → Nat → Prop := fun φ q => ∃ (p b : Nat) (x : Nat × va_E), φ[p]? = some b ∧ ws[b]? = some x ∧ x.1 = q
  let own : Nat → Nat := fun q => if inn ph0C q then 0 else if inn ph0T q then 4 else if inn ph0S q then 16 else 1
  have hno : ∀ (φ φ' : List Nat), zdjL φ φ' = true → ∀ (p b : Nat) (x : Nat × va_E), φ[p]? = some b → ws[b]? = some x → ¬ inn φ' x.1 := by
    rintro φ φ' hj p b x hb hx ⟨p2, b2, y, u1, u2, u3⟩
    have eb := hD.1 b2 b y x u2 hx u3
    subst eb
    exact zdjL_t hj p p2 b2 hb u1
  have B0 : qB cA D A H own 0 hcore (zsubw ph0C ws) := q_bk (fun _ _ => rfl) s1 hH hP hD (fun p b x hb hx => if_pos ⟨p, b, x, hb, hx, rfl⟩)
  have BT : qB cA D A H own 4 (hTf 3) (zsubw ph0T ws) := q_bk (fun _ _ => rfl) s2 hH hP hD (fun p b x hb hx => by
    show (if inn ph0C x.1 then 0 else if inn ph0T x.1 then 4 else if inn ph0S x.1 then 16 else 1) = 4
    rw [if_neg (hno _ _ j1 p b x hb hx), if_pos ⟨p, b, x, hb, hx, rfl⟩])
  have BS : qB cA D A H own 16 (hSf 8) (zsubw ph0S ws) := q_bk (fun _ _ => rfl) s3 hH hP hD (fun p b x hb hx => by
    show (if inn ph0C x.1 then 0 else if inn ph0T x.1 then 4 else if inn ph0S x.1 then 16 else 1) = 16
    rw [if_neg (hno _ _ j2 p b x hb hx), if_neg (hno _ _ j3 p b x hb hx), if_pos ⟨p, b, x, hb, hx, rfl⟩])
  have BR : qB cA D A H own 1 (hRf 8) (zsubw ph0R ws) := q_bk (fun _ _ => rfl) s4 hH hP hD (fun p b x hb hx => by
    show (if inn ph0C x.1 then 0 else if inn ph0T x.1 then 4 else if inn ph0S x.1 then 16 else 1) = 1
    rw [if_neg (hno _ _ j4 p b x hb hx), if_neg (hno _ _ j5 p b x hb hx), if_neg (hno _ _ j6 p b x hb hx)])
  have hat : ∀ k : Nat, k < 210 → ∃ a : Nat, (zad cA ws).1[k]? = some a := fun k hk => ⟨_, List.getElem?_eq_getElem (by show k < (ws.map _).length; rw [List.length_map]; omega)⟩
  obtain ⟨aT, haT⟩ := hat 13 (by decide)
  obtain ⟨aS, haS⟩ := hat 90 (by decide)
  have n210 : ∀ k : Nat, k < 210 → k < hB_lw.2.1 := fun k hk => by rw [ev_B3]; exact hk
  have dT : qhd (zsubw ph0T ws) aT := by
    obtain ⟨e, h⟩ := zad_at haT
    exact ⟨e, zsubw_at (φ := ph0T) (p := 0) rfl h⟩
  have dS : qhd (zsubw ph0S ws) aS := by
    obtain ⟨e, h⟩ := zad_at haS
    exact ⟨e, zsubw_at (φ := ph0S) (p := 0) rfl h⟩
  have d0 : qhd (zsubw ph0C ws) ax := by
    obtain ⟨e, h⟩ := zad_at hax
    exact ⟨e, zsubw_at (φ := ph0C) (p := 0) rfl h⟩
  have dR : qhd (zsubw ph0R ws) am := by
    obtain ⟨e, h⟩ := zad_at ham
    exact ⟨e, zsubw_at (φ := ph0R) (p := 0) rfl h⟩
  have vT : ∀ w, w = 14 → zrvl (zad cA ws) w = aT + 1 := fun w e => by rw [e]; exact zrvl_at haT (by decide)
  have vS : ∀ w, w = 91 → zrvl (zad cA ws) w = aS + 1 := fun w e => by rw [e]; exact zrvl_at haS (by decide)
  have v0 : ∀ w, w = 0 → zrvl (zad cA ws) w = 0 := fun w e => by rw [e]; rfl
  have g06 : zgw (zsubw ph0C ws) 0 6 = aT + 1 := by
    rw [zgw_sub (k := 0) (i := 0) rfl (by omega), zgw_ref hH (n210 0 (by decide)) (qkc_t c0) (by decide) (by decide) rfl]
    exact vT _ (Nat.eq_of_beq_eq_true w1)
  have g07 : zgw (zsubw ph0C ws) 0 7 = aS + 1 := by
    rw [zgw_sub (k := 0) (i := 0) rfl (by omega), zgw_ref hH (n210 0 (by decide)) (qkc_t c0) (by decide) (by decide) rfl]
    exact vS _ (Nat.eq_of_beq_eq_true w2)
  have g12 : zgw (zsubw ph0C ws) 13 12 = aT + 1 := by
    rw [zgw_sub (k := 13) (i := 140) rfl (by omega), zgw_ref hH (n210 140 (by decide)) (qkc_t c3) (by decide) (by decide) rfl]
    exact vT _ (Nat.eq_of_beq_eq_true w3)
  have g13 : zgw (zsubw ph0C ws) 13 13 = aS + 1 := by
    rw [zgw_sub (k := 13) (i := 140) rfl (by omega), zgw_ref hH (n210 140 (by decide)) (qkc_t c3) (by decide) (by decide) rfl]
    exact vS _ (Nat.eq_of_beq_eq_true w4)
  have g1 : ∀ k, k < 7 → zgw (zsubw ph0C ws) 1 k = zrvl (zad cA ws) (qw0 1 k) := fun k hk => by
    rw [zgw_sub (k := 1) (i := 1) rfl (by omega)]
    exact zgw_arr hH (n210 1 (by decide)) (qkc_t c1) (by decide) (by decide) hk
  have g2 : ∀ k, k < 56 → zgw (zsubw ph0C ws) 2 k = zrvl (zad cA ws) (qw0 2 k) := fun k hk => by
    rw [zgw_sub (k := 2) (i := 2) rfl (by omega)]
    exact zgw_arr hH (n210 2 (by decide)) (qkc_t c2) (by decide) (by decide) hk
  have g13' : zgw (zsubw ph0C ws) 1 3 = aT + 1 := (g1 3 (by decide)).trans (vT _ (Nat.eq_of_beq_eq_true w5))
  have g226 : zgw (zsubw ph0C ws) 2 26 = aS + 1 := (g2 26 (by decide)).trans (vS _ (Nat.eq_of_beq_eq_true w6))
  have q8 : qgN 8 = 3 ∧ qgS 8 = 26 := ⟨rfl, rfl⟩
  have cur : qCur (zsubw ph0C ws) 8 := ⟨by rw [q8.2, g226]; omega, by rw [q8.1, g06, g13'], by rw [q8.1, g12, g13'], by rw [q8.2, g07, g226], by rw [q8.2, g13, g226]⟩
  have hqT : qT cA D A H own (zsubw ph0C ws) := fun k k1 k6 hne => by
    by_cases e : k = 3
    · subst e
      refine ⟨_, BT, ?_⟩
      rw [g13']
      exact dT
    · have := zall_t w9 k (by omega)
      have e1 : Nat.beq k 3 = false := by
        cases hb : Nat.beq k 3
        · rfl
        · exact absurd (Nat.eq_of_beq_eq_true hb) e
      have this : cond (Nat.beq k 3) true (Nat.beq (qw0 1 k) 0) = true := this
      rw [e1, cond_false] at this
      exact absurd ((g1 k (by omega)).trans (v0 _ (Nat.eq_of_beq_eq_true this))) hne
  have hqS : qS cA D A H own (zsubw ph0C ws) := fun g hg hne => by
    obtain ⟨u1, u2, u3⟩ := qg_b g hg
    by_cases e : g = 8
    · subst e
      refine ⟨by rw [q8.1, g13']; omega, _, BS, ?_⟩
      rw [q8.2, g226]
      exact dS
    · have := zall_t w10 g hg
      have e1 : Nat.beq g 8 = false := by
        cases hb : Nat.beq g 8
        · rfl
        · exact absurd (Nat.eq_of_beq_eq_true hb) e
      have this : cond (Nat.beq g 8) true (Nat.beq (qw0 2 (qgS g)) 0) = true := this
      rw [e1, cond_false] at this
      exact absurd ((g2 _ u3).trans (v0 _ (Nat.eq_of_beq_eq_true this))) hne
  have t0 : zgw (zsubw ph0C ws) 11 1 = 0 := by
    rw [zgw_sub (k := 11) (i := 11) rfl (by omega)]
    obtain ⟨-, -, i, -, -, -, y1, y2, -⟩ := zgw_num hH (n210 11 (by decide)) (qkc_t c4) (j := 1) (by decide) (by decide) rfl
    have ew : zwd 40 (zget 10 hB_lw.1 11).2.2 1 = 0 := Nat.eq_of_beq_eq_true w7
    rw [ew] at y2
    exact y1.trans (y2.1 (by decide))
  have tR : zgw (zsubw ph0R ws) 0 46 = 0 := by
    rw [zgw_sub (k := 0) (i := 165) rfl (by omega)]
    obtain ⟨-, -, i, -, -, -, y1, y2, -⟩ := zgw_num hH (n210 165 (by decide)) (qkc_t c5) (j := 46) (by decide) (by decide) rfl
    have ew : zwd 40 (zget 10 hB_lw.1 165).2.2 46 = 0 := Nat.eq_of_beq_eq_true w8
    rw [ew] at y2
    exact y1.trans (y2.1 (by decide))
  exact ⟨own, _, _, ⟨B0, d0, cur, hqT, hqS⟩, ⟨BR, dR⟩, by rw [t0, tR], by rw [t0]; exact Nat.zero_le _⟩
end
section
/-! from the law's entry to its end -/
set_option maxRecDepth 100000 in
set_option maxHeartbeats 8000000 in
theorem whole_start {p : Program} {e : Env} {s : State} {m : MethodId} {below : List Frame} {meth : Method} {c : Code} (l : Launch) (hflags : l.flags = flags0) {b L : Nat} {xs : Nat → Int32} (hL : L ≤ 3072) (C0 : lw_At p s m meth c b L xs) : W p l e room_1 s m #[Value.ref b] below meth c s.heap [] 0 0 (lw_Z below #[Value.ref b] s) (entryFrame m ([Value.ref b] : List Value).toArray 4) := by
  obtain ⟨G, hG⟩ : ∃ G : zGh, @zg G 0 = 0 := ⟨⟨(fun _ => 0 : Nat → Nat)⟩, rfl⟩
  obtain ⟨cA, D, Cx⟩ := lw_ctx hG C0
  obtain ⟨hx, hb, hr, hml, hown, hts, hX, hbl, hlk, hgv⟩ := C0
  refine W_room (R := zRm 1000 600000 7302250) (Nat.le_of_ble_eq_true rfl) (Nat.le_of_ble_eq_true rfl) (Nat.le_of_ble_eq_true rfl) (Nat.le_of_ble_eq_true rfl) ?_
  have hl := lv_entry [Value.ref b] (n := 4) (Nat.le_of_ble_eq_true rfl)
  rw [lg_entry_eq]
  generalize (lg_sl [Value.ref b] ++ List.replicate (4 - (lg_sl [Value.ref b]).length) Slot.unset).toArray = ls at hl ⊢
  have hl : lv_has ls 4 [(0, .ref b)] := hl
  obtain ⟨Ch, -⟩ : ∃ Ch : zCh, True := ⟨⟨((fun _ _ => 0, 0) : (Nat → Nat → Int32) × Nat)⟩, trivial⟩
  refine pt_new (X := X_lw meth.name) (pc := 0) (ci := 8) (C := RX8) (T := TX8) (N := 8) (ty0 := tyX8) (h := hS_lw) (ws := []) (kr := krA) rfl (fun _ _ => rfl) lw_all8 inz8 tyX8_ok rfl wd_15 wd_16 wd_1 (by rw [X_lw_c]; exact dl_0) Cx ev_make2 (lw_e0 Ch) (fun k q h => by simp at h) ⟨fun i j p q h => by simp at h, fun k q h => by simp at h⟩ va_S.rf (by rw [hS_c]; exact Nat.le_of_ble_eq_true rfl) (by rw [hS_s]; exact Nat.le_of_ble_eq_true rfl) (fun ax fs1 H1 hk1 hHp1 hax1 hwx1 hP1 hD1 hS1 _ _ _ => ?_)
  generalize zset 10 hS_lw.1 hS_lw.2.1 (16 + 8, 8, 0) = T1 at hk1 hHp1
  rw [hS_n, hS_c, hS_s] at hk1 hHp1
  rw [hS_n] at hax1 hwx1
  refine lv_dup (pc := 3) hx hb dl_3 rfl ?_
  refine pt_call (X := X_lw meth.name) (pc := 4) (h := (T1, (0 + 1, (10000 - 1, 1000000 - 8)))) (kr := krB) (av := [.ref ax]) (st := [.ref ax]) mg_X8_init_0 lr_x Cx (krA_t hk1) hHp1 hP1 hD1 hS1 hl.1 ⟨⟨some ax, rfl, Or.inr ⟨0, ax, rfl, hax1, rfl⟩⟩, trivial⟩ (Nat.le_of_ble_eq_true rfl) rfl ⟨ax, [], 0, fs1, rfl, hwx1⟩ (show 0 + 1 + (10000 - 1) ≤ 600000 from Nat.le_of_ble_eq_true rfl) (show 0 + 8 + (1000000 - 8) ≤ 7302250 from Nat.le_of_ble_eq_true rfl) (fun Ch2 r2 h2 ws2 ov2 H2 locs2 hov2 hk2 hHp2 hpre2 hP2 hD2 hS2 => ?_)
  obtain ⟨hu2, hn2, hk3⟩ := krB_t hk2
  have hn2 : h2.2.1 = 165 := hn2
  obtain ⟨T2, n2, w2⟩ := h2
  have hn2 : n2 = 165 := hn2
  subst hn2
  have e2 : ov2 = none := by
    rcases hov2 with ⟨z, -⟩ | ⟨x, -, z⟩
    · exact z
    · rw [hu2] at z
      exact absurd (z G) (fun q => @zRep_U G _ _ q)
  subst e2
  have hax2 := zPre_at hpre2 hax1
  clear hk1 hk2 hHp1
  refine lv_astore_n (pc := 7) hx hb dl_7 rfl hl (by decide) rfl (fun ls1 hl1 => ?_)
  refine pt_new (X := X_lw meth.name) (pc := 8) (ci := 9) (C := RX9) (T := TX9) (N := 63) (ty0 := tyX9) (h := (T2, (165, (10000 - 1 - 1100, 1000000 - 8 - 82000)))) (kr := krC) rfl (fun _ _ => rfl) lw_all9 inz9 tyX9_ok rfl wd_902 wd_903 wd_14 (by rw [X_lw_c]; exact dl_8) Cx hk3 hHp2 hP2 hD2 hS2 (show 0 + 1 + 1100 + (10000 - 1 - 1100) ≤ 600000 from Nat.le_of_ble_eq_true rfl) (show 0 + 8 + 82000 + (1000000 - 8 - 82000) ≤ 7302250 from Nat.le_of_ble_eq_true rfl) (fun am fs3 H3 hk4 hHp3 ham3 hwm3 hP3 hD3 hS3 hpre3 _ _ => ?_)
  have hax3 := zPre_at hpre3 hax2
  generalize zset 10 (T2, (165, (10000 - 1 - 1100, 1000000 - 8 - 82000))).1 (T2, (165, (10000 - 1 - 1100, 1000000 - 8 - 82000))).2.1 (16 + 9, 63, 0) = T3 at hk4 hHp3
  refine lv_dup (pc := 11) hx hb dl_11 rfl ?_
  refine pt_call (X := X_lw meth.name) (pc := 12) (h := (T3, (165 + 1, (10000 - 1 - 1100 - 1, 1000000 - 8 - 82000 - 63)))) (kr := krD) (av := [.ref am]) (st := [.ref am]) mg_X9_init_0 lr_m Cx (krC_t hk4) hHp3 hP3 hD3 hS3 hl1.1 ⟨⟨some am, rfl, Or.inr ⟨165, am, rfl, ham3, rfl⟩⟩, trivial⟩ (Nat.le_of_ble_eq_true rfl) rfl ⟨am, [], 165, fs3, rfl, hwm3⟩ (show 0 + 1 + 1100 + 1 + (10000 - 1 - 1100 - 1) ≤ 600000 from Nat.le_of_ble_eq_true rfl) (show 0 + 8 + 82000 + 63 + (1000000 - 8 - 82000 - 63) ≤ 7302250 from Nat.le_of_ble_eq_true rfl) (fun Ch5 r5 h5 ws5 ov5 H5 locs5 hov5 hk5 hHp5 hpre5 hP5 hD5 hS5 => ?_)
  obtain ⟨hu5, hk6⟩ := krD_t hk5
  have e5 : ov5 = none := by
    rcases hov5 with ⟨z, -⟩ | ⟨x, -, z⟩
    · exact z
    · rw [hu5] at z
      exact absurd (z G) (fun q => @zRep_U G _ _ q)
  subst e5
  have hB := zsubH_ok hk6 hHp5
  have hax5 := zPre_at hpre5 hax3
  have ham5 : (zad cA ws5).1[165]? = some am := zPre_at hpre5 ham3
  clear hk3 hk4 hk5 hk6 hHp2 hHp3 hHp5
  refine lv_astore_n (pc := 15) hx hb dl_15 rfl hl1 (by decide) rfl (fun ls2 hl2 => ?_)
  refine lv_iconst (pc := 16) (v := 0) hx hb dl_16 rfl ?_
  refine lv_istore_n (pc := 17) hx hb dl_17 rfl hl2 (by decide) rfl (fun ls3 hl3 => ?_)
  have hl3 : lv_has ls3 4 [(3, .int 0), (2, .ref am), (1, .ref ax), (0, .ref b)] := hl3
  obtain ⟨own, w0, wR, I0⟩ := q_begin hB hP5 hD5 hax5 ham5
  have hm := qMis_le w0
  exact lw_loop Cx hX hbl hL hr hlk 512 0 (by omega) (by omega) (by decide) I0 hS5 hl3 (Nat.le_trans (Nat.add_le_add_left (Nat.mul_le_mul_left 1000 hm) _) (Nat.le_of_ble_eq_true rfl)) (Nat.le_trans (Nat.add_le_add_left (Nat.mul_le_mul_left 80000 hm) _) (Nat.le_of_ble_eq_true rfl))
end
