/-! the class at (4, 3): by program -/
set_option maxRecDepth 100000 in
theorem evC_13_fault : zrgs (zlwQ 8) (fun a => f_X8_faulta [zR 1, zI a] (hCf 13) (fun r h => zands [zrI r, zsubH h (hCf 13)])) = true := by decide +kernel
set_option maxRecDepth 100000 in
theorem evC_13_partition : zrgs (zlwQ 4) (fun a => zrgs (zlwQ (zlkQ [(0, 2), (1, 2), (2, 2), (3, 2), (4, 2)] a)) (fun b => f_X8_partitiona [zR 1, zI a, zI b] (hCf 13) (fun r h => zands [zrI r, zsubH h (hCf 13)]))) = true := by decide +kernel
set_option maxRecDepth 100000 in
theorem evC_13_of : zrgs (zlwQ 4) (fun a => zrgs (zlwQ (zlkQ [(0, 6), (1, 6), (2, 6), (3, 6), (4, 6)] a)) (fun b => f_X8_ofa [zR 1, zI a, zI b] (hCf 13) (fun r h => zands [zrI r, zsubH h (hCf 13)]))) = true := by decide +kernel
set_option maxRecDepth 100000 in
theorem evC_13_core : zrgs (zlwQ 4) (fun a => zrgs (zlwQ (zlkQ [(0, 2), (1, 2), (2, 2), (3, 2), (4, 2)] a)) (fun b => f_X8_corea [zR 1, zI a, zI b] (hCf 13) (fun r h => zands [zrI r, zsubH h (hCf 13)]))) = true := by decide +kernel
set_option maxRecDepth 100000 in
theorem evC_13_hook : zrgs (zlwQ 4) (fun a => zrgs (zlwQ (zlkQ [(0, 1), (1, 2), (2, 2), (3, 2), (4, 2)] a)) (fun b => zrgs (zlwQ (zlkQ [(0, 2), (1208925819614629174706176, 2), (1208925819614629174706177, 1), (2417851639229258349412352, 2), (2417851639229258349412353, 2), (3626777458843887524118528, 2), (3626777458843887524118529, 1), (3626777458843887524118530, 1), (4835703278458516698824704, 1), (4835703278458516698824705, 1), (4835703278458516698824706, 1), (4835703278458516698824707, 1)] (Nat.add (Nat.mul a 1208925819614629174706176) b))) (fun c => f_X8_hooka [zR 1, zI a, zI b, zI c] (hCf 13) (fun r h => zands [zrI r, zsubH h (hCf 13)])))) = true := by decide +kernel
set_option maxRecDepth 100000 in
theorem evC_13_classOf : zrgs (zlwQ 4) (fun a => zrgs (zlwQ (zlkQ [(0, 4), (1, 4), (2, 4), (3, 4), (4, 4)] a)) (fun b => f_X8_classOfa [zR 1, zI a, zI b] (hCf 13) (fun r h => zands [zrI r, zsubH h (hCf 13)]))) = true := by decide +kernel
set_option maxRecDepth 100000 in
theorem evC_13_character : zrgs (zlwQ 4) (fun a => zrgs (zlwQ (zlkQ [(0, 4), (1, 4), (2, 4), (3, 4), (4, 4)] a)) (fun b => f_X8_charactera [zR 1, zI a, zI b] (hCf 13) (fun r h => zands [zrI r, zsubH h (hCf 13)]))) = true := by decide +kernel
set_option maxRecDepth 100000 in
theorem evC_13_modular : zrgs (zlwQ 4) (fun a => zrgs (zlwQ (zlkQ [(0, 4), (1, 4), (2, 4), (3, 4)] a)) (fun b => f_X8_modulara [zR 1, zI a, zI b] (hCf 13) (fun r h => zands [zrI r, zsubH h (hCf 13)]))) = true := by decide +kernel
set_option maxRecDepth 100000 in
theorem evC_13_projective : zrgs (zlwQ 4) (fun a => zrgs (zlwQ (zlkQ [(0, 4), (1, 4), (2, 4), (3, 4)] a)) (fun b => f_X8_projectivea [zR 1, zI a, zI b] (hCf 13) (fun r h => zands [zrI r, zsubH h (hCf 13)]))) = true := by decide +kernel
set_option maxRecDepth 100000 in
theorem evC_13_decomposition : zrgs (zlwQ 4) (fun a => zrgs (zlwQ (zlkQ [(0, 4), (1, 4), (2, 4), (3, 4), (4, 4)] a)) (fun b => f_X8_decompositiona [zR 1, zI a, zI b] (hCf 13) (fun r h => zands [zrI r, zsubH h (hCf 13)]))) = true := by decide +kernel
set_option maxRecDepth 100000 in
theorem evC_13_cartan : zrgs (zlwQ 4) (fun a => zrgs (zlwQ (zlkQ [(0, 4), (1, 4), (2, 4), (3, 4)] a)) (fun b => f_X8_cartana [zR 1, zI a, zI b] (hCf 13) (fun r h => zands [zrI r, zsubH h (hCf 13)]))) = true := by decide +kernel
set_option maxRecDepth 100000 in
theorem evC_13_tableau : zrgs (zlwQ 4) (fun a => zrgs (zlwQ (zlkQ [(0, 1), (1, 2), (2, 2), (3, 2), (4, 1)] a)) (fun b => zrgs (zlwQ (zlkQ [(0, 1), (1208925819614629174706176, 2), (1208925819614629174706177, 2), (1208925819614629174706178, 2), (2417851639229258349412352, 2), (2417851639229258349412353, 2), (3626777458843887524118528, 2), (3626777458843887524118529, 2), (3626777458843887524118530, 2), (4835703278458516698824704, 2)] (Nat.add (Nat.mul a 1208925819614629174706176) b))) (fun c => zrgs (zlwQ (zlkQ [(0, 2), (1461501637330902918203684832716283019655932542976, 2), (1461501637330902918203684832716283019655932542977, 1), (1461501637330902918203686041642102634285107249152, 2), (1461501637330902918203686041642102634285107249153, 1), (1461501637330902918203687250567922248914281955328, 2), (1461501637330902918203687250567922248914281955329, 1), (2923003274661805836407369665432566039311865085952, 2), (2923003274661805836407369665432566039311865085953, 2), (2923003274661805836407370874358385653941039792128, 2), (2923003274661805836407370874358385653941039792129, 2), (4384504911992708754611054498148849058967797628928, 2), (4384504911992708754611054498148849058967797628929, 1), (4384504911992708754611054498148849058967797628930, 1), (4384504911992708754611055707074668673596972335104, 2), (4384504911992708754611055707074668673596972335105, 1), (4384504911992708754611055707074668673596972335106, 1), (4384504911992708754611056916000488288226147041280, 2), (4384504911992708754611056916000488288226147041281, 1), (4384504911992708754611056916000488288226147041282, 1), (5846006549323611672814739330865132078623730171904, 1), (5846006549323611672814739330865132078623730171905, 1), (5846006549323611672814739330865132078623730171906, 1), (5846006549323611672814739330865132078623730171907, 1)] (Nat.add (Nat.mul (Nat.add (Nat.mul a 1208925819614629174706176) b) 1208925819614629174706176) c))) (fun d => f_X8_tableaua [zR 1, zI a, zI b, zI c, zI d] (hCf 13) (fun r h => zands [zrI r, zsubH h (hCf 13)]))))) = true := by decide +kernel
set_option maxRecDepth 100000 in
theorem evC_13_gram : zrgs (zlwQ 4) (fun a => zrgs (zlwQ (zlkQ [(0, 1), (1, 2), (2, 2), (3, 2), (4, 1)] a)) (fun b => zrgs (zlwQ (zlkQ [(0, 1), (1208925819614629174706176, 2), (1208925819614629174706177, 2), (1208925819614629174706178, 2), (2417851639229258349412352, 2), (2417851639229258349412353, 2), (3626777458843887524118528, 2), (3626777458843887524118529, 2), (3626777458843887524118530, 2), (4835703278458516698824704, 1)] (Nat.add (Nat.mul a 1208925819614629174706176) b))) (fun c => f_X8_grama [zR 1, zI a, zI b, zI c] (hCf 13) (fun r h => zands [zrI r, zsubH h (hCf 13)])))) = true := by decide +kernel
set_option maxRecDepth 100000 in
theorem evC_13_block : zrgs (zlwQ 2) (fun a => zrgs (zlwQ (zlkQ [(0, 4), (1, 4), (2, 4)] a)) (fun b => f_X8_blocka [zR 1, zI a, zI b] (hCf 13) (fun r h => zands [zrI r, zsubH h (hCf 13)]))) = true := by decide +kernel
set_option maxRecDepth 100000 in
theorem evC_13_value : zrgs (zlwQ 4) (fun a => zrgs (zlwQ (zlkQ [(0, 4), (1, 4), (2, 4), (3, 4), (4, 4), (5, 4)] a)) (fun b => f_X8_valuea [zR 1, zI a, zI b] (hCf 13) (fun r h => zands [zrJ r, zsubH h (hCf 13)]))) = true := by decide +kernel
set_option maxRecDepth 100000 in
theorem evC_13_parts : zrgs (zlwQ 4) (fun a => zrgs (zlwQ (zlkQ [(0, 4), (1, 4), (2, 4), (3, 4), (4, 4), (5, 4)] a)) (fun b => zrgs (zlwQ 0) (fun c => f_X8_partst [zR 1, zI a, zI b, zI c] (hCf 13) (fun r h => zands [zrJ r, zsubH h (hCf 13)])))) = true := by decide +kernel
set_option maxRecDepth 100000 in
theorem evC_13_inner : zrgs (zlwQ 4) (fun a => zrgs (zlwQ (zlkQ [(0, 4), (1, 4), (2, 4), (3, 4), (4, 4), (5, 4)] a)) (fun b => f_X8_innera [zR 1, zI a, zI b] (hCf 13) (fun r h => zands [zrJ r, zsubH h (hCf 13)]))) = true := by decide +kernel
set_option maxRecDepth 100000 in
theorem evC_13_kind : zrgs (zlwQ 4) (fun a => zrgs (zlwQ (zlkQ [(0, 4), (1, 4), (2, 4), (3, 4), (4, 4), (5, 4)] a)) (fun b => f_X8_kinda [zR 1, zI a, zI b] (hCf 13) (fun r h => zands [zrI r, zsubH h (hCf 13)]))) = true := by decide +kernel
noncomputable def kvC_13_cut (a : Nat) : Bool := zrgs (zlwQ 6) (fun b => zrgs (zlwQ (zlkQ [(0, 5), (1, 5), (2, 5), (1208925819614629174706176, 5), (1208925819614629174706177, 5), (1208925819614629174706178, 5), (2417851639229258349412352, 5), (2417851639229258349412353, 5), (2417851639229258349412354, 5), (3626777458843887524118528, 5), (3626777458843887524118529, 5), (3626777458843887524118530, 5), (4835703278458516698824704, 5), (4835703278458516698824705, 5), (4835703278458516698824706, 5), (6044629098073145873530880, 5), (6044629098073145873530881, 5), (6044629098073145873530882, 5)] (Nat.add (Nat.mul a 1208925819614629174706176) b))) (fun c => f_X8_cuta [zR 1, zI a, zI b, zI c] (hCf 13) (fun r h => zands [zrI r, zsubH h (hCf 13)])))
set_option maxRecDepth 100000 in
theorem evC_13_cut_p0 : zrgs [0, 1, 2, 3] kvC_13_cut = true := by decide +kernel
set_option maxRecDepth 100000 in
theorem evC_13_cut_p1 : zrgs [4, 5, 6603512217600, 2361183241439117574144] kvC_13_cut = true := by decide +kernel
theorem evC_13_cut : zrgs (zlwQ 5) kvC_13_cut = true := by
  have h := (zrgs_ap evC_13_cut_p0 evC_13_cut_p1)
  exact h
set_option maxRecDepth 100000 in
theorem evC_13_look : zrgs (zlwQ 6) (fun a => f_X8_lookt [zR 1, zI a] (hCf 13) (fun r h => zands [zrI r, zsubH h (hCf 13)])) = true := by decide +kernel
