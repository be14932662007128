section
/-! the class at (3, 2): by program -/
set_option maxRecDepth 100000 in
theorem evC_8_fault : zrgs (zlwQ 8) (fun a => f_X8_faulta [zR 1, zI a] (hCf 8) (fun r h => zands [zrI r, zsubH h (hCf 8)])) = true := by decide +kernel
set_option maxRecDepth 100000 in
theorem evC_8_partition : zrgs (zlwQ 2) (fun a => zrgs (zlwQ (zlkQ [(0, 2), (1, 2), (2, 2)] a)) (fun b => f_X8_partitiona [zR 1, zI a, zI b] (hCf 8) (fun r h => zands [zrI r, zsubH h (hCf 8)]))) = true := by decide +kernel
set_option maxRecDepth 100000 in
theorem evC_8_of : zrgs (zlwQ 2) (fun a => zrgs (zlwQ (zlkQ [(0, 6), (1, 6), (2, 6)] a)) (fun b => f_X8_ofa [zR 1, zI a, zI b] (hCf 8) (fun r h => zands [zrI r, zsubH h (hCf 8)]))) = true := by decide +kernel
set_option maxRecDepth 100000 in
theorem evC_8_core : zrgs (zlwQ 2) (fun a => zrgs (zlwQ (zlkQ [(0, 2), (1, 2), (2, 2)] a)) (fun b => f_X8_corea [zR 1, zI a, zI b] (hCf 8) (fun r h => zands [zrI r, zsubH h (hCf 8)]))) = true := by decide +kernel
set_option maxRecDepth 100000 in
theorem evC_8_hook : zrgs (zlwQ 2) (fun a => zrgs (zlwQ (zlkQ [(0, 1), (1, 2), (2, 2)] a)) (fun b => zrgs (zlwQ (zlkQ [(0, 2), (1208925819614629174706176, 2), (1208925819614629174706177, 1), (2417851639229258349412352, 1), (2417851639229258349412353, 1), (2417851639229258349412354, 1)] (Nat.add (Nat.mul a 1208925819614629174706176) b))) (fun c => f_X8_hooka [zR 1, zI a, zI b, zI c] (hCf 8) (fun r h => zands [zrI r, zsubH h (hCf 8)])))) = true := by decide +kernel
set_option maxRecDepth 100000 in
theorem evC_8_classOf : zrgs (zlwQ 2) (fun a => zrgs (zlwQ (zlkQ [(0, 4), (1, 4), (2, 4)] a)) (fun b => f_X8_classOfa [zR 1, zI a, zI b] (hCf 8) (fun r h => zands [zrI r, zsubH h (hCf 8)]))) = true := by decide +kernel
set_option maxRecDepth 100000 in
theorem evC_8_character : zrgs (zlwQ 2) (fun a => zrgs (zlwQ (zlkQ [(0, 2), (1, 2), (2, 2)] a)) (fun b => f_X8_charactera [zR 1, zI a, zI b] (hCf 8) (fun r h => zands [zrI r, zsubH h (hCf 8)]))) = true := by decide +kernel
set_option maxRecDepth 100000 in
theorem evC_8_modular : zrgs (zlwQ 2) (fun a => zrgs (zlwQ (zlkQ [(0, 2), (1, 2)] a)) (fun b => f_X8_modulara [zR 1, zI a, zI b] (hCf 8) (fun r h => zands [zrI r, zsubH h (hCf 8)]))) = true := by decide +kernel
set_option maxRecDepth 100000 in
theorem evC_8_projective : zrgs (zlwQ 2) (fun a => zrgs (zlwQ (zlkQ [(0, 2), (1, 2)] a)) (fun b => f_X8_projectivea [zR 1, zI a, zI b] (hCf 8) (fun r h => zands [zrI r, zsubH h (hCf 8)]))) = true := by decide +kernel
set_option maxRecDepth 100000 in
theorem evC_8_decomposition : zrgs (zlwQ 2) (fun a => zrgs (zlwQ (zlkQ [(0, 2), (1, 2), (2, 2)] a)) (fun b => f_X8_decompositiona [zR 1, zI a, zI b] (hCf 8) (fun r h => zands [zrI r, zsubH h (hCf 8)]))) = true := by decide +kernel
set_option maxRecDepth 100000 in
theorem evC_8_cartan : zrgs (zlwQ 2) (fun a => zrgs (zlwQ (zlkQ [(0, 2), (1, 2)] a)) (fun b => f_X8_cartana [zR 1, zI a, zI b] (hCf 8) (fun r h => zands [zrI r, zsubH h (hCf 8)]))) = true := by decide +kernel
set_option maxRecDepth 100000 in
theorem evC_8_tableau : zrgs (zlwQ 2) (fun a => zrgs (zlwQ (zlkQ [(0, 1), (1, 2), (2, 1)] a)) (fun b => zrgs (zlwQ (zlkQ [(0, 1), (1208925819614629174706176, 2), (1208925819614629174706177, 2), (2417851639229258349412352, 2)] (Nat.add (Nat.mul a 1208925819614629174706176) b))) (fun c => zrgs (zlwQ (zlkQ [(0, 2), (1461501637330902918203684832716283019655932542976, 2), (1461501637330902918203684832716283019655932542977, 1), (1461501637330902918203686041642102634285107249152, 2), (1461501637330902918203686041642102634285107249153, 1), (2923003274661805836407369665432566039311865085952, 1), (2923003274661805836407369665432566039311865085953, 1), (2923003274661805836407369665432566039311865085954, 1)] (Nat.add (Nat.mul (Nat.add (Nat.mul a 1208925819614629174706176) b) 1208925819614629174706176) c))) (fun d => f_X8_tableaua [zR 1, zI a, zI b, zI c, zI d] (hCf 8) (fun r h => zands [zrI r, zsubH h (hCf 8)]))))) = true := by decide +kernel
set_option maxRecDepth 100000 in
theorem evC_8_gram : zrgs (zlwQ 2) (fun a => zrgs (zlwQ (zlkQ [(0, 1), (1, 2), (2, 1)] a)) (fun b => zrgs (zlwQ (zlkQ [(0, 1), (1208925819614629174706176, 2), (1208925819614629174706177, 2), (2417851639229258349412352, 1)] (Nat.add (Nat.mul a 1208925819614629174706176) b))) (fun c => f_X8_grama [zR 1, zI a, zI b, zI c] (hCf 8) (fun r h => zands [zrI r, zsubH h (hCf 8)])))) = true := by decide +kernel
set_option maxRecDepth 100000 in
theorem evC_8_block : zrgs (zlwQ 2) (fun a => zrgs (zlwQ (zlkQ [(0, 4), (1, 4)] a)) (fun b => f_X8_blocka [zR 1, zI a, zI b] (hCf 8) (fun r h => zands [zrI r, zsubH h (hCf 8)]))) = true := by decide +kernel
set_option maxRecDepth 100000 in
theorem evC_8_value : zrgs (zlwQ 4) (fun a => zrgs (zlwQ (zlkQ [(0, 2), (1, 2), (2, 2), (3, 2), (4, 2), (5, 2)] a)) (fun b => f_X8_valuea [zR 1, zI a, zI b] (hCf 8) (fun r h => zands [zrJ r, zsubH h (hCf 8)]))) = true := by decide +kernel
set_option maxRecDepth 100000 in
theorem evC_8_parts : zrgs (zlwQ 4) (fun a => zrgs (zlwQ (zlkQ [(0, 2), (1, 2), (2, 2), (3, 2), (4, 2), (5, 2)] a)) (fun b => zrgs (zlwQ 0) (fun c => f_X8_partst [zR 1, zI a, zI b, zI c] (hCf 8) (fun r h => zands [zrJ r, zsubH h (hCf 8)])))) = true := by decide +kernel
set_option maxRecDepth 100000 in
theorem evC_8_inner : zrgs (zlwQ 4) (fun a => zrgs (zlwQ (zlkQ [(0, 4), (1, 4), (2, 4), (3, 4), (4, 4), (5, 4)] a)) (fun b => f_X8_innera [zR 1, zI a, zI b] (hCf 8) (fun r h => zands [zrJ r, zsubH h (hCf 8)]))) = true := by decide +kernel
set_option maxRecDepth 100000 in
theorem evC_8_kind : zrgs (zlwQ 4) (fun a => zrgs (zlwQ (zlkQ [(0, 4), (1, 4), (2, 4), (3, 4), (4, 4), (5, 4)] a)) (fun b => f_X8_kinda [zR 1, zI a, zI b] (hCf 8) (fun r h => zands [zrI r, zsubH h (hCf 8)]))) = true := by decide +kernel
set_option maxRecDepth 100000 in
theorem evC_8_cut : zrgs (zlwQ 5) (fun a => zrgs (zlwQ 6) (fun b => zrgs (zlwQ (zlkQ [(0, 5), (1, 5), (1208925819614629174706176, 5), (1208925819614629174706177, 5), (2417851639229258349412352, 5), (2417851639229258349412353, 5), (3626777458843887524118528, 5), (3626777458843887524118529, 5), (4835703278458516698824704, 5), (4835703278458516698824705, 5), (6044629098073145873530880, 5), (6044629098073145873530881, 5)] (Nat.add (Nat.mul a 1208925819614629174706176) b))) (fun c => f_X8_cuta [zR 1, zI a, zI b, zI c] (hCf 8) (fun r h => zands [zrI r, zsubH h (hCf 8)])))) = true := by decide +kernel
set_option maxRecDepth 100000 in
theorem evC_8_look : zrgs (zlwQ 6) (fun a => f_X8_lookt [zR 1, zI a] (hCf 8) (fun r h => zands [zrI r, zsubH h (hCf 8)])) = true := by decide +kernel
end
section
/-! the class at (3, 3): by program -/
set_option maxRecDepth 100000 in
theorem evC_9_fault : zrgs (zlwQ 8) (fun a => f_X8_faulta [zR 1, zI a] (hCf 9) (fun r h => zands [zrI r, zsubH h (hCf 9)])) = true := by decide +kernel
set_option maxRecDepth 100000 in
theorem evC_9_partition : zrgs (zlwQ 2) (fun a => zrgs (zlwQ (zlkQ [(0, 2), (1, 2), (2, 2)] a)) (fun b => f_X8_partitiona [zR 1, zI a, zI b] (hCf 9) (fun r h => zands [zrI r, zsubH h (hCf 9)]))) = true := by decide +kernel
set_option maxRecDepth 100000 in
theorem evC_9_of : zrgs (zlwQ 2) (fun a => zrgs (zlwQ (zlkQ [(0, 6), (1, 6), (2, 6)] a)) (fun b => f_X8_ofa [zR 1, zI a, zI b] (hCf 9) (fun r h => zands [zrI r, zsubH h (hCf 9)]))) = true := by decide +kernel
set_option maxRecDepth 100000 in
theorem evC_9_core : zrgs (zlwQ 2) (fun a => zrgs (zlwQ (zlkQ [(0, 2), (1, 2), (2, 2)] a)) (fun b => f_X8_corea [zR 1, zI a, zI b] (hCf 9) (fun r h => zands [zrI r, zsubH h (hCf 9)]))) = true := by decide +kernel
set_option maxRecDepth 100000 in
theorem evC_9_hook : zrgs (zlwQ 2) (fun a => zrgs (zlwQ (zlkQ [(0, 1), (1, 2), (2, 2)] a)) (fun b => zrgs (zlwQ (zlkQ [(0, 2), (1208925819614629174706176, 2), (1208925819614629174706177, 1), (2417851639229258349412352, 1), (2417851639229258349412353, 1), (2417851639229258349412354, 1)] (Nat.add (Nat.mul a 1208925819614629174706176) b))) (fun c => f_X8_hooka [zR 1, zI a, zI b, zI c] (hCf 9) (fun r h => zands [zrI r, zsubH h (hCf 9)])))) = true := by decide +kernel
set_option maxRecDepth 100000 in
theorem evC_9_classOf : zrgs (zlwQ 2) (fun a => zrgs (zlwQ (zlkQ [(0, 4), (1, 4), (2, 4)] a)) (fun b => f_X8_classOfa [zR 1, zI a, zI b] (hCf 9) (fun r h => zands [zrI r, zsubH h (hCf 9)]))) = true := by decide +kernel
set_option maxRecDepth 100000 in
theorem evC_9_character : zrgs (zlwQ 2) (fun a => zrgs (zlwQ (zlkQ [(0, 2), (1, 2), (2, 2)] a)) (fun b => f_X8_charactera [zR 1, zI a, zI b] (hCf 9) (fun r h => zands [zrI r, zsubH h (hCf 9)]))) = true := by decide +kernel
set_option maxRecDepth 100000 in
theorem evC_9_modular : zrgs (zlwQ 2) (fun a => zrgs (zlwQ (zlkQ [(0, 2), (1, 2)] a)) (fun b => f_X8_modulara [zR 1, zI a, zI b] (hCf 9) (fun r h => zands [zrI r, zsubH h (hCf 9)]))) = true := by decide +kernel
set_option maxRecDepth 100000 in
theorem evC_9_projective : zrgs (zlwQ 2) (fun a => zrgs (zlwQ (zlkQ [(0, 2), (1, 2)] a)) (fun b => f_X8_projectivea [zR 1, zI a, zI b] (hCf 9) (fun r h => zands [zrI r, zsubH h (hCf 9)]))) = true := by decide +kernel
set_option maxRecDepth 100000 in
theorem evC_9_decomposition : zrgs (zlwQ 2) (fun a => zrgs (zlwQ (zlkQ [(0, 2), (1, 2), (2, 2)] a)) (fun b => f_X8_decompositiona [zR 1, zI a, zI b] (hCf 9) (fun r h => zands [zrI r, zsubH h (hCf 9)]))) = true := by decide +kernel
set_option maxRecDepth 100000 in
theorem evC_9_cartan : zrgs (zlwQ 2) (fun a => zrgs (zlwQ (zlkQ [(0, 2), (1, 2)] a)) (fun b => f_X8_cartana [zR 1, zI a, zI b] (hCf 9) (fun r h => zands [zrI r, zsubH h (hCf 9)]))) = true := by decide +kernel
set_option maxRecDepth 100000 in
theorem evC_9_tableau : zrgs (zlwQ 2) (fun a => zrgs (zlwQ (zlkQ [(0, 1), (1, 2), (2, 1)] a)) (fun b => zrgs (zlwQ (zlkQ [(0, 1), (1208925819614629174706176, 2), (1208925819614629174706177, 2), (2417851639229258349412352, 2)] (Nat.add (Nat.mul a 1208925819614629174706176) b))) (fun c => zrgs (zlwQ (zlkQ [(0, 2), (1461501637330902918203684832716283019655932542976, 2), (1461501637330902918203684832716283019655932542977, 1), (1461501637330902918203686041642102634285107249152, 2), (1461501637330902918203686041642102634285107249153, 1), (2923003274661805836407369665432566039311865085952, 1), (2923003274661805836407369665432566039311865085953, 1), (2923003274661805836407369665432566039311865085954, 1)] (Nat.add (Nat.mul (Nat.add (Nat.mul a 1208925819614629174706176) b) 1208925819614629174706176) c))) (fun d => f_X8_tableaua [zR 1, zI a, zI b, zI c, zI d] (hCf 9) (fun r h => zands [zrI r, zsubH h (hCf 9)]))))) = true := by decide +kernel
set_option maxRecDepth 100000 in
theorem evC_9_gram : zrgs (zlwQ 2) (fun a => zrgs (zlwQ (zlkQ [(0, 1), (1, 2), (2, 1)] a)) (fun b => zrgs (zlwQ (zlkQ [(0, 1), (1208925819614629174706176, 2), (1208925819614629174706177, 2), (2417851639229258349412352, 1)] (Nat.add (Nat.mul a 1208925819614629174706176) b))) (fun c => f_X8_grama [zR 1, zI a, zI b, zI c] (hCf 9) (fun r h => zands [zrI r, zsubH h (hCf 9)])))) = true := by decide +kernel
set_option maxRecDepth 100000 in
theorem evC_9_block : zrgs (zlwQ 1) (fun a => zrgs (zlwQ (zlkQ [(0, 4)] a)) (fun b => f_X8_blocka [zR 1, zI a, zI b] (hCf 9) (fun r h => zands [zrI r, zsubH h (hCf 9)]))) = true := by decide +kernel
set_option maxRecDepth 100000 in
theorem evC_9_value : zrgs (zlwQ 4) (fun a => zrgs (zlwQ (zlkQ [(0, 2), (1, 2), (2, 2), (3, 2), (4, 2), (5, 2)] a)) (fun b => f_X8_valuea [zR 1, zI a, zI b] (hCf 9) (fun r h => zands [zrJ r, zsubH h (hCf 9)]))) = true := by decide +kernel
set_option maxRecDepth 100000 in
theorem evC_9_parts : zrgs (zlwQ 4) (fun a => zrgs (zlwQ (zlkQ [(0, 2), (1, 2), (2, 2), (3, 2), (4, 2), (5, 2)] a)) (fun b => zrgs (zlwQ 0) (fun c => f_X8_partst [zR 1, zI a, zI b, zI c] (hCf 9) (fun r h => zands [zrJ r, zsubH h (hCf 9)])))) = true := by decide +kernel
set_option maxRecDepth 100000 in
theorem evC_9_inner : zrgs (zlwQ 4) (fun a => zrgs (zlwQ (zlkQ [(0, 4), (1, 4), (2, 4), (3, 4), (4, 4), (5, 4)] a)) (fun b => f_X8_innera [zR 1, zI a, zI b] (hCf 9) (fun r h => zands [zrJ r, zsubH h (hCf 9)]))) = true := by decide +kernel
set_option maxRecDepth 100000 in
theorem evC_9_kind : zrgs (zlwQ 4) (fun a => zrgs (zlwQ (zlkQ [(0, 4), (1, 4), (2, 4), (3, 4), (4, 4), (5, 4)] a)) (fun b => f_X8_kinda [zR 1, zI a, zI b] (hCf 9) (fun r h => zands [zrI r, zsubH h (hCf 9)]))) = true := by decide +kernel
set_option maxRecDepth 100000 in
theorem evC_9_cut : zrgs (zlwQ 5) (fun a => zrgs (zlwQ 6) (fun b => zrgs (zlwQ (zlkQ [(0, 5), (1208925819614629174706176, 5), (2417851639229258349412352, 5), (3626777458843887524118528, 5), (4835703278458516698824704, 5), (6044629098073145873530880, 5)] (Nat.add (Nat.mul a 1208925819614629174706176) b))) (fun c => f_X8_cuta [zR 1, zI a, zI b, zI c] (hCf 9) (fun r h => zands [zrI r, zsubH h (hCf 9)])))) = true := by decide +kernel
set_option maxRecDepth 100000 in
theorem evC_9_look : zrgs (zlwQ 6) (fun a => f_X8_lookt [zR 1, zI a] (hCf 9) (fun r h => zands [zrI r, zsubH h (hCf 9)])) = true := by decide +kernel
end
section
/-! the class at (3, 5): by program -/
set_option maxRecDepth 100000 in
theorem evC_10_fault : zrgs (zlwQ 8) (fun a => f_X8_faulta [zR 1, zI a] (hCf 10) (fun r h => zands [zrI r, zsubH h (hCf 10)])) = true := by decide +kernel
set_option maxRecDepth 100000 in
theorem evC_10_partition : zrgs (zlwQ 2) (fun a => zrgs (zlwQ (zlkQ [(0, 2), (1, 2), (2, 2)] a)) (fun b => f_X8_partitiona [zR 1, zI a, zI b] (hCf 10) (fun r h => zands [zrI r, zsubH h (hCf 10)]))) = true := by decide +kernel
set_option maxRecDepth 100000 in
theorem evC_10_of : zrgs (zlwQ 2) (fun a => zrgs (zlwQ (zlkQ [(0, 6), (1, 6), (2, 6)] a)) (fun b => f_X8_ofa [zR 1, zI a, zI b] (hCf 10) (fun r h => zands [zrI r, zsubH h (hCf 10)]))) = true := by decide +kernel
set_option maxRecDepth 100000 in
theorem evC_10_core : zrgs (zlwQ 2) (fun a => zrgs (zlwQ (zlkQ [(0, 2), (1, 2), (2, 2)] a)) (fun b => f_X8_corea [zR 1, zI a, zI b] (hCf 10) (fun r h => zands [zrI r, zsubH h (hCf 10)]))) = true := by decide +kernel
set_option maxRecDepth 100000 in
theorem evC_10_hook : zrgs (zlwQ 2) (fun a => zrgs (zlwQ (zlkQ [(0, 1), (1, 2), (2, 2)] a)) (fun b => zrgs (zlwQ (zlkQ [(0, 2), (1208925819614629174706176, 2), (1208925819614629174706177, 1), (2417851639229258349412352, 1), (2417851639229258349412353, 1), (2417851639229258349412354, 1)] (Nat.add (Nat.mul a 1208925819614629174706176) b))) (fun c => f_X8_hooka [zR 1, zI a, zI b, zI c] (hCf 10) (fun r h => zands [zrI r, zsubH h (hCf 10)])))) = true := by decide +kernel
set_option maxRecDepth 100000 in
theorem evC_10_classOf : zrgs (zlwQ 2) (fun a => zrgs (zlwQ (zlkQ [(0, 4), (1, 4), (2, 4)] a)) (fun b => f_X8_classOfa [zR 1, zI a, zI b] (hCf 10) (fun r h => zands [zrI r, zsubH h (hCf 10)]))) = true := by decide +kernel
set_option maxRecDepth 100000 in
theorem evC_10_character : zrgs (zlwQ 2) (fun a => zrgs (zlwQ (zlkQ [(0, 2), (1, 2), (2, 2)] a)) (fun b => f_X8_charactera [zR 1, zI a, zI b] (hCf 10) (fun r h => zands [zrI r, zsubH h (hCf 10)]))) = true := by decide +kernel
set_option maxRecDepth 100000 in
theorem evC_10_modular : zrgs (zlwQ 2) (fun a => zrgs (zlwQ (zlkQ [(0, 2), (1, 2), (2, 2)] a)) (fun b => f_X8_modulara [zR 1, zI a, zI b] (hCf 10) (fun r h => zands [zrI r, zsubH h (hCf 10)]))) = true := by decide +kernel
set_option maxRecDepth 100000 in
theorem evC_10_projective : zrgs (zlwQ 2) (fun a => zrgs (zlwQ (zlkQ [(0, 2), (1, 2), (2, 2)] a)) (fun b => f_X8_projectivea [zR 1, zI a, zI b] (hCf 10) (fun r h => zands [zrI r, zsubH h (hCf 10)]))) = true := by decide +kernel
set_option maxRecDepth 100000 in
theorem evC_10_decomposition : zrgs (zlwQ 2) (fun a => zrgs (zlwQ (zlkQ [(0, 2), (1, 2), (2, 2)] a)) (fun b => f_X8_decompositiona [zR 1, zI a, zI b] (hCf 10) (fun r h => zands [zrI r, zsubH h (hCf 10)]))) = true := by decide +kernel
set_option maxRecDepth 100000 in
theorem evC_10_cartan : zrgs (zlwQ 2) (fun a => zrgs (zlwQ (zlkQ [(0, 2), (1, 2), (2, 2)] a)) (fun b => f_X8_cartana [zR 1, zI a, zI b] (hCf 10) (fun r h => zands [zrI r, zsubH h (hCf 10)]))) = true := by decide +kernel
set_option maxRecDepth 100000 in
theorem evC_10_tableau : zrgs (zlwQ 2) (fun a => zrgs (zlwQ (zlkQ [(0, 1), (1, 2), (2, 1)] a)) (fun b => zrgs (zlwQ (zlkQ [(0, 1), (1208925819614629174706176, 2), (1208925819614629174706177, 2), (2417851639229258349412352, 2)] (Nat.add (Nat.mul a 1208925819614629174706176) b))) (fun c => zrgs (zlwQ (zlkQ [(0, 2), (1461501637330902918203684832716283019655932542976, 2), (1461501637330902918203684832716283019655932542977, 1), (1461501637330902918203686041642102634285107249152, 2), (1461501637330902918203686041642102634285107249153, 1), (2923003274661805836407369665432566039311865085952, 1), (2923003274661805836407369665432566039311865085953, 1), (2923003274661805836407369665432566039311865085954, 1)] (Nat.add (Nat.mul (Nat.add (Nat.mul a 1208925819614629174706176) b) 1208925819614629174706176) c))) (fun d => f_X8_tableaua [zR 1, zI a, zI b, zI c, zI d] (hCf 10) (fun r h => zands [zrI r, zsubH h (hCf 10)]))))) = true := by decide +kernel
set_option maxRecDepth 100000 in
theorem evC_10_gram : zrgs (zlwQ 2) (fun a => zrgs (zlwQ (zlkQ [(0, 1), (1, 2), (2, 1)] a)) (fun b => zrgs (zlwQ (zlkQ [(0, 1), (1208925819614629174706176, 2), (1208925819614629174706177, 2), (2417851639229258349412352, 1)] (Nat.add (Nat.mul a 1208925819614629174706176) b))) (fun c => f_X8_grama [zR 1, zI a, zI b, zI c] (hCf 10) (fun r h => zands [zrI r, zsubH h (hCf 10)])))) = true := by decide +kernel
set_option maxRecDepth 100000 in
theorem evC_10_block : zrgs (zlwQ 2) (fun a => zrgs (zlwQ (zlkQ [(0, 4), (1, 4), (2, 4)] a)) (fun b => f_X8_blocka [zR 1, zI a, zI b] (hCf 10) (fun r h => zands [zrI r, zsubH h (hCf 10)]))) = true := by decide +kernel
set_option maxRecDepth 100000 in
theorem evC_10_value : zrgs (zlwQ 4) (fun a => zrgs (zlwQ (zlkQ [(0, 2), (1, 2), (2, 2), (3, 2), (4, 2), (5, 2)] a)) (fun b => f_X8_valuea [zR 1, zI a, zI b] (hCf 10) (fun r h => zands [zrJ r, zsubH h (hCf 10)]))) = true := by decide +kernel
set_option maxRecDepth 100000 in
theorem evC_10_parts : zrgs (zlwQ 4) (fun a => zrgs (zlwQ (zlkQ [(0, 2), (1, 2), (2, 2), (3, 2), (4, 2), (5, 2)] a)) (fun b => zrgs (zlwQ 0) (fun c => f_X8_partst [zR 1, zI a, zI b, zI c] (hCf 10) (fun r h => zands [zrJ r, zsubH h (hCf 10)])))) = true := by decide +kernel
set_option maxRecDepth 100000 in
theorem evC_10_inner : zrgs (zlwQ 4) (fun a => zrgs (zlwQ (zlkQ [(0, 4), (1, 4), (2, 4), (3, 4), (4, 4), (5, 4)] a)) (fun b => f_X8_innera [zR 1, zI a, zI b] (hCf 10) (fun r h => zands [zrJ r, zsubH h (hCf 10)]))) = true := by decide +kernel
set_option maxRecDepth 100000 in
theorem evC_10_kind : zrgs (zlwQ 4) (fun a => zrgs (zlwQ (zlkQ [(0, 4), (1, 4), (2, 4), (3, 4), (4, 4), (5, 4)] a)) (fun b => f_X8_kinda [zR 1, zI a, zI b] (hCf 10) (fun r h => zands [zrI r, zsubH h (hCf 10)]))) = true := by decide +kernel
set_option maxRecDepth 100000 in
theorem evC_10_cut : zrgs (zlwQ 5) (fun a => zrgs (zlwQ 6) (fun b => zrgs (zlwQ (zlkQ [(0, 5), (1, 5), (2, 5), (1208925819614629174706176, 5), (1208925819614629174706177, 5), (1208925819614629174706178, 5), (2417851639229258349412352, 5), (2417851639229258349412353, 5), (2417851639229258349412354, 5), (3626777458843887524118528, 5), (3626777458843887524118529, 5), (3626777458843887524118530, 5), (4835703278458516698824704, 5), (4835703278458516698824705, 5), (4835703278458516698824706, 5), (6044629098073145873530880, 5), (6044629098073145873530881, 5), (6044629098073145873530882, 5)] (Nat.add (Nat.mul a 1208925819614629174706176) b))) (fun c => f_X8_cuta [zR 1, zI a, zI b, zI c] (hCf 10) (fun r h => zands [zrI r, zsubH h (hCf 10)])))) = true := by decide +kernel
set_option maxRecDepth 100000 in
theorem evC_10_look : zrgs (zlwQ 6) (fun a => f_X8_lookt [zR 1, zI a] (hCf 10) (fun r h => zands [zrI r, zsubH h (hCf 10)])) = true := by decide +kernel
end
