section
/-! the class at (2, 2): by program -/
set_option maxRecDepth 100000 in
theorem evC_4_fault : zrgs (zlwQ 8) (fun a => f_X8_faulta [zR 1, zI a] (hCf 4) (fun r h => zands [zrI r, zsubH h (hCf 4)])) = true := by decide +kernel
set_option maxRecDepth 100000 in
theorem evC_4_partition : zrgs (zlwQ 2) (fun a => zrgs (zlwQ (zlkQ [(0, 2), (1, 2)] a)) (fun b => f_X8_partitiona [zR 1, zI a, zI b] (hCf 4) (fun r h => zands [zrI r, zsubH h (hCf 4)]))) = true := by decide +kernel
set_option maxRecDepth 100000 in
theorem evC_4_of : zrgs (zlwQ 2) (fun a => zrgs (zlwQ (zlkQ [(0, 6), (1, 6)] a)) (fun b => f_X8_ofa [zR 1, zI a, zI b] (hCf 4) (fun r h => zands [zrI r, zsubH h (hCf 4)]))) = true := by decide +kernel
set_option maxRecDepth 100000 in
theorem evC_4_core : zrgs (zlwQ 2) (fun a => zrgs (zlwQ (zlkQ [(0, 2), (1, 2)] a)) (fun b => f_X8_corea [zR 1, zI a, zI b] (hCf 4) (fun r h => zands [zrI r, zsubH h (hCf 4)]))) = true := by decide +kernel
set_option maxRecDepth 100000 in
theorem evC_4_hook : zrgs (zlwQ 2) (fun a => zrgs (zlwQ (zlkQ [(0, 1), (1, 2)] a)) (fun b => zrgs (zlwQ (zlkQ [(0, 2), (1208925819614629174706176, 1), (1208925819614629174706177, 1)] (Nat.add (Nat.mul a 1208925819614629174706176) b))) (fun c => f_X8_hooka [zR 1, zI a, zI b, zI c] (hCf 4) (fun r h => zands [zrI r, zsubH h (hCf 4)])))) = true := by decide +kernel
set_option maxRecDepth 100000 in
theorem evC_4_classOf : zrgs (zlwQ 2) (fun a => zrgs (zlwQ (zlkQ [(0, 4), (1, 4)] a)) (fun b => f_X8_classOfa [zR 1, zI a, zI b] (hCf 4) (fun r h => zands [zrI r, zsubH h (hCf 4)]))) = true := by decide +kernel
set_option maxRecDepth 100000 in
theorem evC_4_character : zrgs (zlwQ 2) (fun a => zrgs (zlwQ (zlkQ [(0, 2), (1, 2)] a)) (fun b => f_X8_charactera [zR 1, zI a, zI b] (hCf 4) (fun r h => zands [zrI r, zsubH h (hCf 4)]))) = true := by decide +kernel
set_option maxRecDepth 100000 in
theorem evC_4_modular : zrgs (zlwQ 2) (fun a => zrgs (zlwQ (zlkQ [(0, 2)] a)) (fun b => f_X8_modulara [zR 1, zI a, zI b] (hCf 4) (fun r h => zands [zrI r, zsubH h (hCf 4)]))) = true := by decide +kernel
set_option maxRecDepth 100000 in
theorem evC_4_projective : zrgs (zlwQ 2) (fun a => zrgs (zlwQ (zlkQ [(0, 2)] a)) (fun b => f_X8_projectivea [zR 1, zI a, zI b] (hCf 4) (fun r h => zands [zrI r, zsubH h (hCf 4)]))) = true := by decide +kernel
set_option maxRecDepth 100000 in
theorem evC_4_decomposition : zrgs (zlwQ 2) (fun a => zrgs (zlwQ (zlkQ [(0, 2), (1, 2)] a)) (fun b => f_X8_decompositiona [zR 1, zI a, zI b] (hCf 4) (fun r h => zands [zrI r, zsubH h (hCf 4)]))) = true := by decide +kernel
set_option maxRecDepth 100000 in
theorem evC_4_cartan : zrgs (zlwQ 2) (fun a => zrgs (zlwQ (zlkQ [(0, 2)] a)) (fun b => f_X8_cartana [zR 1, zI a, zI b] (hCf 4) (fun r h => zands [zrI r, zsubH h (hCf 4)]))) = true := by decide +kernel
set_option maxRecDepth 100000 in
theorem evC_4_tableau : zrgs (zlwQ 2) (fun a => zrgs (zlwQ (zlkQ [(0, 1), (1, 1)] a)) (fun b => zrgs (zlwQ (zlkQ [(0, 1), (1208925819614629174706176, 2)] (Nat.add (Nat.mul a 1208925819614629174706176) b))) (fun c => zrgs (zlwQ (zlkQ [(0, 2), (1461501637330902918203684832716283019655932542976, 1), (1461501637330902918203684832716283019655932542977, 1)] (Nat.add (Nat.mul (Nat.add (Nat.mul a 1208925819614629174706176) b) 1208925819614629174706176) c))) (fun d => f_X8_tableaua [zR 1, zI a, zI b, zI c, zI d] (hCf 4) (fun r h => zands [zrI r, zsubH h (hCf 4)]))))) = true := by decide +kernel
set_option maxRecDepth 100000 in
theorem evC_4_gram : zrgs (zlwQ 2) (fun a => zrgs (zlwQ (zlkQ [(0, 1), (1, 1)] a)) (fun b => zrgs (zlwQ (zlkQ [(0, 1), (1208925819614629174706176, 1)] (Nat.add (Nat.mul a 1208925819614629174706176) b))) (fun c => f_X8_grama [zR 1, zI a, zI b, zI c] (hCf 4) (fun r h => zands [zrI r, zsubH h (hCf 4)])))) = true := by decide +kernel
set_option maxRecDepth 100000 in
theorem evC_4_block : zrgs (zlwQ 1) (fun a => zrgs (zlwQ (zlkQ [(0, 4)] a)) (fun b => f_X8_blocka [zR 1, zI a, zI b] (hCf 4) (fun r h => zands [zrI r, zsubH h (hCf 4)]))) = true := by decide +kernel
set_option maxRecDepth 100000 in
theorem evC_4_value : zrgs (zlwQ 4) (fun a => zrgs (zlwQ (zlkQ [(0, 2), (1, 2), (2, 2), (3, 2), (4, 2), (5, 2)] a)) (fun b => f_X8_valuea [zR 1, zI a, zI b] (hCf 4) (fun r h => zands [zrJ r, zsubH h (hCf 4)]))) = true := by decide +kernel
set_option maxRecDepth 100000 in
theorem evC_4_parts : zrgs (zlwQ 4) (fun a => zrgs (zlwQ (zlkQ [(0, 2), (1, 2), (2, 2), (3, 2), (4, 2), (5, 2)] a)) (fun b => zrgs (zlwQ 0) (fun c => f_X8_partst [zR 1, zI a, zI b, zI c] (hCf 4) (fun r h => zands [zrJ r, zsubH h (hCf 4)])))) = true := by decide +kernel
set_option maxRecDepth 100000 in
theorem evC_4_inner : zrgs (zlwQ 4) (fun a => zrgs (zlwQ (zlkQ [(0, 4), (1, 4), (2, 4), (3, 4), (4, 4), (5, 4)] a)) (fun b => f_X8_innera [zR 1, zI a, zI b] (hCf 4) (fun r h => zands [zrJ r, zsubH h (hCf 4)]))) = true := by decide +kernel
set_option maxRecDepth 100000 in
theorem evC_4_kind : zrgs (zlwQ 4) (fun a => zrgs (zlwQ (zlkQ [(0, 4), (1, 4), (2, 4), (3, 4), (4, 4), (5, 4)] a)) (fun b => f_X8_kinda [zR 1, zI a, zI b] (hCf 4) (fun r h => zands [zrI r, zsubH h (hCf 4)]))) = true := by decide +kernel
set_option maxRecDepth 100000 in
theorem evC_4_cut : zrgs (zlwQ 5) (fun a => zrgs (zlwQ 6) (fun b => zrgs (zlwQ (zlkQ [(0, 5), (1208925819614629174706176, 5), (2417851639229258349412352, 5), (3626777458843887524118528, 5), (4835703278458516698824704, 5), (6044629098073145873530880, 5)] (Nat.add (Nat.mul a 1208925819614629174706176) b))) (fun c => f_X8_cuta [zR 1, zI a, zI b, zI c] (hCf 4) (fun r h => zands [zrI r, zsubH h (hCf 4)])))) = true := by decide +kernel
set_option maxRecDepth 100000 in
theorem evC_4_look : zrgs (zlwQ 6) (fun a => f_X8_lookt [zR 1, zI a] (hCf 4) (fun r h => zands [zrI r, zsubH h (hCf 4)])) = true := by decide +kernel
end
section
/-! the class at (2, 3): by program -/
set_option maxRecDepth 100000 in
theorem evC_5_fault : zrgs (zlwQ 8) (fun a => f_X8_faulta [zR 1, zI a] (hCf 5) (fun r h => zands [zrI r, zsubH h (hCf 5)])) = true := by decide +kernel
set_option maxRecDepth 100000 in
theorem evC_5_partition : zrgs (zlwQ 2) (fun a => zrgs (zlwQ (zlkQ [(0, 2), (1, 2)] a)) (fun b => f_X8_partitiona [zR 1, zI a, zI b] (hCf 5) (fun r h => zands [zrI r, zsubH h (hCf 5)]))) = true := by decide +kernel
set_option maxRecDepth 100000 in
theorem evC_5_of : zrgs (zlwQ 2) (fun a => zrgs (zlwQ (zlkQ [(0, 6), (1, 6)] a)) (fun b => f_X8_ofa [zR 1, zI a, zI b] (hCf 5) (fun r h => zands [zrI r, zsubH h (hCf 5)]))) = true := by decide +kernel
set_option maxRecDepth 100000 in
theorem evC_5_core : zrgs (zlwQ 2) (fun a => zrgs (zlwQ (zlkQ [(0, 2), (1, 2)] a)) (fun b => f_X8_corea [zR 1, zI a, zI b] (hCf 5) (fun r h => zands [zrI r, zsubH h (hCf 5)]))) = true := by decide +kernel
set_option maxRecDepth 100000 in
theorem evC_5_hook : zrgs (zlwQ 2) (fun a => zrgs (zlwQ (zlkQ [(0, 1), (1, 2)] a)) (fun b => zrgs (zlwQ (zlkQ [(0, 2), (1208925819614629174706176, 1), (1208925819614629174706177, 1)] (Nat.add (Nat.mul a 1208925819614629174706176) b))) (fun c => f_X8_hooka [zR 1, zI a, zI b, zI c] (hCf 5) (fun r h => zands [zrI r, zsubH h (hCf 5)])))) = true := by decide +kernel
set_option maxRecDepth 100000 in
theorem evC_5_classOf : zrgs (zlwQ 2) (fun a => zrgs (zlwQ (zlkQ [(0, 4), (1, 4)] a)) (fun b => f_X8_classOfa [zR 1, zI a, zI b] (hCf 5) (fun r h => zands [zrI r, zsubH h (hCf 5)]))) = true := by decide +kernel
set_option maxRecDepth 100000 in
theorem evC_5_character : zrgs (zlwQ 2) (fun a => zrgs (zlwQ (zlkQ [(0, 2), (1, 2)] a)) (fun b => f_X8_charactera [zR 1, zI a, zI b] (hCf 5) (fun r h => zands [zrI r, zsubH h (hCf 5)]))) = true := by decide +kernel
set_option maxRecDepth 100000 in
theorem evC_5_modular : zrgs (zlwQ 2) (fun a => zrgs (zlwQ (zlkQ [(0, 2), (1, 2)] a)) (fun b => f_X8_modulara [zR 1, zI a, zI b] (hCf 5) (fun r h => zands [zrI r, zsubH h (hCf 5)]))) = true := by decide +kernel
set_option maxRecDepth 100000 in
theorem evC_5_projective : zrgs (zlwQ 2) (fun a => zrgs (zlwQ (zlkQ [(0, 2), (1, 2)] a)) (fun b => f_X8_projectivea [zR 1, zI a, zI b] (hCf 5) (fun r h => zands [zrI r, zsubH h (hCf 5)]))) = true := by decide +kernel
set_option maxRecDepth 100000 in
theorem evC_5_decomposition : zrgs (zlwQ 2) (fun a => zrgs (zlwQ (zlkQ [(0, 2), (1, 2)] a)) (fun b => f_X8_decompositiona [zR 1, zI a, zI b] (hCf 5) (fun r h => zands [zrI r, zsubH h (hCf 5)]))) = true := by decide +kernel
set_option maxRecDepth 100000 in
theorem evC_5_cartan : zrgs (zlwQ 2) (fun a => zrgs (zlwQ (zlkQ [(0, 2), (1, 2)] a)) (fun b => f_X8_cartana [zR 1, zI a, zI b] (hCf 5) (fun r h => zands [zrI r, zsubH h (hCf 5)]))) = true := by decide +kernel
set_option maxRecDepth 100000 in
theorem evC_5_tableau : zrgs (zlwQ 2) (fun a => zrgs (zlwQ (zlkQ [(0, 1), (1, 1)] a)) (fun b => zrgs (zlwQ (zlkQ [(0, 1), (1208925819614629174706176, 2)] (Nat.add (Nat.mul a 1208925819614629174706176) b))) (fun c => zrgs (zlwQ (zlkQ [(0, 2), (1461501637330902918203684832716283019655932542976, 1), (1461501637330902918203684832716283019655932542977, 1)] (Nat.add (Nat.mul (Nat.add (Nat.mul a 1208925819614629174706176) b) 1208925819614629174706176) c))) (fun d => f_X8_tableaua [zR 1, zI a, zI b, zI c, zI d] (hCf 5) (fun r h => zands [zrI r, zsubH h (hCf 5)]))))) = true := by decide +kernel
set_option maxRecDepth 100000 in
theorem evC_5_gram : zrgs (zlwQ 2) (fun a => zrgs (zlwQ (zlkQ [(0, 1), (1, 1)] a)) (fun b => zrgs (zlwQ (zlkQ [(0, 1), (1208925819614629174706176, 1)] (Nat.add (Nat.mul a 1208925819614629174706176) b))) (fun c => f_X8_grama [zR 1, zI a, zI b, zI c] (hCf 5) (fun r h => zands [zrI r, zsubH h (hCf 5)])))) = true := by decide +kernel
set_option maxRecDepth 100000 in
theorem evC_5_block : zrgs (zlwQ 2) (fun a => zrgs (zlwQ (zlkQ [(0, 4), (1, 4)] a)) (fun b => f_X8_blocka [zR 1, zI a, zI b] (hCf 5) (fun r h => zands [zrI r, zsubH h (hCf 5)]))) = true := by decide +kernel
set_option maxRecDepth 100000 in
theorem evC_5_value : zrgs (zlwQ 4) (fun a => zrgs (zlwQ (zlkQ [(0, 2), (1, 2), (2, 2), (3, 2), (4, 2), (5, 2)] a)) (fun b => f_X8_valuea [zR 1, zI a, zI b] (hCf 5) (fun r h => zands [zrJ r, zsubH h (hCf 5)]))) = true := by decide +kernel
set_option maxRecDepth 100000 in
theorem evC_5_parts : zrgs (zlwQ 4) (fun a => zrgs (zlwQ (zlkQ [(0, 2), (1, 2), (2, 2), (3, 2), (4, 2), (5, 2)] a)) (fun b => zrgs (zlwQ 0) (fun c => f_X8_partst [zR 1, zI a, zI b, zI c] (hCf 5) (fun r h => zands [zrJ r, zsubH h (hCf 5)])))) = true := by decide +kernel
set_option maxRecDepth 100000 in
theorem evC_5_inner : zrgs (zlwQ 4) (fun a => zrgs (zlwQ (zlkQ [(0, 4), (1, 4), (2, 4), (3, 4), (4, 4), (5, 4)] a)) (fun b => f_X8_innera [zR 1, zI a, zI b] (hCf 5) (fun r h => zands [zrJ r, zsubH h (hCf 5)]))) = true := by decide +kernel
set_option maxRecDepth 100000 in
theorem evC_5_kind : zrgs (zlwQ 4) (fun a => zrgs (zlwQ (zlkQ [(0, 4), (1, 4), (2, 4), (3, 4), (4, 4), (5, 4)] a)) (fun b => f_X8_kinda [zR 1, zI a, zI b] (hCf 5) (fun r h => zands [zrI r, zsubH h (hCf 5)]))) = true := by decide +kernel
set_option maxRecDepth 100000 in
theorem evC_5_cut : zrgs (zlwQ 5) (fun a => zrgs (zlwQ 6) (fun b => zrgs (zlwQ (zlkQ [(0, 5), (1, 5), (1208925819614629174706176, 5), (1208925819614629174706177, 5), (2417851639229258349412352, 5), (2417851639229258349412353, 5), (3626777458843887524118528, 5), (3626777458843887524118529, 5), (4835703278458516698824704, 5), (4835703278458516698824705, 5), (6044629098073145873530880, 5), (6044629098073145873530881, 5)] (Nat.add (Nat.mul a 1208925819614629174706176) b))) (fun c => f_X8_cuta [zR 1, zI a, zI b, zI c] (hCf 5) (fun r h => zands [zrI r, zsubH h (hCf 5)])))) = true := by decide +kernel
set_option maxRecDepth 100000 in
theorem evC_5_look : zrgs (zlwQ 6) (fun a => f_X8_lookt [zR 1, zI a] (hCf 5) (fun r h => zands [zrI r, zsubH h (hCf 5)])) = true := by decide +kernel
end
section
/-! the class at (2, 5): by program -/
set_option maxRecDepth 100000 in
theorem evC_6_fault : zrgs (zlwQ 8) (fun a => f_X8_faulta [zR 1, zI a] (hCf 6) (fun r h => zands [zrI r, zsubH h (hCf 6)])) = true := by decide +kernel
set_option maxRecDepth 100000 in
theorem evC_6_partition : zrgs (zlwQ 2) (fun a => zrgs (zlwQ (zlkQ [(0, 2), (1, 2)] a)) (fun b => f_X8_partitiona [zR 1, zI a, zI b] (hCf 6) (fun r h => zands [zrI r, zsubH h (hCf 6)]))) = true := by decide +kernel
set_option maxRecDepth 100000 in
theorem evC_6_of : zrgs (zlwQ 2) (fun a => zrgs (zlwQ (zlkQ [(0, 6), (1, 6)] a)) (fun b => f_X8_ofa [zR 1, zI a, zI b] (hCf 6) (fun r h => zands [zrI r, zsubH h (hCf 6)]))) = true := by decide +kernel
set_option maxRecDepth 100000 in
theorem evC_6_core : zrgs (zlwQ 2) (fun a => zrgs (zlwQ (zlkQ [(0, 2), (1, 2)] a)) (fun b => f_X8_corea [zR 1, zI a, zI b] (hCf 6) (fun r h => zands [zrI r, zsubH h (hCf 6)]))) = true := by decide +kernel
set_option maxRecDepth 100000 in
theorem evC_6_hook : zrgs (zlwQ 2) (fun a => zrgs (zlwQ (zlkQ [(0, 1), (1, 2)] a)) (fun b => zrgs (zlwQ (zlkQ [(0, 2), (1208925819614629174706176, 1), (1208925819614629174706177, 1)] (Nat.add (Nat.mul a 1208925819614629174706176) b))) (fun c => f_X8_hooka [zR 1, zI a, zI b, zI c] (hCf 6) (fun r h => zands [zrI r, zsubH h (hCf 6)])))) = true := by decide +kernel
set_option maxRecDepth 100000 in
theorem evC_6_classOf : zrgs (zlwQ 2) (fun a => zrgs (zlwQ (zlkQ [(0, 4), (1, 4)] a)) (fun b => f_X8_classOfa [zR 1, zI a, zI b] (hCf 6) (fun r h => zands [zrI r, zsubH h (hCf 6)]))) = true := by decide +kernel
set_option maxRecDepth 100000 in
theorem evC_6_character : zrgs (zlwQ 2) (fun a => zrgs (zlwQ (zlkQ [(0, 2), (1, 2)] a)) (fun b => f_X8_charactera [zR 1, zI a, zI b] (hCf 6) (fun r h => zands [zrI r, zsubH h (hCf 6)]))) = true := by decide +kernel
set_option maxRecDepth 100000 in
theorem evC_6_modular : zrgs (zlwQ 2) (fun a => zrgs (zlwQ (zlkQ [(0, 2), (1, 2)] a)) (fun b => f_X8_modulara [zR 1, zI a, zI b] (hCf 6) (fun r h => zands [zrI r, zsubH h (hCf 6)]))) = true := by decide +kernel
set_option maxRecDepth 100000 in
theorem evC_6_projective : zrgs (zlwQ 2) (fun a => zrgs (zlwQ (zlkQ [(0, 2), (1, 2)] a)) (fun b => f_X8_projectivea [zR 1, zI a, zI b] (hCf 6) (fun r h => zands [zrI r, zsubH h (hCf 6)]))) = true := by decide +kernel
set_option maxRecDepth 100000 in
theorem evC_6_decomposition : zrgs (zlwQ 2) (fun a => zrgs (zlwQ (zlkQ [(0, 2), (1, 2)] a)) (fun b => f_X8_decompositiona [zR 1, zI a, zI b] (hCf 6) (fun r h => zands [zrI r, zsubH h (hCf 6)]))) = true := by decide +kernel
set_option maxRecDepth 100000 in
theorem evC_6_cartan : zrgs (zlwQ 2) (fun a => zrgs (zlwQ (zlkQ [(0, 2), (1, 2)] a)) (fun b => f_X8_cartana [zR 1, zI a, zI b] (hCf 6) (fun r h => zands [zrI r, zsubH h (hCf 6)]))) = true := by decide +kernel
set_option maxRecDepth 100000 in
theorem evC_6_tableau : zrgs (zlwQ 2) (fun a => zrgs (zlwQ (zlkQ [(0, 1), (1, 1)] a)) (fun b => zrgs (zlwQ (zlkQ [(0, 1), (1208925819614629174706176, 2)] (Nat.add (Nat.mul a 1208925819614629174706176) b))) (fun c => zrgs (zlwQ (zlkQ [(0, 2), (1461501637330902918203684832716283019655932542976, 1), (1461501637330902918203684832716283019655932542977, 1)] (Nat.add (Nat.mul (Nat.add (Nat.mul a 1208925819614629174706176) b) 1208925819614629174706176) c))) (fun d => f_X8_tableaua [zR 1, zI a, zI b, zI c, zI d] (hCf 6) (fun r h => zands [zrI r, zsubH h (hCf 6)]))))) = true := by decide +kernel
set_option maxRecDepth 100000 in
theorem evC_6_gram : zrgs (zlwQ 2) (fun a => zrgs (zlwQ (zlkQ [(0, 1), (1, 1)] a)) (fun b => zrgs (zlwQ (zlkQ [(0, 1), (1208925819614629174706176, 1)] (Nat.add (Nat.mul a 1208925819614629174706176) b))) (fun c => f_X8_grama [zR 1, zI a, zI b, zI c] (hCf 6) (fun r h => zands [zrI r, zsubH h (hCf 6)])))) = true := by decide +kernel
set_option maxRecDepth 100000 in
theorem evC_6_block : zrgs (zlwQ 2) (fun a => zrgs (zlwQ (zlkQ [(0, 4), (1, 4)] a)) (fun b => f_X8_blocka [zR 1, zI a, zI b] (hCf 6) (fun r h => zands [zrI r, zsubH h (hCf 6)]))) = true := by decide +kernel
set_option maxRecDepth 100000 in
theorem evC_6_value : zrgs (zlwQ 4) (fun a => zrgs (zlwQ (zlkQ [(0, 2), (1, 2), (2, 2), (3, 2), (4, 2), (5, 2)] a)) (fun b => f_X8_valuea [zR 1, zI a, zI b] (hCf 6) (fun r h => zands [zrJ r, zsubH h (hCf 6)]))) = true := by decide +kernel
set_option maxRecDepth 100000 in
theorem evC_6_parts : zrgs (zlwQ 4) (fun a => zrgs (zlwQ (zlkQ [(0, 2), (1, 2), (2, 2), (3, 2), (4, 2), (5, 2)] a)) (fun b => zrgs (zlwQ 0) (fun c => f_X8_partst [zR 1, zI a, zI b, zI c] (hCf 6) (fun r h => zands [zrJ r, zsubH h (hCf 6)])))) = true := by decide +kernel
set_option maxRecDepth 100000 in
theorem evC_6_inner : zrgs (zlwQ 4) (fun a => zrgs (zlwQ (zlkQ [(0, 4), (1, 4), (2, 4), (3, 4), (4, 4), (5, 4)] a)) (fun b => f_X8_innera [zR 1, zI a, zI b] (hCf 6) (fun r h => zands [zrJ r, zsubH h (hCf 6)]))) = true := by decide +kernel
set_option maxRecDepth 100000 in
theorem evC_6_kind : zrgs (zlwQ 4) (fun a => zrgs (zlwQ (zlkQ [(0, 4), (1, 4), (2, 4), (3, 4), (4, 4), (5, 4)] a)) (fun b => f_X8_kinda [zR 1, zI a, zI b] (hCf 6) (fun r h => zands [zrI r, zsubH h (hCf 6)]))) = true := by decide +kernel
set_option maxRecDepth 100000 in
theorem evC_6_cut : zrgs (zlwQ 5) (fun a => zrgs (zlwQ 6) (fun b => zrgs (zlwQ (zlkQ [(0, 5), (1, 5), (1208925819614629174706176, 5), (1208925819614629174706177, 5), (2417851639229258349412352, 5), (2417851639229258349412353, 5), (3626777458843887524118528, 5), (3626777458843887524118529, 5), (4835703278458516698824704, 5), (4835703278458516698824705, 5), (6044629098073145873530880, 5), (6044629098073145873530881, 5)] (Nat.add (Nat.mul a 1208925819614629174706176) b))) (fun c => f_X8_cuta [zR 1, zI a, zI b, zI c] (hCf 6) (fun r h => zands [zrI r, zsubH h (hCf 6)])))) = true := by decide +kernel
set_option maxRecDepth 100000 in
theorem evC_6_look : zrgs (zlwQ 6) (fun a => f_X8_lookt [zR 1, zI a] (hCf 6) (fun r h => zands [zrI r, zsubH h (hCf 6)])) = true := by decide +kernel
end
section
/-! the class at (2, 7): by program -/
set_option maxRecDepth 100000 in
theorem evC_7_fault : zrgs (zlwQ 8) (fun a => f_X8_faulta [zR 1, zI a] (hCf 7) (fun r h => zands [zrI r, zsubH h (hCf 7)])) = true := by decide +kernel
set_option maxRecDepth 100000 in
theorem evC_7_partition : zrgs (zlwQ 2) (fun a => zrgs (zlwQ (zlkQ [(0, 2), (1, 2)] a)) (fun b => f_X8_partitiona [zR 1, zI a, zI b] (hCf 7) (fun r h => zands [zrI r, zsubH h (hCf 7)]))) = true := by decide +kernel
set_option maxRecDepth 100000 in
theorem evC_7_of : zrgs (zlwQ 2) (fun a => zrgs (zlwQ (zlkQ [(0, 6), (1, 6)] a)) (fun b => f_X8_ofa [zR 1, zI a, zI b] (hCf 7) (fun r h => zands [zrI r, zsubH h (hCf 7)]))) = true := by decide +kernel
set_option maxRecDepth 100000 in
theorem evC_7_core : zrgs (zlwQ 2) (fun a => zrgs (zlwQ (zlkQ [(0, 2), (1, 2)] a)) (fun b => f_X8_corea [zR 1, zI a, zI b] (hCf 7) (fun r h => zands [zrI r, zsubH h (hCf 7)]))) = true := by decide +kernel
set_option maxRecDepth 100000 in
theorem evC_7_hook : zrgs (zlwQ 2) (fun a => zrgs (zlwQ (zlkQ [(0, 1), (1, 2)] a)) (fun b => zrgs (zlwQ (zlkQ [(0, 2), (1208925819614629174706176, 1), (1208925819614629174706177, 1)] (Nat.add (Nat.mul a 1208925819614629174706176) b))) (fun c => f_X8_hooka [zR 1, zI a, zI b, zI c] (hCf 7) (fun r h => zands [zrI r, zsubH h (hCf 7)])))) = true := by decide +kernel
set_option maxRecDepth 100000 in
theorem evC_7_classOf : zrgs (zlwQ 2) (fun a => zrgs (zlwQ (zlkQ [(0, 4), (1, 4)] a)) (fun b => f_X8_classOfa [zR 1, zI a, zI b] (hCf 7) (fun r h => zands [zrI r, zsubH h (hCf 7)]))) = true := by decide +kernel
set_option maxRecDepth 100000 in
theorem evC_7_character : zrgs (zlwQ 2) (fun a => zrgs (zlwQ (zlkQ [(0, 2), (1, 2)] a)) (fun b => f_X8_charactera [zR 1, zI a, zI b] (hCf 7) (fun r h => zands [zrI r, zsubH h (hCf 7)]))) = true := by decide +kernel
set_option maxRecDepth 100000 in
theorem evC_7_modular : zrgs (zlwQ 2) (fun a => zrgs (zlwQ (zlkQ [(0, 2), (1, 2)] a)) (fun b => f_X8_modulara [zR 1, zI a, zI b] (hCf 7) (fun r h => zands [zrI r, zsubH h (hCf 7)]))) = true := by decide +kernel
set_option maxRecDepth 100000 in
theorem evC_7_projective : zrgs (zlwQ 2) (fun a => zrgs (zlwQ (zlkQ [(0, 2), (1, 2)] a)) (fun b => f_X8_projectivea [zR 1, zI a, zI b] (hCf 7) (fun r h => zands [zrI r, zsubH h (hCf 7)]))) = true := by decide +kernel
set_option maxRecDepth 100000 in
theorem evC_7_decomposition : zrgs (zlwQ 2) (fun a => zrgs (zlwQ (zlkQ [(0, 2), (1, 2)] a)) (fun b => f_X8_decompositiona [zR 1, zI a, zI b] (hCf 7) (fun r h => zands [zrI r, zsubH h (hCf 7)]))) = true := by decide +kernel
set_option maxRecDepth 100000 in
theorem evC_7_cartan : zrgs (zlwQ 2) (fun a => zrgs (zlwQ (zlkQ [(0, 2), (1, 2)] a)) (fun b => f_X8_cartana [zR 1, zI a, zI b] (hCf 7) (fun r h => zands [zrI r, zsubH h (hCf 7)]))) = true := by decide +kernel
set_option maxRecDepth 100000 in
theorem evC_7_tableau : zrgs (zlwQ 2) (fun a => zrgs (zlwQ (zlkQ [(0, 1), (1, 1)] a)) (fun b => zrgs (zlwQ (zlkQ [(0, 1), (1208925819614629174706176, 2)] (Nat.add (Nat.mul a 1208925819614629174706176) b))) (fun c => zrgs (zlwQ (zlkQ [(0, 2), (1461501637330902918203684832716283019655932542976, 1), (1461501637330902918203684832716283019655932542977, 1)] (Nat.add (Nat.mul (Nat.add (Nat.mul a 1208925819614629174706176) b) 1208925819614629174706176) c))) (fun d => f_X8_tableaua [zR 1, zI a, zI b, zI c, zI d] (hCf 7) (fun r h => zands [zrI r, zsubH h (hCf 7)]))))) = true := by decide +kernel
set_option maxRecDepth 100000 in
theorem evC_7_gram : zrgs (zlwQ 2) (fun a => zrgs (zlwQ (zlkQ [(0, 1), (1, 1)] a)) (fun b => zrgs (zlwQ (zlkQ [(0, 1), (1208925819614629174706176, 1)] (Nat.add (Nat.mul a 1208925819614629174706176) b))) (fun c => f_X8_grama [zR 1, zI a, zI b, zI c] (hCf 7) (fun r h => zands [zrI r, zsubH h (hCf 7)])))) = true := by decide +kernel
set_option maxRecDepth 100000 in
theorem evC_7_block : zrgs (zlwQ 2) (fun a => zrgs (zlwQ (zlkQ [(0, 4), (1, 4)] a)) (fun b => f_X8_blocka [zR 1, zI a, zI b] (hCf 7) (fun r h => zands [zrI r, zsubH h (hCf 7)]))) = true := by decide +kernel
set_option maxRecDepth 100000 in
theorem evC_7_value : zrgs (zlwQ 4) (fun a => zrgs (zlwQ (zlkQ [(0, 2), (1, 2), (2, 2), (3, 2), (4, 2), (5, 2)] a)) (fun b => f_X8_valuea [zR 1, zI a, zI b] (hCf 7) (fun r h => zands [zrJ r, zsubH h (hCf 7)]))) = true := by decide +kernel
set_option maxRecDepth 100000 in
theorem evC_7_parts : zrgs (zlwQ 4) (fun a => zrgs (zlwQ (zlkQ [(0, 2), (1, 2), (2, 2), (3, 2), (4, 2), (5, 2)] a)) (fun b => zrgs (zlwQ 0) (fun c => f_X8_partst [zR 1, zI a, zI b, zI c] (hCf 7) (fun r h => zands [zrJ r, zsubH h (hCf 7)])))) = true := by decide +kernel
set_option maxRecDepth 100000 in
theorem evC_7_inner : zrgs (zlwQ 4) (fun a => zrgs (zlwQ (zlkQ [(0, 4), (1, 4), (2, 4), (3, 4), (4, 4), (5, 4)] a)) (fun b => f_X8_innera [zR 1, zI a, zI b] (hCf 7) (fun r h => zands [zrJ r, zsubH h (hCf 7)]))) = true := by decide +kernel
set_option maxRecDepth 100000 in
theorem evC_7_kind : zrgs (zlwQ 4) (fun a => zrgs (zlwQ (zlkQ [(0, 4), (1, 4), (2, 4), (3, 4), (4, 4), (5, 4)] a)) (fun b => f_X8_kinda [zR 1, zI a, zI b] (hCf 7) (fun r h => zands [zrI r, zsubH h (hCf 7)]))) = true := by decide +kernel
set_option maxRecDepth 100000 in
theorem evC_7_cut : zrgs (zlwQ 5) (fun a => zrgs (zlwQ 6) (fun b => zrgs (zlwQ (zlkQ [(0, 5), (1, 5), (1208925819614629174706176, 5), (1208925819614629174706177, 5), (2417851639229258349412352, 5), (2417851639229258349412353, 5), (3626777458843887524118528, 5), (3626777458843887524118529, 5), (4835703278458516698824704, 5), (4835703278458516698824705, 5), (6044629098073145873530880, 5), (6044629098073145873530881, 5)] (Nat.add (Nat.mul a 1208925819614629174706176) b))) (fun c => f_X8_cuta [zR 1, zI a, zI b, zI c] (hCf 7) (fun r h => zands [zrI r, zsubH h (hCf 7)])))) = true := by decide +kernel
set_option maxRecDepth 100000 in
theorem evC_7_look : zrgs (zlwQ 6) (fun a => f_X8_lookt [zR 1, zI a] (hCf 7) (fun r h => zands [zrI r, zsubH h (hCf 7)])) = true := by decide +kernel
end
