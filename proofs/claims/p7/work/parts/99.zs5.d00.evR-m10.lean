section
/-! the reference at (1, 2): by program -/
set_option maxRecDepth 100000 in
theorem evR_0_fault : zrgs zlvR (fun a => f_X9_faulta [zR 1, zI a] (hRf 0) (fun r h => zands [zrI r, zsubH h (hRf 0)])) = true := by decide +kernel
set_option maxRecDepth 100000 in
theorem evR_0_partition : zrgs (zlwQ 1) (fun a => zrgs (zlwQ (zlkQ [(0, 4)] a)) (fun b => f_X9_partitiona [zR 1, zI a, zI b] (hRf 0) (fun r h => zands [zrI r, zsubH h (hRf 0)]))) = true := by decide +kernel
set_option maxRecDepth 100000 in
theorem evR_0_of : zrgs (zlwQ 1) (fun a => zrgs (zlwQ (zlkQ [(0, 6)] a)) (fun b => f_X9_ofa [zR 1, zI a, zI b] (hRf 0) (fun r h => zands [zrI r, zsubH h (hRf 0)]))) = true := by decide +kernel
set_option maxRecDepth 100000 in
theorem evR_0_core : zrgs (zlwQ 1) (fun a => zrgs (zlwQ 0) (fun b => f_X9_corea [zR 1, zI a, zI b] (hRf 0) (fun r h => zands [zrI r, zsubH h (hRf 0)]))) = true := by decide +kernel
set_option maxRecDepth 100000 in
theorem evR_0_hook : zrgs (zlwQ 10) (fun a => zrgs (zlwQ (zlkQ [(0, 4)] a)) (fun b => zrgs (zlwQ 0) (fun c => f_X9_hooka [zR 1, zI a, zI b, zI c] (hRf 0) (fun r h => zands [zrI r, zsubH h (hRf 0)])))) = true := by decide +kernel
set_option maxRecDepth 100000 in
theorem evR_0_classOf : zrgs (zlwQ 1) (fun a => zrgs (zlwQ (zlkQ [(0, 4)] a)) (fun b => f_X9_classOfa [zR 1, zI a, zI b] (hRf 0) (fun r h => zands [zrI r, zsubH h (hRf 0)]))) = true := by decide +kernel
set_option maxRecDepth 100000 in
theorem evR_0_character : zrgs (zlwQ 1) (fun a => zrgs (zlwQ (zlkQ [(0, 1)] a)) (fun b => f_X9_charactera [zR 1, zI a, zI b] (hRf 0) (fun r h => zands [zrI r, zsubH h (hRf 0)]))) = true := by decide +kernel
set_option maxRecDepth 100000 in
theorem evR_0_modular : zrgs (zlwQ 1) (fun a => zrgs (zlwQ (zlkQ [(0, 1)] a)) (fun b => f_X9_modulara [zR 1, zI a, zI b] (hRf 0) (fun r h => zands [zrI r, zsubH h (hRf 0)]))) = true := by decide +kernel
set_option maxRecDepth 100000 in
theorem evR_0_projective : zrgs (zlwQ 1) (fun a => zrgs (zlwQ (zlkQ [(0, 1)] a)) (fun b => f_X9_projectivea [zR 1, zI a, zI b] (hRf 0) (fun r h => zands [zrI r, zsubH h (hRf 0)]))) = true := by decide +kernel
set_option maxRecDepth 100000 in
theorem evR_0_decomposition : zrgs (zlwQ 1) (fun a => zrgs (zlwQ (zlkQ [(0, 1)] a)) (fun b => f_X9_decompositiona [zR 1, zI a, zI b] (hRf 0) (fun r h => zands [zrI r, zsubH h (hRf 0)]))) = true := by decide +kernel
set_option maxRecDepth 100000 in
theorem evR_0_cartan : zrgs (zlwQ 1) (fun a => zrgs (zlwQ (zlkQ [(0, 1)] a)) (fun b => f_X9_cartana [zR 1, zI a, zI b] (hRf 0) (fun r h => zands [zrI r, zsubH h (hRf 0)]))) = true := by decide +kernel
set_option maxRecDepth 100000 in
theorem evR_0_tableau : zrgs (zlwQ 10) (fun a => zrgs (zlwQ (zlkQ [(0, 10)] a)) (fun b => zrgs (zlwQ (zlkQ [(0, 4)] (Nat.add (Nat.mul a 1208925819614629174706176) b))) (fun c => zrgs (zlwQ (zlkQ [(0, 10), (1, 10), (2, 10), (3, 10), (4, 10), (5, 10)] (Nat.add (Nat.mul (Nat.add (Nat.mul a 1208925819614629174706176) b) 1208925819614629174706176) c))) (fun d => f_X9_tableaua [zR 1, zI a, zI b, zI c, zI d] (hRf 0) (fun r h => zands [zrI r, zsubH h (hRf 0)]))))) = true := by decide +kernel
set_option maxRecDepth 100000 in
theorem evR_0_gram : zrgs (zlwQ 10) (fun a => zrgs (zlwQ (zlkQ [(0, 10)] a)) (fun b => zrgs (zlwQ (zlkQ [(0, 10)] (Nat.add (Nat.mul a 1208925819614629174706176) b))) (fun c => f_X9_grama [zR 1, zI a, zI b, zI c] (hRf 0) (fun r h => zands [zrI r, zsubH h (hRf 0)])))) = true := by decide +kernel
set_option maxRecDepth 100000 in
theorem evR_0_block : zrgs (zlwQ 1) (fun a => zrgs (zlwQ (zlkQ [(0, 4)] a)) (fun b => f_X9_blockt [zR 1, zI a, zI b] (hRf 0) (fun r h => zands [zrI r, zsubH h (hRf 0)]))) = true := by decide +kernel
set_option maxRecDepth 100000 in
theorem evR_0_value : zrgs (zlwQ 15) (fun a => zrgs (zlwQ (zlkQ [(4294967302, 1)] a)) (fun b => f_X9_valuev [zR 1, zI a, zI b] (hRf 0) (fun r h => zands [zrJ r, zsubH h (hRf 0)]))) = true := by decide +kernel
set_option maxRecDepth 100000 in
theorem evR_0_parts : zrgs (zlwQ 15) (fun a => zrgs (zlwQ (zlkQ [(4294967302, 1)] a)) (fun b => zrgs (zlwQ 0) (fun c => f_X9_partsv [zR 1, zI a, zI b, zI c] (hRf 0) (fun r h => zands [zrJ r, zsubH h (hRf 0)])))) = true := by decide +kernel
set_option maxRecDepth 100000 in
theorem evR_0_inner : zrgs (zlwQ 15) (fun a => zrgs (zlwQ (zlkQ [(4294967302, 15)] a)) (fun b => f_X9_innerv [zR 1, zI a, zI b] (hRf 0) (fun r h => zands [zrJ r, zsubH h (hRf 0)]))) = true := by decide +kernel
set_option maxRecDepth 100000 in
theorem evR_0_kind : zrgs (zlwQ 15) (fun a => zrgs (zlwQ 0) (fun b => f_X9_kindv [zR 1, zI a, zI b] (hRf 0) (fun r h => zands [zrI r, zsubH h (hRf 0)]))) = true := by decide +kernel
set_option maxRecDepth 100000 in
theorem evR_0_cut : zrgs (zlwQ 15) (fun a => zrgs (zlwQ 0) (fun b => zrgs (zlwQ (zlkQ [(5192296865788382546218275672424448, 15)] (Nat.add (Nat.mul a 1208925819614629174706176) b))) (fun c => f_X9_cutv [zR 1, zI a, zI b, zI c] (hRf 0) (fun r h => zands [zrI r, zsubH h (hRf 0)])))) = true := by decide +kernel
set_option maxRecDepth 100000 in
theorem evR_0_look : zrgs (zlwQ 6) (fun a => f_X9_lookv [zR 1, zI a] (hRf 0) (fun r h => zands [zrI r, zsubH h (hRf 0)])) = true := by decide +kernel
end
section
/-! the reference at (1, 3): by program -/
set_option maxRecDepth 100000 in
theorem evR_1_fault : zrgs zlvR (fun a => f_X9_faulta [zR 1, zI a] (hRf 1) (fun r h => zands [zrI r, zsubH h (hRf 1)])) = true := by decide +kernel
set_option maxRecDepth 100000 in
theorem evR_1_partition : zrgs (zlwQ 1) (fun a => zrgs (zlwQ (zlkQ [(0, 4)] a)) (fun b => f_X9_partitiona [zR 1, zI a, zI b] (hRf 1) (fun r h => zands [zrI r, zsubH h (hRf 1)]))) = true := by decide +kernel
set_option maxRecDepth 100000 in
theorem evR_1_of : zrgs (zlwQ 1) (fun a => zrgs (zlwQ (zlkQ [(0, 6)] a)) (fun b => f_X9_ofa [zR 1, zI a, zI b] (hRf 1) (fun r h => zands [zrI r, zsubH h (hRf 1)]))) = true := by decide +kernel
set_option maxRecDepth 100000 in
theorem evR_1_core : zrgs (zlwQ 1) (fun a => zrgs (zlwQ 0) (fun b => f_X9_corea [zR 1, zI a, zI b] (hRf 1) (fun r h => zands [zrI r, zsubH h (hRf 1)]))) = true := by decide +kernel
set_option maxRecDepth 100000 in
theorem evR_1_hook : zrgs (zlwQ 10) (fun a => zrgs (zlwQ (zlkQ [(0, 4)] a)) (fun b => zrgs (zlwQ 0) (fun c => f_X9_hooka [zR 1, zI a, zI b, zI c] (hRf 1) (fun r h => zands [zrI r, zsubH h (hRf 1)])))) = true := by decide +kernel
set_option maxRecDepth 100000 in
theorem evR_1_classOf : zrgs (zlwQ 1) (fun a => zrgs (zlwQ (zlkQ [(0, 4)] a)) (fun b => f_X9_classOfa [zR 1, zI a, zI b] (hRf 1) (fun r h => zands [zrI r, zsubH h (hRf 1)]))) = true := by decide +kernel
set_option maxRecDepth 100000 in
theorem evR_1_character : zrgs (zlwQ 1) (fun a => zrgs (zlwQ (zlkQ [(0, 1)] a)) (fun b => f_X9_charactera [zR 1, zI a, zI b] (hRf 1) (fun r h => zands [zrI r, zsubH h (hRf 1)]))) = true := by decide +kernel
set_option maxRecDepth 100000 in
theorem evR_1_modular : zrgs (zlwQ 1) (fun a => zrgs (zlwQ (zlkQ [(0, 1)] a)) (fun b => f_X9_modulara [zR 1, zI a, zI b] (hRf 1) (fun r h => zands [zrI r, zsubH h (hRf 1)]))) = true := by decide +kernel
set_option maxRecDepth 100000 in
theorem evR_1_projective : zrgs (zlwQ 1) (fun a => zrgs (zlwQ (zlkQ [(0, 1)] a)) (fun b => f_X9_projectivea [zR 1, zI a, zI b] (hRf 1) (fun r h => zands [zrI r, zsubH h (hRf 1)]))) = true := by decide +kernel
set_option maxRecDepth 100000 in
theorem evR_1_decomposition : zrgs (zlwQ 1) (fun a => zrgs (zlwQ (zlkQ [(0, 1)] a)) (fun b => f_X9_decompositiona [zR 1, zI a, zI b] (hRf 1) (fun r h => zands [zrI r, zsubH h (hRf 1)]))) = true := by decide +kernel
set_option maxRecDepth 100000 in
theorem evR_1_cartan : zrgs (zlwQ 1) (fun a => zrgs (zlwQ (zlkQ [(0, 1)] a)) (fun b => f_X9_cartana [zR 1, zI a, zI b] (hRf 1) (fun r h => zands [zrI r, zsubH h (hRf 1)]))) = true := by decide +kernel
set_option maxRecDepth 100000 in
theorem evR_1_tableau : zrgs (zlwQ 10) (fun a => zrgs (zlwQ (zlkQ [(0, 10)] a)) (fun b => zrgs (zlwQ (zlkQ [(0, 4)] (Nat.add (Nat.mul a 1208925819614629174706176) b))) (fun c => zrgs (zlwQ (zlkQ [(0, 10), (1, 10), (2, 10), (3, 10), (4, 10), (5, 10)] (Nat.add (Nat.mul (Nat.add (Nat.mul a 1208925819614629174706176) b) 1208925819614629174706176) c))) (fun d => f_X9_tableaua [zR 1, zI a, zI b, zI c, zI d] (hRf 1) (fun r h => zands [zrI r, zsubH h (hRf 1)]))))) = true := by decide +kernel
set_option maxRecDepth 100000 in
theorem evR_1_gram : zrgs (zlwQ 10) (fun a => zrgs (zlwQ (zlkQ [(0, 10)] a)) (fun b => zrgs (zlwQ (zlkQ [(0, 10)] (Nat.add (Nat.mul a 1208925819614629174706176) b))) (fun c => f_X9_grama [zR 1, zI a, zI b, zI c] (hRf 1) (fun r h => zands [zrI r, zsubH h (hRf 1)])))) = true := by decide +kernel
set_option maxRecDepth 100000 in
theorem evR_1_block : zrgs (zlwQ 1) (fun a => zrgs (zlwQ (zlkQ [(0, 4)] a)) (fun b => f_X9_blockt [zR 1, zI a, zI b] (hRf 1) (fun r h => zands [zrI r, zsubH h (hRf 1)]))) = true := by decide +kernel
set_option maxRecDepth 100000 in
theorem evR_1_value : zrgs (zlwQ 15) (fun a => zrgs (zlwQ (zlkQ [(4294967302, 1)] a)) (fun b => f_X9_valuev [zR 1, zI a, zI b] (hRf 1) (fun r h => zands [zrJ r, zsubH h (hRf 1)]))) = true := by decide +kernel
set_option maxRecDepth 100000 in
theorem evR_1_parts : zrgs (zlwQ 15) (fun a => zrgs (zlwQ (zlkQ [(4294967302, 1)] a)) (fun b => zrgs (zlwQ 0) (fun c => f_X9_partsv [zR 1, zI a, zI b, zI c] (hRf 1) (fun r h => zands [zrJ r, zsubH h (hRf 1)])))) = true := by decide +kernel
set_option maxRecDepth 100000 in
theorem evR_1_inner : zrgs (zlwQ 15) (fun a => zrgs (zlwQ (zlkQ [(4294967302, 15)] a)) (fun b => f_X9_innerv [zR 1, zI a, zI b] (hRf 1) (fun r h => zands [zrJ r, zsubH h (hRf 1)]))) = true := by decide +kernel
set_option maxRecDepth 100000 in
theorem evR_1_kind : zrgs (zlwQ 15) (fun a => zrgs (zlwQ 0) (fun b => f_X9_kindv [zR 1, zI a, zI b] (hRf 1) (fun r h => zands [zrI r, zsubH h (hRf 1)]))) = true := by decide +kernel
set_option maxRecDepth 100000 in
theorem evR_1_cut : zrgs (zlwQ 15) (fun a => zrgs (zlwQ 0) (fun b => zrgs (zlwQ (zlkQ [(5192296865788382546218275672424448, 15)] (Nat.add (Nat.mul a 1208925819614629174706176) b))) (fun c => f_X9_cutv [zR 1, zI a, zI b, zI c] (hRf 1) (fun r h => zands [zrI r, zsubH h (hRf 1)])))) = true := by decide +kernel
set_option maxRecDepth 100000 in
theorem evR_1_look : zrgs (zlwQ 6) (fun a => f_X9_lookv [zR 1, zI a] (hRf 1) (fun r h => zands [zrI r, zsubH h (hRf 1)])) = true := by decide +kernel
end
section
/-! the reference at (1, 5): by program -/
set_option maxRecDepth 100000 in
theorem evR_2_fault : zrgs zlvR (fun a => f_X9_faulta [zR 1, zI a] (hRf 2) (fun r h => zands [zrI r, zsubH h (hRf 2)])) = true := by decide +kernel
set_option maxRecDepth 100000 in
theorem evR_2_partition : zrgs (zlwQ 1) (fun a => zrgs (zlwQ (zlkQ [(0, 4)] a)) (fun b => f_X9_partitiona [zR 1, zI a, zI b] (hRf 2) (fun r h => zands [zrI r, zsubH h (hRf 2)]))) = true := by decide +kernel
set_option maxRecDepth 100000 in
theorem evR_2_of : zrgs (zlwQ 1) (fun a => zrgs (zlwQ (zlkQ [(0, 6)] a)) (fun b => f_X9_ofa [zR 1, zI a, zI b] (hRf 2) (fun r h => zands [zrI r, zsubH h (hRf 2)]))) = true := by decide +kernel
set_option maxRecDepth 100000 in
theorem evR_2_core : zrgs (zlwQ 1) (fun a => zrgs (zlwQ 0) (fun b => f_X9_corea [zR 1, zI a, zI b] (hRf 2) (fun r h => zands [zrI r, zsubH h (hRf 2)]))) = true := by decide +kernel
set_option maxRecDepth 100000 in
theorem evR_2_hook : zrgs (zlwQ 10) (fun a => zrgs (zlwQ (zlkQ [(0, 4)] a)) (fun b => zrgs (zlwQ 0) (fun c => f_X9_hooka [zR 1, zI a, zI b, zI c] (hRf 2) (fun r h => zands [zrI r, zsubH h (hRf 2)])))) = true := by decide +kernel
set_option maxRecDepth 100000 in
theorem evR_2_classOf : zrgs (zlwQ 1) (fun a => zrgs (zlwQ (zlkQ [(0, 4)] a)) (fun b => f_X9_classOfa [zR 1, zI a, zI b] (hRf 2) (fun r h => zands [zrI r, zsubH h (hRf 2)]))) = true := by decide +kernel
set_option maxRecDepth 100000 in
theorem evR_2_character : zrgs (zlwQ 1) (fun a => zrgs (zlwQ (zlkQ [(0, 1)] a)) (fun b => f_X9_charactera [zR 1, zI a, zI b] (hRf 2) (fun r h => zands [zrI r, zsubH h (hRf 2)]))) = true := by decide +kernel
set_option maxRecDepth 100000 in
theorem evR_2_modular : zrgs (zlwQ 1) (fun a => zrgs (zlwQ (zlkQ [(0, 1)] a)) (fun b => f_X9_modulara [zR 1, zI a, zI b] (hRf 2) (fun r h => zands [zrI r, zsubH h (hRf 2)]))) = true := by decide +kernel
set_option maxRecDepth 100000 in
theorem evR_2_projective : zrgs (zlwQ 1) (fun a => zrgs (zlwQ (zlkQ [(0, 1)] a)) (fun b => f_X9_projectivea [zR 1, zI a, zI b] (hRf 2) (fun r h => zands [zrI r, zsubH h (hRf 2)]))) = true := by decide +kernel
set_option maxRecDepth 100000 in
theorem evR_2_decomposition : zrgs (zlwQ 1) (fun a => zrgs (zlwQ (zlkQ [(0, 1)] a)) (fun b => f_X9_decompositiona [zR 1, zI a, zI b] (hRf 2) (fun r h => zands [zrI r, zsubH h (hRf 2)]))) = true := by decide +kernel
set_option maxRecDepth 100000 in
theorem evR_2_cartan : zrgs (zlwQ 1) (fun a => zrgs (zlwQ (zlkQ [(0, 1)] a)) (fun b => f_X9_cartana [zR 1, zI a, zI b] (hRf 2) (fun r h => zands [zrI r, zsubH h (hRf 2)]))) = true := by decide +kernel
set_option maxRecDepth 100000 in
theorem evR_2_tableau : zrgs (zlwQ 10) (fun a => zrgs (zlwQ (zlkQ [(0, 10)] a)) (fun b => zrgs (zlwQ (zlkQ [(0, 4)] (Nat.add (Nat.mul a 1208925819614629174706176) b))) (fun c => zrgs (zlwQ (zlkQ [(0, 10), (1, 10), (2, 10), (3, 10), (4, 10), (5, 10)] (Nat.add (Nat.mul (Nat.add (Nat.mul a 1208925819614629174706176) b) 1208925819614629174706176) c))) (fun d => f_X9_tableaua [zR 1, zI a, zI b, zI c, zI d] (hRf 2) (fun r h => zands [zrI r, zsubH h (hRf 2)]))))) = true := by decide +kernel
set_option maxRecDepth 100000 in
theorem evR_2_gram : zrgs (zlwQ 10) (fun a => zrgs (zlwQ (zlkQ [(0, 10)] a)) (fun b => zrgs (zlwQ (zlkQ [(0, 10)] (Nat.add (Nat.mul a 1208925819614629174706176) b))) (fun c => f_X9_grama [zR 1, zI a, zI b, zI c] (hRf 2) (fun r h => zands [zrI r, zsubH h (hRf 2)])))) = true := by decide +kernel
set_option maxRecDepth 100000 in
theorem evR_2_block : zrgs (zlwQ 1) (fun a => zrgs (zlwQ (zlkQ [(0, 4)] a)) (fun b => f_X9_blockt [zR 1, zI a, zI b] (hRf 2) (fun r h => zands [zrI r, zsubH h (hRf 2)]))) = true := by decide +kernel
set_option maxRecDepth 100000 in
theorem evR_2_value : zrgs (zlwQ 15) (fun a => zrgs (zlwQ (zlkQ [(4294967302, 1)] a)) (fun b => f_X9_valuev [zR 1, zI a, zI b] (hRf 2) (fun r h => zands [zrJ r, zsubH h (hRf 2)]))) = true := by decide +kernel
set_option maxRecDepth 100000 in
theorem evR_2_parts : zrgs (zlwQ 15) (fun a => zrgs (zlwQ (zlkQ [(4294967302, 1)] a)) (fun b => zrgs (zlwQ 0) (fun c => f_X9_partsv [zR 1, zI a, zI b, zI c] (hRf 2) (fun r h => zands [zrJ r, zsubH h (hRf 2)])))) = true := by decide +kernel
set_option maxRecDepth 100000 in
theorem evR_2_inner : zrgs (zlwQ 15) (fun a => zrgs (zlwQ (zlkQ [(4294967302, 15)] a)) (fun b => f_X9_innerv [zR 1, zI a, zI b] (hRf 2) (fun r h => zands [zrJ r, zsubH h (hRf 2)]))) = true := by decide +kernel
set_option maxRecDepth 100000 in
theorem evR_2_kind : zrgs (zlwQ 15) (fun a => zrgs (zlwQ 0) (fun b => f_X9_kindv [zR 1, zI a, zI b] (hRf 2) (fun r h => zands [zrI r, zsubH h (hRf 2)]))) = true := by decide +kernel
set_option maxRecDepth 100000 in
theorem evR_2_cut : zrgs (zlwQ 15) (fun a => zrgs (zlwQ 0) (fun b => zrgs (zlwQ (zlkQ [(5192296865788382546218275672424448, 15)] (Nat.add (Nat.mul a 1208925819614629174706176) b))) (fun c => f_X9_cutv [zR 1, zI a, zI b, zI c] (hRf 2) (fun r h => zands [zrI r, zsubH h (hRf 2)])))) = true := by decide +kernel
set_option maxRecDepth 100000 in
theorem evR_2_look : zrgs (zlwQ 6) (fun a => f_X9_lookv [zR 1, zI a] (hRf 2) (fun r h => zands [zrI r, zsubH h (hRf 2)])) = true := by decide +kernel
end
section
/-! the reference at (1, 7): by program -/
set_option maxRecDepth 100000 in
theorem evR_3_fault : zrgs zlvR (fun a => f_X9_faulta [zR 1, zI a] (hRf 3) (fun r h => zands [zrI r, zsubH h (hRf 3)])) = true := by decide +kernel
set_option maxRecDepth 100000 in
theorem evR_3_partition : zrgs (zlwQ 1) (fun a => zrgs (zlwQ (zlkQ [(0, 4)] a)) (fun b => f_X9_partitiona [zR 1, zI a, zI b] (hRf 3) (fun r h => zands [zrI r, zsubH h (hRf 3)]))) = true := by decide +kernel
set_option maxRecDepth 100000 in
theorem evR_3_of : zrgs (zlwQ 1) (fun a => zrgs (zlwQ (zlkQ [(0, 6)] a)) (fun b => f_X9_ofa [zR 1, zI a, zI b] (hRf 3) (fun r h => zands [zrI r, zsubH h (hRf 3)]))) = true := by decide +kernel
set_option maxRecDepth 100000 in
theorem evR_3_core : zrgs (zlwQ 1) (fun a => zrgs (zlwQ 0) (fun b => f_X9_corea [zR 1, zI a, zI b] (hRf 3) (fun r h => zands [zrI r, zsubH h (hRf 3)]))) = true := by decide +kernel
set_option maxRecDepth 100000 in
theorem evR_3_hook : zrgs (zlwQ 10) (fun a => zrgs (zlwQ (zlkQ [(0, 4)] a)) (fun b => zrgs (zlwQ 0) (fun c => f_X9_hooka [zR 1, zI a, zI b, zI c] (hRf 3) (fun r h => zands [zrI r, zsubH h (hRf 3)])))) = true := by decide +kernel
set_option maxRecDepth 100000 in
theorem evR_3_classOf : zrgs (zlwQ 1) (fun a => zrgs (zlwQ (zlkQ [(0, 4)] a)) (fun b => f_X9_classOfa [zR 1, zI a, zI b] (hRf 3) (fun r h => zands [zrI r, zsubH h (hRf 3)]))) = true := by decide +kernel
set_option maxRecDepth 100000 in
theorem evR_3_character : zrgs (zlwQ 1) (fun a => zrgs (zlwQ (zlkQ [(0, 1)] a)) (fun b => f_X9_charactera [zR 1, zI a, zI b] (hRf 3) (fun r h => zands [zrI r, zsubH h (hRf 3)]))) = true := by decide +kernel
set_option maxRecDepth 100000 in
theorem evR_3_modular : zrgs (zlwQ 1) (fun a => zrgs (zlwQ (zlkQ [(0, 1)] a)) (fun b => f_X9_modulara [zR 1, zI a, zI b] (hRf 3) (fun r h => zands [zrI r, zsubH h (hRf 3)]))) = true := by decide +kernel
set_option maxRecDepth 100000 in
theorem evR_3_projective : zrgs (zlwQ 1) (fun a => zrgs (zlwQ (zlkQ [(0, 1)] a)) (fun b => f_X9_projectivea [zR 1, zI a, zI b] (hRf 3) (fun r h => zands [zrI r, zsubH h (hRf 3)]))) = true := by decide +kernel
set_option maxRecDepth 100000 in
theorem evR_3_decomposition : zrgs (zlwQ 1) (fun a => zrgs (zlwQ (zlkQ [(0, 1)] a)) (fun b => f_X9_decompositiona [zR 1, zI a, zI b] (hRf 3) (fun r h => zands [zrI r, zsubH h (hRf 3)]))) = true := by decide +kernel
set_option maxRecDepth 100000 in
theorem evR_3_cartan : zrgs (zlwQ 1) (fun a => zrgs (zlwQ (zlkQ [(0, 1)] a)) (fun b => f_X9_cartana [zR 1, zI a, zI b] (hRf 3) (fun r h => zands [zrI r, zsubH h (hRf 3)]))) = true := by decide +kernel
set_option maxRecDepth 100000 in
theorem evR_3_tableau : zrgs (zlwQ 10) (fun a => zrgs (zlwQ (zlkQ [(0, 10)] a)) (fun b => zrgs (zlwQ (zlkQ [(0, 4)] (Nat.add (Nat.mul a 1208925819614629174706176) b))) (fun c => zrgs (zlwQ (zlkQ [(0, 10), (1, 10), (2, 10), (3, 10), (4, 10), (5, 10)] (Nat.add (Nat.mul (Nat.add (Nat.mul a 1208925819614629174706176) b) 1208925819614629174706176) c))) (fun d => f_X9_tableaua [zR 1, zI a, zI b, zI c, zI d] (hRf 3) (fun r h => zands [zrI r, zsubH h (hRf 3)]))))) = true := by decide +kernel
set_option maxRecDepth 100000 in
theorem evR_3_gram : zrgs (zlwQ 10) (fun a => zrgs (zlwQ (zlkQ [(0, 10)] a)) (fun b => zrgs (zlwQ (zlkQ [(0, 10)] (Nat.add (Nat.mul a 1208925819614629174706176) b))) (fun c => f_X9_grama [zR 1, zI a, zI b, zI c] (hRf 3) (fun r h => zands [zrI r, zsubH h (hRf 3)])))) = true := by decide +kernel
set_option maxRecDepth 100000 in
theorem evR_3_block : zrgs (zlwQ 1) (fun a => zrgs (zlwQ (zlkQ [(0, 4)] a)) (fun b => f_X9_blockt [zR 1, zI a, zI b] (hRf 3) (fun r h => zands [zrI r, zsubH h (hRf 3)]))) = true := by decide +kernel
set_option maxRecDepth 100000 in
theorem evR_3_value : zrgs (zlwQ 15) (fun a => zrgs (zlwQ (zlkQ [(4294967302, 1)] a)) (fun b => f_X9_valuev [zR 1, zI a, zI b] (hRf 3) (fun r h => zands [zrJ r, zsubH h (hRf 3)]))) = true := by decide +kernel
set_option maxRecDepth 100000 in
theorem evR_3_parts : zrgs (zlwQ 15) (fun a => zrgs (zlwQ (zlkQ [(4294967302, 1)] a)) (fun b => zrgs (zlwQ 0) (fun c => f_X9_partsv [zR 1, zI a, zI b, zI c] (hRf 3) (fun r h => zands [zrJ r, zsubH h (hRf 3)])))) = true := by decide +kernel
set_option maxRecDepth 100000 in
theorem evR_3_inner : zrgs (zlwQ 15) (fun a => zrgs (zlwQ (zlkQ [(4294967302, 15)] a)) (fun b => f_X9_innerv [zR 1, zI a, zI b] (hRf 3) (fun r h => zands [zrJ r, zsubH h (hRf 3)]))) = true := by decide +kernel
set_option maxRecDepth 100000 in
theorem evR_3_kind : zrgs (zlwQ 15) (fun a => zrgs (zlwQ 0) (fun b => f_X9_kindv [zR 1, zI a, zI b] (hRf 3) (fun r h => zands [zrI r, zsubH h (hRf 3)]))) = true := by decide +kernel
set_option maxRecDepth 100000 in
theorem evR_3_cut : zrgs (zlwQ 15) (fun a => zrgs (zlwQ 0) (fun b => zrgs (zlwQ (zlkQ [(5192296865788382546218275672424448, 15)] (Nat.add (Nat.mul a 1208925819614629174706176) b))) (fun c => f_X9_cutv [zR 1, zI a, zI b, zI c] (hRf 3) (fun r h => zands [zrI r, zsubH h (hRf 3)])))) = true := by decide +kernel
set_option maxRecDepth 100000 in
theorem evR_3_look : zrgs (zlwQ 6) (fun a => f_X9_lookv [zR 1, zI a] (hRf 3) (fun r h => zands [zrI r, zsubH h (hRf 3)])) = true := by decide +kernel
end
section
/-! the reference at (2, 2): by program -/
set_option maxRecDepth 100000 in
theorem evR_4_fault : zrgs zlvR (fun a => f_X9_faulta [zR 1, zI a] (hRf 4) (fun r h => zands [zrI r, zsubH h (hRf 4)])) = true := by decide +kernel
set_option maxRecDepth 100000 in
theorem evR_4_partition : zrgs (zlwQ 11) (fun a => zrgs (zlwQ (zlkQ [(4294967298, 4)] a)) (fun b => f_X9_partitiona [zR 1, zI a, zI b] (hRf 4) (fun r h => zands [zrI r, zsubH h (hRf 4)]))) = true := by decide +kernel
set_option maxRecDepth 100000 in
theorem evR_4_of : zrgs (zlwQ 2) (fun a => zrgs (zlwQ (zlkQ [(0, 6), (1, 6)] a)) (fun b => f_X9_ofa [zR 1, zI a, zI b] (hRf 4) (fun r h => zands [zrI r, zsubH h (hRf 4)]))) = true := by decide +kernel
set_option maxRecDepth 100000 in
theorem evR_4_core : zrgs (zlwQ 2) (fun a => zrgs (zlwQ 0) (fun b => f_X9_corea [zR 1, zI a, zI b] (hRf 4) (fun r h => zands [zrI r, zsubH h (hRf 4)]))) = true := by decide +kernel
set_option maxRecDepth 100000 in
theorem evR_4_hook : zrgs (zlwQ 11) (fun a => zrgs (zlwQ (zlkQ [(4294967298, 4)] a)) (fun b => zrgs (zlwQ 0) (fun c => f_X9_hooka [zR 1, zI a, zI b, zI c] (hRf 4) (fun r h => zands [zrI r, zsubH h (hRf 4)])))) = true := by decide +kernel
set_option maxRecDepth 100000 in
theorem evR_4_classOf : zrgs (zlwQ 2) (fun a => zrgs (zlwQ (zlkQ [(0, 4), (1, 4)] a)) (fun b => f_X9_classOfa [zR 1, zI a, zI b] (hRf 4) (fun r h => zands [zrI r, zsubH h (hRf 4)]))) = true := by decide +kernel
set_option maxRecDepth 100000 in
theorem evR_4_character : zrgs (zlwQ 11) (fun a => zrgs (zlwQ (zlkQ [(4294967298, 11)] a)) (fun b => f_X9_charactera [zR 1, zI a, zI b] (hRf 4) (fun r h => zands [zrI r, zsubH h (hRf 4)]))) = true := by decide +kernel
set_option maxRecDepth 100000 in
theorem evR_4_modular : zrgs (zlwQ 11) (fun a => zrgs (zlwQ (zlkQ [(4294967298, 11)] a)) (fun b => f_X9_modulara [zR 1, zI a, zI b] (hRf 4) (fun r h => zands [zrI r, zsubH h (hRf 4)]))) = true := by decide +kernel
set_option maxRecDepth 100000 in
theorem evR_4_projective : zrgs (zlwQ 11) (fun a => zrgs (zlwQ (zlkQ [(4294967298, 11)] a)) (fun b => f_X9_projectivea [zR 1, zI a, zI b] (hRf 4) (fun r h => zands [zrI r, zsubH h (hRf 4)]))) = true := by decide +kernel
set_option maxRecDepth 100000 in
theorem evR_4_decomposition : zrgs (zlwQ 11) (fun a => zrgs (zlwQ (zlkQ [(4294967298, 2)] a)) (fun b => f_X9_decompositiona [zR 1, zI a, zI b] (hRf 4) (fun r h => zands [zrI r, zsubH h (hRf 4)]))) = true := by decide +kernel
set_option maxRecDepth 100000 in
theorem evR_4_cartan : zrgs (zlwQ 2) (fun a => zrgs (zlwQ (zlkQ [(0, 2)] a)) (fun b => f_X9_cartana [zR 1, zI a, zI b] (hRf 4) (fun r h => zands [zrI r, zsubH h (hRf 4)]))) = true := by decide +kernel
set_option maxRecDepth 100000 in
theorem evR_4_tableau : zrgs (zlwQ 2) (fun a => zrgs (zlwQ (zlkQ [(0, 10), (1, 10)] a)) (fun b => zrgs (zlwQ (zlkQ [(0, 4), (1208925819614629174706176, 4)] (Nat.add (Nat.mul a 1208925819614629174706176) b))) (fun c => zrgs (zlwQ (zlkQ [(0, 11), (1, 10), (2, 10), (3, 10), (4, 10), (5, 10), (1461501637330902918203684832716283019655932542976, 10), (1461501637330902918203684832716283019655932542977, 10), (1461501637330902918203684832716283019655932542978, 10), (1461501637330902918203684832716283019655932542979, 10), (1461501637330902918203684832716283019655932542980, 10), (1461501637330902918203684832716283019655932542981, 10)] (Nat.add (Nat.mul (Nat.add (Nat.mul a 1208925819614629174706176) b) 1208925819614629174706176) c))) (fun d => f_X9_tableaua [zR 1, zI a, zI b, zI c, zI d] (hRf 4) (fun r h => zands [zrI r, zsubH h (hRf 4)]))))) = true := by decide +kernel
set_option maxRecDepth 100000 in
theorem evR_4_gram : zrgs (zlwQ 2) (fun a => zrgs (zlwQ (zlkQ [(0, 10), (1, 10)] a)) (fun b => zrgs (zlwQ (zlkQ [(0, 10), (1208925819614629174706176, 10)] (Nat.add (Nat.mul a 1208925819614629174706176) b))) (fun c => f_X9_grama [zR 1, zI a, zI b, zI c] (hRf 4) (fun r h => zands [zrI r, zsubH h (hRf 4)])))) = true := by decide +kernel
set_option maxRecDepth 100000 in
theorem evR_4_block : zrgs (zlwQ 1) (fun a => zrgs (zlwQ (zlkQ [(0, 4)] a)) (fun b => f_X9_blockt [zR 1, zI a, zI b] (hRf 4) (fun r h => zands [zrI r, zsubH h (hRf 4)]))) = true := by decide +kernel
set_option maxRecDepth 100000 in
theorem evR_4_value : zrgs (zlwQ 15) (fun a => zrgs (zlwQ (zlkQ [(4294967302, 11)] a)) (fun b => f_X9_valuev [zR 1, zI a, zI b] (hRf 4) (fun r h => zands [zrJ r, zsubH h (hRf 4)]))) = true := by decide +kernel
set_option maxRecDepth 100000 in
theorem evR_4_parts : zrgs (zlwQ 15) (fun a => zrgs (zlwQ (zlkQ [(4294967302, 11)] a)) (fun b => zrgs (zlwQ 0) (fun c => f_X9_partsv [zR 1, zI a, zI b, zI c] (hRf 4) (fun r h => zands [zrJ r, zsubH h (hRf 4)])))) = true := by decide +kernel
set_option maxRecDepth 100000 in
theorem evR_4_inner : zrgs (zlwQ 15) (fun a => zrgs (zlwQ (zlkQ [(4294967302, 15)] a)) (fun b => f_X9_innerv [zR 1, zI a, zI b] (hRf 4) (fun r h => zands [zrJ r, zsubH h (hRf 4)]))) = true := by decide +kernel
set_option maxRecDepth 100000 in
theorem evR_4_kind : zrgs (zlwQ 15) (fun a => zrgs (zlwQ 0) (fun b => f_X9_kindv [zR 1, zI a, zI b] (hRf 4) (fun r h => zands [zrI r, zsubH h (hRf 4)]))) = true := by decide +kernel
set_option maxRecDepth 100000 in
theorem evR_4_cut : zrgs (zlwQ 15) (fun a => zrgs (zlwQ 0) (fun b => zrgs (zlwQ (zlkQ [(5192296865788382546218275672424448, 15)] (Nat.add (Nat.mul a 1208925819614629174706176) b))) (fun c => f_X9_cutv [zR 1, zI a, zI b, zI c] (hRf 4) (fun r h => zands [zrI r, zsubH h (hRf 4)])))) = true := by decide +kernel
set_option maxRecDepth 100000 in
theorem evR_4_look : zrgs (zlwQ 6) (fun a => f_X9_lookv [zR 1, zI a] (hRf 4) (fun r h => zands [zrI r, zsubH h (hRf 4)])) = true := by decide +kernel
end
section
/-! the reference at (2, 3): by program -/
set_option maxRecDepth 100000 in
theorem evR_5_fault : zrgs zlvR (fun a => f_X9_faulta [zR 1, zI a] (hRf 5) (fun r h => zands [zrI r, zsubH h (hRf 5)])) = true := by decide +kernel
set_option maxRecDepth 100000 in
theorem evR_5_partition : zrgs (zlwQ 11) (fun a => zrgs (zlwQ (zlkQ [(4294967298, 4)] a)) (fun b => f_X9_partitiona [zR 1, zI a, zI b] (hRf 5) (fun r h => zands [zrI r, zsubH h (hRf 5)]))) = true := by decide +kernel
set_option maxRecDepth 100000 in
theorem evR_5_of : zrgs (zlwQ 2) (fun a => zrgs (zlwQ (zlkQ [(0, 6), (1, 6)] a)) (fun b => f_X9_ofa [zR 1, zI a, zI b] (hRf 5) (fun r h => zands [zrI r, zsubH h (hRf 5)]))) = true := by decide +kernel
set_option maxRecDepth 100000 in
theorem evR_5_core : zrgs (zlwQ 2) (fun a => zrgs (zlwQ 0) (fun b => f_X9_corea [zR 1, zI a, zI b] (hRf 5) (fun r h => zands [zrI r, zsubH h (hRf 5)]))) = true := by decide +kernel
set_option maxRecDepth 100000 in
theorem evR_5_hook : zrgs (zlwQ 11) (fun a => zrgs (zlwQ (zlkQ [(4294967298, 4)] a)) (fun b => zrgs (zlwQ 0) (fun c => f_X9_hooka [zR 1, zI a, zI b, zI c] (hRf 5) (fun r h => zands [zrI r, zsubH h (hRf 5)])))) = true := by decide +kernel
set_option maxRecDepth 100000 in
theorem evR_5_classOf : zrgs (zlwQ 2) (fun a => zrgs (zlwQ (zlkQ [(0, 4), (1, 4)] a)) (fun b => f_X9_classOfa [zR 1, zI a, zI b] (hRf 5) (fun r h => zands [zrI r, zsubH h (hRf 5)]))) = true := by decide +kernel
set_option maxRecDepth 100000 in
theorem evR_5_character : zrgs (zlwQ 11) (fun a => zrgs (zlwQ (zlkQ [(4294967298, 11)] a)) (fun b => f_X9_charactera [zR 1, zI a, zI b] (hRf 5) (fun r h => zands [zrI r, zsubH h (hRf 5)]))) = true := by decide +kernel
set_option maxRecDepth 100000 in
theorem evR_5_modular : zrgs (zlwQ 11) (fun a => zrgs (zlwQ (zlkQ [(4294967298, 11)] a)) (fun b => f_X9_modulara [zR 1, zI a, zI b] (hRf 5) (fun r h => zands [zrI r, zsubH h (hRf 5)]))) = true := by decide +kernel
set_option maxRecDepth 100000 in
theorem evR_5_projective : zrgs (zlwQ 11) (fun a => zrgs (zlwQ (zlkQ [(4294967298, 11)] a)) (fun b => f_X9_projectivea [zR 1, zI a, zI b] (hRf 5) (fun r h => zands [zrI r, zsubH h (hRf 5)]))) = true := by decide +kernel
set_option maxRecDepth 100000 in
theorem evR_5_decomposition : zrgs (zlwQ 11) (fun a => zrgs (zlwQ (zlkQ [(4294967298, 2)] a)) (fun b => f_X9_decompositiona [zR 1, zI a, zI b] (hRf 5) (fun r h => zands [zrI r, zsubH h (hRf 5)]))) = true := by decide +kernel
set_option maxRecDepth 100000 in
theorem evR_5_cartan : zrgs (zlwQ 2) (fun a => zrgs (zlwQ (zlkQ [(0, 2), (1, 2)] a)) (fun b => f_X9_cartana [zR 1, zI a, zI b] (hRf 5) (fun r h => zands [zrI r, zsubH h (hRf 5)]))) = true := by decide +kernel
set_option maxRecDepth 100000 in
theorem evR_5_tableau : zrgs (zlwQ 2) (fun a => zrgs (zlwQ (zlkQ [(0, 10), (1, 10)] a)) (fun b => zrgs (zlwQ (zlkQ [(0, 4), (1208925819614629174706176, 4)] (Nat.add (Nat.mul a 1208925819614629174706176) b))) (fun c => zrgs (zlwQ (zlkQ [(0, 11), (1, 10), (2, 10), (3, 10), (4, 10), (5, 10), (1461501637330902918203684832716283019655932542976, 10), (1461501637330902918203684832716283019655932542977, 10), (1461501637330902918203684832716283019655932542978, 10), (1461501637330902918203684832716283019655932542979, 10), (1461501637330902918203684832716283019655932542980, 10), (1461501637330902918203684832716283019655932542981, 10)] (Nat.add (Nat.mul (Nat.add (Nat.mul a 1208925819614629174706176) b) 1208925819614629174706176) c))) (fun d => f_X9_tableaua [zR 1, zI a, zI b, zI c, zI d] (hRf 5) (fun r h => zands [zrI r, zsubH h (hRf 5)]))))) = true := by decide +kernel
set_option maxRecDepth 100000 in
theorem evR_5_gram : zrgs (zlwQ 2) (fun a => zrgs (zlwQ (zlkQ [(0, 10), (1, 10)] a)) (fun b => zrgs (zlwQ (zlkQ [(0, 10), (1208925819614629174706176, 10)] (Nat.add (Nat.mul a 1208925819614629174706176) b))) (fun c => f_X9_grama [zR 1, zI a, zI b, zI c] (hRf 5) (fun r h => zands [zrI r, zsubH h (hRf 5)])))) = true := by decide +kernel
set_option maxRecDepth 100000 in
theorem evR_5_block : zrgs (zlwQ 2) (fun a => zrgs (zlwQ (zlkQ [(0, 4), (1, 4)] a)) (fun b => f_X9_blockt [zR 1, zI a, zI b] (hRf 5) (fun r h => zands [zrI r, zsubH h (hRf 5)]))) = true := by decide +kernel
set_option maxRecDepth 100000 in
theorem evR_5_value : zrgs (zlwQ 15) (fun a => zrgs (zlwQ (zlkQ [(4294967302, 11)] a)) (fun b => f_X9_valuev [zR 1, zI a, zI b] (hRf 5) (fun r h => zands [zrJ r, zsubH h (hRf 5)]))) = true := by decide +kernel
set_option maxRecDepth 100000 in
theorem evR_5_parts : zrgs (zlwQ 15) (fun a => zrgs (zlwQ (zlkQ [(4294967302, 11)] a)) (fun b => zrgs (zlwQ 0) (fun c => f_X9_partsv [zR 1, zI a, zI b, zI c] (hRf 5) (fun r h => zands [zrJ r, zsubH h (hRf 5)])))) = true := by decide +kernel
set_option maxRecDepth 100000 in
theorem evR_5_inner : zrgs (zlwQ 15) (fun a => zrgs (zlwQ (zlkQ [(4294967302, 15)] a)) (fun b => f_X9_innerv [zR 1, zI a, zI b] (hRf 5) (fun r h => zands [zrJ r, zsubH h (hRf 5)]))) = true := by decide +kernel
set_option maxRecDepth 100000 in
theorem evR_5_kind : zrgs (zlwQ 15) (fun a => zrgs (zlwQ 0) (fun b => f_X9_kindv [zR 1, zI a, zI b] (hRf 5) (fun r h => zands [zrI r, zsubH h (hRf 5)]))) = true := by decide +kernel
set_option maxRecDepth 100000 in
theorem evR_5_cut : zrgs (zlwQ 15) (fun a => zrgs (zlwQ 0) (fun b => zrgs (zlwQ (zlkQ [(5192296865788382546218275672424448, 15)] (Nat.add (Nat.mul a 1208925819614629174706176) b))) (fun c => f_X9_cutv [zR 1, zI a, zI b, zI c] (hRf 5) (fun r h => zands [zrI r, zsubH h (hRf 5)])))) = true := by decide +kernel
set_option maxRecDepth 100000 in
theorem evR_5_look : zrgs (zlwQ 6) (fun a => f_X9_lookv [zR 1, zI a] (hRf 5) (fun r h => zands [zrI r, zsubH h (hRf 5)])) = true := by decide +kernel
end
section
/-! the reference at (2, 5): by program -/
set_option maxRecDepth 100000 in
theorem evR_6_fault : zrgs zlvR (fun a => f_X9_faulta [zR 1, zI a] (hRf 6) (fun r h => zands [zrI r, zsubH h (hRf 6)])) = true := by decide +kernel
set_option maxRecDepth 100000 in
theorem evR_6_partition : zrgs (zlwQ 11) (fun a => zrgs (zlwQ (zlkQ [(4294967298, 4)] a)) (fun b => f_X9_partitiona [zR 1, zI a, zI b] (hRf 6) (fun r h => zands [zrI r, zsubH h (hRf 6)]))) = true := by decide +kernel
set_option maxRecDepth 100000 in
theorem evR_6_of : zrgs (zlwQ 2) (fun a => zrgs (zlwQ (zlkQ [(0, 6), (1, 6)] a)) (fun b => f_X9_ofa [zR 1, zI a, zI b] (hRf 6) (fun r h => zands [zrI r, zsubH h (hRf 6)]))) = true := by decide +kernel
set_option maxRecDepth 100000 in
theorem evR_6_core : zrgs (zlwQ 2) (fun a => zrgs (zlwQ 0) (fun b => f_X9_corea [zR 1, zI a, zI b] (hRf 6) (fun r h => zands [zrI r, zsubH h (hRf 6)]))) = true := by decide +kernel
set_option maxRecDepth 100000 in
theorem evR_6_hook : zrgs (zlwQ 11) (fun a => zrgs (zlwQ (zlkQ [(4294967298, 4)] a)) (fun b => zrgs (zlwQ 0) (fun c => f_X9_hooka [zR 1, zI a, zI b, zI c] (hRf 6) (fun r h => zands [zrI r, zsubH h (hRf 6)])))) = true := by decide +kernel
set_option maxRecDepth 100000 in
theorem evR_6_classOf : zrgs (zlwQ 2) (fun a => zrgs (zlwQ (zlkQ [(0, 4), (1, 4)] a)) (fun b => f_X9_classOfa [zR 1, zI a, zI b] (hRf 6) (fun r h => zands [zrI r, zsubH h (hRf 6)]))) = true := by decide +kernel
set_option maxRecDepth 100000 in
theorem evR_6_character : zrgs (zlwQ 11) (fun a => zrgs (zlwQ (zlkQ [(4294967298, 11)] a)) (fun b => f_X9_charactera [zR 1, zI a, zI b] (hRf 6) (fun r h => zands [zrI r, zsubH h (hRf 6)]))) = true := by decide +kernel
set_option maxRecDepth 100000 in
theorem evR_6_modular : zrgs (zlwQ 11) (fun a => zrgs (zlwQ (zlkQ [(4294967298, 11)] a)) (fun b => f_X9_modulara [zR 1, zI a, zI b] (hRf 6) (fun r h => zands [zrI r, zsubH h (hRf 6)]))) = true := by decide +kernel
set_option maxRecDepth 100000 in
theorem evR_6_projective : zrgs (zlwQ 11) (fun a => zrgs (zlwQ (zlkQ [(4294967298, 11)] a)) (fun b => f_X9_projectivea [zR 1, zI a, zI b] (hRf 6) (fun r h => zands [zrI r, zsubH h (hRf 6)]))) = true := by decide +kernel
set_option maxRecDepth 100000 in
theorem evR_6_decomposition : zrgs (zlwQ 11) (fun a => zrgs (zlwQ (zlkQ [(4294967298, 2)] a)) (fun b => f_X9_decompositiona [zR 1, zI a, zI b] (hRf 6) (fun r h => zands [zrI r, zsubH h (hRf 6)]))) = true := by decide +kernel
set_option maxRecDepth 100000 in
theorem evR_6_cartan : zrgs (zlwQ 2) (fun a => zrgs (zlwQ (zlkQ [(0, 2), (1, 2)] a)) (fun b => f_X9_cartana [zR 1, zI a, zI b] (hRf 6) (fun r h => zands [zrI r, zsubH h (hRf 6)]))) = true := by decide +kernel
set_option maxRecDepth 100000 in
theorem evR_6_tableau : zrgs (zlwQ 2) (fun a => zrgs (zlwQ (zlkQ [(0, 10), (1, 10)] a)) (fun b => zrgs (zlwQ (zlkQ [(0, 4), (1208925819614629174706176, 4)] (Nat.add (Nat.mul a 1208925819614629174706176) b))) (fun c => zrgs (zlwQ (zlkQ [(0, 11), (1, 10), (2, 10), (3, 10), (4, 10), (5, 10), (1461501637330902918203684832716283019655932542976, 10), (1461501637330902918203684832716283019655932542977, 10), (1461501637330902918203684832716283019655932542978, 10), (1461501637330902918203684832716283019655932542979, 10), (1461501637330902918203684832716283019655932542980, 10), (1461501637330902918203684832716283019655932542981, 10)] (Nat.add (Nat.mul (Nat.add (Nat.mul a 1208925819614629174706176) b) 1208925819614629174706176) c))) (fun d => f_X9_tableaua [zR 1, zI a, zI b, zI c, zI d] (hRf 6) (fun r h => zands [zrI r, zsubH h (hRf 6)]))))) = true := by decide +kernel
set_option maxRecDepth 100000 in
theorem evR_6_gram : zrgs (zlwQ 2) (fun a => zrgs (zlwQ (zlkQ [(0, 10), (1, 10)] a)) (fun b => zrgs (zlwQ (zlkQ [(0, 10), (1208925819614629174706176, 10)] (Nat.add (Nat.mul a 1208925819614629174706176) b))) (fun c => f_X9_grama [zR 1, zI a, zI b, zI c] (hRf 6) (fun r h => zands [zrI r, zsubH h (hRf 6)])))) = true := by decide +kernel
set_option maxRecDepth 100000 in
theorem evR_6_block : zrgs (zlwQ 2) (fun a => zrgs (zlwQ (zlkQ [(0, 4), (1, 4)] a)) (fun b => f_X9_blockt [zR 1, zI a, zI b] (hRf 6) (fun r h => zands [zrI r, zsubH h (hRf 6)]))) = true := by decide +kernel
set_option maxRecDepth 100000 in
theorem evR_6_value : zrgs (zlwQ 15) (fun a => zrgs (zlwQ (zlkQ [(4294967302, 11)] a)) (fun b => f_X9_valuev [zR 1, zI a, zI b] (hRf 6) (fun r h => zands [zrJ r, zsubH h (hRf 6)]))) = true := by decide +kernel
set_option maxRecDepth 100000 in
theorem evR_6_parts : zrgs (zlwQ 15) (fun a => zrgs (zlwQ (zlkQ [(4294967302, 11)] a)) (fun b => zrgs (zlwQ 0) (fun c => f_X9_partsv [zR 1, zI a, zI b, zI c] (hRf 6) (fun r h => zands [zrJ r, zsubH h (hRf 6)])))) = true := by decide +kernel
set_option maxRecDepth 100000 in
theorem evR_6_inner : zrgs (zlwQ 15) (fun a => zrgs (zlwQ (zlkQ [(4294967302, 15)] a)) (fun b => f_X9_innerv [zR 1, zI a, zI b] (hRf 6) (fun r h => zands [zrJ r, zsubH h (hRf 6)]))) = true := by decide +kernel
set_option maxRecDepth 100000 in
theorem evR_6_kind : zrgs (zlwQ 15) (fun a => zrgs (zlwQ 0) (fun b => f_X9_kindv [zR 1, zI a, zI b] (hRf 6) (fun r h => zands [zrI r, zsubH h (hRf 6)]))) = true := by decide +kernel
set_option maxRecDepth 100000 in
theorem evR_6_cut : zrgs (zlwQ 15) (fun a => zrgs (zlwQ 0) (fun b => zrgs (zlwQ (zlkQ [(5192296865788382546218275672424448, 15)] (Nat.add (Nat.mul a 1208925819614629174706176) b))) (fun c => f_X9_cutv [zR 1, zI a, zI b, zI c] (hRf 6) (fun r h => zands [zrI r, zsubH h (hRf 6)])))) = true := by decide +kernel
set_option maxRecDepth 100000 in
theorem evR_6_look : zrgs (zlwQ 6) (fun a => f_X9_lookv [zR 1, zI a] (hRf 6) (fun r h => zands [zrI r, zsubH h (hRf 6)])) = true := by decide +kernel
end
section
/-! the reference at (2, 7): by program -/
set_option maxRecDepth 100000 in
theorem evR_7_fault : zrgs zlvR (fun a => f_X9_faulta [zR 1, zI a] (hRf 7) (fun r h => zands [zrI r, zsubH h (hRf 7)])) = true := by decide +kernel
set_option maxRecDepth 100000 in
theorem evR_7_partition : zrgs (zlwQ 11) (fun a => zrgs (zlwQ (zlkQ [(4294967298, 4)] a)) (fun b => f_X9_partitiona [zR 1, zI a, zI b] (hRf 7) (fun r h => zands [zrI r, zsubH h (hRf 7)]))) = true := by decide +kernel
set_option maxRecDepth 100000 in
theorem evR_7_of : zrgs (zlwQ 2) (fun a => zrgs (zlwQ (zlkQ [(0, 6), (1, 6)] a)) (fun b => f_X9_ofa [zR 1, zI a, zI b] (hRf 7) (fun r h => zands [zrI r, zsubH h (hRf 7)]))) = true := by decide +kernel
set_option maxRecDepth 100000 in
theorem evR_7_core : zrgs (zlwQ 2) (fun a => zrgs (zlwQ 0) (fun b => f_X9_corea [zR 1, zI a, zI b] (hRf 7) (fun r h => zands [zrI r, zsubH h (hRf 7)]))) = true := by decide +kernel
set_option maxRecDepth 100000 in
theorem evR_7_hook : zrgs (zlwQ 11) (fun a => zrgs (zlwQ (zlkQ [(4294967298, 4)] a)) (fun b => zrgs (zlwQ 0) (fun c => f_X9_hooka [zR 1, zI a, zI b, zI c] (hRf 7) (fun r h => zands [zrI r, zsubH h (hRf 7)])))) = true := by decide +kernel
set_option maxRecDepth 100000 in
theorem evR_7_classOf : zrgs (zlwQ 2) (fun a => zrgs (zlwQ (zlkQ [(0, 4), (1, 4)] a)) (fun b => f_X9_classOfa [zR 1, zI a, zI b] (hRf 7) (fun r h => zands [zrI r, zsubH h (hRf 7)]))) = true := by decide +kernel
set_option maxRecDepth 100000 in
theorem evR_7_character : zrgs (zlwQ 11) (fun a => zrgs (zlwQ (zlkQ [(4294967298, 11)] a)) (fun b => f_X9_charactera [zR 1, zI a, zI b] (hRf 7) (fun r h => zands [zrI r, zsubH h (hRf 7)]))) = true := by decide +kernel
set_option maxRecDepth 100000 in
theorem evR_7_modular : zrgs (zlwQ 11) (fun a => zrgs (zlwQ (zlkQ [(4294967298, 11)] a)) (fun b => f_X9_modulara [zR 1, zI a, zI b] (hRf 7) (fun r h => zands [zrI r, zsubH h (hRf 7)]))) = true := by decide +kernel
set_option maxRecDepth 100000 in
theorem evR_7_projective : zrgs (zlwQ 11) (fun a => zrgs (zlwQ (zlkQ [(4294967298, 11)] a)) (fun b => f_X9_projectivea [zR 1, zI a, zI b] (hRf 7) (fun r h => zands [zrI r, zsubH h (hRf 7)]))) = true := by decide +kernel
set_option maxRecDepth 100000 in
theorem evR_7_decomposition : zrgs (zlwQ 11) (fun a => zrgs (zlwQ (zlkQ [(4294967298, 2)] a)) (fun b => f_X9_decompositiona [zR 1, zI a, zI b] (hRf 7) (fun r h => zands [zrI r, zsubH h (hRf 7)]))) = true := by decide +kernel
set_option maxRecDepth 100000 in
theorem evR_7_cartan : zrgs (zlwQ 2) (fun a => zrgs (zlwQ (zlkQ [(0, 2), (1, 2)] a)) (fun b => f_X9_cartana [zR 1, zI a, zI b] (hRf 7) (fun r h => zands [zrI r, zsubH h (hRf 7)]))) = true := by decide +kernel
set_option maxRecDepth 100000 in
theorem evR_7_tableau : zrgs (zlwQ 2) (fun a => zrgs (zlwQ (zlkQ [(0, 10), (1, 10)] a)) (fun b => zrgs (zlwQ (zlkQ [(0, 4), (1208925819614629174706176, 4)] (Nat.add (Nat.mul a 1208925819614629174706176) b))) (fun c => zrgs (zlwQ (zlkQ [(0, 11), (1, 10), (2, 10), (3, 10), (4, 10), (5, 10), (1461501637330902918203684832716283019655932542976, 10), (1461501637330902918203684832716283019655932542977, 10), (1461501637330902918203684832716283019655932542978, 10), (1461501637330902918203684832716283019655932542979, 10), (1461501637330902918203684832716283019655932542980, 10), (1461501637330902918203684832716283019655932542981, 10)] (Nat.add (Nat.mul (Nat.add (Nat.mul a 1208925819614629174706176) b) 1208925819614629174706176) c))) (fun d => f_X9_tableaua [zR 1, zI a, zI b, zI c, zI d] (hRf 7) (fun r h => zands [zrI r, zsubH h (hRf 7)]))))) = true := by decide +kernel
set_option maxRecDepth 100000 in
theorem evR_7_gram : zrgs (zlwQ 2) (fun a => zrgs (zlwQ (zlkQ [(0, 10), (1, 10)] a)) (fun b => zrgs (zlwQ (zlkQ [(0, 10), (1208925819614629174706176, 10)] (Nat.add (Nat.mul a 1208925819614629174706176) b))) (fun c => f_X9_grama [zR 1, zI a, zI b, zI c] (hRf 7) (fun r h => zands [zrI r, zsubH h (hRf 7)])))) = true := by decide +kernel
set_option maxRecDepth 100000 in
theorem evR_7_block : zrgs (zlwQ 2) (fun a => zrgs (zlwQ (zlkQ [(0, 4), (1, 4)] a)) (fun b => f_X9_blockt [zR 1, zI a, zI b] (hRf 7) (fun r h => zands [zrI r, zsubH h (hRf 7)]))) = true := by decide +kernel
set_option maxRecDepth 100000 in
theorem evR_7_value : zrgs (zlwQ 15) (fun a => zrgs (zlwQ (zlkQ [(4294967302, 11)] a)) (fun b => f_X9_valuev [zR 1, zI a, zI b] (hRf 7) (fun r h => zands [zrJ r, zsubH h (hRf 7)]))) = true := by decide +kernel
set_option maxRecDepth 100000 in
theorem evR_7_parts : zrgs (zlwQ 15) (fun a => zrgs (zlwQ (zlkQ [(4294967302, 11)] a)) (fun b => zrgs (zlwQ 0) (fun c => f_X9_partsv [zR 1, zI a, zI b, zI c] (hRf 7) (fun r h => zands [zrJ r, zsubH h (hRf 7)])))) = true := by decide +kernel
set_option maxRecDepth 100000 in
theorem evR_7_inner : zrgs (zlwQ 15) (fun a => zrgs (zlwQ (zlkQ [(4294967302, 15)] a)) (fun b => f_X9_innerv [zR 1, zI a, zI b] (hRf 7) (fun r h => zands [zrJ r, zsubH h (hRf 7)]))) = true := by decide +kernel
set_option maxRecDepth 100000 in
theorem evR_7_kind : zrgs (zlwQ 15) (fun a => zrgs (zlwQ 0) (fun b => f_X9_kindv [zR 1, zI a, zI b] (hRf 7) (fun r h => zands [zrI r, zsubH h (hRf 7)]))) = true := by decide +kernel
set_option maxRecDepth 100000 in
theorem evR_7_cut : zrgs (zlwQ 15) (fun a => zrgs (zlwQ 0) (fun b => zrgs (zlwQ (zlkQ [(5192296865788382546218275672424448, 15)] (Nat.add (Nat.mul a 1208925819614629174706176) b))) (fun c => f_X9_cutv [zR 1, zI a, zI b, zI c] (hRf 7) (fun r h => zands [zrI r, zsubH h (hRf 7)])))) = true := by decide +kernel
set_option maxRecDepth 100000 in
theorem evR_7_look : zrgs (zlwQ 6) (fun a => f_X9_lookv [zR 1, zI a] (hRf 7) (fun r h => zands [zrI r, zsubH h (hRf 7)])) = true := by decide +kernel
end
section
/-! the reference at (3, 2): by program -/
set_option maxRecDepth 100000 in
theorem evR_8_fault : zrgs zlvR (fun a => f_X9_faulta [zR 1, zI a] (hRf 8) (fun r h => zands [zrI r, zsubH h (hRf 8)])) = true := by decide +kernel
set_option maxRecDepth 100000 in
theorem evR_8_partition : zrgs (zlwQ 12) (fun a => zrgs (zlwQ (zlkQ [(4294967299, 4)] a)) (fun b => f_X9_partitiona [zR 1, zI a, zI b] (hRf 8) (fun r h => zands [zrI r, zsubH h (hRf 8)]))) = true := by decide +kernel
set_option maxRecDepth 100000 in
theorem evR_8_of : zrgs (zlwQ 2) (fun a => zrgs (zlwQ (zlkQ [(0, 6), (1, 6), (2, 6)] a)) (fun b => f_X9_ofa [zR 1, zI a, zI b] (hRf 8) (fun r h => zands [zrI r, zsubH h (hRf 8)]))) = true := by decide +kernel
set_option maxRecDepth 100000 in
theorem evR_8_core : zrgs (zlwQ 2) (fun a => zrgs (zlwQ 0) (fun b => f_X9_corea [zR 1, zI a, zI b] (hRf 8) (fun r h => zands [zrI r, zsubH h (hRf 8)]))) = true := by decide +kernel
set_option maxRecDepth 100000 in
theorem evR_8_hook : zrgs (zlwQ 4) (fun a => zrgs (zlwQ (zlkQ [(0, 4), (1, 4), (2, 4)] a)) (fun b => zrgs (zlwQ 0) (fun c => f_X9_hooka [zR 1, zI a, zI b, zI c] (hRf 8) (fun r h => zands [zrI r, zsubH h (hRf 8)])))) = true := by decide +kernel
set_option maxRecDepth 100000 in
theorem evR_8_classOf : zrgs (zlwQ 2) (fun a => zrgs (zlwQ (zlkQ [(0, 4), (1, 4), (2, 4)] a)) (fun b => f_X9_classOfa [zR 1, zI a, zI b] (hRf 8) (fun r h => zands [zrI r, zsubH h (hRf 8)]))) = true := by decide +kernel
set_option maxRecDepth 100000 in
theorem evR_8_character : zrgs (zlwQ 12) (fun a => zrgs (zlwQ (zlkQ [(4294967299, 12)] a)) (fun b => f_X9_charactera [zR 1, zI a, zI b] (hRf 8) (fun r h => zands [zrI r, zsubH h (hRf 8)]))) = true := by decide +kernel
set_option maxRecDepth 100000 in
theorem evR_8_modular : zrgs (zlwQ 12) (fun a => zrgs (zlwQ (zlkQ [(4294967299, 12)] a)) (fun b => f_X9_modulara [zR 1, zI a, zI b] (hRf 8) (fun r h => zands [zrI r, zsubH h (hRf 8)]))) = true := by decide +kernel
set_option maxRecDepth 100000 in
theorem evR_8_projective : zrgs (zlwQ 12) (fun a => zrgs (zlwQ (zlkQ [(4294967299, 12)] a)) (fun b => f_X9_projectivea [zR 1, zI a, zI b] (hRf 8) (fun r h => zands [zrI r, zsubH h (hRf 8)]))) = true := by decide +kernel
set_option maxRecDepth 100000 in
theorem evR_8_decomposition : zrgs (zlwQ 12) (fun a => zrgs (zlwQ (zlkQ [(4294967299, 2)] a)) (fun b => f_X9_decompositiona [zR 1, zI a, zI b] (hRf 8) (fun r h => zands [zrI r, zsubH h (hRf 8)]))) = true := by decide +kernel
set_option maxRecDepth 100000 in
theorem evR_8_cartan : zrgs (zlwQ 2) (fun a => zrgs (zlwQ (zlkQ [(0, 2), (1, 2)] a)) (fun b => f_X9_cartana [zR 1, zI a, zI b] (hRf 8) (fun r h => zands [zrI r, zsubH h (hRf 8)]))) = true := by decide +kernel
set_option maxRecDepth 100000 in
theorem evR_8_tableau : zrgs (zlwQ 2) (fun a => zrgs (zlwQ (zlkQ [(0, 10), (1, 11), (2, 10)] a)) (fun b => zrgs (zlwQ (zlkQ [(0, 4), (1208925819614633469673474, 4), (2417851639229258349412352, 4)] (Nat.add (Nat.mul a 1208925819614629174706176) b))) (fun c => zrgs (zlwQ (zlkQ [(0, 12), (1, 10), (2, 10), (3, 10), (4, 10), (5, 10), (1461501637330908110500545785395550779410611175424, 11), (1461501637330908110500545785395550779410611175425, 10), (1461501637330908110500545785395550779410611175426, 10), (1461501637330908110500545785395550779410611175427, 10), (1461501637330908110500545785395550779410611175428, 10), (1461501637330908110500545785395550779410611175429, 10), (2923003274661805836407369665432566039311865085952, 10), (2923003274661805836407369665432566039311865085953, 10), (2923003274661805836407369665432566039311865085954, 10), (2923003274661805836407369665432566039311865085955, 10), (2923003274661805836407369665432566039311865085956, 10), (2923003274661805836407369665432566039311865085957, 10)] (Nat.add (Nat.mul (Nat.add (Nat.mul a 1208925819614629174706176) b) 1208925819614629174706176) c))) (fun d => f_X9_tableaua [zR 1, zI a, zI b, zI c, zI d] (hRf 8) (fun r h => zands [zrI r, zsubH h (hRf 8)]))))) = true := by decide +kernel
set_option maxRecDepth 100000 in
theorem evR_8_gram : zrgs (zlwQ 2) (fun a => zrgs (zlwQ (zlkQ [(0, 10), (1, 11), (2, 10)] a)) (fun b => zrgs (zlwQ (zlkQ [(0, 10), (1208925819614633469673474, 11), (2417851639229258349412352, 10)] (Nat.add (Nat.mul a 1208925819614629174706176) b))) (fun c => f_X9_grama [zR 1, zI a, zI b, zI c] (hRf 8) (fun r h => zands [zrI r, zsubH h (hRf 8)])))) = true := by decide +kernel
set_option maxRecDepth 100000 in
theorem evR_8_block : zrgs (zlwQ 2) (fun a => zrgs (zlwQ (zlkQ [(0, 4), (1, 4)] a)) (fun b => f_X9_blockt [zR 1, zI a, zI b] (hRf 8) (fun r h => zands [zrI r, zsubH h (hRf 8)]))) = true := by decide +kernel
set_option maxRecDepth 100000 in
theorem evR_8_value : zrgs (zlwQ 15) (fun a => zrgs (zlwQ (zlkQ [(4294967302, 12)] a)) (fun b => f_X9_valuev [zR 1, zI a, zI b] (hRf 8) (fun r h => zands [zrJ r, zsubH h (hRf 8)]))) = true := by decide +kernel
set_option maxRecDepth 100000 in
theorem evR_8_parts : zrgs (zlwQ 15) (fun a => zrgs (zlwQ (zlkQ [(4294967302, 12)] a)) (fun b => zrgs (zlwQ 0) (fun c => f_X9_partsv [zR 1, zI a, zI b, zI c] (hRf 8) (fun r h => zands [zrJ r, zsubH h (hRf 8)])))) = true := by decide +kernel
set_option maxRecDepth 100000 in
theorem evR_8_inner : zrgs (zlwQ 15) (fun a => zrgs (zlwQ (zlkQ [(4294967302, 15)] a)) (fun b => f_X9_innerv [zR 1, zI a, zI b] (hRf 8) (fun r h => zands [zrJ r, zsubH h (hRf 8)]))) = true := by decide +kernel
set_option maxRecDepth 100000 in
theorem evR_8_kind : zrgs (zlwQ 15) (fun a => zrgs (zlwQ 0) (fun b => f_X9_kindv [zR 1, zI a, zI b] (hRf 8) (fun r h => zands [zrI r, zsubH h (hRf 8)]))) = true := by decide +kernel
set_option maxRecDepth 100000 in
theorem evR_8_cut : zrgs (zlwQ 15) (fun a => zrgs (zlwQ 0) (fun b => zrgs (zlwQ (zlkQ [(5192296865788382546218275672424448, 15)] (Nat.add (Nat.mul a 1208925819614629174706176) b))) (fun c => f_X9_cutv [zR 1, zI a, zI b, zI c] (hRf 8) (fun r h => zands [zrI r, zsubH h (hRf 8)])))) = true := by decide +kernel
set_option maxRecDepth 100000 in
theorem evR_8_look : zrgs (zlwQ 6) (fun a => f_X9_lookv [zR 1, zI a] (hRf 8) (fun r h => zands [zrI r, zsubH h (hRf 8)])) = true := by decide +kernel
end
section
/-! the reference at (3, 3): by program -/
set_option maxRecDepth 100000 in
theorem evR_9_fault : zrgs zlvR (fun a => f_X9_faulta [zR 1, zI a] (hRf 9) (fun r h => zands [zrI r, zsubH h (hRf 9)])) = true := by decide +kernel
set_option maxRecDepth 100000 in
theorem evR_9_partition : zrgs (zlwQ 12) (fun a => zrgs (zlwQ (zlkQ [(4294967299, 4)] a)) (fun b => f_X9_partitiona [zR 1, zI a, zI b] (hRf 9) (fun r h => zands [zrI r, zsubH h (hRf 9)]))) = true := by decide +kernel
set_option maxRecDepth 100000 in
theorem evR_9_of : zrgs (zlwQ 2) (fun a => zrgs (zlwQ (zlkQ [(0, 6), (1, 6), (2, 6)] a)) (fun b => f_X9_ofa [zR 1, zI a, zI b] (hRf 9) (fun r h => zands [zrI r, zsubH h (hRf 9)]))) = true := by decide +kernel
set_option maxRecDepth 100000 in
theorem evR_9_core : zrgs (zlwQ 2) (fun a => zrgs (zlwQ 0) (fun b => f_X9_corea [zR 1, zI a, zI b] (hRf 9) (fun r h => zands [zrI r, zsubH h (hRf 9)]))) = true := by decide +kernel
set_option maxRecDepth 100000 in
theorem evR_9_hook : zrgs (zlwQ 4) (fun a => zrgs (zlwQ (zlkQ [(0, 4), (1, 4), (2, 4)] a)) (fun b => zrgs (zlwQ 0) (fun c => f_X9_hooka [zR 1, zI a, zI b, zI c] (hRf 9) (fun r h => zands [zrI r, zsubH h (hRf 9)])))) = true := by decide +kernel
set_option maxRecDepth 100000 in
theorem evR_9_classOf : zrgs (zlwQ 2) (fun a => zrgs (zlwQ (zlkQ [(0, 4), (1, 4), (2, 4)] a)) (fun b => f_X9_classOfa [zR 1, zI a, zI b] (hRf 9) (fun r h => zands [zrI r, zsubH h (hRf 9)]))) = true := by decide +kernel
set_option maxRecDepth 100000 in
theorem evR_9_character : zrgs (zlwQ 12) (fun a => zrgs (zlwQ (zlkQ [(4294967299, 12)] a)) (fun b => f_X9_charactera [zR 1, zI a, zI b] (hRf 9) (fun r h => zands [zrI r, zsubH h (hRf 9)]))) = true := by decide +kernel
set_option maxRecDepth 100000 in
theorem evR_9_modular : zrgs (zlwQ 12) (fun a => zrgs (zlwQ (zlkQ [(4294967299, 12)] a)) (fun b => f_X9_modulara [zR 1, zI a, zI b] (hRf 9) (fun r h => zands [zrI r, zsubH h (hRf 9)]))) = true := by decide +kernel
set_option maxRecDepth 100000 in
theorem evR_9_projective : zrgs (zlwQ 12) (fun a => zrgs (zlwQ (zlkQ [(4294967299, 12)] a)) (fun b => f_X9_projectivea [zR 1, zI a, zI b] (hRf 9) (fun r h => zands [zrI r, zsubH h (hRf 9)]))) = true := by decide +kernel
set_option maxRecDepth 100000 in
theorem evR_9_decomposition : zrgs (zlwQ 12) (fun a => zrgs (zlwQ (zlkQ [(4294967299, 2)] a)) (fun b => f_X9_decompositiona [zR 1, zI a, zI b] (hRf 9) (fun r h => zands [zrI r, zsubH h (hRf 9)]))) = true := by decide +kernel
set_option maxRecDepth 100000 in
theorem evR_9_cartan : zrgs (zlwQ 2) (fun a => zrgs (zlwQ (zlkQ [(0, 2), (1, 2)] a)) (fun b => f_X9_cartana [zR 1, zI a, zI b] (hRf 9) (fun r h => zands [zrI r, zsubH h (hRf 9)]))) = true := by decide +kernel
set_option maxRecDepth 100000 in
theorem evR_9_tableau : zrgs (zlwQ 2) (fun a => zrgs (zlwQ (zlkQ [(0, 10), (1, 11), (2, 10)] a)) (fun b => zrgs (zlwQ (zlkQ [(0, 4), (1208925819614633469673474, 4), (2417851639229258349412352, 4)] (Nat.add (Nat.mul a 1208925819614629174706176) b))) (fun c => zrgs (zlwQ (zlkQ [(0, 12), (1, 10), (2, 10), (3, 10), (4, 10), (5, 10), (1461501637330908110500545785395550779410611175424, 11), (1461501637330908110500545785395550779410611175425, 10), (1461501637330908110500545785395550779410611175426, 10), (1461501637330908110500545785395550779410611175427, 10), (1461501637330908110500545785395550779410611175428, 10), (1461501637330908110500545785395550779410611175429, 10), (2923003274661805836407369665432566039311865085952, 10), (2923003274661805836407369665432566039311865085953, 10), (2923003274661805836407369665432566039311865085954, 10), (2923003274661805836407369665432566039311865085955, 10), (2923003274661805836407369665432566039311865085956, 10), (2923003274661805836407369665432566039311865085957, 10)] (Nat.add (Nat.mul (Nat.add (Nat.mul a 1208925819614629174706176) b) 1208925819614629174706176) c))) (fun d => f_X9_tableaua [zR 1, zI a, zI b, zI c, zI d] (hRf 9) (fun r h => zands [zrI r, zsubH h (hRf 9)]))))) = true := by decide +kernel
set_option maxRecDepth 100000 in
theorem evR_9_gram : zrgs (zlwQ 2) (fun a => zrgs (zlwQ (zlkQ [(0, 10), (1, 11), (2, 10)] a)) (fun b => zrgs (zlwQ (zlkQ [(0, 10), (1208925819614633469673474, 11), (2417851639229258349412352, 10)] (Nat.add (Nat.mul a 1208925819614629174706176) b))) (fun c => f_X9_grama [zR 1, zI a, zI b, zI c] (hRf 9) (fun r h => zands [zrI r, zsubH h (hRf 9)])))) = true := by decide +kernel
set_option maxRecDepth 100000 in
theorem evR_9_block : zrgs (zlwQ 1) (fun a => zrgs (zlwQ (zlkQ [(0, 4)] a)) (fun b => f_X9_blockt [zR 1, zI a, zI b] (hRf 9) (fun r h => zands [zrI r, zsubH h (hRf 9)]))) = true := by decide +kernel
set_option maxRecDepth 100000 in
theorem evR_9_value : zrgs (zlwQ 15) (fun a => zrgs (zlwQ (zlkQ [(4294967302, 12)] a)) (fun b => f_X9_valuev [zR 1, zI a, zI b] (hRf 9) (fun r h => zands [zrJ r, zsubH h (hRf 9)]))) = true := by decide +kernel
set_option maxRecDepth 100000 in
theorem evR_9_parts : zrgs (zlwQ 15) (fun a => zrgs (zlwQ (zlkQ [(4294967302, 12)] a)) (fun b => zrgs (zlwQ 0) (fun c => f_X9_partsv [zR 1, zI a, zI b, zI c] (hRf 9) (fun r h => zands [zrJ r, zsubH h (hRf 9)])))) = true := by decide +kernel
set_option maxRecDepth 100000 in
theorem evR_9_inner : zrgs (zlwQ 15) (fun a => zrgs (zlwQ (zlkQ [(4294967302, 15)] a)) (fun b => f_X9_innerv [zR 1, zI a, zI b] (hRf 9) (fun r h => zands [zrJ r, zsubH h (hRf 9)]))) = true := by decide +kernel
set_option maxRecDepth 100000 in
theorem evR_9_kind : zrgs (zlwQ 15) (fun a => zrgs (zlwQ 0) (fun b => f_X9_kindv [zR 1, zI a, zI b] (hRf 9) (fun r h => zands [zrI r, zsubH h (hRf 9)]))) = true := by decide +kernel
set_option maxRecDepth 100000 in
theorem evR_9_cut : zrgs (zlwQ 15) (fun a => zrgs (zlwQ 0) (fun b => zrgs (zlwQ (zlkQ [(5192296865788382546218275672424448, 15)] (Nat.add (Nat.mul a 1208925819614629174706176) b))) (fun c => f_X9_cutv [zR 1, zI a, zI b, zI c] (hRf 9) (fun r h => zands [zrI r, zsubH h (hRf 9)])))) = true := by decide +kernel
set_option maxRecDepth 100000 in
theorem evR_9_look : zrgs (zlwQ 6) (fun a => f_X9_lookv [zR 1, zI a] (hRf 9) (fun r h => zands [zrI r, zsubH h (hRf 9)])) = true := by decide +kernel
end
