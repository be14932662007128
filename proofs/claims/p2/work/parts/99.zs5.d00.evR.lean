/-! the reference at (1, 2): by program -/
set_option maxRecDepth 100000 in
theorem evR_0_fault : zrgs zlvR (fun a => f_X9_faulta [zR 1, zI a] (hRf 0) (fun r h => zands [zrI r, zsubH h (hRf 0)])) = true := by decide +kernel
set_option maxRecDepth 100000 in
theorem evR_0_partition : zrgs (zlwQ 1) (fun a => zrgs (zlwQ (zlkQ [(0, 4)] a)) (fun b => f_X9_partitiona [zR 1, zI a, zI b] (hRf 0) (fun r h => zands [zrI r, zsubH h (hRf 0)]))) = true := by decide +kernel
set_option maxRecDepth 100000 in
theorem evR_0_of : zrgs (zlwQ 1) (fun a => zrgs (zlwQ (zlkQ [(0, 6)] a)) (fun b => f_X9_ofa [zR 1, zI a, zI b] (hRf 0) (fun r h => zands [zrI r, zsubH h (hRf 0)]))) = true := by decide +kernel
set_option maxRecDepth 100000 in
theorem evR_0_core : zrgs (zlwQ 1) (fun a => zrgs (zlwQ 0) (fun b => f_X9_corea [zR 1, zI a, zI b] (hRf 0) (fun r h => zands [zrI r, zsubH h (hRf 0)]))) = true := by decide +kernel
set_option maxRecDepth 100000 in
theorem evR_0_hook : zrgs (zlwQ 10) (fun a => zrgs (zlwQ (zlkQ [(0, 4)] a)) (fun b => zrgs (zlwQ 0) (fun c => f_X9_hooka [zR 1, zI a, zI b, zI c] (hRf 0) (fun r h => zands [zrI r, zsubH h (hRf 0)])))) = true := by decide +kernel
set_option maxRecDepth 100000 in
theorem evR_0_classOf : zrgs (zlwQ 1) (fun a => zrgs (zlwQ (zlkQ [(0, 4)] a)) (fun b => f_X9_classOfa [zR 1, zI a, zI b] (hRf 0) (fun r h => zands [zrI r, zsubH h (hRf 0)]))) = true := by decide +kernel
set_option maxRecDepth 100000 in
theorem evR_0_character : zrgs (zlwQ 1) (fun a => zrgs (zlwQ (zlkQ [(0, 1)] a)) (fun b => f_X9_charactera [zR 1, zI a, zI b] (hRf 0) (fun r h => zands [zrI r, zsubH h (hRf 0)]))) = true := by decide +kernel
set_option maxRecDepth 100000 in
theorem evR_0_modular : zrgs (zlwQ 1) (fun a => zrgs (zlwQ (zlkQ [(0, 1)] a)) (fun b => f_X9_modulara [zR 1, zI a, zI b] (hRf 0) (fun r h => zands [zrI r, zsubH h (hRf 0)]))) = true := by decide +kernel
set_option maxRecDepth 100000 in
theorem evR_0_projective : zrgs (zlwQ 1) (fun a => zrgs (zlwQ (zlkQ [(0, 1)] a)) (fun b => f_X9_projectivea [zR 1, zI a, zI b] (hRf 0) (fun r h => zands [zrI r, zsubH h (hRf 0)]))) = true := by decide +kernel
set_option maxRecDepth 100000 in
theorem evR_0_decomposition : zrgs (zlwQ 1) (fun a => zrgs (zlwQ (zlkQ [(0, 1)] a)) (fun b => f_X9_decompositiona [zR 1, zI a, zI b] (hRf 0) (fun r h => zands [zrI r, zsubH h (hRf 0)]))) = true := by decide +kernel
set_option maxRecDepth 100000 in
theorem evR_0_cartan : zrgs (zlwQ 1) (fun a => zrgs (zlwQ (zlkQ [(0, 1)] a)) (fun b => f_X9_cartana [zR 1, zI a, zI b] (hRf 0) (fun r h => zands [zrI r, zsubH h (hRf 0)]))) = true := by decide +kernel
set_option maxRecDepth 100000 in
theorem evR_0_tableau : zrgs (zlwQ 10) (fun a => zrgs (zlwQ (zlkQ [(0, 10)] a)) (fun b => zrgs (zlwQ (zlkQ [(0, 4)] (Nat.add (Nat.mul a 1208925819614629174706176) b))) (fun c => zrgs (zlwQ (zlkQ [(0, 10), (1, 10), (2, 10), (3, 10), (4, 10), (5, 10)] (Nat.add (Nat.mul (Nat.add (Nat.mul a 1208925819614629174706176) b) 1208925819614629174706176) c))) (fun d => f_X9_tableaua [zR 1, zI a, zI b, zI c, zI d] (hRf 0) (fun r h => zands [zrI r, zsubH h (hRf 0)]))))) = true := by decide +kernel
set_option maxRecDepth 100000 in
theorem evR_0_gram : zrgs (zlwQ 10) (fun a => zrgs (zlwQ (zlkQ [(0, 10)] a)) (fun b => zrgs (zlwQ (zlkQ [(0, 10)] (Nat.add (Nat.mul a 1208925819614629174706176) b))) (fun c => f_X9_grama [zR 1, zI a, zI b, zI c] (hRf 0) (fun r h => zands [zrI r, zsubH h (hRf 0)])))) = true := by decide +kernel
set_option maxRecDepth 100000 in
theorem evR_0_block : zrgs (zlwQ 1) (fun a => zrgs (zlwQ (zlkQ [(0, 4)] a)) (fun b => f_X9_blockt [zR 1, zI a, zI b] (hRf 0) (fun r h => zands [zrI r, zsubH h (hRf 0)]))) = true := by decide +kernel
set_option maxRecDepth 100000 in
theorem evR_0_value : zrgs (zlwQ 15) (fun a => zrgs (zlwQ (zlkQ [(4294967302, 1)] a)) (fun b => f_X9_valuev [zR 1, zI a, zI b] (hRf 0) (fun r h => zands [zrJ r, zsubH h (hRf 0)]))) = true := by decide +kernel
set_option maxRecDepth 100000 in
theorem evR_0_parts : zrgs (zlwQ 15) (fun a => zrgs (zlwQ (zlkQ [(4294967302, 1)] a)) (fun b => zrgs (zlwQ 0) (fun c => f_X9_partsv [zR 1, zI a, zI b, zI c] (hRf 0) (fun r h => zands [zrJ r, zsubH h (hRf 0)])))) = true := by decide +kernel
set_option maxRecDepth 100000 in
theorem evR_0_inner : zrgs (zlwQ 15) (fun a => zrgs (zlwQ (zlkQ [(4294967302, 15)] a)) (fun b => f_X9_innerv [zR 1, zI a, zI b] (hRf 0) (fun r h => zands [zrJ r, zsubH h (hRf 0)]))) = true := by decide +kernel
set_option maxRecDepth 100000 in
theorem evR_0_kind : zrgs (zlwQ 15) (fun a => zrgs (zlwQ 0) (fun b => f_X9_kindv [zR 1, zI a, zI b] (hRf 0) (fun r h => zands [zrI r, zsubH h (hRf 0)]))) = true := by decide +kernel
set_option maxRecDepth 100000 in
theorem evR_0_cut : zrgs (zlwQ 15) (fun a => zrgs (zlwQ 0) (fun b => zrgs (zlwQ (zlkQ [(5192296865788382546218275672424448, 15)] (Nat.add (Nat.mul a 1208925819614629174706176) b))) (fun c => f_X9_cutv [zR 1, zI a, zI b, zI c] (hRf 0) (fun r h => zands [zrI r, zsubH h (hRf 0)])))) = true := by decide +kernel
set_option maxRecDepth 100000 in
theorem evR_0_look : zrgs (zlwQ 6) (fun a => f_X9_lookv [zR 1, zI a] (hRf 0) (fun r h => zands [zrI r, zsubH h (hRf 0)])) = true := by decide +kernel
