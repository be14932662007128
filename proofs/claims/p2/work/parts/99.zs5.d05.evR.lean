/-! the reference at (2, 3): by program -/
set_option maxRecDepth 100000 in
theorem evR_5_fault : zrgs zlvR (fun a => f_X9_faulta [zR 1, zI a] (hRf 5) (fun r h => zands [zrI r, zsubH h (hRf 5)])) = true := by decide +kernel
set_option maxRecDepth 100000 in
theorem evR_5_partition : zrgs (zlwQ 11) (fun a => zrgs (zlwQ (zlkQ [(4294967298, 4)] a)) (fun b => f_X9_partitiona [zR 1, zI a, zI b] (hRf 5) (fun r h => zands [zrI r, zsubH h (hRf 5)]))) = true := by decide +kernel
set_option maxRecDepth 100000 in
theorem evR_5_of : zrgs (zlwQ 2) (fun a => zrgs (zlwQ (zlkQ [(0, 6), (1, 6)] a)) (fun b => f_X9_ofa [zR 1, zI a, zI b] (hRf 5) (fun r h => zands [zrI r, zsubH h (hRf 5)]))) = true := by decide +kernel
set_option maxRecDepth 100000 in
theorem evR_5_core : zrgs (zlwQ 2) (fun a => zrgs (zlwQ 0) (fun b => f_X9_corea [zR 1, zI a, zI b] (hRf 5) (fun r h => zands [zrI r, zsubH h (hRf 5)]))) = true := by decide +kernel
set_option maxRecDepth 100000 in
theorem evR_5_hook : zrgs (zlwQ 11) (fun a => zrgs (zlwQ (zlkQ [(4294967298, 4)] a)) (fun b => zrgs (zlwQ 0) (fun c => f_X9_hooka [zR 1, zI a, zI b, zI c] (hRf 5) (fun r h => zands [zrI r, zsubH h (hRf 5)])))) = true := by decide +kernel
set_option maxRecDepth 100000 in
theorem evR_5_classOf : zrgs (zlwQ 2) (fun a => zrgs (zlwQ (zlkQ [(0, 4), (1, 4)] a)) (fun b => f_X9_classOfa [zR 1, zI a, zI b] (hRf 5) (fun r h => zands [zrI r, zsubH h (hRf 5)]))) = true := by decide +kernel
set_option maxRecDepth 100000 in
theorem evR_5_character : zrgs (zlwQ 11) (fun a => zrgs (zlwQ (zlkQ [(4294967298, 11)] a)) (fun b => f_X9_charactera [zR 1, zI a, zI b] (hRf 5) (fun r h => zands [zrI r, zsubH h (hRf 5)]))) = true := by decide +kernel
set_option maxRecDepth 100000 in
theorem evR_5_modular : zrgs (zlwQ 11) (fun a => zrgs (zlwQ (zlkQ [(4294967298, 11)] a)) (fun b => f_X9_modulara [zR 1, zI a, zI b] (hRf 5) (fun r h => zands [zrI r, zsubH h (hRf 5)]))) = true := by decide +kernel
set_option maxRecDepth 100000 in
theorem evR_5_projective : zrgs (zlwQ 11) (fun a => zrgs (zlwQ (zlkQ [(4294967298, 11)] a)) (fun b => f_X9_projectivea [zR 1, zI a, zI b] (hRf 5) (fun r h => zands [zrI r, zsubH h (hRf 5)]))) = true := by decide +kernel
set_option maxRecDepth 100000 in
theorem evR_5_decomposition : zrgs (zlwQ 11) (fun a => zrgs (zlwQ (zlkQ [(4294967298, 2)] a)) (fun b => f_X9_decompositiona [zR 1, zI a, zI b] (hRf 5) (fun r h => zands [zrI r, zsubH h (hRf 5)]))) = true := by decide +kernel
set_option maxRecDepth 100000 in
theorem evR_5_cartan : zrgs (zlwQ 2) (fun a => zrgs (zlwQ (zlkQ [(0, 2), (1, 2)] a)) (fun b => f_X9_cartana [zR 1, zI a, zI b] (hRf 5) (fun r h => zands [zrI r, zsubH h (hRf 5)]))) = true := by decide +kernel
set_option maxRecDepth 100000 in
theorem evR_5_tableau : zrgs (zlwQ 2) (fun a => zrgs (zlwQ (zlkQ [(0, 10), (1, 10)] a)) (fun b => zrgs (zlwQ (zlkQ [(0, 4), (1208925819614629174706176, 4)] (Nat.add (Nat.mul a 1208925819614629174706176) b))) (fun c => zrgs (zlwQ (zlkQ [(0, 11), (1, 10), (2, 10), (3, 10), (4, 10), (5, 10), (1461501637330902918203684832716283019655932542976, 10), (1461501637330902918203684832716283019655932542977, 10), (1461501637330902918203684832716283019655932542978, 10), (1461501637330902918203684832716283019655932542979, 10), (1461501637330902918203684832716283019655932542980, 10), (1461501637330902918203684832716283019655932542981, 10)] (Nat.add (Nat.mul (Nat.add (Nat.mul a 1208925819614629174706176) b) 1208925819614629174706176) c))) (fun d => f_X9_tableaua [zR 1, zI a, zI b, zI c, zI d] (hRf 5) (fun r h => zands [zrI r, zsubH h (hRf 5)]))))) = true := by decide +kernel
set_option maxRecDepth 100000 in
theorem evR_5_gram : zrgs (zlwQ 2) (fun a => zrgs (zlwQ (zlkQ [(0, 10), (1, 10)] a)) (fun b => zrgs (zlwQ (zlkQ [(0, 10), (1208925819614629174706176, 10)] (Nat.add (Nat.mul a 1208925819614629174706176) b))) (fun c => f_X9_grama [zR 1, zI a, zI b, zI c] (hRf 5) (fun r h => zands [zrI r, zsubH h (hRf 5)])))) = true := by decide +kernel
set_option maxRecDepth 100000 in
theorem evR_5_block : zrgs (zlwQ 2) (fun a => zrgs (zlwQ (zlkQ [(0, 4), (1, 4)] a)) (fun b => f_X9_blockt [zR 1, zI a, zI b] (hRf 5) (fun r h => zands [zrI r, zsubH h (hRf 5)]))) = true := by decide +kernel
set_option maxRecDepth 100000 in
theorem evR_5_value : zrgs (zlwQ 15) (fun a => zrgs (zlwQ (zlkQ [(4294967302, 11)] a)) (fun b => f_X9_valuev [zR 1, zI a, zI b] (hRf 5) (fun r h => zands [zrJ r, zsubH h (hRf 5)]))) = true := by decide +kernel
set_option maxRecDepth 100000 in
theorem evR_5_parts : zrgs (zlwQ 15) (fun a => zrgs (zlwQ (zlkQ [(4294967302, 11)] a)) (fun b => zrgs (zlwQ 0) (fun c => f_X9_partsv [zR 1, zI a, zI b, zI c] (hRf 5) (fun r h => zands [zrJ r, zsubH h (hRf 5)])))) = true := by decide +kernel
set_option maxRecDepth 100000 in
theorem evR_5_inner : zrgs (zlwQ 15) (fun a => zrgs (zlwQ (zlkQ [(4294967302, 15)] a)) (fun b => f_X9_innerv [zR 1, zI a, zI b] (hRf 5) (fun r h => zands [zrJ r, zsubH h (hRf 5)]))) = true := by decide +kernel
set_option maxRecDepth 100000 in
theorem evR_5_kind : zrgs (zlwQ 15) (fun a => zrgs (zlwQ 0) (fun b => f_X9_kindv [zR 1, zI a, zI b] (hRf 5) (fun r h => zands [zrI r, zsubH h (hRf 5)]))) = true := by decide +kernel
set_option maxRecDepth 100000 in
theorem evR_5_cut : zrgs (zlwQ 15) (fun a => zrgs (zlwQ 0) (fun b => zrgs (zlwQ (zlkQ [(5192296865788382546218275672424448, 15)] (Nat.add (Nat.mul a 1208925819614629174706176) b))) (fun c => f_X9_cutv [zR 1, zI a, zI b, zI c] (hRf 5) (fun r h => zands [zrI r, zsubH h (hRf 5)])))) = true := by decide +kernel
set_option maxRecDepth 100000 in
theorem evR_5_look : zrgs (zlwQ 6) (fun a => f_X9_lookv [zR 1, zI a] (hRf 5) (fun r h => zands [zrI r, zsubH h (hRf 5)])) = true := by decide +kernel
