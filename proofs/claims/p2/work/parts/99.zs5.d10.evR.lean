/-! the reference at (3, 5): by program -/
set_option maxRecDepth 100000 in
theorem evR_10_fault : zrgs zlvR (fun a => f_X9_faulta [zR 1, zI a] (hRf 10) (fun r h => zands [zrI r, zsubH h (hRf 10)])) = true := by decide +kernel
set_option maxRecDepth 100000 in
theorem evR_10_partition : zrgs (zlwQ 12) (fun a => zrgs (zlwQ (zlkQ [(4294967299, 4)] a)) (fun b => f_X9_partitiona [zR 1, zI a, zI b] (hRf 10) (fun r h => zands [zrI r, zsubH h (hRf 10)]))) = true := by decide +kernel
set_option maxRecDepth 100000 in
theorem evR_10_of : zrgs (zlwQ 2) (fun a => zrgs (zlwQ (zlkQ [(0, 6), (1, 6), (2, 6)] a)) (fun b => f_X9_ofa [zR 1, zI a, zI b] (hRf 10) (fun r h => zands [zrI r, zsubH h (hRf 10)]))) = true := by decide +kernel
set_option maxRecDepth 100000 in
theorem evR_10_core : zrgs (zlwQ 2) (fun a => zrgs (zlwQ 0) (fun b => f_X9_corea [zR 1, zI a, zI b] (hRf 10) (fun r h => zands [zrI r, zsubH h (hRf 10)]))) = true := by decide +kernel
set_option maxRecDepth 100000 in
theorem evR_10_hook : zrgs (zlwQ 4) (fun a => zrgs (zlwQ (zlkQ [(0, 4), (1, 4), (2, 4)] a)) (fun b => zrgs (zlwQ 0) (fun c => f_X9_hooka [zR 1, zI a, zI b, zI c] (hRf 10) (fun r h => zands [zrI r, zsubH h (hRf 10)])))) = true := by decide +kernel
set_option maxRecDepth 100000 in
theorem evR_10_classOf : zrgs (zlwQ 2) (fun a => zrgs (zlwQ (zlkQ [(0, 4), (1, 4), (2, 4)] a)) (fun b => f_X9_classOfa [zR 1, zI a, zI b] (hRf 10) (fun r h => zands [zrI r, zsubH h (hRf 10)]))) = true := by decide +kernel
set_option maxRecDepth 100000 in
theorem evR_10_character : zrgs (zlwQ 12) (fun a => zrgs (zlwQ (zlkQ [(4294967299, 12)] a)) (fun b => f_X9_charactera [zR 1, zI a, zI b] (hRf 10) (fun r h => zands [zrI r, zsubH h (hRf 10)]))) = true := by decide +kernel
set_option maxRecDepth 100000 in
theorem evR_10_modular : zrgs (zlwQ 12) (fun a => zrgs (zlwQ (zlkQ [(4294967299, 12)] a)) (fun b => f_X9_modulara [zR 1, zI a, zI b] (hRf 10) (fun r h => zands [zrI r, zsubH h (hRf 10)]))) = true := by decide +kernel
set_option maxRecDepth 100000 in
theorem evR_10_projective : zrgs (zlwQ 12) (fun a => zrgs (zlwQ (zlkQ [(4294967299, 12)] a)) (fun b => f_X9_projectivea [zR 1, zI a, zI b] (hRf 10) (fun r h => zands [zrI r, zsubH h (hRf 10)]))) = true := by decide +kernel
set_option maxRecDepth 100000 in
theorem evR_10_decomposition : zrgs (zlwQ 12) (fun a => zrgs (zlwQ (zlkQ [(4294967299, 2)] a)) (fun b => f_X9_decompositiona [zR 1, zI a, zI b] (hRf 10) (fun r h => zands [zrI r, zsubH h (hRf 10)]))) = true := by decide +kernel
set_option maxRecDepth 100000 in
theorem evR_10_cartan : zrgs (zlwQ 2) (fun a => zrgs (zlwQ (zlkQ [(0, 2), (1, 2), (2, 2)] a)) (fun b => f_X9_cartana [zR 1, zI a, zI b] (hRf 10) (fun r h => zands [zrI r, zsubH h (hRf 10)]))) = true := by decide +kernel
set_option maxRecDepth 100000 in
theorem evR_10_tableau : zrgs (zlwQ 2) (fun a => zrgs (zlwQ (zlkQ [(0, 10), (1, 11), (2, 10)] a)) (fun b => zrgs (zlwQ (zlkQ [(0, 4), (1208925819614633469673474, 4), (2417851639229258349412352, 4)] (Nat.add (Nat.mul a 1208925819614629174706176) b))) (fun c => zrgs (zlwQ (zlkQ [(0, 12), (1, 10), (2, 10), (3, 10), (4, 10), (5, 10), (1461501637330908110500545785395550779410611175424, 11), (1461501637330908110500545785395550779410611175425, 10), (1461501637330908110500545785395550779410611175426, 10), (1461501637330908110500545785395550779410611175427, 10), (1461501637330908110500545785395550779410611175428, 10), (1461501637330908110500545785395550779410611175429, 10), (2923003274661805836407369665432566039311865085952, 10), (2923003274661805836407369665432566039311865085953, 10), (2923003274661805836407369665432566039311865085954, 10), (2923003274661805836407369665432566039311865085955, 10), (2923003274661805836407369665432566039311865085956, 10), (2923003274661805836407369665432566039311865085957, 10)] (Nat.add (Nat.mul (Nat.add (Nat.mul a 1208925819614629174706176) b) 1208925819614629174706176) c))) (fun d => f_X9_tableaua [zR 1, zI a, zI b, zI c, zI d] (hRf 10) (fun r h => zands [zrI r, zsubH h (hRf 10)]))))) = true := by decide +kernel
set_option maxRecDepth 100000 in
theorem evR_10_gram : zrgs (zlwQ 2) (fun a => zrgs (zlwQ (zlkQ [(0, 10), (1, 11), (2, 10)] a)) (fun b => zrgs (zlwQ (zlkQ [(0, 10), (1208925819614633469673474, 11), (2417851639229258349412352, 10)] (Nat.add (Nat.mul a 1208925819614629174706176) b))) (fun c => f_X9_grama [zR 1, zI a, zI b, zI c] (hRf 10) (fun r h => zands [zrI r, zsubH h (hRf 10)])))) = true := by decide +kernel
set_option maxRecDepth 100000 in
theorem evR_10_block : zrgs (zlwQ 2) (fun a => zrgs (zlwQ (zlkQ [(0, 4), (1, 4), (2, 4)] a)) (fun b => f_X9_blockt [zR 1, zI a, zI b] (hRf 10) (fun r h => zands [zrI r, zsubH h (hRf 10)]))) = true := by decide +kernel
set_option maxRecDepth 100000 in
theorem evR_10_value : zrgs (zlwQ 15) (fun a => zrgs (zlwQ (zlkQ [(4294967302, 12)] a)) (fun b => f_X9_valuev [zR 1, zI a, zI b] (hRf 10) (fun r h => zands [zrJ r, zsubH h (hRf 10)]))) = true := by decide +kernel
set_option maxRecDepth 100000 in
theorem evR_10_parts : zrgs (zlwQ 15) (fun a => zrgs (zlwQ (zlkQ [(4294967302, 12)] a)) (fun b => zrgs (zlwQ 0) (fun c => f_X9_partsv [zR 1, zI a, zI b, zI c] (hRf 10) (fun r h => zands [zrJ r, zsubH h (hRf 10)])))) = true := by decide +kernel
set_option maxRecDepth 100000 in
theorem evR_10_inner : zrgs (zlwQ 15) (fun a => zrgs (zlwQ (zlkQ [(4294967302, 15)] a)) (fun b => f_X9_innerv [zR 1, zI a, zI b] (hRf 10) (fun r h => zands [zrJ r, zsubH h (hRf 10)]))) = true := by decide +kernel
set_option maxRecDepth 100000 in
theorem evR_10_kind : zrgs (zlwQ 15) (fun a => zrgs (zlwQ 0) (fun b => f_X9_kindv [zR 1, zI a, zI b] (hRf 10) (fun r h => zands [zrI r, zsubH h (hRf 10)]))) = true := by decide +kernel
set_option maxRecDepth 100000 in
theorem evR_10_cut : zrgs (zlwQ 15) (fun a => zrgs (zlwQ 0) (fun b => zrgs (zlwQ (zlkQ [(5192296865788382546218275672424448, 15)] (Nat.add (Nat.mul a 1208925819614629174706176) b))) (fun c => f_X9_cutv [zR 1, zI a, zI b, zI c] (hRf 10) (fun r h => zands [zrI r, zsubH h (hRf 10)])))) = true := by decide +kernel
set_option maxRecDepth 100000 in
theorem evR_10_look : zrgs (zlwQ 6) (fun a => f_X9_lookv [zR 1, zI a] (hRf 10) (fun r h => zands [zrI r, zsubH h (hRf 10)])) = true := by decide +kernel
