section
/-! the reference at (3, 5): by program -/
set_option maxRecDepth 100000 in
theorem evR_10_fault : zrgs zlvR (fun a => f_X9_faulta [zR 1, zI a] (hRf 10) (fun r h => zands [zrI r, zsubH h (hRf 10)])) = true := by decide +kernel
set_option maxRecDepth 100000 in
theorem evR_10_partition : zrgs (zlwQ 12) (fun a => zrgs (zlwQ (zlkQ [(4294967299, 4)] a)) (fun b => f_X9_partitiona [zR 1, zI a, zI b] (hRf 10) (fun r h => zands [zrI r, zsubH h (hRf 10)]))) = true := by decide +kernel
set_option maxRecDepth 100000 in
theorem evR_10_of : zrgs (zlwQ 2) (fun a => zrgs (zlwQ (zlkQ [(0, 6), (1, 6), (2, 6)] a)) (fun b => f_X9_ofa [zR 1, zI a, zI b] (hRf 10) (fun r h => zands [zrI r, zsubH h (hRf 10)]))) = true := by decide +kernel
set_option maxRecDepth 100000 in
theorem evR_10_core : zrgs (zlwQ 2) (fun a => zrgs (zlwQ 0) (fun b => f_X9_corea [zR 1, zI a, zI b] (hRf 10) (fun r h => zands [zrI r, zsubH h (hRf 10)]))) = true := by decide +kernel
set_option maxRecDepth 100000 in
theorem evR_10_hook : zrgs (zlwQ 4) (fun a => zrgs (zlwQ (zlkQ [(0, 4), (1, 4), (2, 4)] a)) (fun b => zrgs (zlwQ 0) (fun c => f_X9_hooka [zR 1, zI a, zI b, zI c] (hRf 10) (fun r h => zands [zrI r, zsubH h (hRf 10)])))) = true := by decide +kernel
set_option maxRecDepth 100000 in
theorem evR_10_classOf : zrgs (zlwQ 2) (fun a => zrgs (zlwQ (zlkQ [(0, 4), (1, 4), (2, 4)] a)) (fun b => f_X9_classOfa [zR 1, zI a, zI b] (hRf 10) (fun r h => zands [zrI r, zsubH h (hRf 10)]))) = true := by decide +kernel
set_option maxRecDepth 100000 in
theorem evR_10_character : zrgs (zlwQ 12) (fun a => zrgs (zlwQ (zlkQ [(4294967299, 12)] a)) (fun b => f_X9_charactera [zR 1, zI a, zI b] (hRf 10) (fun r h => zands [zrI r, zsubH h (hRf 10)]))) = true := by decide +kernel
set_option maxRecDepth 100000 in
theorem evR_10_modular : zrgs (zlwQ 12) (fun a => zrgs (zlwQ (zlkQ [(4294967299, 12)] a)) (fun b => f_X9_modulara [zR 1, zI a, zI b] (hRf 10) (fun r h => zands [zrI r, zsubH h (hRf 10)]))) = true := by decide +kernel
set_option maxRecDepth 100000 in
theorem evR_10_projective : zrgs (zlwQ 12) (fun a => zrgs (zlwQ (zlkQ [(4294967299, 12)] a)) (fun b => f_X9_projectivea [zR 1, zI a, zI b] (hRf 10) (fun r h => zands [zrI r, zsubH h (hRf 10)]))) = true := by decide +kernel
set_option maxRecDepth 100000 in
theorem evR_10_decomposition : zrgs (zlwQ 12) (fun a => zrgs (zlwQ (zlkQ [(4294967299, 2)] a)) (fun b => f_X9_decompositiona [zR 1, zI a, zI b] (hRf 10) (fun r h => zands [zrI r, zsubH h (hRf 10)]))) = true := by decide +kernel
set_option maxRecDepth 100000 in
theorem evR_10_cartan : zrgs (zlwQ 2) (fun a => zrgs (zlwQ (zlkQ [(0, 2), (1, 2), (2, 2)] a)) (fun b => f_X9_cartana [zR 1, zI a, zI b] (hRf 10) (fun r h => zands [zrI r, zsubH h (hRf 10)]))) = true := by decide +kernel
set_option maxRecDepth 100000 in
theorem evR_10_tableau : zrgs (zlwQ 2) (fun a => zrgs (zlwQ (zlkQ [(0, 10), (1, 11), (2, 10)] a)) (fun b => zrgs (zlwQ (zlkQ [(0, 4), (1208925819614633469673474, 4), (2417851639229258349412352, 4)] (Nat.add (Nat.mul a 1208925819614629174706176) b))) (fun c => zrgs (zlwQ (zlkQ [(0, 12), (1, 10), (2, 10), (3, 10), (4, 10), (5, 10), (1461501637330908110500545785395550779410611175424, 11), (1461501637330908110500545785395550779410611175425, 10), (1461501637330908110500545785395550779410611175426, 10), (1461501637330908110500545785395550779410611175427, 10), (1461501637330908110500545785395550779410611175428, 10), (1461501637330908110500545785395550779410611175429, 10), (2923003274661805836407369665432566039311865085952, 10), (2923003274661805836407369665432566039311865085953, 10), (2923003274661805836407369665432566039311865085954, 10), (2923003274661805836407369665432566039311865085955, 10), (2923003274661805836407369665432566039311865085956, 10), (2923003274661805836407369665432566039311865085957, 10)] (Nat.add (Nat.mul (Nat.add (Nat.mul a 1208925819614629174706176) b) 1208925819614629174706176) c))) (fun d => f_X9_tableaua [zR 1, zI a, zI b, zI c, zI d] (hRf 10) (fun r h => zands [zrI r, zsubH h (hRf 10)]))))) = true := by decide +kernel
set_option maxRecDepth 100000 in
theorem evR_10_gram : zrgs (zlwQ 2) (fun a => zrgs (zlwQ (zlkQ [(0, 10), (1, 11), (2, 10)] a)) (fun b => zrgs (zlwQ (zlkQ [(0, 10), (1208925819614633469673474, 11), (2417851639229258349412352, 10)] (Nat.add (Nat.mul a 1208925819614629174706176) b))) (fun c => f_X9_grama [zR 1, zI a, zI b, zI c] (hRf 10) (fun r h => zands [zrI r, zsubH h (hRf 10)])))) = true := by decide +kernel
set_option maxRecDepth 100000 in
theorem evR_10_block : zrgs (zlwQ 2) (fun a => zrgs (zlwQ (zlkQ [(0, 4), (1, 4), (2, 4)] a)) (fun b => f_X9_blockt [zR 1, zI a, zI b] (hRf 10) (fun r h => zands [zrI r, zsubH h (hRf 10)]))) = true := by decide +kernel
set_option maxRecDepth 100000 in
theorem evR_10_value : zrgs (zlwQ 15) (fun a => zrgs (zlwQ (zlkQ [(4294967302, 12)] a)) (fun b => f_X9_valuev [zR 1, zI a, zI b] (hRf 10) (fun r h => zands [zrJ r, zsubH h (hRf 10)]))) = true := by decide +kernel
set_option maxRecDepth 100000 in
theorem evR_10_parts : zrgs (zlwQ 15) (fun a => zrgs (zlwQ (zlkQ [(4294967302, 12)] a)) (fun b => zrgs (zlwQ 0) (fun c => f_X9_partsv [zR 1, zI a, zI b, zI c] (hRf 10) (fun r h => zands [zrJ r, zsubH h (hRf 10)])))) = true := by decide +kernel
set_option maxRecDepth 100000 in
theorem evR_10_inner : zrgs (zlwQ 15) (fun a => zrgs (zlwQ (zlkQ [(4294967302, 15)] a)) (fun b => f_X9_innerv [zR 1, zI a, zI b] (hRf 10) (fun r h => zands [zrJ r, zsubH h (hRf 10)]))) = true := by decide +kernel
set_option maxRecDepth 100000 in
theorem evR_10_kind : zrgs (zlwQ 15) (fun a => zrgs (zlwQ 0) (fun b => f_X9_kindv [zR 1, zI a, zI b] (hRf 10) (fun r h => zands [zrI r, zsubH h (hRf 10)]))) = true := by decide +kernel
set_option maxRecDepth 100000 in
theorem evR_10_cut : zrgs (zlwQ 15) (fun a => zrgs (zlwQ 0) (fun b => zrgs (zlwQ (zlkQ [(5192296865788382546218275672424448, 15)] (Nat.add (Nat.mul a 1208925819614629174706176) b))) (fun c => f_X9_cutv [zR 1, zI a, zI b, zI c] (hRf 10) (fun r h => zands [zrI r, zsubH h (hRf 10)])))) = true := by decide +kernel
set_option maxRecDepth 100000 in
theorem evR_10_look : zrgs (zlwQ 6) (fun a => f_X9_lookv [zR 1, zI a] (hRf 10) (fun r h => zands [zrI r, zsubH h (hRf 10)])) = true := by decide +kernel
end
section
/-! the reference at (3, 7): by program -/
set_option maxRecDepth 100000 in
theorem evR_11_fault : zrgs zlvR (fun a => f_X9_faulta [zR 1, zI a] (hRf 11) (fun r h => zands [zrI r, zsubH h (hRf 11)])) = true := by decide +kernel
set_option maxRecDepth 100000 in
theorem evR_11_partition : zrgs (zlwQ 12) (fun a => zrgs (zlwQ (zlkQ [(4294967299, 4)] a)) (fun b => f_X9_partitiona [zR 1, zI a, zI b] (hRf 11) (fun r h => zands [zrI r, zsubH h (hRf 11)]))) = true := by decide +kernel
set_option maxRecDepth 100000 in
theorem evR_11_of : zrgs (zlwQ 2) (fun a => zrgs (zlwQ (zlkQ [(0, 6), (1, 6), (2, 6)] a)) (fun b => f_X9_ofa [zR 1, zI a, zI b] (hRf 11) (fun r h => zands [zrI r, zsubH h (hRf 11)]))) = true := by decide +kernel
set_option maxRecDepth 100000 in
theorem evR_11_core : zrgs (zlwQ 2) (fun a => zrgs (zlwQ 0) (fun b => f_X9_corea [zR 1, zI a, zI b] (hRf 11) (fun r h => zands [zrI r, zsubH h (hRf 11)]))) = true := by decide +kernel
set_option maxRecDepth 100000 in
theorem evR_11_hook : zrgs (zlwQ 4) (fun a => zrgs (zlwQ (zlkQ [(0, 4), (1, 4), (2, 4)] a)) (fun b => zrgs (zlwQ 0) (fun c => f_X9_hooka [zR 1, zI a, zI b, zI c] (hRf 11) (fun r h => zands [zrI r, zsubH h (hRf 11)])))) = true := by decide +kernel
set_option maxRecDepth 100000 in
theorem evR_11_classOf : zrgs (zlwQ 2) (fun a => zrgs (zlwQ (zlkQ [(0, 4), (1, 4), (2, 4)] a)) (fun b => f_X9_classOfa [zR 1, zI a, zI b] (hRf 11) (fun r h => zands [zrI r, zsubH h (hRf 11)]))) = true := by decide +kernel
set_option maxRecDepth 100000 in
theorem evR_11_character : zrgs (zlwQ 12) (fun a => zrgs (zlwQ (zlkQ [(4294967299, 12)] a)) (fun b => f_X9_charactera [zR 1, zI a, zI b] (hRf 11) (fun r h => zands [zrI r, zsubH h (hRf 11)]))) = true := by decide +kernel
set_option maxRecDepth 100000 in
theorem evR_11_modular : zrgs (zlwQ 12) (fun a => zrgs (zlwQ (zlkQ [(4294967299, 12)] a)) (fun b => f_X9_modulara [zR 1, zI a, zI b] (hRf 11) (fun r h => zands [zrI r, zsubH h (hRf 11)]))) = true := by decide +kernel
set_option maxRecDepth 100000 in
theorem evR_11_projective : zrgs (zlwQ 12) (fun a => zrgs (zlwQ (zlkQ [(4294967299, 12)] a)) (fun b => f_X9_projectivea [zR 1, zI a, zI b] (hRf 11) (fun r h => zands [zrI r, zsubH h (hRf 11)]))) = true := by decide +kernel
set_option maxRecDepth 100000 in
theorem evR_11_decomposition : zrgs (zlwQ 12) (fun a => zrgs (zlwQ (zlkQ [(4294967299, 2)] a)) (fun b => f_X9_decompositiona [zR 1, zI a, zI b] (hRf 11) (fun r h => zands [zrI r, zsubH h (hRf 11)]))) = true := by decide +kernel
set_option maxRecDepth 100000 in
theorem evR_11_cartan : zrgs (zlwQ 2) (fun a => zrgs (zlwQ (zlkQ [(0, 2), (1, 2), (2, 2)] a)) (fun b => f_X9_cartana [zR 1, zI a, zI b] (hRf 11) (fun r h => zands [zrI r, zsubH h (hRf 11)]))) = true := by decide +kernel
set_option maxRecDepth 100000 in
theorem evR_11_tableau : zrgs (zlwQ 2) (fun a => zrgs (zlwQ (zlkQ [(0, 10), (1, 11), (2, 10)] a)) (fun b => zrgs (zlwQ (zlkQ [(0, 4), (1208925819614633469673474, 4), (2417851639229258349412352, 4)] (Nat.add (Nat.mul a 1208925819614629174706176) b))) (fun c => zrgs (zlwQ (zlkQ [(0, 12), (1, 10), (2, 10), (3, 10), (4, 10), (5, 10), (1461501637330908110500545785395550779410611175424, 11), (1461501637330908110500545785395550779410611175425, 10), (1461501637330908110500545785395550779410611175426, 10), (1461501637330908110500545785395550779410611175427, 10), (1461501637330908110500545785395550779410611175428, 10), (1461501637330908110500545785395550779410611175429, 10), (2923003274661805836407369665432566039311865085952, 10), (2923003274661805836407369665432566039311865085953, 10), (2923003274661805836407369665432566039311865085954, 10), (2923003274661805836407369665432566039311865085955, 10), (2923003274661805836407369665432566039311865085956, 10), (2923003274661805836407369665432566039311865085957, 10)] (Nat.add (Nat.mul (Nat.add (Nat.mul a 1208925819614629174706176) b) 1208925819614629174706176) c))) (fun d => f_X9_tableaua [zR 1, zI a, zI b, zI c, zI d] (hRf 11) (fun r h => zands [zrI r, zsubH h (hRf 11)]))))) = true := by decide +kernel
set_option maxRecDepth 100000 in
theorem evR_11_gram : zrgs (zlwQ 2) (fun a => zrgs (zlwQ (zlkQ [(0, 10), (1, 11), (2, 10)] a)) (fun b => zrgs (zlwQ (zlkQ [(0, 10), (1208925819614633469673474, 11), (2417851639229258349412352, 10)] (Nat.add (Nat.mul a 1208925819614629174706176) b))) (fun c => f_X9_grama [zR 1, zI a, zI b, zI c] (hRf 11) (fun r h => zands [zrI r, zsubH h (hRf 11)])))) = true := by decide +kernel
set_option maxRecDepth 100000 in
theorem evR_11_block : zrgs (zlwQ 2) (fun a => zrgs (zlwQ (zlkQ [(0, 4), (1, 4), (2, 4)] a)) (fun b => f_X9_blockt [zR 1, zI a, zI b] (hRf 11) (fun r h => zands [zrI r, zsubH h (hRf 11)]))) = true := by decide +kernel
set_option maxRecDepth 100000 in
theorem evR_11_value : zrgs (zlwQ 15) (fun a => zrgs (zlwQ (zlkQ [(4294967302, 12)] a)) (fun b => f_X9_valuev [zR 1, zI a, zI b] (hRf 11) (fun r h => zands [zrJ r, zsubH h (hRf 11)]))) = true := by decide +kernel
set_option maxRecDepth 100000 in
theorem evR_11_parts : zrgs (zlwQ 15) (fun a => zrgs (zlwQ (zlkQ [(4294967302, 12)] a)) (fun b => zrgs (zlwQ 0) (fun c => f_X9_partsv [zR 1, zI a, zI b, zI c] (hRf 11) (fun r h => zands [zrJ r, zsubH h (hRf 11)])))) = true := by decide +kernel
set_option maxRecDepth 100000 in
theorem evR_11_inner : zrgs (zlwQ 15) (fun a => zrgs (zlwQ (zlkQ [(4294967302, 15)] a)) (fun b => f_X9_innerv [zR 1, zI a, zI b] (hRf 11) (fun r h => zands [zrJ r, zsubH h (hRf 11)]))) = true := by decide +kernel
set_option maxRecDepth 100000 in
theorem evR_11_kind : zrgs (zlwQ 15) (fun a => zrgs (zlwQ 0) (fun b => f_X9_kindv [zR 1, zI a, zI b] (hRf 11) (fun r h => zands [zrI r, zsubH h (hRf 11)]))) = true := by decide +kernel
set_option maxRecDepth 100000 in
theorem evR_11_cut : zrgs (zlwQ 15) (fun a => zrgs (zlwQ 0) (fun b => zrgs (zlwQ (zlkQ [(5192296865788382546218275672424448, 15)] (Nat.add (Nat.mul a 1208925819614629174706176) b))) (fun c => f_X9_cutv [zR 1, zI a, zI b, zI c] (hRf 11) (fun r h => zands [zrI r, zsubH h (hRf 11)])))) = true := by decide +kernel
set_option maxRecDepth 100000 in
theorem evR_11_look : zrgs (zlwQ 6) (fun a => f_X9_lookv [zR 1, zI a] (hRf 11) (fun r h => zands [zrI r, zsubH h (hRf 11)])) = true := by decide +kernel
end
section
/-! the reference at (4, 2): by program -/
set_option maxRecDepth 100000 in
theorem evR_12_fault : zrgs zlvR (fun a => f_X9_faulta [zR 1, zI a] (hRf 12) (fun r h => zands [zrI r, zsubH h (hRf 12)])) = true := by decide +kernel
set_option maxRecDepth 100000 in
theorem evR_12_partition : zrgs (zlwQ 14) (fun a => zrgs (zlwQ (zlkQ [(4294967301, 4)] a)) (fun b => f_X9_partitiona [zR 1, zI a, zI b] (hRf 12) (fun r h => zands [zrI r, zsubH h (hRf 12)]))) = true := by decide +kernel
set_option maxRecDepth 100000 in
theorem evR_12_of : zrgs (zlwQ 4) (fun a => zrgs (zlwQ (zlkQ [(0, 6), (1, 6), (2, 6), (3, 6), (4, 6)] a)) (fun b => f_X9_ofa [zR 1, zI a, zI b] (hRf 12) (fun r h => zands [zrI r, zsubH h (hRf 12)]))) = true := by decide +kernel
set_option maxRecDepth 100000 in
theorem evR_12_core : zrgs (zlwQ 4) (fun a => zrgs (zlwQ 0) (fun b => f_X9_corea [zR 1, zI a, zI b] (hRf 12) (fun r h => zands [zrI r, zsubH h (hRf 12)]))) = true := by decide +kernel
set_option maxRecDepth 100000 in
theorem evR_12_hook : zrgs (zlwQ 14) (fun a => zrgs (zlwQ (zlkQ [(4294967301, 15)] a)) (fun b => zrgs (zlwQ (zlkQ [(5192296864579456726603646497718278, 10)] (Nat.add (Nat.mul a 1208925819614629174706176) b))) (fun c => f_X9_hooka [zR 1, zI a, zI b, zI c] (hRf 12) (fun r h => zands [zrI r, zsubH h (hRf 12)])))) = true := by decide +kernel
set_option maxRecDepth 100000 in
theorem evR_12_classOf : zrgs (zlwQ 4) (fun a => zrgs (zlwQ (zlkQ [(0, 4), (1, 4), (2, 4), (3, 4), (4, 4)] a)) (fun b => f_X9_classOfa [zR 1, zI a, zI b] (hRf 12) (fun r h => zands [zrI r, zsubH h (hRf 12)]))) = true := by decide +kernel
set_option maxRecDepth 100000 in
theorem evR_12_character : zrgs (zlwQ 14) (fun a => zrgs (zlwQ (zlkQ [(4294967301, 14)] a)) (fun b => f_X9_charactera [zR 1, zI a, zI b] (hRf 12) (fun r h => zands [zrI r, zsubH h (hRf 12)]))) = true := by decide +kernel
set_option maxRecDepth 100000 in
theorem evR_12_modular : zrgs (zlwQ 14) (fun a => zrgs (zlwQ (zlkQ [(4294967301, 14)] a)) (fun b => f_X9_modulara [zR 1, zI a, zI b] (hRf 12) (fun r h => zands [zrI r, zsubH h (hRf 12)]))) = true := by decide +kernel
set_option maxRecDepth 100000 in
theorem evR_12_projective : zrgs (zlwQ 14) (fun a => zrgs (zlwQ (zlkQ [(4294967301, 14)] a)) (fun b => f_X9_projectivea [zR 1, zI a, zI b] (hRf 12) (fun r h => zands [zrI r, zsubH h (hRf 12)]))) = true := by decide +kernel
set_option maxRecDepth 100000 in
theorem evR_12_decomposition : zrgs (zlwQ 14) (fun a => zrgs (zlwQ (zlkQ [(4294967301, 4)] a)) (fun b => f_X9_decompositiona [zR 1, zI a, zI b] (hRf 12) (fun r h => zands [zrI r, zsubH h (hRf 12)]))) = true := by decide +kernel
set_option maxRecDepth 100000 in
theorem evR_12_cartan : zrgs (zlwQ 4) (fun a => zrgs (zlwQ (zlkQ [(0, 4), (1, 4)] a)) (fun b => f_X9_cartana [zR 1, zI a, zI b] (hRf 12) (fun r h => zands [zrI r, zsubH h (hRf 12)]))) = true := by decide +kernel
set_option maxRecDepth 100000 in
theorem evR_12_tableau : zrgs (zlwQ 4) (fun a => zrgs (zlwQ (zlkQ [(0, 10), (1, 12), (2, 11), (3, 12), (4, 10)] a)) (fun b => zrgs (zlwQ (zlkQ [(0, 4), (1208925819614633469673475, 4), (2417851639229262644379650, 4), (3626777458843891819085827, 4), (4835703278458516698824704, 4)] (Nat.add (Nat.mul a 1208925819614629174706176) b))) (fun c => zrgs (zlwQ (zlkQ [(0, 13), (1, 10), (2, 10), (3, 10), (4, 10), (5, 10), (1461501637330908110500546994321370394039785881600, 12), (1461501637330908110500546994321370394039785881601, 10), (1461501637330908110500546994321370394039785881602, 10), (1461501637330908110500546994321370394039785881603, 10), (1461501637330908110500546994321370394039785881604, 10), (1461501637330908110500546994321370394039785881605, 10), (2923003274661811028704230618111833799066543718400, 11), (2923003274661811028704230618111833799066543718401, 2), (2923003274661811028704230618111833799066543718402, 10), (2923003274661811028704230618111833799066543718403, 10), (2923003274661811028704230618111833799066543718404, 10), (2923003274661811028704230618111833799066543718405, 10), (4384504911992713946907916659753936433351650967552, 11), (4384504911992713946907916659753936433351650967553, 10), (4384504911992713946907916659753936433351650967554, 10), (4384504911992713946907916659753936433351650967555, 10), (4384504911992713946907916659753936433351650967556, 10), (4384504911992713946907916659753936433351650967557, 10), (5846006549323611672814739330865132078623730171904, 10), (5846006549323611672814739330865132078623730171905, 10), (5846006549323611672814739330865132078623730171906, 10), (5846006549323611672814739330865132078623730171907, 10), (5846006549323611672814739330865132078623730171908, 10), (5846006549323611672814739330865132078623730171909, 10)] (Nat.add (Nat.mul (Nat.add (Nat.mul a 1208925819614629174706176) b) 1208925819614629174706176) c))) (fun d => f_X9_tableaua [zR 1, zI a, zI b, zI c, zI d] (hRf 12) (fun r h => zands [zrI r, zsubH h (hRf 12)]))))) = true := by decide +kernel
set_option maxRecDepth 100000 in
theorem evR_12_gram : zrgs (zlwQ 4) (fun a => zrgs (zlwQ (zlkQ [(0, 10), (1, 12), (2, 11), (3, 12), (4, 10)] a)) (fun b => zrgs (zlwQ (zlkQ [(0, 10), (1208925819614633469673475, 12), (2417851639229262644379650, 11), (3626777458843891819085827, 12), (4835703278458516698824704, 10)] (Nat.add (Nat.mul a 1208925819614629174706176) b))) (fun c => f_X9_grama [zR 1, zI a, zI b, zI c] (hRf 12) (fun r h => zands [zrI r, zsubH h (hRf 12)])))) = true := by decide +kernel
set_option maxRecDepth 100000 in
theorem evR_12_block : zrgs (zlwQ 1) (fun a => zrgs (zlwQ (zlkQ [(0, 4)] a)) (fun b => f_X9_blockt [zR 1, zI a, zI b] (hRf 12) (fun r h => zands [zrI r, zsubH h (hRf 12)]))) = true := by decide +kernel
set_option maxRecDepth 100000 in
theorem evR_12_value : zrgs (zlwQ 15) (fun a => zrgs (zlwQ (zlkQ [(4294967302, 14)] a)) (fun b => f_X9_valuev [zR 1, zI a, zI b] (hRf 12) (fun r h => zands [zrJ r, zsubH h (hRf 12)]))) = true := by decide +kernel
set_option maxRecDepth 100000 in
theorem evR_12_parts : zrgs (zlwQ 15) (fun a => zrgs (zlwQ (zlkQ [(4294967302, 14)] a)) (fun b => zrgs (zlwQ 0) (fun c => f_X9_partsv [zR 1, zI a, zI b, zI c] (hRf 12) (fun r h => zands [zrJ r, zsubH h (hRf 12)])))) = true := by decide +kernel
set_option maxRecDepth 100000 in
theorem evR_12_inner : zrgs (zlwQ 15) (fun a => zrgs (zlwQ (zlkQ [(4294967302, 15)] a)) (fun b => f_X9_innerv [zR 1, zI a, zI b] (hRf 12) (fun r h => zands [zrJ r, zsubH h (hRf 12)]))) = true := by decide +kernel
set_option maxRecDepth 100000 in
theorem evR_12_kind : zrgs (zlwQ 15) (fun a => zrgs (zlwQ 0) (fun b => f_X9_kindv [zR 1, zI a, zI b] (hRf 12) (fun r h => zands [zrI r, zsubH h (hRf 12)]))) = true := by decide +kernel
set_option maxRecDepth 100000 in
theorem evR_12_cut : zrgs (zlwQ 15) (fun a => zrgs (zlwQ (zlkQ [(4294967302, 6)] a)) (fun b => zrgs (zlwQ (zlkQ [(5192296865788382546218271377457152, 15)] (Nat.add (Nat.mul a 1208925819614629174706176) b))) (fun c => f_X9_cutv [zR 1, zI a, zI b, zI c] (hRf 12) (fun r h => zands [zrI r, zsubH h (hRf 12)])))) = true := by decide +kernel
set_option maxRecDepth 100000 in
theorem evR_12_look : zrgs (zlwQ 6) (fun a => f_X9_lookv [zR 1, zI a] (hRf 12) (fun r h => zands [zrI r, zsubH h (hRf 12)])) = true := by decide +kernel
end
section
/-! the reference at (4, 3): by program -/
set_option maxRecDepth 100000 in
theorem evR_13_fault : zrgs zlvR (fun a => f_X9_faulta [zR 1, zI a] (hRf 13) (fun r h => zands [zrI r, zsubH h (hRf 13)])) = true := by decide +kernel
set_option maxRecDepth 100000 in
theorem evR_13_partition : zrgs (zlwQ 14) (fun a => zrgs (zlwQ (zlkQ [(4294967301, 4)] a)) (fun b => f_X9_partitiona [zR 1, zI a, zI b] (hRf 13) (fun r h => zands [zrI r, zsubH h (hRf 13)]))) = true := by decide +kernel
set_option maxRecDepth 100000 in
theorem evR_13_of : zrgs (zlwQ 4) (fun a => zrgs (zlwQ (zlkQ [(0, 6), (1, 6), (2, 6), (3, 6), (4, 6)] a)) (fun b => f_X9_ofa [zR 1, zI a, zI b] (hRf 13) (fun r h => zands [zrI r, zsubH h (hRf 13)]))) = true := by decide +kernel
set_option maxRecDepth 100000 in
theorem evR_13_core : zrgs (zlwQ 4) (fun a => zrgs (zlwQ 0) (fun b => f_X9_corea [zR 1, zI a, zI b] (hRf 13) (fun r h => zands [zrI r, zsubH h (hRf 13)]))) = true := by decide +kernel
set_option maxRecDepth 100000 in
theorem evR_13_hook : zrgs (zlwQ 14) (fun a => zrgs (zlwQ (zlkQ [(4294967301, 15)] a)) (fun b => zrgs (zlwQ (zlkQ [(5192296864579456726603646497718278, 10)] (Nat.add (Nat.mul a 1208925819614629174706176) b))) (fun c => f_X9_hooka [zR 1, zI a, zI b, zI c] (hRf 13) (fun r h => zands [zrI r, zsubH h (hRf 13)])))) = true := by decide +kernel
set_option maxRecDepth 100000 in
theorem evR_13_classOf : zrgs (zlwQ 4) (fun a => zrgs (zlwQ (zlkQ [(0, 4), (1, 4), (2, 4), (3, 4), (4, 4)] a)) (fun b => f_X9_classOfa [zR 1, zI a, zI b] (hRf 13) (fun r h => zands [zrI r, zsubH h (hRf 13)]))) = true := by decide +kernel
set_option maxRecDepth 100000 in
theorem evR_13_character : zrgs (zlwQ 14) (fun a => zrgs (zlwQ (zlkQ [(4294967301, 14)] a)) (fun b => f_X9_charactera [zR 1, zI a, zI b] (hRf 13) (fun r h => zands [zrI r, zsubH h (hRf 13)]))) = true := by decide +kernel
set_option maxRecDepth 100000 in
theorem evR_13_modular : zrgs (zlwQ 14) (fun a => zrgs (zlwQ (zlkQ [(4294967301, 14)] a)) (fun b => f_X9_modulara [zR 1, zI a, zI b] (hRf 13) (fun r h => zands [zrI r, zsubH h (hRf 13)]))) = true := by decide +kernel
set_option maxRecDepth 100000 in
theorem evR_13_projective : zrgs (zlwQ 14) (fun a => zrgs (zlwQ (zlkQ [(4294967301, 14)] a)) (fun b => f_X9_projectivea [zR 1, zI a, zI b] (hRf 13) (fun r h => zands [zrI r, zsubH h (hRf 13)]))) = true := by decide +kernel
set_option maxRecDepth 100000 in
theorem evR_13_decomposition : zrgs (zlwQ 14) (fun a => zrgs (zlwQ (zlkQ [(4294967301, 4)] a)) (fun b => f_X9_decompositiona [zR 1, zI a, zI b] (hRf 13) (fun r h => zands [zrI r, zsubH h (hRf 13)]))) = true := by decide +kernel
set_option maxRecDepth 100000 in
theorem evR_13_cartan : zrgs (zlwQ 4) (fun a => zrgs (zlwQ (zlkQ [(0, 4), (1, 4), (2, 4), (3, 4)] a)) (fun b => f_X9_cartana [zR 1, zI a, zI b] (hRf 13) (fun r h => zands [zrI r, zsubH h (hRf 13)]))) = true := by decide +kernel
set_option maxRecDepth 100000 in
theorem evR_13_tableau : zrgs (zlwQ 4) (fun a => zrgs (zlwQ (zlkQ [(0, 10), (1, 12), (2, 11), (3, 12), (4, 10)] a)) (fun b => zrgs (zlwQ (zlkQ [(0, 4), (1208925819614633469673475, 4), (2417851639229262644379650, 4), (3626777458843891819085827, 4), (4835703278458516698824704, 4)] (Nat.add (Nat.mul a 1208925819614629174706176) b))) (fun c => zrgs (zlwQ (zlkQ [(0, 13), (1, 10), (2, 10), (3, 10), (4, 10), (5, 10), (1461501637330908110500546994321370394039785881600, 12), (1461501637330908110500546994321370394039785881601, 10), (1461501637330908110500546994321370394039785881602, 10), (1461501637330908110500546994321370394039785881603, 10), (1461501637330908110500546994321370394039785881604, 10), (1461501637330908110500546994321370394039785881605, 10), (2923003274661811028704230618111833799066543718400, 11), (2923003274661811028704230618111833799066543718401, 2), (2923003274661811028704230618111833799066543718402, 10), (2923003274661811028704230618111833799066543718403, 10), (2923003274661811028704230618111833799066543718404, 10), (2923003274661811028704230618111833799066543718405, 10), (4384504911992713946907916659753936433351650967552, 11), (4384504911992713946907916659753936433351650967553, 10), (4384504911992713946907916659753936433351650967554, 10), (4384504911992713946907916659753936433351650967555, 10), (4384504911992713946907916659753936433351650967556, 10), (4384504911992713946907916659753936433351650967557, 10), (5846006549323611672814739330865132078623730171904, 10), (5846006549323611672814739330865132078623730171905, 10), (5846006549323611672814739330865132078623730171906, 10), (5846006549323611672814739330865132078623730171907, 10), (5846006549323611672814739330865132078623730171908, 10), (5846006549323611672814739330865132078623730171909, 10)] (Nat.add (Nat.mul (Nat.add (Nat.mul a 1208925819614629174706176) b) 1208925819614629174706176) c))) (fun d => f_X9_tableaua [zR 1, zI a, zI b, zI c, zI d] (hRf 13) (fun r h => zands [zrI r, zsubH h (hRf 13)]))))) = true := by decide +kernel
set_option maxRecDepth 100000 in
theorem evR_13_gram : zrgs (zlwQ 4) (fun a => zrgs (zlwQ (zlkQ [(0, 10), (1, 12), (2, 11), (3, 12), (4, 10)] a)) (fun b => zrgs (zlwQ (zlkQ [(0, 10), (1208925819614633469673475, 12), (2417851639229262644379650, 11), (3626777458843891819085827, 12), (4835703278458516698824704, 10)] (Nat.add (Nat.mul a 1208925819614629174706176) b))) (fun c => f_X9_grama [zR 1, zI a, zI b, zI c] (hRf 13) (fun r h => zands [zrI r, zsubH h (hRf 13)])))) = true := by decide +kernel
set_option maxRecDepth 100000 in
theorem evR_13_block : zrgs (zlwQ 2) (fun a => zrgs (zlwQ (zlkQ [(0, 4), (1, 4), (2, 4)] a)) (fun b => f_X9_blockt [zR 1, zI a, zI b] (hRf 13) (fun r h => zands [zrI r, zsubH h (hRf 13)]))) = true := by decide +kernel
set_option maxRecDepth 100000 in
theorem evR_13_value : zrgs (zlwQ 15) (fun a => zrgs (zlwQ (zlkQ [(4294967302, 14)] a)) (fun b => f_X9_valuev [zR 1, zI a, zI b] (hRf 13) (fun r h => zands [zrJ r, zsubH h (hRf 13)]))) = true := by decide +kernel
set_option maxRecDepth 100000 in
theorem evR_13_parts : zrgs (zlwQ 15) (fun a => zrgs (zlwQ (zlkQ [(4294967302, 14)] a)) (fun b => zrgs (zlwQ 0) (fun c => f_X9_partsv [zR 1, zI a, zI b, zI c] (hRf 13) (fun r h => zands [zrJ r, zsubH h (hRf 13)])))) = true := by decide +kernel
set_option maxRecDepth 100000 in
theorem evR_13_inner : zrgs (zlwQ 15) (fun a => zrgs (zlwQ (zlkQ [(4294967302, 15)] a)) (fun b => f_X9_innerv [zR 1, zI a, zI b] (hRf 13) (fun r h => zands [zrJ r, zsubH h (hRf 13)]))) = true := by decide +kernel
set_option maxRecDepth 100000 in
theorem evR_13_kind : zrgs (zlwQ 15) (fun a => zrgs (zlwQ 0) (fun b => f_X9_kindv [zR 1, zI a, zI b] (hRf 13) (fun r h => zands [zrI r, zsubH h (hRf 13)]))) = true := by decide +kernel
set_option maxRecDepth 100000 in
theorem evR_13_cut : zrgs (zlwQ 15) (fun a => zrgs (zlwQ (zlkQ [(4294967302, 6)] a)) (fun b => zrgs (zlwQ (zlkQ [(5192296865788382546218271377457152, 15), (5192296865788382546218271377457153, 15), (5192296865788382546218271377457154, 15)] (Nat.add (Nat.mul a 1208925819614629174706176) b))) (fun c => f_X9_cutv [zR 1, zI a, zI b, zI c] (hRf 13) (fun r h => zands [zrI r, zsubH h (hRf 13)])))) = true := by decide +kernel
set_option maxRecDepth 100000 in
theorem evR_13_look : zrgs (zlwQ 6) (fun a => f_X9_lookv [zR 1, zI a] (hRf 13) (fun r h => zands [zrI r, zsubH h (hRf 13)])) = true := by decide +kernel
end
section
/-! the reference at (4, 5): by program -/
set_option maxRecDepth 100000 in
theorem evR_14_fault : zrgs zlvR (fun a => f_X9_faulta [zR 1, zI a] (hRf 14) (fun r h => zands [zrI r, zsubH h (hRf 14)])) = true := by decide +kernel
set_option maxRecDepth 100000 in
theorem evR_14_partition : zrgs (zlwQ 14) (fun a => zrgs (zlwQ (zlkQ [(4294967301, 4)] a)) (fun b => f_X9_partitiona [zR 1, zI a, zI b] (hRf 14) (fun r h => zands [zrI r, zsubH h (hRf 14)]))) = true := by decide +kernel
set_option maxRecDepth 100000 in
theorem evR_14_of : zrgs (zlwQ 4) (fun a => zrgs (zlwQ (zlkQ [(0, 6), (1, 6), (2, 6), (3, 6), (4, 6)] a)) (fun b => f_X9_ofa [zR 1, zI a, zI b] (hRf 14) (fun r h => zands [zrI r, zsubH h (hRf 14)]))) = true := by decide +kernel
set_option maxRecDepth 100000 in
theorem evR_14_core : zrgs (zlwQ 4) (fun a => zrgs (zlwQ 0) (fun b => f_X9_corea [zR 1, zI a, zI b] (hRf 14) (fun r h => zands [zrI r, zsubH h (hRf 14)]))) = true := by decide +kernel
set_option maxRecDepth 100000 in
theorem evR_14_hook : zrgs (zlwQ 14) (fun a => zrgs (zlwQ (zlkQ [(4294967301, 15)] a)) (fun b => zrgs (zlwQ (zlkQ [(5192296864579456726603646497718278, 10)] (Nat.add (Nat.mul a 1208925819614629174706176) b))) (fun c => f_X9_hooka [zR 1, zI a, zI b, zI c] (hRf 14) (fun r h => zands [zrI r, zsubH h (hRf 14)])))) = true := by decide +kernel
set_option maxRecDepth 100000 in
theorem evR_14_classOf : zrgs (zlwQ 4) (fun a => zrgs (zlwQ (zlkQ [(0, 4), (1, 4), (2, 4), (3, 4), (4, 4)] a)) (fun b => f_X9_classOfa [zR 1, zI a, zI b] (hRf 14) (fun r h => zands [zrI r, zsubH h (hRf 14)]))) = true := by decide +kernel
set_option maxRecDepth 100000 in
theorem evR_14_character : zrgs (zlwQ 14) (fun a => zrgs (zlwQ (zlkQ [(4294967301, 14)] a)) (fun b => f_X9_charactera [zR 1, zI a, zI b] (hRf 14) (fun r h => zands [zrI r, zsubH h (hRf 14)]))) = true := by decide +kernel
set_option maxRecDepth 100000 in
theorem evR_14_modular : zrgs (zlwQ 14) (fun a => zrgs (zlwQ (zlkQ [(4294967301, 14)] a)) (fun b => f_X9_modulara [zR 1, zI a, zI b] (hRf 14) (fun r h => zands [zrI r, zsubH h (hRf 14)]))) = true := by decide +kernel
set_option maxRecDepth 100000 in
theorem evR_14_projective : zrgs (zlwQ 14) (fun a => zrgs (zlwQ (zlkQ [(4294967301, 14)] a)) (fun b => f_X9_projectivea [zR 1, zI a, zI b] (hRf 14) (fun r h => zands [zrI r, zsubH h (hRf 14)]))) = true := by decide +kernel
set_option maxRecDepth 100000 in
theorem evR_14_decomposition : zrgs (zlwQ 14) (fun a => zrgs (zlwQ (zlkQ [(4294967301, 4)] a)) (fun b => f_X9_decompositiona [zR 1, zI a, zI b] (hRf 14) (fun r h => zands [zrI r, zsubH h (hRf 14)]))) = true := by decide +kernel
set_option maxRecDepth 100000 in
theorem evR_14_cartan : zrgs (zlwQ 4) (fun a => zrgs (zlwQ (zlkQ [(0, 4), (1, 4), (2, 4), (3, 4), (4, 4)] a)) (fun b => f_X9_cartana [zR 1, zI a, zI b] (hRf 14) (fun r h => zands [zrI r, zsubH h (hRf 14)]))) = true := by decide +kernel
set_option maxRecDepth 100000 in
theorem evR_14_tableau : zrgs (zlwQ 4) (fun a => zrgs (zlwQ (zlkQ [(0, 10), (1, 12), (2, 11), (3, 12), (4, 10)] a)) (fun b => zrgs (zlwQ (zlkQ [(0, 4), (1208925819614633469673475, 4), (2417851639229262644379650, 4), (3626777458843891819085827, 4), (4835703278458516698824704, 4)] (Nat.add (Nat.mul a 1208925819614629174706176) b))) (fun c => zrgs (zlwQ (zlkQ [(0, 13), (1, 10), (2, 10), (3, 10), (4, 10), (5, 10), (1461501637330908110500546994321370394039785881600, 12), (1461501637330908110500546994321370394039785881601, 10), (1461501637330908110500546994321370394039785881602, 10), (1461501637330908110500546994321370394039785881603, 10), (1461501637330908110500546994321370394039785881604, 10), (1461501637330908110500546994321370394039785881605, 10), (2923003274661811028704230618111833799066543718400, 11), (2923003274661811028704230618111833799066543718401, 2), (2923003274661811028704230618111833799066543718402, 10), (2923003274661811028704230618111833799066543718403, 10), (2923003274661811028704230618111833799066543718404, 10), (2923003274661811028704230618111833799066543718405, 10), (4384504911992713946907916659753936433351650967552, 11), (4384504911992713946907916659753936433351650967553, 10), (4384504911992713946907916659753936433351650967554, 10), (4384504911992713946907916659753936433351650967555, 10), (4384504911992713946907916659753936433351650967556, 10), (4384504911992713946907916659753936433351650967557, 10), (5846006549323611672814739330865132078623730171904, 10), (5846006549323611672814739330865132078623730171905, 10), (5846006549323611672814739330865132078623730171906, 10), (5846006549323611672814739330865132078623730171907, 10), (5846006549323611672814739330865132078623730171908, 10), (5846006549323611672814739330865132078623730171909, 10)] (Nat.add (Nat.mul (Nat.add (Nat.mul a 1208925819614629174706176) b) 1208925819614629174706176) c))) (fun d => f_X9_tableaua [zR 1, zI a, zI b, zI c, zI d] (hRf 14) (fun r h => zands [zrI r, zsubH h (hRf 14)]))))) = true := by decide +kernel
set_option maxRecDepth 100000 in
theorem evR_14_gram : zrgs (zlwQ 4) (fun a => zrgs (zlwQ (zlkQ [(0, 10), (1, 12), (2, 11), (3, 12), (4, 10)] a)) (fun b => zrgs (zlwQ (zlkQ [(0, 10), (1208925819614633469673475, 12), (2417851639229262644379650, 11), (3626777458843891819085827, 12), (4835703278458516698824704, 10)] (Nat.add (Nat.mul a 1208925819614629174706176) b))) (fun c => f_X9_grama [zR 1, zI a, zI b, zI c] (hRf 14) (fun r h => zands [zrI r, zsubH h (hRf 14)])))) = true := by decide +kernel
set_option maxRecDepth 100000 in
theorem evR_14_block : zrgs (zlwQ 4) (fun a => zrgs (zlwQ (zlkQ [(0, 4), (1, 4), (2, 4), (3, 4), (4, 4)] a)) (fun b => f_X9_blockt [zR 1, zI a, zI b] (hRf 14) (fun r h => zands [zrI r, zsubH h (hRf 14)]))) = true := by decide +kernel
set_option maxRecDepth 100000 in
theorem evR_14_value : zrgs (zlwQ 15) (fun a => zrgs (zlwQ (zlkQ [(4294967302, 14)] a)) (fun b => f_X9_valuev [zR 1, zI a, zI b] (hRf 14) (fun r h => zands [zrJ r, zsubH h (hRf 14)]))) = true := by decide +kernel
set_option maxRecDepth 100000 in
theorem evR_14_parts : zrgs (zlwQ 15) (fun a => zrgs (zlwQ (zlkQ [(4294967302, 14)] a)) (fun b => zrgs (zlwQ 0) (fun c => f_X9_partsv [zR 1, zI a, zI b, zI c] (hRf 14) (fun r h => zands [zrJ r, zsubH h (hRf 14)])))) = true := by decide +kernel
set_option maxRecDepth 100000 in
theorem evR_14_inner : zrgs (zlwQ 15) (fun a => zrgs (zlwQ (zlkQ [(4294967302, 15)] a)) (fun b => f_X9_innerv [zR 1, zI a, zI b] (hRf 14) (fun r h => zands [zrJ r, zsubH h (hRf 14)]))) = true := by decide +kernel
set_option maxRecDepth 100000 in
theorem evR_14_kind : zrgs (zlwQ 15) (fun a => zrgs (zlwQ 0) (fun b => f_X9_kindv [zR 1, zI a, zI b] (hRf 14) (fun r h => zands [zrI r, zsubH h (hRf 14)]))) = true := by decide +kernel
set_option maxRecDepth 100000 in
theorem evR_14_cut : zrgs (zlwQ 15) (fun a => zrgs (zlwQ (zlkQ [(4294967302, 6)] a)) (fun b => zrgs (zlwQ (zlkQ [(5192296865788382546218271377457152, 15), (5192296865788382546218271377457153, 15), (5192296865788382546218271377457154, 15), (5192296865788382546218271377457155, 15), (5192296865788382546218271377457156, 15)] (Nat.add (Nat.mul a 1208925819614629174706176) b))) (fun c => f_X9_cutv [zR 1, zI a, zI b, zI c] (hRf 14) (fun r h => zands [zrI r, zsubH h (hRf 14)])))) = true := by decide +kernel
set_option maxRecDepth 100000 in
theorem evR_14_look : zrgs (zlwQ 6) (fun a => f_X9_lookv [zR 1, zI a] (hRf 14) (fun r h => zands [zrI r, zsubH h (hRf 14)])) = true := by decide +kernel
end
