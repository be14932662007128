section
/-! the reference at (4, 7): by program -/
set_option maxRecDepth 100000 in
theorem evR_15_fault : zrgs zlvR (fun a => f_X9_faulta [zR 1, zI a] (hRf 15) (fun r h => zands [zrI r, zsubH h (hRf 15)])) = true := by decide +kernel
set_option maxRecDepth 100000 in
theorem evR_15_partition : zrgs (zlwQ 14) (fun a => zrgs (zlwQ (zlkQ [(4294967301, 4)] a)) (fun b => f_X9_partitiona [zR 1, zI a, zI b] (hRf 15) (fun r h => zands [zrI r, zsubH h (hRf 15)]))) = true := by decide +kernel
set_option maxRecDepth 100000 in
theorem evR_15_of : zrgs (zlwQ 4) (fun a => zrgs (zlwQ (zlkQ [(0, 6), (1, 6), (2, 6), (3, 6), (4, 6)] a)) (fun b => f_X9_ofa [zR 1, zI a, zI b] (hRf 15) (fun r h => zands [zrI r, zsubH h (hRf 15)]))) = true := by decide +kernel
set_option maxRecDepth 100000 in
theorem evR_15_core : zrgs (zlwQ 4) (fun a => zrgs (zlwQ 0) (fun b => f_X9_corea [zR 1, zI a, zI b] (hRf 15) (fun r h => zands [zrI r, zsubH h (hRf 15)]))) = true := by decide +kernel
set_option maxRecDepth 100000 in
theorem evR_15_hook : zrgs (zlwQ 14) (fun a => zrgs (zlwQ (zlkQ [(4294967301, 15)] a)) (fun b => zrgs (zlwQ (zlkQ [(5192296864579456726603646497718278, 10)] (Nat.add (Nat.mul a 1208925819614629174706176) b))) (fun c => f_X9_hooka [zR 1, zI a, zI b, zI c] (hRf 15) (fun r h => zands [zrI r, zsubH h (hRf 15)])))) = true := by decide +kernel
set_option maxRecDepth 100000 in
theorem evR_15_classOf : zrgs (zlwQ 4) (fun a => zrgs (zlwQ (zlkQ [(0, 4), (1, 4), (2, 4), (3, 4), (4, 4)] a)) (fun b => f_X9_classOfa [zR 1, zI a, zI b] (hRf 15) (fun r h => zands [zrI r, zsubH h (hRf 15)]))) = true := by decide +kernel
set_option maxRecDepth 100000 in
theorem evR_15_character : zrgs (zlwQ 14) (fun a => zrgs (zlwQ (zlkQ [(4294967301, 14)] a)) (fun b => f_X9_charactera [zR 1, zI a, zI b] (hRf 15) (fun r h => zands [zrI r, zsubH h (hRf 15)]))) = true := by decide +kernel
set_option maxRecDepth 100000 in
theorem evR_15_modular : zrgs (zlwQ 14) (fun a => zrgs (zlwQ (zlkQ [(4294967301, 14)] a)) (fun b => f_X9_modulara [zR 1, zI a, zI b] (hRf 15) (fun r h => zands [zrI r, zsubH h (hRf 15)]))) = true := by decide +kernel
set_option maxRecDepth 100000 in
theorem evR_15_projective : zrgs (zlwQ 14) (fun a => zrgs (zlwQ (zlkQ [(4294967301, 14)] a)) (fun b => f_X9_projectivea [zR 1, zI a, zI b] (hRf 15) (fun r h => zands [zrI r, zsubH h (hRf 15)]))) = true := by decide +kernel
set_option maxRecDepth 100000 in
theorem evR_15_decomposition : zrgs (zlwQ 14) (fun a => zrgs (zlwQ (zlkQ [(4294967301, 4)] a)) (fun b => f_X9_decompositiona [zR 1, zI a, zI b] (hRf 15) (fun r h => zands [zrI r, zsubH h (hRf 15)]))) = true := by decide +kernel
set_option maxRecDepth 100000 in
theorem evR_15_cartan : zrgs (zlwQ 4) (fun a => zrgs (zlwQ (zlkQ [(0, 4), (1, 4), (2, 4), (3, 4), (4, 4)] a)) (fun b => f_X9_cartana [zR 1, zI a, zI b] (hRf 15) (fun r h => zands [zrI r, zsubH h (hRf 15)]))) = true := by decide +kernel
set_option maxRecDepth 100000 in
theorem evR_15_tableau : zrgs (zlwQ 4) (fun a => zrgs (zlwQ (zlkQ [(0, 10), (1, 12), (2, 11), (3, 12), (4, 10)] a)) (fun b => zrgs (zlwQ (zlkQ [(0, 4), (1208925819614633469673475, 4), (2417851639229262644379650, 4), (3626777458843891819085827, 4), (4835703278458516698824704, 4)] (Nat.add (Nat.mul a 1208925819614629174706176) b))) (fun c => zrgs (zlwQ (zlkQ [(0, 13), (1, 10), (2, 10), (3, 10), (4, 10), (5, 10), (1461501637330908110500546994321370394039785881600, 12), (1461501637330908110500546994321370394039785881601, 10), (1461501637330908110500546994321370394039785881602, 10), (1461501637330908110500546994321370394039785881603, 10), (1461501637330908110500546994321370394039785881604, 10), (1461501637330908110500546994321370394039785881605, 10), (2923003274661811028704230618111833799066543718400, 11), (2923003274661811028704230618111833799066543718401, 2), (2923003274661811028704230618111833799066543718402, 10), (2923003274661811028704230618111833799066543718403, 10), (2923003274661811028704230618111833799066543718404, 10), (2923003274661811028704230618111833799066543718405, 10), (4384504911992713946907916659753936433351650967552, 11), (4384504911992713946907916659753936433351650967553, 10), (4384504911992713946907916659753936433351650967554, 10), (4384504911992713946907916659753936433351650967555, 10), (4384504911992713946907916659753936433351650967556, 10), (4384504911992713946907916659753936433351650967557, 10), (5846006549323611672814739330865132078623730171904, 10), (5846006549323611672814739330865132078623730171905, 10), (5846006549323611672814739330865132078623730171906, 10), (5846006549323611672814739330865132078623730171907, 10), (5846006549323611672814739330865132078623730171908, 10), (5846006549323611672814739330865132078623730171909, 10)] (Nat.add (Nat.mul (Nat.add (Nat.mul a 1208925819614629174706176) b) 1208925819614629174706176) c))) (fun d => f_X9_tableaua [zR 1, zI a, zI b, zI c, zI d] (hRf 15) (fun r h => zands [zrI r, zsubH h (hRf 15)]))))) = true := by decide +kernel
set_option maxRecDepth 100000 in
theorem evR_15_gram : zrgs (zlwQ 4) (fun a => zrgs (zlwQ (zlkQ [(0, 10), (1, 12), (2, 11), (3, 12), (4, 10)] a)) (fun b => zrgs (zlwQ (zlkQ [(0, 10), (1208925819614633469673475, 12), (2417851639229262644379650, 11), (3626777458843891819085827, 12), (4835703278458516698824704, 10)] (Nat.add (Nat.mul a 1208925819614629174706176) b))) (fun c => f_X9_grama [zR 1, zI a, zI b, zI c] (hRf 15) (fun r h => zands [zrI r, zsubH h (hRf 15)])))) = true := by decide +kernel
set_option maxRecDepth 100000 in
theorem evR_15_block : zrgs (zlwQ 4) (fun a => zrgs (zlwQ (zlkQ [(0, 4), (1, 4), (2, 4), (3, 4), (4, 4)] a)) (fun b => f_X9_blockt [zR 1, zI a, zI b] (hRf 15) (fun r h => zands [zrI r, zsubH h (hRf 15)]))) = true := by decide +kernel
set_option maxRecDepth 100000 in
theorem evR_15_value : zrgs (zlwQ 15) (fun a => zrgs (zlwQ (zlkQ [(4294967302, 14)] a)) (fun b => f_X9_valuev [zR 1, zI a, zI b] (hRf 15) (fun r h => zands [zrJ r, zsubH h (hRf 15)]))) = true := by decide +kernel
set_option maxRecDepth 100000 in
theorem evR_15_parts : zrgs (zlwQ 15) (fun a => zrgs (zlwQ (zlkQ [(4294967302, 14)] a)) (fun b => zrgs (zlwQ 0) (fun c => f_X9_partsv [zR 1, zI a, zI b, zI c] (hRf 15) (fun r h => zands [zrJ r, zsubH h (hRf 15)])))) = true := by decide +kernel
set_option maxRecDepth 100000 in
theorem evR_15_inner : zrgs (zlwQ 15) (fun a => zrgs (zlwQ (zlkQ [(4294967302, 15)] a)) (fun b => f_X9_innerv [zR 1, zI a, zI b] (hRf 15) (fun r h => zands [zrJ r, zsubH h (hRf 15)]))) = true := by decide +kernel
set_option maxRecDepth 100000 in
theorem evR_15_kind : zrgs (zlwQ 15) (fun a => zrgs (zlwQ 0) (fun b => f_X9_kindv [zR 1, zI a, zI b] (hRf 15) (fun r h => zands [zrI r, zsubH h (hRf 15)]))) = true := by decide +kernel
set_option maxRecDepth 100000 in
theorem evR_15_cut : zrgs (zlwQ 15) (fun a => zrgs (zlwQ (zlkQ [(4294967302, 6)] a)) (fun b => zrgs (zlwQ (zlkQ [(5192296865788382546218271377457152, 15), (5192296865788382546218271377457153, 15), (5192296865788382546218271377457154, 15), (5192296865788382546218271377457155, 15), (5192296865788382546218271377457156, 15)] (Nat.add (Nat.mul a 1208925819614629174706176) b))) (fun c => f_X9_cutv [zR 1, zI a, zI b, zI c] (hRf 15) (fun r h => zands [zrI r, zsubH h (hRf 15)])))) = true := by decide +kernel
set_option maxRecDepth 100000 in
theorem evR_15_look : zrgs (zlwQ 6) (fun a => f_X9_lookv [zR 1, zI a] (hRf 15) (fun r h => zands [zrI r, zsubH h (hRf 15)])) = true := by decide +kernel
end
section
/-! the reference at (5, 2): by program -/
set_option maxRecDepth 100000 in
theorem evR_16_fault : zrgs zlvR (fun a => f_X9_faulta [zR 1, zI a] (hRf 16) (fun r h => zands [zrI r, zsubH h (hRf 16)])) = true := by decide +kernel
set_option maxRecDepth 100000 in
theorem evR_16_partition : zrgs (zlwQ 16) (fun a => zrgs (zlwQ (zlkQ [(4294967303, 4)] a)) (fun b => f_X9_partitiona [zR 1, zI a, zI b] (hRf 16) (fun r h => zands [zrI r, zsubH h (hRf 16)]))) = true := by decide +kernel
set_option maxRecDepth 100000 in
theorem evR_16_of : zrgs (zlwQ 6) (fun a => zrgs (zlwQ (zlkQ [(0, 6), (1, 6), (2, 6), (3, 6), (4, 6), (5, 6), (6, 6)] a)) (fun b => f_X9_ofa [zR 1, zI a, zI b] (hRf 16) (fun r h => zands [zrI r, zsubH h (hRf 16)]))) = true := by decide +kernel
set_option maxRecDepth 100000 in
theorem evR_16_core : zrgs (zlwQ 6) (fun a => zrgs (zlwQ 0) (fun b => f_X9_corea [zR 1, zI a, zI b] (hRf 16) (fun r h => zands [zrI r, zsubH h (hRf 16)]))) = true := by decide +kernel
set_option maxRecDepth 100000 in
theorem evR_16_hook : zrgs (zlwQ 16) (fun a => zrgs (zlwQ (zlkQ [(4294967303, 15)] a)) (fun b => zrgs (zlwQ (zlkQ [(5192296866997308365832904847130630, 10)] (Nat.add (Nat.mul a 1208925819614629174706176) b))) (fun c => f_X9_hooka [zR 1, zI a, zI b, zI c] (hRf 16) (fun r h => zands [zrI r, zsubH h (hRf 16)])))) = true := by decide +kernel
set_option maxRecDepth 100000 in
theorem evR_16_classOf : zrgs (zlwQ 6) (fun a => zrgs (zlwQ (zlkQ [(0, 4), (1, 4), (2, 4), (3, 4), (4, 4), (5, 4), (6, 4)] a)) (fun b => f_X9_classOfa [zR 1, zI a, zI b] (hRf 16) (fun r h => zands [zrI r, zsubH h (hRf 16)]))) = true := by decide +kernel
set_option maxRecDepth 100000 in
theorem evR_16_character : zrgs (zlwQ 16) (fun a => zrgs (zlwQ (zlkQ [(4294967303, 16)] a)) (fun b => f_X9_charactera [zR 1, zI a, zI b] (hRf 16) (fun r h => zands [zrI r, zsubH h (hRf 16)]))) = true := by decide +kernel
set_option maxRecDepth 100000 in
theorem evR_16_modular : zrgs (zlwQ 16) (fun a => zrgs (zlwQ (zlkQ [(4294967303, 16)] a)) (fun b => f_X9_modulara [zR 1, zI a, zI b] (hRf 16) (fun r h => zands [zrI r, zsubH h (hRf 16)]))) = true := by decide +kernel
set_option maxRecDepth 100000 in
theorem evR_16_projective : zrgs (zlwQ 16) (fun a => zrgs (zlwQ (zlkQ [(4294967303, 16)] a)) (fun b => f_X9_projectivea [zR 1, zI a, zI b] (hRf 16) (fun r h => zands [zrI r, zsubH h (hRf 16)]))) = true := by decide +kernel
set_option maxRecDepth 100000 in
theorem evR_16_decomposition : zrgs (zlwQ 16) (fun a => zrgs (zlwQ (zlkQ [(4294967303, 6)] a)) (fun b => f_X9_decompositiona [zR 1, zI a, zI b] (hRf 16) (fun r h => zands [zrI r, zsubH h (hRf 16)]))) = true := by decide +kernel
set_option maxRecDepth 100000 in
theorem evR_16_cartan : zrgs (zlwQ 6) (fun a => zrgs (zlwQ (zlkQ [(0, 6), (1, 6), (2, 6)] a)) (fun b => f_X9_cartana [zR 1, zI a, zI b] (hRf 16) (fun r h => zands [zrI r, zsubH h (hRf 16)]))) = true := by decide +kernel
set_option maxRecDepth 100000 in
theorem evR_16_tableau : zrgs (zlwQ 6) (fun a => zrgs (zlwQ (zlkQ [(0, 10), (1, 13), (2, 14), (3, 15), (4, 14), (5, 13), (6, 10)] a)) (fun b => zrgs (zlwQ (zlkQ [(0, 4), (1208925819614633469673476, 4), (2417851639229262644379653, 4), (3626777458843891819085830, 4), (4835703278458520993792005, 4), (6044629098073150168498180, 4), (7253554917687775048237056, 4)] (Nat.add (Nat.mul a 1208925819614629174706176) b))) (fun c => zrgs (zlwQ (zlkQ [(0, 14), (1, 10), (2, 10), (3, 10), (4, 10), (5, 10), (1461501637330908110500548203247190008668960587776, 13), (1461501637330908110500548203247190008668960587777, 10), (1461501637330908110500548203247190008668960587778, 10), (1461501637330908110500548203247190008668960587779, 10), (1461501637330908110500548203247190008668960587780, 10), (1461501637330908110500548203247190008668960587781, 10), (2923003274661811028704234244889292642954067836928, 12), (2923003274661811028704234244889292642954067836929, 2), (2923003274661811028704234244889292642954067836930, 10), (2923003274661811028704234244889292642954067836931, 10), (2923003274661811028704234244889292642954067836932, 10), (2923003274661811028704234244889292642954067836933, 10), (4384504911992713946907920286531395277239175086080, 12), (4384504911992713946907920286531395277239175086081, 10), (4384504911992713946907920286531395277239175086082, 10), (4384504911992713946907920286531395277239175086083, 10), (4384504911992713946907920286531395277239175086084, 10), (4384504911992713946907920286531395277239175086085, 10), (5846006549323616865111603910321858682265932922880, 11), (5846006549323616865111603910321858682265932922881, 2), (5846006549323616865111603910321858682265932922882, 10), (5846006549323616865111603910321858682265932922883, 10), (5846006549323616865111603910321858682265932922884, 10), (5846006549323616865111603910321858682265932922885, 10), (7307508186654519783315287534112322087292690759680, 11), (7307508186654519783315287534112322087292690759681, 10), (7307508186654519783315287534112322087292690759682, 10), (7307508186654519783315287534112322087292690759683, 10), (7307508186654519783315287534112322087292690759684, 10), (7307508186654519783315287534112322087292690759685, 10), (8769009823985417509222108996297698117935595257856, 10), (8769009823985417509222108996297698117935595257857, 10), (8769009823985417509222108996297698117935595257858, 10), (8769009823985417509222108996297698117935595257859, 10), (8769009823985417509222108996297698117935595257860, 10), (8769009823985417509222108996297698117935595257861, 10)] (Nat.add (Nat.mul (Nat.add (Nat.mul a 1208925819614629174706176) b) 1208925819614629174706176) c))) (fun d => f_X9_tableaua [zR 1, zI a, zI b, zI c, zI d] (hRf 16) (fun r h => zands [zrI r, zsubH h (hRf 16)]))))) = true := by decide +kernel
set_option maxRecDepth 100000 in
theorem evR_16_gram : zrgs (zlwQ 6) (fun a => zrgs (zlwQ (zlkQ [(0, 10), (1, 13), (2, 14), (3, 15), (4, 14), (5, 13), (6, 10)] a)) (fun b => zrgs (zlwQ (zlkQ [(0, 10), (1208925819614633469673476, 13), (2417851639229262644379653, 14), (3626777458843891819085830, 15), (4835703278458520993792005, 14), (6044629098073150168498180, 13), (7253554917687775048237056, 10)] (Nat.add (Nat.mul a 1208925819614629174706176) b))) (fun c => f_X9_grama [zR 1, zI a, zI b, zI c] (hRf 16) (fun r h => zands [zrI r, zsubH h (hRf 16)])))) = true := by decide +kernel
set_option maxRecDepth 100000 in
theorem evR_16_block : zrgs (zlwQ 2) (fun a => zrgs (zlwQ (zlkQ [(0, 4), (1, 4)] a)) (fun b => f_X9_blockt [zR 1, zI a, zI b] (hRf 16) (fun r h => zands [zrI r, zsubH h (hRf 16)]))) = true := by decide +kernel
set_option maxRecDepth 100000 in
theorem evR_16_value : zrgs (zlwQ 15) (fun a => zrgs (zlwQ (zlkQ [(4294967302, 16)] a)) (fun b => f_X9_valuev [zR 1, zI a, zI b] (hRf 16) (fun r h => zands [zrJ r, zsubH h (hRf 16)]))) = true := by decide +kernel
set_option maxRecDepth 100000 in
theorem evR_16_parts : zrgs (zlwQ 15) (fun a => zrgs (zlwQ (zlkQ [(4294967302, 16)] a)) (fun b => zrgs (zlwQ 0) (fun c => f_X9_partsv [zR 1, zI a, zI b, zI c] (hRf 16) (fun r h => zands [zrJ r, zsubH h (hRf 16)])))) = true := by decide +kernel
set_option maxRecDepth 100000 in
theorem evR_16_inner : zrgs (zlwQ 15) (fun a => zrgs (zlwQ (zlkQ [(4294967302, 15)] a)) (fun b => f_X9_innerv [zR 1, zI a, zI b] (hRf 16) (fun r h => zands [zrJ r, zsubH h (hRf 16)]))) = true := by decide +kernel
set_option maxRecDepth 100000 in
theorem evR_16_kind : zrgs (zlwQ 15) (fun a => zrgs (zlwQ 0) (fun b => f_X9_kindv [zR 1, zI a, zI b] (hRf 16) (fun r h => zands [zrI r, zsubH h (hRf 16)]))) = true := by decide +kernel
set_option maxRecDepth 100000 in
theorem evR_16_cut : zrgs (zlwQ 15) (fun a => zrgs (zlwQ (zlkQ [(4294967302, 6)] a)) (fun b => zrgs (zlwQ (zlkQ [(5192296865788382546218271377457152, 15), (5192296865788382546218271377457153, 15)] (Nat.add (Nat.mul a 1208925819614629174706176) b))) (fun c => f_X9_cutv [zR 1, zI a, zI b, zI c] (hRf 16) (fun r h => zands [zrI r, zsubH h (hRf 16)])))) = true := by decide +kernel
set_option maxRecDepth 100000 in
theorem evR_16_look : zrgs (zlwQ 6) (fun a => f_X9_lookv [zR 1, zI a] (hRf 16) (fun r h => zands [zrI r, zsubH h (hRf 16)])) = true := by decide +kernel
end
section
/-! the reference at (5, 3): by program -/
set_option maxRecDepth 100000 in
theorem evR_17_fault : zrgs zlvR (fun a => f_X9_faulta [zR 1, zI a] (hRf 17) (fun r h => zands [zrI r, zsubH h (hRf 17)])) = true := by decide +kernel
set_option maxRecDepth 100000 in
theorem evR_17_partition : zrgs (zlwQ 16) (fun a => zrgs (zlwQ (zlkQ [(4294967303, 4)] a)) (fun b => f_X9_partitiona [zR 1, zI a, zI b] (hRf 17) (fun r h => zands [zrI r, zsubH h (hRf 17)]))) = true := by decide +kernel
set_option maxRecDepth 100000 in
theorem evR_17_of : zrgs (zlwQ 6) (fun a => zrgs (zlwQ (zlkQ [(0, 6), (1, 6), (2, 6), (3, 6), (4, 6), (5, 6), (6, 6)] a)) (fun b => f_X9_ofa [zR 1, zI a, zI b] (hRf 17) (fun r h => zands [zrI r, zsubH h (hRf 17)]))) = true := by decide +kernel
set_option maxRecDepth 100000 in
theorem evR_17_core : zrgs (zlwQ 6) (fun a => zrgs (zlwQ 0) (fun b => f_X9_corea [zR 1, zI a, zI b] (hRf 17) (fun r h => zands [zrI r, zsubH h (hRf 17)]))) = true := by decide +kernel
set_option maxRecDepth 100000 in
theorem evR_17_hook : zrgs (zlwQ 16) (fun a => zrgs (zlwQ (zlkQ [(4294967303, 15)] a)) (fun b => zrgs (zlwQ (zlkQ [(5192296866997308365832904847130630, 10)] (Nat.add (Nat.mul a 1208925819614629174706176) b))) (fun c => f_X9_hooka [zR 1, zI a, zI b, zI c] (hRf 17) (fun r h => zands [zrI r, zsubH h (hRf 17)])))) = true := by decide +kernel
set_option maxRecDepth 100000 in
theorem evR_17_classOf : zrgs (zlwQ 6) (fun a => zrgs (zlwQ (zlkQ [(0, 4), (1, 4), (2, 4), (3, 4), (4, 4), (5, 4), (6, 4)] a)) (fun b => f_X9_classOfa [zR 1, zI a, zI b] (hRf 17) (fun r h => zands [zrI r, zsubH h (hRf 17)]))) = true := by decide +kernel
set_option maxRecDepth 100000 in
theorem evR_17_character : zrgs (zlwQ 16) (fun a => zrgs (zlwQ (zlkQ [(4294967303, 16)] a)) (fun b => f_X9_charactera [zR 1, zI a, zI b] (hRf 17) (fun r h => zands [zrI r, zsubH h (hRf 17)]))) = true := by decide +kernel
set_option maxRecDepth 100000 in
theorem evR_17_modular : zrgs (zlwQ 16) (fun a => zrgs (zlwQ (zlkQ [(4294967303, 16)] a)) (fun b => f_X9_modulara [zR 1, zI a, zI b] (hRf 17) (fun r h => zands [zrI r, zsubH h (hRf 17)]))) = true := by decide +kernel
set_option maxRecDepth 100000 in
theorem evR_17_projective : zrgs (zlwQ 16) (fun a => zrgs (zlwQ (zlkQ [(4294967303, 16)] a)) (fun b => f_X9_projectivea [zR 1, zI a, zI b] (hRf 17) (fun r h => zands [zrI r, zsubH h (hRf 17)]))) = true := by decide +kernel
set_option maxRecDepth 100000 in
theorem evR_17_decomposition : zrgs (zlwQ 16) (fun a => zrgs (zlwQ (zlkQ [(4294967303, 6)] a)) (fun b => f_X9_decompositiona [zR 1, zI a, zI b] (hRf 17) (fun r h => zands [zrI r, zsubH h (hRf 17)]))) = true := by decide +kernel
set_option maxRecDepth 100000 in
theorem evR_17_cartan : zrgs (zlwQ 6) (fun a => zrgs (zlwQ (zlkQ [(0, 6), (1, 6), (2, 6), (3, 6), (4, 6)] a)) (fun b => f_X9_cartana [zR 1, zI a, zI b] (hRf 17) (fun r h => zands [zrI r, zsubH h (hRf 17)]))) = true := by decide +kernel
set_option maxRecDepth 100000 in
theorem evR_17_tableau : zrgs (zlwQ 6) (fun a => zrgs (zlwQ (zlkQ [(0, 10), (1, 13), (2, 14), (3, 15), (4, 14), (5, 13), (6, 10)] a)) (fun b => zrgs (zlwQ (zlkQ [(0, 4), (1208925819614633469673476, 4), (2417851639229262644379653, 4), (3626777458843891819085830, 4), (4835703278458520993792005, 4), (6044629098073150168498180, 4), (7253554917687775048237056, 4)] (Nat.add (Nat.mul a 1208925819614629174706176) b))) (fun c => zrgs (zlwQ (zlkQ [(0, 14), (1, 10), (2, 10), (3, 10), (4, 10), (5, 10), (1461501637330908110500548203247190008668960587776, 13), (1461501637330908110500548203247190008668960587777, 10), (1461501637330908110500548203247190008668960587778, 10), (1461501637330908110500548203247190008668960587779, 10), (1461501637330908110500548203247190008668960587780, 10), (1461501637330908110500548203247190008668960587781, 10), (2923003274661811028704234244889292642954067836928, 12), (2923003274661811028704234244889292642954067836929, 2), (2923003274661811028704234244889292642954067836930, 10), (2923003274661811028704234244889292642954067836931, 10), (2923003274661811028704234244889292642954067836932, 10), (2923003274661811028704234244889292642954067836933, 10), (4384504911992713946907920286531395277239175086080, 12), (4384504911992713946907920286531395277239175086081, 10), (4384504911992713946907920286531395277239175086082, 10), (4384504911992713946907920286531395277239175086083, 10), (4384504911992713946907920286531395277239175086084, 10), (4384504911992713946907920286531395277239175086085, 10), (5846006549323616865111603910321858682265932922880, 11), (5846006549323616865111603910321858682265932922881, 2), (5846006549323616865111603910321858682265932922882, 10), (5846006549323616865111603910321858682265932922883, 10), (5846006549323616865111603910321858682265932922884, 10), (5846006549323616865111603910321858682265932922885, 10), (7307508186654519783315287534112322087292690759680, 11), (7307508186654519783315287534112322087292690759681, 10), (7307508186654519783315287534112322087292690759682, 10), (7307508186654519783315287534112322087292690759683, 10), (7307508186654519783315287534112322087292690759684, 10), (7307508186654519783315287534112322087292690759685, 10), (8769009823985417509222108996297698117935595257856, 10), (8769009823985417509222108996297698117935595257857, 10), (8769009823985417509222108996297698117935595257858, 10), (8769009823985417509222108996297698117935595257859, 10), (8769009823985417509222108996297698117935595257860, 10), (8769009823985417509222108996297698117935595257861, 10)] (Nat.add (Nat.mul (Nat.add (Nat.mul a 1208925819614629174706176) b) 1208925819614629174706176) c))) (fun d => f_X9_tableaua [zR 1, zI a, zI b, zI c, zI d] (hRf 17) (fun r h => zands [zrI r, zsubH h (hRf 17)]))))) = true := by decide +kernel
set_option maxRecDepth 100000 in
theorem evR_17_gram : zrgs (zlwQ 6) (fun a => zrgs (zlwQ (zlkQ [(0, 10), (1, 13), (2, 14), (3, 15), (4, 14), (5, 13), (6, 10)] a)) (fun b => zrgs (zlwQ (zlkQ [(0, 10), (1208925819614633469673476, 13), (2417851639229262644379653, 14), (3626777458843891819085830, 15), (4835703278458520993792005, 14), (6044629098073150168498180, 13), (7253554917687775048237056, 10)] (Nat.add (Nat.mul a 1208925819614629174706176) b))) (fun c => f_X9_grama [zR 1, zI a, zI b, zI c] (hRf 17) (fun r h => zands [zrI r, zsubH h (hRf 17)])))) = true := by decide +kernel
set_option maxRecDepth 100000 in
theorem evR_17_block : zrgs (zlwQ 2) (fun a => zrgs (zlwQ (zlkQ [(0, 4), (1, 4), (2, 4)] a)) (fun b => f_X9_blockt [zR 1, zI a, zI b] (hRf 17) (fun r h => zands [zrI r, zsubH h (hRf 17)]))) = true := by decide +kernel
set_option maxRecDepth 100000 in
theorem evR_17_value : zrgs (zlwQ 15) (fun a => zrgs (zlwQ (zlkQ [(4294967302, 16)] a)) (fun b => f_X9_valuev [zR 1, zI a, zI b] (hRf 17) (fun r h => zands [zrJ r, zsubH h (hRf 17)]))) = true := by decide +kernel
set_option maxRecDepth 100000 in
theorem evR_17_parts : zrgs (zlwQ 15) (fun a => zrgs (zlwQ (zlkQ [(4294967302, 16)] a)) (fun b => zrgs (zlwQ 0) (fun c => f_X9_partsv [zR 1, zI a, zI b, zI c] (hRf 17) (fun r h => zands [zrJ r, zsubH h (hRf 17)])))) = true := by decide +kernel
set_option maxRecDepth 100000 in
theorem evR_17_inner : zrgs (zlwQ 15) (fun a => zrgs (zlwQ (zlkQ [(4294967302, 15)] a)) (fun b => f_X9_innerv [zR 1, zI a, zI b] (hRf 17) (fun r h => zands [zrJ r, zsubH h (hRf 17)]))) = true := by decide +kernel
set_option maxRecDepth 100000 in
theorem evR_17_kind : zrgs (zlwQ 15) (fun a => zrgs (zlwQ 0) (fun b => f_X9_kindv [zR 1, zI a, zI b] (hRf 17) (fun r h => zands [zrI r, zsubH h (hRf 17)]))) = true := by decide +kernel
set_option maxRecDepth 100000 in
theorem evR_17_cut : zrgs (zlwQ 15) (fun a => zrgs (zlwQ (zlkQ [(4294967302, 6)] a)) (fun b => zrgs (zlwQ (zlkQ [(5192296865788382546218271377457152, 15), (5192296865788382546218271377457153, 15), (5192296865788382546218271377457154, 15)] (Nat.add (Nat.mul a 1208925819614629174706176) b))) (fun c => f_X9_cutv [zR 1, zI a, zI b, zI c] (hRf 17) (fun r h => zands [zrI r, zsubH h (hRf 17)])))) = true := by decide +kernel
set_option maxRecDepth 100000 in
theorem evR_17_look : zrgs (zlwQ 6) (fun a => f_X9_lookv [zR 1, zI a] (hRf 17) (fun r h => zands [zrI r, zsubH h (hRf 17)])) = true := by decide +kernel
end
