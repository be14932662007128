section
/-! the reference at (5, 5): by program -/
set_option maxRecDepth 100000 in
theorem evR_18_fault : zrgs zlvR (fun a => f_X9_faulta [zR 1, zI a] (hRf 18) (fun r h => zands [zrI r, zsubH h (hRf 18)])) = true := by decide +kernel
set_option maxRecDepth 100000 in
theorem evR_18_partition : zrgs (zlwQ 16) (fun a => zrgs (zlwQ (zlkQ [(4294967303, 4)] a)) (fun b => f_X9_partitiona [zR 1, zI a, zI b] (hRf 18) (fun r h => zands [zrI r, zsubH h (hRf 18)]))) = true := by decide +kernel
set_option maxRecDepth 100000 in
theorem evR_18_of : zrgs (zlwQ 6) (fun a => zrgs (zlwQ (zlkQ [(0, 6), (1, 6), (2, 6), (3, 6), (4, 6), (5, 6), (6, 6)] a)) (fun b => f_X9_ofa [zR 1, zI a, zI b] (hRf 18) (fun r h => zands [zrI r, zsubH h (hRf 18)]))) = true := by decide +kernel
set_option maxRecDepth 100000 in
theorem evR_18_core : zrgs (zlwQ 6) (fun a => zrgs (zlwQ 0) (fun b => f_X9_corea [zR 1, zI a, zI b] (hRf 18) (fun r h => zands [zrI r, zsubH h (hRf 18)]))) = true := by decide +kernel
set_option maxRecDepth 100000 in
theorem evR_18_hook : zrgs (zlwQ 16) (fun a => zrgs (zlwQ (zlkQ [(4294967303, 15)] a)) (fun b => zrgs (zlwQ (zlkQ [(5192296866997308365832904847130630, 10)] (Nat.add (Nat.mul a 1208925819614629174706176) b))) (fun c => f_X9_hooka [zR 1, zI a, zI b, zI c] (hRf 18) (fun r h => zands [zrI r, zsubH h (hRf 18)])))) = true := by decide +kernel
set_option maxRecDepth 100000 in
theorem evR_18_classOf : zrgs (zlwQ 6) (fun a => zrgs (zlwQ (zlkQ [(0, 4), (1, 4), (2, 4), (3, 4), (4, 4), (5, 4), (6, 4)] a)) (fun b => f_X9_classOfa [zR 1, zI a, zI b] (hRf 18) (fun r h => zands [zrI r, zsubH h (hRf 18)]))) = true := by decide +kernel
set_option maxRecDepth 100000 in
theorem evR_18_character : zrgs (zlwQ 16) (fun a => zrgs (zlwQ (zlkQ [(4294967303, 16)] a)) (fun b => f_X9_charactera [zR 1, zI a, zI b] (hRf 18) (fun r h => zands [zrI r, zsubH h (hRf 18)]))) = true := by decide +kernel
set_option maxRecDepth 100000 in
theorem evR_18_modular : zrgs (zlwQ 16) (fun a => zrgs (zlwQ (zlkQ [(4294967303, 16)] a)) (fun b => f_X9_modulara [zR 1, zI a, zI b] (hRf 18) (fun r h => zands [zrI r, zsubH h (hRf 18)]))) = true := by decide +kernel
set_option maxRecDepth 100000 in
theorem evR_18_projective : zrgs (zlwQ 16) (fun a => zrgs (zlwQ (zlkQ [(4294967303, 16)] a)) (fun b => f_X9_projectivea [zR 1, zI a, zI b] (hRf 18) (fun r h => zands [zrI r, zsubH h (hRf 18)]))) = true := by decide +kernel
set_option maxRecDepth 100000 in
theorem evR_18_decomposition : zrgs (zlwQ 16) (fun a => zrgs (zlwQ (zlkQ [(4294967303, 6)] a)) (fun b => f_X9_decompositiona [zR 1, zI a, zI b] (hRf 18) (fun r h => zands [zrI r, zsubH h (hRf 18)]))) = true := by decide +kernel
set_option maxRecDepth 100000 in
theorem evR_18_cartan : zrgs (zlwQ 6) (fun a => zrgs (zlwQ (zlkQ [(0, 6), (1, 6), (2, 6), (3, 6), (4, 6), (5, 6)] a)) (fun b => f_X9_cartana [zR 1, zI a, zI b] (hRf 18) (fun r h => zands [zrI r, zsubH h (hRf 18)]))) = true := by decide +kernel
set_option maxRecDepth 100000 in
theorem evR_18_tableau : zrgs (zlwQ 6) (fun a => zrgs (zlwQ (zlkQ [(0, 10), (1, 13), (2, 14), (3, 15), (4, 14), (5, 13), (6, 10)] a)) (fun b => zrgs (zlwQ (zlkQ [(0, 4), (1208925819614633469673476, 4), (2417851639229262644379653, 4), (3626777458843891819085830, 4), (4835703278458520993792005, 4), (6044629098073150168498180, 4), (7253554917687775048237056, 4)] (Nat.add (Nat.mul a 1208925819614629174706176) b))) (fun c => zrgs (zlwQ (zlkQ [(0, 14), (1, 10), (2, 10), (3, 10), (4, 10), (5, 10), (1461501637330908110500548203247190008668960587776, 13), (1461501637330908110500548203247190008668960587777, 10), (1461501637330908110500548203247190008668960587778, 10), (1461501637330908110500548203247190008668960587779, 10), (1461501637330908110500548203247190008668960587780, 10), (1461501637330908110500548203247190008668960587781, 10), (2923003274661811028704234244889292642954067836928, 12), (2923003274661811028704234244889292642954067836929, 2), (2923003274661811028704234244889292642954067836930, 10), (2923003274661811028704234244889292642954067836931, 10), (2923003274661811028704234244889292642954067836932, 10), (2923003274661811028704234244889292642954067836933, 10), (4384504911992713946907920286531395277239175086080, 12), (4384504911992713946907920286531395277239175086081, 10), (4384504911992713946907920286531395277239175086082, 10), (4384504911992713946907920286531395277239175086083, 10), (4384504911992713946907920286531395277239175086084, 10), (4384504911992713946907920286531395277239175086085, 10), (5846006549323616865111603910321858682265932922880, 11), (5846006549323616865111603910321858682265932922881, 2), (5846006549323616865111603910321858682265932922882, 10), (5846006549323616865111603910321858682265932922883, 10), (5846006549323616865111603910321858682265932922884, 10), (5846006549323616865111603910321858682265932922885, 10), (7307508186654519783315287534112322087292690759680, 11), (7307508186654519783315287534112322087292690759681, 10), (7307508186654519783315287534112322087292690759682, 10), (7307508186654519783315287534112322087292690759683, 10), (7307508186654519783315287534112322087292690759684, 10), (7307508186654519783315287534112322087292690759685, 10), (8769009823985417509222108996297698117935595257856, 10), (8769009823985417509222108996297698117935595257857, 10), (8769009823985417509222108996297698117935595257858, 10), (8769009823985417509222108996297698117935595257859, 10), (8769009823985417509222108996297698117935595257860, 10), (8769009823985417509222108996297698117935595257861, 10)] (Nat.add (Nat.mul (Nat.add (Nat.mul a 1208925819614629174706176) b) 1208925819614629174706176) c))) (fun d => f_X9_tableaua [zR 1, zI a, zI b, zI c, zI d] (hRf 18) (fun r h => zands [zrI r, zsubH h (hRf 18)]))))) = true := by decide +kernel
set_option maxRecDepth 100000 in
theorem evR_18_gram : zrgs (zlwQ 6) (fun a => zrgs (zlwQ (zlkQ [(0, 10), (1, 13), (2, 14), (3, 15), (4, 14), (5, 13), (6, 10)] a)) (fun b => zrgs (zlwQ (zlkQ [(0, 10), (1208925819614633469673476, 13), (2417851639229262644379653, 14), (3626777458843891819085830, 15), (4835703278458520993792005, 14), (6044629098073150168498180, 13), (7253554917687775048237056, 10)] (Nat.add (Nat.mul a 1208925819614629174706176) b))) (fun c => f_X9_grama [zR 1, zI a, zI b, zI c] (hRf 18) (fun r h => zands [zrI r, zsubH h (hRf 18)])))) = true := by decide +kernel
set_option maxRecDepth 100000 in
theorem evR_18_block : zrgs (zlwQ 2) (fun a => zrgs (zlwQ (zlkQ [(0, 4), (1, 4), (2, 4)] a)) (fun b => f_X9_blockt [zR 1, zI a, zI b] (hRf 18) (fun r h => zands [zrI r, zsubH h (hRf 18)]))) = true := by decide +kernel
set_option maxRecDepth 100000 in
theorem evR_18_value : zrgs (zlwQ 15) (fun a => zrgs (zlwQ (zlkQ [(4294967302, 16)] a)) (fun b => f_X9_valuev [zR 1, zI a, zI b] (hRf 18) (fun r h => zands [zrJ r, zsubH h (hRf 18)]))) = true := by decide +kernel
set_option maxRecDepth 100000 in
theorem evR_18_parts : zrgs (zlwQ 15) (fun a => zrgs (zlwQ (zlkQ [(4294967302, 16)] a)) (fun b => zrgs (zlwQ 0) (fun c => f_X9_partsv [zR 1, zI a, zI b, zI c] (hRf 18) (fun r h => zands [zrJ r, zsubH h (hRf 18)])))) = true := by decide +kernel
set_option maxRecDepth 100000 in
theorem evR_18_inner : zrgs (zlwQ 15) (fun a => zrgs (zlwQ (zlkQ [(4294967302, 15)] a)) (fun b => f_X9_innerv [zR 1, zI a, zI b] (hRf 18) (fun r h => zands [zrJ r, zsubH h (hRf 18)]))) = true := by decide +kernel
set_option maxRecDepth 100000 in
theorem evR_18_kind : zrgs (zlwQ 15) (fun a => zrgs (zlwQ 0) (fun b => f_X9_kindv [zR 1, zI a, zI b] (hRf 18) (fun r h => zands [zrI r, zsubH h (hRf 18)]))) = true := by decide +kernel
set_option maxRecDepth 100000 in
theorem evR_18_cut : zrgs (zlwQ 15) (fun a => zrgs (zlwQ (zlkQ [(4294967302, 6)] a)) (fun b => zrgs (zlwQ (zlkQ [(5192296865788382546218271377457152, 15), (5192296865788382546218271377457153, 15), (5192296865788382546218271377457154, 15)] (Nat.add (Nat.mul a 1208925819614629174706176) b))) (fun c => f_X9_cutv [zR 1, zI a, zI b, zI c] (hRf 18) (fun r h => zands [zrI r, zsubH h (hRf 18)])))) = true := by decide +kernel
set_option maxRecDepth 100000 in
theorem evR_18_look : zrgs (zlwQ 6) (fun a => f_X9_lookv [zR 1, zI a] (hRf 18) (fun r h => zands [zrI r, zsubH h (hRf 18)])) = true := by decide +kernel
end
section
/-! the reference at (5, 7): by program -/
set_option maxRecDepth 100000 in
theorem evR_19_fault : zrgs zlvR (fun a => f_X9_faulta [zR 1, zI a] (hRf 19) (fun r h => zands [zrI r, zsubH h (hRf 19)])) = true := by decide +kernel
set_option maxRecDepth 100000 in
theorem evR_19_partition : zrgs (zlwQ 16) (fun a => zrgs (zlwQ (zlkQ [(4294967303, 4)] a)) (fun b => f_X9_partitiona [zR 1, zI a, zI b] (hRf 19) (fun r h => zands [zrI r, zsubH h (hRf 19)]))) = true := by decide +kernel
set_option maxRecDepth 100000 in
theorem evR_19_of : zrgs (zlwQ 6) (fun a => zrgs (zlwQ (zlkQ [(0, 6), (1, 6), (2, 6), (3, 6), (4, 6), (5, 6), (6, 6)] a)) (fun b => f_X9_ofa [zR 1, zI a, zI b] (hRf 19) (fun r h => zands [zrI r, zsubH h (hRf 19)]))) = true := by decide +kernel
set_option maxRecDepth 100000 in
theorem evR_19_core : zrgs (zlwQ 6) (fun a => zrgs (zlwQ 0) (fun b => f_X9_corea [zR 1, zI a, zI b] (hRf 19) (fun r h => zands [zrI r, zsubH h (hRf 19)]))) = true := by decide +kernel
set_option maxRecDepth 100000 in
theorem evR_19_hook : zrgs (zlwQ 16) (fun a => zrgs (zlwQ (zlkQ [(4294967303, 15)] a)) (fun b => zrgs (zlwQ (zlkQ [(5192296866997308365832904847130630, 10)] (Nat.add (Nat.mul a 1208925819614629174706176) b))) (fun c => f_X9_hooka [zR 1, zI a, zI b, zI c] (hRf 19) (fun r h => zands [zrI r, zsubH h (hRf 19)])))) = true := by decide +kernel
set_option maxRecDepth 100000 in
theorem evR_19_classOf : zrgs (zlwQ 6) (fun a => zrgs (zlwQ (zlkQ [(0, 4), (1, 4), (2, 4), (3, 4), (4, 4), (5, 4), (6, 4)] a)) (fun b => f_X9_classOfa [zR 1, zI a, zI b] (hRf 19) (fun r h => zands [zrI r, zsubH h (hRf 19)]))) = true := by decide +kernel
set_option maxRecDepth 100000 in
theorem evR_19_character : zrgs (zlwQ 16) (fun a => zrgs (zlwQ (zlkQ [(4294967303, 16)] a)) (fun b => f_X9_charactera [zR 1, zI a, zI b] (hRf 19) (fun r h => zands [zrI r, zsubH h (hRf 19)]))) = true := by decide +kernel
set_option maxRecDepth 100000 in
theorem evR_19_modular : zrgs (zlwQ 16) (fun a => zrgs (zlwQ (zlkQ [(4294967303, 16)] a)) (fun b => f_X9_modulara [zR 1, zI a, zI b] (hRf 19) (fun r h => zands [zrI r, zsubH h (hRf 19)]))) = true := by decide +kernel
set_option maxRecDepth 100000 in
theorem evR_19_projective : zrgs (zlwQ 16) (fun a => zrgs (zlwQ (zlkQ [(4294967303, 16)] a)) (fun b => f_X9_projectivea [zR 1, zI a, zI b] (hRf 19) (fun r h => zands [zrI r, zsubH h (hRf 19)]))) = true := by decide +kernel
set_option maxRecDepth 100000 in
theorem evR_19_decomposition : zrgs (zlwQ 16) (fun a => zrgs (zlwQ (zlkQ [(4294967303, 6)] a)) (fun b => f_X9_decompositiona [zR 1, zI a, zI b] (hRf 19) (fun r h => zands [zrI r, zsubH h (hRf 19)]))) = true := by decide +kernel
set_option maxRecDepth 100000 in
theorem evR_19_cartan : zrgs (zlwQ 6) (fun a => zrgs (zlwQ (zlkQ [(0, 6), (1, 6), (2, 6), (3, 6), (4, 6), (5, 6), (6, 6)] a)) (fun b => f_X9_cartana [zR 1, zI a, zI b] (hRf 19) (fun r h => zands [zrI r, zsubH h (hRf 19)]))) = true := by decide +kernel
set_option maxRecDepth 100000 in
theorem evR_19_tableau : zrgs (zlwQ 6) (fun a => zrgs (zlwQ (zlkQ [(0, 10), (1, 13), (2, 14), (3, 15), (4, 14), (5, 13), (6, 10)] a)) (fun b => zrgs (zlwQ (zlkQ [(0, 4), (1208925819614633469673476, 4), (2417851639229262644379653, 4), (3626777458843891819085830, 4), (4835703278458520993792005, 4), (6044629098073150168498180, 4), (7253554917687775048237056, 4)] (Nat.add (Nat.mul a 1208925819614629174706176) b))) (fun c => zrgs (zlwQ (zlkQ [(0, 14), (1, 10), (2, 10), (3, 10), (4, 10), (5, 10), (1461501637330908110500548203247190008668960587776, 13), (1461501637330908110500548203247190008668960587777, 10), (1461501637330908110500548203247190008668960587778, 10), (1461501637330908110500548203247190008668960587779, 10), (1461501637330908110500548203247190008668960587780, 10), (1461501637330908110500548203247190008668960587781, 10), (2923003274661811028704234244889292642954067836928, 12), (2923003274661811028704234244889292642954067836929, 2), (2923003274661811028704234244889292642954067836930, 10), (2923003274661811028704234244889292642954067836931, 10), (2923003274661811028704234244889292642954067836932, 10), (2923003274661811028704234244889292642954067836933, 10), (4384504911992713946907920286531395277239175086080, 12), (4384504911992713946907920286531395277239175086081, 10), (4384504911992713946907920286531395277239175086082, 10), (4384504911992713946907920286531395277239175086083, 10), (4384504911992713946907920286531395277239175086084, 10), (4384504911992713946907920286531395277239175086085, 10), (5846006549323616865111603910321858682265932922880, 11), (5846006549323616865111603910321858682265932922881, 2), (5846006549323616865111603910321858682265932922882, 10), (5846006549323616865111603910321858682265932922883, 10), (5846006549323616865111603910321858682265932922884, 10), (5846006549323616865111603910321858682265932922885, 10), (7307508186654519783315287534112322087292690759680, 11), (7307508186654519783315287534112322087292690759681, 10), (7307508186654519783315287534112322087292690759682, 10), (7307508186654519783315287534112322087292690759683, 10), (7307508186654519783315287534112322087292690759684, 10), (7307508186654519783315287534112322087292690759685, 10), (8769009823985417509222108996297698117935595257856, 10), (8769009823985417509222108996297698117935595257857, 10), (8769009823985417509222108996297698117935595257858, 10), (8769009823985417509222108996297698117935595257859, 10), (8769009823985417509222108996297698117935595257860, 10), (8769009823985417509222108996297698117935595257861, 10)] (Nat.add (Nat.mul (Nat.add (Nat.mul a 1208925819614629174706176) b) 1208925819614629174706176) c))) (fun d => f_X9_tableaua [zR 1, zI a, zI b, zI c, zI d] (hRf 19) (fun r h => zands [zrI r, zsubH h (hRf 19)]))))) = true := by decide +kernel
set_option maxRecDepth 100000 in
theorem evR_19_gram : zrgs (zlwQ 6) (fun a => zrgs (zlwQ (zlkQ [(0, 10), (1, 13), (2, 14), (3, 15), (4, 14), (5, 13), (6, 10)] a)) (fun b => zrgs (zlwQ (zlkQ [(0, 10), (1208925819614633469673476, 13), (2417851639229262644379653, 14), (3626777458843891819085830, 15), (4835703278458520993792005, 14), (6044629098073150168498180, 13), (7253554917687775048237056, 10)] (Nat.add (Nat.mul a 1208925819614629174706176) b))) (fun c => f_X9_grama [zR 1, zI a, zI b, zI c] (hRf 19) (fun r h => zands [zrI r, zsubH h (hRf 19)])))) = true := by decide +kernel
set_option maxRecDepth 100000 in
theorem evR_19_block : zrgs (zlwQ 6) (fun a => zrgs (zlwQ (zlkQ [(0, 4), (1, 4), (2, 4), (3, 4), (4, 4), (5, 4), (6, 4)] a)) (fun b => f_X9_blockt [zR 1, zI a, zI b] (hRf 19) (fun r h => zands [zrI r, zsubH h (hRf 19)]))) = true := by decide +kernel
set_option maxRecDepth 100000 in
theorem evR_19_value : zrgs (zlwQ 15) (fun a => zrgs (zlwQ (zlkQ [(4294967302, 16)] a)) (fun b => f_X9_valuev [zR 1, zI a, zI b] (hRf 19) (fun r h => zands [zrJ r, zsubH h (hRf 19)]))) = true := by decide +kernel
set_option maxRecDepth 100000 in
theorem evR_19_parts : zrgs (zlwQ 15) (fun a => zrgs (zlwQ (zlkQ [(4294967302, 16)] a)) (fun b => zrgs (zlwQ 0) (fun c => f_X9_partsv [zR 1, zI a, zI b, zI c] (hRf 19) (fun r h => zands [zrJ r, zsubH h (hRf 19)])))) = true := by decide +kernel
set_option maxRecDepth 100000 in
theorem evR_19_inner : zrgs (zlwQ 15) (fun a => zrgs (zlwQ (zlkQ [(4294967302, 15)] a)) (fun b => f_X9_innerv [zR 1, zI a, zI b] (hRf 19) (fun r h => zands [zrJ r, zsubH h (hRf 19)]))) = true := by decide +kernel
set_option maxRecDepth 100000 in
theorem evR_19_kind : zrgs (zlwQ 15) (fun a => zrgs (zlwQ 0) (fun b => f_X9_kindv [zR 1, zI a, zI b] (hRf 19) (fun r h => zands [zrI r, zsubH h (hRf 19)]))) = true := by decide +kernel
set_option maxRecDepth 100000 in
theorem evR_19_cut : zrgs (zlwQ 15) (fun a => zrgs (zlwQ (zlkQ [(4294967302, 6)] a)) (fun b => zrgs (zlwQ (zlkQ [(5192296865788382546218271377457152, 15), (5192296865788382546218271377457153, 15), (5192296865788382546218271377457154, 15), (5192296865788382546218271377457155, 15), (5192296865788382546218271377457156, 15), (5192296865788382546218271377457157, 15), (5192296865788382546218271377457158, 15)] (Nat.add (Nat.mul a 1208925819614629174706176) b))) (fun c => f_X9_cutv [zR 1, zI a, zI b, zI c] (hRf 19) (fun r h => zands [zrI r, zsubH h (hRf 19)])))) = true := by decide +kernel
set_option maxRecDepth 100000 in
theorem evR_19_look : zrgs (zlwQ 6) (fun a => f_X9_lookv [zR 1, zI a] (hRf 19) (fun r h => zands [zrI r, zsubH h (hRf 19)])) = true := by decide +kernel
end
