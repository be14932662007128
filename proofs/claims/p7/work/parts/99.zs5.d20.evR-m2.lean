section
/-! the reference at (6, 2): by program -/
set_option maxRecDepth 100000 in
theorem evR_20_fault : zrgs zlvR (fun a => f_X9_faulta [zR 1, zI a] (hRf 20) (fun r h => zands [zrI r, zsubH h (hRf 20)])) = true := by decide +kernel
set_option maxRecDepth 100000 in
theorem evR_20_partition : zrgs (zlwQ 20) (fun a => zrgs (zlwQ (zlkQ [(4294967307, 4)] a)) (fun b => f_X9_partitiona [zR 1, zI a, zI b] (hRf 20) (fun r h => zands [zrI r, zsubH h (hRf 20)]))) = true := by decide +kernel
noncomputable def kvR_20_of (a : Nat) : Bool := zrgs (zlwQ (zlkQ [(0, 6), (1, 6), (2, 6), (3, 6), (4, 6), (5, 6), (6, 6), (7, 6), (8, 6), (9, 6), (10, 6)] a)) (fun b => f_X9_ofa [zR 1, zI a, zI b] (hRf 20) (fun r h => zands [zrI r, zsubH h (hRf 20)]))
set_option maxRecDepth 100000 in
theorem evR_20_of_p0 : zrgs [0, 1, 2, 3, 4, 5, 6, 7, 8] kvR_20_of = true := by decide +kernel
set_option maxRecDepth 100000 in
theorem evR_20_of_p1 : zrgs [9, 10, 11, 13200581984256, 2361183241439117574144] kvR_20_of = true := by decide +kernel
theorem evR_20_of : zrgs (zlwQ 6) kvR_20_of = true := by
  have h := (zrgs_ap evR_20_of_p0 evR_20_of_p1)
  exact h
set_option maxRecDepth 100000 in
theorem evR_20_core : zrgs (zlwQ 6) (fun a => zrgs (zlwQ 0) (fun b => f_X9_corea [zR 1, zI a, zI b] (hRf 20) (fun r h => zands [zrI r, zsubH h (hRf 20)]))) = true := by decide +kernel
set_option maxRecDepth 100000 in
theorem evR_20_hook : zrgs (zlwQ 20) (fun a => zrgs (zlwQ (zlkQ [(4294967307, 4)] a)) (fun b => zrgs (zlwQ 0) (fun c => f_X9_hooka [zR 1, zI a, zI b, zI c] (hRf 20) (fun r h => zands [zrI r, zsubH h (hRf 20)])))) = true := by decide +kernel
set_option maxRecDepth 100000 in
theorem evR_20_classOf : zrgs (zlwQ 6) (fun a => zrgs (zlwQ (zlkQ [(0, 4), (1, 4), (2, 4), (3, 4), (4, 4), (5, 4), (6, 4), (7, 4), (8, 4), (9, 4), (10, 4)] a)) (fun b => f_X9_classOfa [zR 1, zI a, zI b] (hRf 20) (fun r h => zands [zrI r, zsubH h (hRf 20)]))) = true := by decide +kernel
set_option maxRecDepth 100000 in
theorem evR_20_character : zrgs (zlwQ 20) (fun a => zrgs (zlwQ (zlkQ [(4294967307, 20)] a)) (fun b => f_X9_charactera [zR 1, zI a, zI b] (hRf 20) (fun r h => zands [zrI r, zsubH h (hRf 20)]))) = true := by decide +kernel
set_option maxRecDepth 100000 in
theorem evR_20_modular : zrgs (zlwQ 20) (fun a => zrgs (zlwQ (zlkQ [(4294967307, 20)] a)) (fun b => f_X9_modulara [zR 1, zI a, zI b] (hRf 20) (fun r h => zands [zrI r, zsubH h (hRf 20)]))) = true := by decide +kernel
set_option maxRecDepth 100000 in
theorem evR_20_projective : zrgs (zlwQ 20) (fun a => zrgs (zlwQ (zlkQ [(4294967307, 20)] a)) (fun b => f_X9_projectivea [zR 1, zI a, zI b] (hRf 20) (fun r h => zands [zrI r, zsubH h (hRf 20)]))) = true := by decide +kernel
set_option maxRecDepth 100000 in
theorem evR_20_decomposition : zrgs (zlwQ 20) (fun a => zrgs (zlwQ (zlkQ [(4294967307, 6)] a)) (fun b => f_X9_decompositiona [zR 1, zI a, zI b] (hRf 20) (fun r h => zands [zrI r, zsubH h (hRf 20)]))) = true := by decide +kernel
set_option maxRecDepth 100000 in
theorem evR_20_cartan : zrgs (zlwQ 6) (fun a => zrgs (zlwQ (zlkQ [(0, 6), (1, 6), (2, 6), (5, 6)] a)) (fun b => f_X9_cartana [zR 1, zI a, zI b] (hRf 20) (fun r h => zands [zrI r, zsubH h (hRf 20)]))) = true := by decide +kernel
set_option maxRecDepth 100000 in
theorem evR_20_tableau : zrgs (zlwQ 6) (fun a => zrgs (zlwQ (zlkQ [(0, 10), (1, 14), (2, 18), (3, 19), (4, 14), (5, 25), (6, 19), (7, 14), (8, 18), (9, 14), (10, 10)] a)) (fun b => zrgs (zlwQ (zlkQ [(0, 4), (1208925819614633469673477, 4), (2417851639229262644379657, 4), (3626777458843891819085834, 4), (4835703278458520993792005, 4), (6044629098073150168498192, 4), (7253554917687779343204362, 4), (8462480737302408517910533, 4), (9671406556917037692616713, 4), (10880332376531666867322885, 4), (12089258196146291747061760, 4)] (Nat.add (Nat.mul a 1208925819614629174706176) b))) (fun c => zrgs (zlwQ (zlkQ [(0, 15), (1, 10), (2, 10), (3, 10), (4, 10), (5, 10), (1461501637330908110500549412173009623298135293952, 14), (1461501637330908110500549412173009623298135293953, 10), (1461501637330908110500549412173009623298135293954, 10), (1461501637330908110500549412173009623298135293955, 10), (1461501637330908110500549412173009623298135293956, 10), (1461501637330908110500549412173009623298135293957, 10), (2923003274661811028704239080592571101470766661632, 13), (2923003274661811028704239080592571101470766661633, 2), (2923003274661811028704239080592571101470766661634, 10), (2923003274661811028704239080592571101470766661635, 10), (2923003274661811028704239080592571101470766661636, 10), (2923003274661811028704239080592571101470766661637, 10), (4384504911992713946907925122234673735755873910784, 13), (4384504911992713946907925122234673735755873910785, 10), (4384504911992713946907925122234673735755873910786, 10), (4384504911992713946907925122234673735755873910787, 10), (4384504911992713946907925122234673735755873910788, 10), (4384504911992713946907925122234673735755873910789, 10), (5846006549323616865111603910321858682265932922880, 12), (5846006549323616865111603910321858682265932922881, 2), (5846006549323616865111603910321858682265932922882, 10), (5846006549323616865111603910321858682265932922883, 10), (5846006549323616865111603910321858682265932922884, 10), (5846006549323616865111603910321858682265932922885, 10), (7307508186654519783315302041222157462842787233792, 12), (7307508186654519783315302041222157462842787233793, 2), (7307508186654519783315302041222157462842787233794, 10), (7307508186654519783315302041222157462842787233795, 10), (7307508186654519783315302041222157462842787233796, 10), (7307508186654519783315302041222157462842787233797, 10), (8769009823985422701518979620383522794723671539712, 12), (8769009823985422701518979620383522794723671539713, 10), (8769009823985422701518979620383522794723671539714, 10), (8769009823985422701518979620383522794723671539715, 10), (8769009823985422701518979620383522794723671539716, 10), (8769009823985422701518979620383522794723671539717, 10), (10230511461316325619722658408470707741233730551808, 11), (10230511461316325619722658408470707741233730551809, 2), (10230511461316325619722658408470707741233730551810, 2), (10230511461316325619722658408470707741233730551811, 10), (10230511461316325619722658408470707741233730551812, 10), (10230511461316325619722658408470707741233730551813, 10), (11692013098647228537926348076890269219406361919488, 11), (11692013098647228537926348076890269219406361919489, 2), (11692013098647228537926348076890269219406361919490, 10), (11692013098647228537926348076890269219406361919491, 10), (11692013098647228537926348076890269219406361919492, 10), (11692013098647228537926348076890269219406361919493, 10), (13153514735978131456130028073903273780545595637760, 11), (13153514735978131456130028073903273780545595637761, 10), (13153514735978131456130028073903273780545595637762, 10), (13153514735978131456130028073903273780545595637763, 10), (13153514735978131456130028073903273780545595637764, 10), (13153514735978131456130028073903273780545595637765, 10), (14615016373309029182036848327162830196559325429760, 10), (14615016373309029182036848327162830196559325429761, 10), (14615016373309029182036848327162830196559325429762, 10), (14615016373309029182036848327162830196559325429763, 10), (14615016373309029182036848327162830196559325429764, 10), (14615016373309029182036848327162830196559325429765, 10)] (Nat.add (Nat.mul (Nat.add (Nat.mul a 1208925819614629174706176) b) 1208925819614629174706176) c))) (fun d => f_X9_tableaua [zR 1, zI a, zI b, zI c, zI d] (hRf 20) (fun r h => zands [zrI r, zsubH h (hRf 20)]))))) = true := by decide +kernel
set_option maxRecDepth 100000 in
theorem evR_20_gram : zrgs (zlwQ 6) (fun a => zrgs (zlwQ (zlkQ [(0, 10), (1, 14), (2, 18), (3, 19), (4, 14), (5, 25), (6, 19), (7, 14), (8, 18), (9, 14), (10, 10)] a)) (fun b => zrgs (zlwQ (zlkQ [(0, 10), (1208925819614633469673477, 14), (2417851639229262644379657, 18), (3626777458843891819085834, 19), (4835703278458520993792005, 14), (6044629098073150168498192, 25), (7253554917687779343204362, 19), (8462480737302408517910533, 14), (9671406556917037692616713, 18), (10880332376531666867322885, 14), (12089258196146291747061760, 10)] (Nat.add (Nat.mul a 1208925819614629174706176) b))) (fun c => f_X9_grama [zR 1, zI a, zI b, zI c] (hRf 20) (fun r h => zands [zrI r, zsubH h (hRf 20)])))) = true := by decide +kernel
set_option maxRecDepth 100000 in
theorem evR_20_block : zrgs (zlwQ 2) (fun a => zrgs (zlwQ (zlkQ [(0, 4), (1, 4)] a)) (fun b => f_X9_blockt [zR 1, zI a, zI b] (hRf 20) (fun r h => zands [zrI r, zsubH h (hRf 20)]))) = true := by decide +kernel
set_option maxRecDepth 100000 in
theorem evR_20_value : zrgs (zlwQ 15) (fun a => zrgs (zlwQ (zlkQ [(4294967302, 20)] a)) (fun b => f_X9_valuev [zR 1, zI a, zI b] (hRf 20) (fun r h => zands [zrJ r, zsubH h (hRf 20)]))) = true := by decide +kernel
set_option maxRecDepth 100000 in
theorem evR_20_parts : zrgs (zlwQ 15) (fun a => zrgs (zlwQ (zlkQ [(4294967302, 20)] a)) (fun b => zrgs (zlwQ 0) (fun c => f_X9_partsv [zR 1, zI a, zI b, zI c] (hRf 20) (fun r h => zands [zrJ r, zsubH h (hRf 20)])))) = true := by decide +kernel
set_option maxRecDepth 100000 in
theorem evR_20_inner : zrgs (zlwQ 15) (fun a => zrgs (zlwQ (zlkQ [(4294967302, 15)] a)) (fun b => f_X9_innerv [zR 1, zI a, zI b] (hRf 20) (fun r h => zands [zrJ r, zsubH h (hRf 20)]))) = true := by decide +kernel
set_option maxRecDepth 100000 in
theorem evR_20_kind : zrgs (zlwQ 15) (fun a => zrgs (zlwQ 0) (fun b => f_X9_kindv [zR 1, zI a, zI b] (hRf 20) (fun r h => zands [zrI r, zsubH h (hRf 20)]))) = true := by decide +kernel
set_option maxRecDepth 100000 in
theorem evR_20_cut : zrgs (zlwQ 15) (fun a => zrgs (zlwQ (zlkQ [(4294967302, 6)] a)) (fun b => zrgs (zlwQ (zlkQ [(5192296865788382546218271377457152, 15), (5192296865788382546218271377457153, 15)] (Nat.add (Nat.mul a 1208925819614629174706176) b))) (fun c => f_X9_cutv [zR 1, zI a, zI b, zI c] (hRf 20) (fun r h => zands [zrI r, zsubH h (hRf 20)])))) = true := by decide +kernel
set_option maxRecDepth 100000 in
theorem evR_20_look : zrgs (zlwQ 6) (fun a => f_X9_lookv [zR 1, zI a] (hRf 20) (fun r h => zands [zrI r, zsubH h (hRf 20)])) = true := by decide +kernel
end
section
/-! the reference at (6, 3): by program -/
set_option maxRecDepth 100000 in
theorem evR_21_fault : zrgs zlvR (fun a => f_X9_faulta [zR 1, zI a] (hRf 21) (fun r h => zands [zrI r, zsubH h (hRf 21)])) = true := by decide +kernel
set_option maxRecDepth 100000 in
theorem evR_21_partition : zrgs (zlwQ 20) (fun a => zrgs (zlwQ (zlkQ [(4294967307, 4)] a)) (fun b => f_X9_partitiona [zR 1, zI a, zI b] (hRf 21) (fun r h => zands [zrI r, zsubH h (hRf 21)]))) = true := by decide +kernel
noncomputable def kvR_21_of (a : Nat) : Bool := zrgs (zlwQ (zlkQ [(0, 6), (1, 6), (2, 6), (3, 6), (4, 6), (5, 6), (6, 6), (7, 6), (8, 6), (9, 6), (10, 6)] a)) (fun b => f_X9_ofa [zR 1, zI a, zI b] (hRf 21) (fun r h => zands [zrI r, zsubH h (hRf 21)]))
set_option maxRecDepth 100000 in
theorem evR_21_of_p0 : zrgs [0, 1, 2, 3, 4, 5, 6, 7, 8] kvR_21_of = true := by decide +kernel
set_option maxRecDepth 100000 in
theorem evR_21_of_p1 : zrgs [9, 10, 11, 13200581984256, 2361183241439117574144] kvR_21_of = true := by decide +kernel
theorem evR_21_of : zrgs (zlwQ 6) kvR_21_of = true := by
  have h := (zrgs_ap evR_21_of_p0 evR_21_of_p1)
  exact h
set_option maxRecDepth 100000 in
theorem evR_21_core : zrgs (zlwQ 6) (fun a => zrgs (zlwQ 0) (fun b => f_X9_corea [zR 1, zI a, zI b] (hRf 21) (fun r h => zands [zrI r, zsubH h (hRf 21)]))) = true := by decide +kernel
set_option maxRecDepth 100000 in
theorem evR_21_hook : zrgs (zlwQ 20) (fun a => zrgs (zlwQ (zlkQ [(4294967307, 4)] a)) (fun b => zrgs (zlwQ 0) (fun c => f_X9_hooka [zR 1, zI a, zI b, zI c] (hRf 21) (fun r h => zands [zrI r, zsubH h (hRf 21)])))) = true := by decide +kernel
set_option maxRecDepth 100000 in
theorem evR_21_classOf : zrgs (zlwQ 6) (fun a => zrgs (zlwQ (zlkQ [(0, 4), (1, 4), (2, 4), (3, 4), (4, 4), (5, 4), (6, 4), (7, 4), (8, 4), (9, 4), (10, 4)] a)) (fun b => f_X9_classOfa [zR 1, zI a, zI b] (hRf 21) (fun r h => zands [zrI r, zsubH h (hRf 21)]))) = true := by decide +kernel
set_option maxRecDepth 100000 in
theorem evR_21_character : zrgs (zlwQ 20) (fun a => zrgs (zlwQ (zlkQ [(4294967307, 20)] a)) (fun b => f_X9_charactera [zR 1, zI a, zI b] (hRf 21) (fun r h => zands [zrI r, zsubH h (hRf 21)]))) = true := by decide +kernel
set_option maxRecDepth 100000 in
theorem evR_21_modular : zrgs (zlwQ 20) (fun a => zrgs (zlwQ (zlkQ [(4294967307, 20)] a)) (fun b => f_X9_modulara [zR 1, zI a, zI b] (hRf 21) (fun r h => zands [zrI r, zsubH h (hRf 21)]))) = true := by decide +kernel
set_option maxRecDepth 100000 in
theorem evR_21_projective : zrgs (zlwQ 20) (fun a => zrgs (zlwQ (zlkQ [(4294967307, 20)] a)) (fun b => f_X9_projectivea [zR 1, zI a, zI b] (hRf 21) (fun r h => zands [zrI r, zsubH h (hRf 21)]))) = true := by decide +kernel
set_option maxRecDepth 100000 in
theorem evR_21_decomposition : zrgs (zlwQ 20) (fun a => zrgs (zlwQ (zlkQ [(4294967307, 6)] a)) (fun b => f_X9_decompositiona [zR 1, zI a, zI b] (hRf 21) (fun r h => zands [zrI r, zsubH h (hRf 21)]))) = true := by decide +kernel
set_option maxRecDepth 100000 in
theorem evR_21_cartan : zrgs (zlwQ 6) (fun a => zrgs (zlwQ (zlkQ [(0, 6), (1, 6), (2, 6), (3, 6), (4, 6), (5, 6), (8, 6)] a)) (fun b => f_X9_cartana [zR 1, zI a, zI b] (hRf 21) (fun r h => zands [zrI r, zsubH h (hRf 21)]))) = true := by decide +kernel
set_option maxRecDepth 100000 in
theorem evR_21_tableau : zrgs (zlwQ 6) (fun a => zrgs (zlwQ (zlkQ [(0, 10), (1, 14), (2, 18), (3, 19), (4, 14), (5, 25), (6, 19), (7, 14), (8, 18), (9, 14), (10, 10)] a)) (fun b => zrgs (zlwQ (zlkQ [(0, 4), (1208925819614633469673477, 4), (2417851639229262644379657, 4), (3626777458843891819085834, 4), (4835703278458520993792005, 4), (6044629098073150168498192, 4), (7253554917687779343204362, 4), (8462480737302408517910533, 4), (9671406556917037692616713, 4), (10880332376531666867322885, 4), (12089258196146291747061760, 4)] (Nat.add (Nat.mul a 1208925819614629174706176) b))) (fun c => zrgs (zlwQ (zlkQ [(0, 15), (1, 10), (2, 10), (3, 10), (4, 10), (5, 10), (1461501637330908110500549412173009623298135293952, 14), (1461501637330908110500549412173009623298135293953, 10), (1461501637330908110500549412173009623298135293954, 10), (1461501637330908110500549412173009623298135293955, 10), (1461501637330908110500549412173009623298135293956, 10), (1461501637330908110500549412173009623298135293957, 10), (2923003274661811028704239080592571101470766661632, 13), (2923003274661811028704239080592571101470766661633, 2), (2923003274661811028704239080592571101470766661634, 10), (2923003274661811028704239080592571101470766661635, 10), (2923003274661811028704239080592571101470766661636, 10), (2923003274661811028704239080592571101470766661637, 10), (4384504911992713946907925122234673735755873910784, 13), (4384504911992713946907925122234673735755873910785, 10), (4384504911992713946907925122234673735755873910786, 10), (4384504911992713946907925122234673735755873910787, 10), (4384504911992713946907925122234673735755873910788, 10), (4384504911992713946907925122234673735755873910789, 10), (5846006549323616865111603910321858682265932922880, 12), (5846006549323616865111603910321858682265932922881, 2), (5846006549323616865111603910321858682265932922882, 10), (5846006549323616865111603910321858682265932922883, 10), (5846006549323616865111603910321858682265932922884, 10), (5846006549323616865111603910321858682265932922885, 10), (7307508186654519783315302041222157462842787233792, 12), (7307508186654519783315302041222157462842787233793, 2), (7307508186654519783315302041222157462842787233794, 10), (7307508186654519783315302041222157462842787233795, 10), (7307508186654519783315302041222157462842787233796, 10), (7307508186654519783315302041222157462842787233797, 10), (8769009823985422701518979620383522794723671539712, 12), (8769009823985422701518979620383522794723671539713, 10), (8769009823985422701518979620383522794723671539714, 10), (8769009823985422701518979620383522794723671539715, 10), (8769009823985422701518979620383522794723671539716, 10), (8769009823985422701518979620383522794723671539717, 10), (10230511461316325619722658408470707741233730551808, 11), (10230511461316325619722658408470707741233730551809, 2), (10230511461316325619722658408470707741233730551810, 2), (10230511461316325619722658408470707741233730551811, 10), (10230511461316325619722658408470707741233730551812, 10), (10230511461316325619722658408470707741233730551813, 10), (11692013098647228537926348076890269219406361919488, 11), (11692013098647228537926348076890269219406361919489, 2), (11692013098647228537926348076890269219406361919490, 10), (11692013098647228537926348076890269219406361919491, 10), (11692013098647228537926348076890269219406361919492, 10), (11692013098647228537926348076890269219406361919493, 10), (13153514735978131456130028073903273780545595637760, 11), (13153514735978131456130028073903273780545595637761, 10), (13153514735978131456130028073903273780545595637762, 10), (13153514735978131456130028073903273780545595637763, 10), (13153514735978131456130028073903273780545595637764, 10), (13153514735978131456130028073903273780545595637765, 10), (14615016373309029182036848327162830196559325429760, 10), (14615016373309029182036848327162830196559325429761, 10), (14615016373309029182036848327162830196559325429762, 10), (14615016373309029182036848327162830196559325429763, 10), (14615016373309029182036848327162830196559325429764, 10), (14615016373309029182036848327162830196559325429765, 10)] (Nat.add (Nat.mul (Nat.add (Nat.mul a 1208925819614629174706176) b) 1208925819614629174706176) c))) (fun d => f_X9_tableaua [zR 1, zI a, zI b, zI c, zI d] (hRf 21) (fun r h => zands [zrI r, zsubH h (hRf 21)]))))) = true := by decide +kernel
set_option maxRecDepth 100000 in
theorem evR_21_gram : zrgs (zlwQ 6) (fun a => zrgs (zlwQ (zlkQ [(0, 10), (1, 14), (2, 18), (3, 19), (4, 14), (5, 25), (6, 19), (7, 14), (8, 18), (9, 14), (10, 10)] a)) (fun b => zrgs (zlwQ (zlkQ [(0, 10), (1208925819614633469673477, 14), (2417851639229262644379657, 18), (3626777458843891819085834, 19), (4835703278458520993792005, 14), (6044629098073150168498192, 25), (7253554917687779343204362, 19), (8462480737302408517910533, 14), (9671406556917037692616713, 18), (10880332376531666867322885, 14), (12089258196146291747061760, 10)] (Nat.add (Nat.mul a 1208925819614629174706176) b))) (fun c => f_X9_grama [zR 1, zI a, zI b, zI c] (hRf 21) (fun r h => zands [zrI r, zsubH h (hRf 21)])))) = true := by decide +kernel
noncomputable def kvR_21_block (a : Nat) : Bool := zrgs (zlwQ (zlkQ [(0, 4), (1, 4), (2, 4)] a)) (fun b => f_X9_blockt [zR 1, zI a, zI b] (hRf 21) (fun r h => zands [zrI r, zsubH h (hRf 21)]))
set_option maxRecDepth 100000 in
theorem evR_21_block_p0 : zrgs [0] kvR_21_block = true := by decide +kernel
set_option maxRecDepth 100000 in
theorem evR_21_block_p1 : zrgs [1, 2, 3, 4404488962048, 2361183241443412541439, 4294967295] kvR_21_block = true := by decide +kernel
theorem evR_21_block : zrgs (zlwQ 2) kvR_21_block = true := by
  have h := (zrgs_ap evR_21_block_p0 evR_21_block_p1)
  exact h
set_option maxRecDepth 100000 in
theorem evR_21_value : zrgs (zlwQ 15) (fun a => zrgs (zlwQ (zlkQ [(4294967302, 20)] a)) (fun b => f_X9_valuev [zR 1, zI a, zI b] (hRf 21) (fun r h => zands [zrJ r, zsubH h (hRf 21)]))) = true := by decide +kernel
set_option maxRecDepth 100000 in
theorem evR_21_parts : zrgs (zlwQ 15) (fun a => zrgs (zlwQ (zlkQ [(4294967302, 20)] a)) (fun b => zrgs (zlwQ 0) (fun c => f_X9_partsv [zR 1, zI a, zI b, zI c] (hRf 21) (fun r h => zands [zrJ r, zsubH h (hRf 21)])))) = true := by decide +kernel
set_option maxRecDepth 100000 in
theorem evR_21_inner : zrgs (zlwQ 15) (fun a => zrgs (zlwQ (zlkQ [(4294967302, 15)] a)) (fun b => f_X9_innerv [zR 1, zI a, zI b] (hRf 21) (fun r h => zands [zrJ r, zsubH h (hRf 21)]))) = true := by decide +kernel
set_option maxRecDepth 100000 in
theorem evR_21_kind : zrgs (zlwQ 15) (fun a => zrgs (zlwQ 0) (fun b => f_X9_kindv [zR 1, zI a, zI b] (hRf 21) (fun r h => zands [zrI r, zsubH h (hRf 21)]))) = true := by decide +kernel
set_option maxRecDepth 100000 in
theorem evR_21_cut : zrgs (zlwQ 15) (fun a => zrgs (zlwQ (zlkQ [(4294967302, 6)] a)) (fun b => zrgs (zlwQ (zlkQ [(5192296865788382546218271377457152, 15), (5192296865788382546218271377457153, 15), (5192296865788382546218271377457154, 15)] (Nat.add (Nat.mul a 1208925819614629174706176) b))) (fun c => f_X9_cutv [zR 1, zI a, zI b, zI c] (hRf 21) (fun r h => zands [zrI r, zsubH h (hRf 21)])))) = true := by decide +kernel
set_option maxRecDepth 100000 in
theorem evR_21_look : zrgs (zlwQ 6) (fun a => f_X9_lookv [zR 1, zI a] (hRf 21) (fun r h => zands [zrI r, zsubH h (hRf 21)])) = true := by decide +kernel
end
