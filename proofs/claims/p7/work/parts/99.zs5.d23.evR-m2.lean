section
/-! the reference at (6, 7): by program -/
set_option maxRecDepth 100000 in
theorem evR_23_fault : zrgs zlvR (fun a => f_X9_faulta [zR 1, zI a] (hRf 23) (fun r h => zands [zrI r, zsubH h (hRf 23)])) = true := by decide +kernel
set_option maxRecDepth 100000 in
theorem evR_23_partition : zrgs (zlwQ 20) (fun a => zrgs (zlwQ (zlkQ [(4294967307, 4)] a)) (fun b => f_X9_partitiona [zR 1, zI a, zI b] (hRf 23) (fun r h => zands [zrI r, zsubH h (hRf 23)]))) = true := by decide +kernel
noncomputable def kvR_23_of (a : Nat) : Bool := zrgs (zlwQ (zlkQ [(0, 6), (1, 6), (2, 6), (3, 6), (4, 6), (5, 6), (6, 6), (7, 6), (8, 6), (9, 6), (10, 6)] a)) (fun b => f_X9_ofa [zR 1, zI a, zI b] (hRf 23) (fun r h => zands [zrI r, zsubH h (hRf 23)]))
set_option maxRecDepth 100000 in
theorem evR_23_of_p0 : zrgs [0, 1, 2, 3, 4, 5, 6, 7, 8] kvR_23_of = true := by decide +kernel
set_option maxRecDepth 100000 in
theorem evR_23_of_p1 : zrgs [9, 10, 11, 13200581984256, 2361183241439117574144] kvR_23_of = true := by decide +kernel
theorem evR_23_of : zrgs (zlwQ 6) kvR_23_of = true := by
  have h := (zrgs_ap evR_23_of_p0 evR_23_of_p1)
  exact h
set_option maxRecDepth 100000 in
theorem evR_23_core : zrgs (zlwQ 6) (fun a => zrgs (zlwQ 0) (fun b => f_X9_corea [zR 1, zI a, zI b] (hRf 23) (fun r h => zands [zrI r, zsubH h (hRf 23)]))) = true := by decide +kernel
set_option maxRecDepth 100000 in
theorem evR_23_hook : zrgs (zlwQ 20) (fun a => zrgs (zlwQ (zlkQ [(4294967307, 4)] a)) (fun b => zrgs (zlwQ 0) (fun c => f_X9_hooka [zR 1, zI a, zI b, zI c] (hRf 23) (fun r h => zands [zrI r, zsubH h (hRf 23)])))) = true := by decide +kernel
set_option maxRecDepth 100000 in
theorem evR_23_classOf : zrgs (zlwQ 6) (fun a => zrgs (zlwQ (zlkQ [(0, 4), (1, 4), (2, 4), (3, 4), (4, 4), (5, 4), (6, 4), (7, 4), (8, 4), (9, 4), (10, 4)] a)) (fun b => f_X9_classOfa [zR 1, zI a, zI b] (hRf 23) (fun r h => zands [zrI r, zsubH h (hRf 23)]))) = true := by decide +kernel
set_option maxRecDepth 100000 in
theorem evR_23_character : zrgs (zlwQ 20) (fun a => zrgs (zlwQ (zlkQ [(4294967307, 20)] a)) (fun b => f_X9_charactera [zR 1, zI a, zI b] (hRf 23) (fun r h => zands [zrI r, zsubH h (hRf 23)]))) = true := by decide +kernel
set_option maxRecDepth 100000 in
theorem evR_23_modular : zrgs (zlwQ 20) (fun a => zrgs (zlwQ (zlkQ [(4294967307, 20)] a)) (fun b => f_X9_modulara [zR 1, zI a, zI b] (hRf 23) (fun r h => zands [zrI r, zsubH h (hRf 23)]))) = true := by decide +kernel
set_option maxRecDepth 100000 in
theorem evR_23_projective : zrgs (zlwQ 20) (fun a => zrgs (zlwQ (zlkQ [(4294967307, 20)] a)) (fun b => f_X9_projectivea [zR 1, zI a, zI b] (hRf 23) (fun r h => zands [zrI r, zsubH h (hRf 23)]))) = true := by decide +kernel
set_option maxRecDepth 100000 in
theorem evR_23_decomposition : zrgs (zlwQ 20) (fun a => zrgs (zlwQ (zlkQ [(4294967307, 6)] a)) (fun b => f_X9_decompositiona [zR 1, zI a, zI b] (hRf 23) (fun r h => zands [zrI r, zsubH h (hRf 23)]))) = true := by decide +kernel
set_option maxRecDepth 100000 in
theorem evR_23_cartan : zrgs (zlwQ 6) (fun a => zrgs (zlwQ (zlkQ [(0, 6), (1, 6), (2, 6), (3, 6), (4, 6), (5, 6), (6, 6), (7, 6), (8, 6), (9, 6), (10, 6)] a)) (fun b => f_X9_cartana [zR 1, zI a, zI b] (hRf 23) (fun r h => zands [zrI r, zsubH h (hRf 23)]))) = true := by decide +kernel
set_option maxRecDepth 100000 in
theorem evR_23_tableau : zrgs (zlwQ 6) (fun a => zrgs (zlwQ (zlkQ [(0, 10), (1, 14), (2, 18), (3, 19), (4, 14), (5, 25), (6, 19), (7, 14), (8, 18), (9, 14), (10, 10)] a)) (fun b => zrgs (zlwQ (zlkQ [(0, 4), (1208925819614633469673477, 4), (2417851639229262644379657, 4), (3626777458843891819085834, 4), (4835703278458520993792005, 4), (6044629098073150168498192, 4), (7253554917687779343204362, 4), (8462480737302408517910533, 4), (9671406556917037692616713, 4), (10880332376531666867322885, 4), (12089258196146291747061760, 4)] (Nat.add (Nat.mul a 1208925819614629174706176) b))) (fun c => zrgs (zlwQ (zlkQ [(0, 15), (1, 10), (2, 10), (3, 10), (4, 10), (5, 10), (1461501637330908110500549412173009623298135293952, 14), (1461501637330908110500549412173009623298135293953, 10), (1461501637330908110500549412173009623298135293954, 10), (1461501637330908110500549412173009623298135293955, 10), (1461501637330908110500549412173009623298135293956, 10), (1461501637330908110500549412173009623298135293957, 10), (2923003274661811028704239080592571101470766661632, 13), (2923003274661811028704239080592571101470766661633, 2), (2923003274661811028704239080592571101470766661634, 10), (2923003274661811028704239080592571101470766661635, 10), (2923003274661811028704239080592571101470766661636, 10), (2923003274661811028704239080592571101470766661637, 10), (4384504911992713946907925122234673735755873910784, 13), (4384504911992713946907925122234673735755873910785, 10), (4384504911992713946907925122234673735755873910786, 10), (4384504911992713946907925122234673735755873910787, 10), (4384504911992713946907925122234673735755873910788, 10), (4384504911992713946907925122234673735755873910789, 10), (5846006549323616865111603910321858682265932922880, 12), (5846006549323616865111603910321858682265932922881, 2), (5846006549323616865111603910321858682265932922882, 10), (5846006549323616865111603910321858682265932922883, 10), (5846006549323616865111603910321858682265932922884, 10), (5846006549323616865111603910321858682265932922885, 10), (7307508186654519783315302041222157462842787233792, 12), (7307508186654519783315302041222157462842787233793, 2), (7307508186654519783315302041222157462842787233794, 10), (7307508186654519783315302041222157462842787233795, 10), (7307508186654519783315302041222157462842787233796, 10), (7307508186654519783315302041222157462842787233797, 10), (8769009823985422701518979620383522794723671539712, 12), (8769009823985422701518979620383522794723671539713, 10), (8769009823985422701518979620383522794723671539714, 10), (8769009823985422701518979620383522794723671539715, 10), (8769009823985422701518979620383522794723671539716, 10), (8769009823985422701518979620383522794723671539717, 10), (10230511461316325619722658408470707741233730551808, 11), (10230511461316325619722658408470707741233730551809, 2), (10230511461316325619722658408470707741233730551810, 2), (10230511461316325619722658408470707741233730551811, 10), (10230511461316325619722658408470707741233730551812, 10), (10230511461316325619722658408470707741233730551813, 10), (11692013098647228537926348076890269219406361919488, 11), (11692013098647228537926348076890269219406361919489, 2), (11692013098647228537926348076890269219406361919490, 10), (11692013098647228537926348076890269219406361919491, 10), (11692013098647228537926348076890269219406361919492, 10), (11692013098647228537926348076890269219406361919493, 10), (13153514735978131456130028073903273780545595637760, 11), (13153514735978131456130028073903273780545595637761, 10), (13153514735978131456130028073903273780545595637762, 10), (13153514735978131456130028073903273780545595637763, 10), (13153514735978131456130028073903273780545595637764, 10), (13153514735978131456130028073903273780545595637765, 10), (14615016373309029182036848327162830196559325429760, 10), (14615016373309029182036848327162830196559325429761, 10), (14615016373309029182036848327162830196559325429762, 10), (14615016373309029182036848327162830196559325429763, 10), (14615016373309029182036848327162830196559325429764, 10), (14615016373309029182036848327162830196559325429765, 10)] (Nat.add (Nat.mul (Nat.add (Nat.mul a 1208925819614629174706176) b) 1208925819614629174706176) c))) (fun d => f_X9_tableaua [zR 1, zI a, zI b, zI c, zI d] (hRf 23) (fun r h => zands [zrI r, zsubH h (hRf 23)]))))) = true := by decide +kernel
set_option maxRecDepth 100000 in
theorem evR_23_gram : zrgs (zlwQ 6) (fun a => zrgs (zlwQ (zlkQ [(0, 10), (1, 14), (2, 18), (3, 19), (4, 14), (5, 25), (6, 19), (7, 14), (8, 18), (9, 14), (10, 10)] a)) (fun b => zrgs (zlwQ (zlkQ [(0, 10), (1208925819614633469673477, 14), (2417851639229262644379657, 18), (3626777458843891819085834, 19), (4835703278458520993792005, 14), (6044629098073150168498192, 25), (7253554917687779343204362, 19), (8462480737302408517910533, 14), (9671406556917037692616713, 18), (10880332376531666867322885, 14), (12089258196146291747061760, 10)] (Nat.add (Nat.mul a 1208925819614629174706176) b))) (fun c => f_X9_grama [zR 1, zI a, zI b, zI c] (hRf 23) (fun r h => zands [zrI r, zsubH h (hRf 23)])))) = true := by decide +kernel
set_option maxRecDepth 100000 in
theorem evR_23_block : zrgs (zlwQ 6) (fun a => zrgs (zlwQ (zlkQ [(0, 4), (1, 4), (2, 4), (3, 4), (4, 4), (5, 4), (6, 4), (7, 4), (8, 4), (9, 4), (10, 4)] a)) (fun b => f_X9_blockt [zR 1, zI a, zI b] (hRf 23) (fun r h => zands [zrI r, zsubH h (hRf 23)]))) = true := by decide +kernel
set_option maxRecDepth 100000 in
theorem evR_23_value : zrgs (zlwQ 15) (fun a => zrgs (zlwQ (zlkQ [(4294967302, 20)] a)) (fun b => f_X9_valuev [zR 1, zI a, zI b] (hRf 23) (fun r h => zands [zrJ r, zsubH h (hRf 23)]))) = true := by decide +kernel
set_option maxRecDepth 100000 in
theorem evR_23_parts : zrgs (zlwQ 15) (fun a => zrgs (zlwQ (zlkQ [(4294967302, 20)] a)) (fun b => zrgs (zlwQ 0) (fun c => f_X9_partsv [zR 1, zI a, zI b, zI c] (hRf 23) (fun r h => zands [zrJ r, zsubH h (hRf 23)])))) = true := by decide +kernel
set_option maxRecDepth 100000 in
theorem evR_23_inner : zrgs (zlwQ 15) (fun a => zrgs (zlwQ (zlkQ [(4294967302, 15)] a)) (fun b => f_X9_innerv [zR 1, zI a, zI b] (hRf 23) (fun r h => zands [zrJ r, zsubH h (hRf 23)]))) = true := by decide +kernel
set_option maxRecDepth 100000 in
theorem evR_23_kind : zrgs (zlwQ 15) (fun a => zrgs (zlwQ 0) (fun b => f_X9_kindv [zR 1, zI a, zI b] (hRf 23) (fun r h => zands [zrI r, zsubH h (hRf 23)]))) = true := by decide +kernel
noncomputable def kvR_23_cut (a : Nat) : Bool := zrgs (zlwQ (zlkQ [(4294967302, 6)] a)) (fun b => zrgs (zlwQ (zlkQ [(5192296865788382546218271377457152, 15), (5192296865788382546218271377457153, 15), (5192296865788382546218271377457154, 15), (5192296865788382546218271377457155, 15), (5192296865788382546218271377457156, 15), (5192296865788382546218271377457157, 15), (5192296865788382546218271377457158, 15), (5192296865788382546218271377457159, 15), (5192296865788382546218271377457160, 15), (5192296865788382546218271377457161, 15), (5192296865788382546218271377457162, 15)] (Nat.add (Nat.mul a 1208925819614629174706176) b))) (fun c => f_X9_cutv [zR 1, zI a, zI b, zI c] (hRf 23) (fun r h => zands [zrI r, zsubH h (hRf 23)])))
set_option maxRecDepth 100000 in
theorem evR_23_cut_p0 : zrgs [4294967302] kvR_23_cut = true := by decide +kernel
set_option maxRecDepth 100000 in
theorem evR_23_cut_p1 : zrgs [6603512217600, 2361183241439117574144] kvR_23_cut = true := by decide +kernel
theorem evR_23_cut : zrgs (zlwQ 15) kvR_23_cut = true := by
  have h := (zrgs_ap evR_23_cut_p0 evR_23_cut_p1)
  exact h
set_option maxRecDepth 100000 in
theorem evR_23_look : zrgs (zlwQ 6) (fun a => f_X9_lookv [zR 1, zI a] (hRf 23) (fun r h => zands [zrI r, zsubH h (hRf 23)])) = true := by decide +kernel
end
section
/-! at all groups: by program -/
theorem evC_fault : ∀ g, g < 24 → zX1 (fun a => f_X8_faulta [zR 1, zI a] (hCf g) (fun r h => zands [zrI r, zsubH h (hCf g)]))
  | 0, _ => zX1_of (zlwQ_cv _) evC_0_fault
  | 1, _ => zX1_of (zlwQ_cv _) evC_1_fault
  | 2, _ => zX1_of (zlwQ_cv _) evC_2_fault
  | 3, _ => zX1_of (zlwQ_cv _) evC_3_fault
  | 4, _ => zX1_of (zlwQ_cv _) evC_4_fault
  | 5, _ => zX1_of (zlwQ_cv _) evC_5_fault
  | 6, _ => zX1_of (zlwQ_cv _) evC_6_fault
  | 7, _ => zX1_of (zlwQ_cv _) evC_7_fault
  | 8, _ => zX1_of (zlwQ_cv _) evC_8_fault
  | 9, _ => zX1_of (zlwQ_cv _) evC_9_fault
  | 10, _ => zX1_of (zlwQ_cv _) evC_10_fault
  | 11, _ => zX1_of (zlwQ_cv _) evC_11_fault
  | 12, _ => zX1_of (zlwQ_cv _) evC_12_fault
  | 13, _ => zX1_of (zlwQ_cv _) evC_13_fault
  | 14, _ => zX1_of (zlwQ_cv _) evC_14_fault
  | 15, _ => zX1_of (zlwQ_cv _) evC_15_fault
  | 16, _ => zX1_of (zlwQ_cv _) evC_16_fault
  | 17, _ => zX1_of (zlwQ_cv _) evC_17_fault
  | 18, _ => zX1_of (zlwQ_cv _) evC_18_fault
  | 19, _ => zX1_of (zlwQ_cv _) evC_19_fault
  | 20, _ => zX1_of (zlwQ_cv _) evC_20_fault
  | 21, _ => zX1_of (zlwQ_cv _) evC_21_fault
  | 22, _ => zX1_of (zlwQ_cv _) evC_22_fault
  | 23, _ => zX1_of (zlwQ_cv _) evC_23_fault
  | n + 24, h => absurd h (by omega)
theorem evC_partition : ∀ g, g < 24 → zX2 (fun a b => f_X8_partitiona [zR 1, zI a, zI b] (hCf g) (fun r h => zands [zrI r, zsubH h (hCf g)]))
  | 0, _ => zX2_of (zlwQ_cv _) (fun _ => zlwQ_cv _) evC_0_partition
  | 1, _ => zX2_of (zlwQ_cv _) (fun _ => zlwQ_cv _) evC_1_partition
  | 2, _ => zX2_of (zlwQ_cv _) (fun _ => zlwQ_cv _) evC_2_partition
  | 3, _ => zX2_of (zlwQ_cv _) (fun _ => zlwQ_cv _) evC_3_partition
  | 4, _ => zX2_of (zlwQ_cv _) (fun _ => zlwQ_cv _) evC_4_partition
  | 5, _ => zX2_of (zlwQ_cv _) (fun _ => zlwQ_cv _) evC_5_partition
  | 6, _ => zX2_of (zlwQ_cv _) (fun _ => zlwQ_cv _) evC_6_partition
  | 7, _ => zX2_of (zlwQ_cv _) (fun _ => zlwQ_cv _) evC_7_partition
  | 8, _ => zX2_of (zlwQ_cv _) (fun _ => zlwQ_cv _) evC_8_partition
  | 9, _ => zX2_of (zlwQ_cv _) (fun _ => zlwQ_cv _) evC_9_partition
  | 10, _ => zX2_of (zlwQ_cv _) (fun _ => zlwQ_cv _) evC_10_partition
  | 11, _ => zX2_of (zlwQ_cv _) (fun _ => zlwQ_cv _) evC_11_partition
  | 12, _ => zX2_of (zlwQ_cv _) (fun _ => zlwQ_cv _) evC_12_partition
  | 13, _ => zX2_of (zlwQ_cv _) (fun _ => zlwQ_cv _) evC_13_partition
  | 14, _ => zX2_of (zlwQ_cv _) (fun _ => zlwQ_cv _) evC_14_partition
  | 15, _ => zX2_of (zlwQ_cv _) (fun _ => zlwQ_cv _) evC_15_partition
  | 16, _ => zX2_of (zlwQ_cv _) (fun _ => zlwQ_cv _) evC_16_partition
  | 17, _ => zX2_of (zlwQ_cv _) (fun _ => zlwQ_cv _) evC_17_partition
  | 18, _ => zX2_of (zlwQ_cv _) (fun _ => zlwQ_cv _) evC_18_partition
  | 19, _ => zX2_of (zlwQ_cv _) (fun _ => zlwQ_cv _) evC_19_partition
  | 20, _ => zX2_of (zlwQ_cv _) (fun _ => zlwQ_cv _) evC_20_partition
  | 21, _ => zX2_of (zlwQ_cv _) (fun _ => zlwQ_cv _) evC_21_partition
  | 22, _ => zX2_of (zlwQ_cv _) (fun _ => zlwQ_cv _) evC_22_partition
  | 23, _ => zX2_of (zlwQ_cv _) (fun _ => zlwQ_cv _) evC_23_partition
  | n + 24, h => absurd h (by omega)
theorem evC_of : ∀ g, g < 24 → zX2 (fun a b => f_X8_ofa [zR 1, zI a, zI b] (hCf g) (fun r h => zands [zrI r, zsubH h (hCf g)]))
  | 0, _ => zX2_of (zlwQ_cv _) (fun _ => zlwQ_cv _) evC_0_of
  | 1, _ => zX2_of (zlwQ_cv _) (fun _ => zlwQ_cv _) evC_1_of
  | 2, _ => zX2_of (zlwQ_cv _) (fun _ => zlwQ_cv _) evC_2_of
  | 3, _ => zX2_of (zlwQ_cv _) (fun _ => zlwQ_cv _) evC_3_of
  | 4, _ => zX2_of (zlwQ_cv _) (fun _ => zlwQ_cv _) evC_4_of
  | 5, _ => zX2_of (zlwQ_cv _) (fun _ => zlwQ_cv _) evC_5_of
  | 6, _ => zX2_of (zlwQ_cv _) (fun _ => zlwQ_cv _) evC_6_of
  | 7, _ => zX2_of (zlwQ_cv _) (fun _ => zlwQ_cv _) evC_7_of
  | 8, _ => zX2_of (zlwQ_cv _) (fun _ => zlwQ_cv _) evC_8_of
  | 9, _ => zX2_of (zlwQ_cv _) (fun _ => zlwQ_cv _) evC_9_of
  | 10, _ => zX2_of (zlwQ_cv _) (fun _ => zlwQ_cv _) evC_10_of
  | 11, _ => zX2_of (zlwQ_cv _) (fun _ => zlwQ_cv _) evC_11_of
  | 12, _ => zX2_of (zlwQ_cv _) (fun _ => zlwQ_cv _) evC_12_of
  | 13, _ => zX2_of (zlwQ_cv _) (fun _ => zlwQ_cv _) evC_13_of
  | 14, _ => zX2_of (zlwQ_cv _) (fun _ => zlwQ_cv _) evC_14_of
  | 15, _ => zX2_of (zlwQ_cv _) (fun _ => zlwQ_cv _) evC_15_of
  | 16, _ => zX2_of (zlwQ_cv _) (fun _ => zlwQ_cv _) evC_16_of
  | 17, _ => zX2_of (zlwQ_cv _) (fun _ => zlwQ_cv _) evC_17_of
  | 18, _ => zX2_of (zlwQ_cv _) (fun _ => zlwQ_cv _) evC_18_of
  | 19, _ => zX2_of (zlwQ_cv _) (fun _ => zlwQ_cv _) evC_19_of
  | 20, _ => zX2_of (zlwQ_cv _) (fun _ => zlwQ_cv _) evC_20_of
  | 21, _ => zX2_of (zlwQ_cv _) (fun _ => zlwQ_cv _) evC_21_of
  | 22, _ => zX2_of (zlwQ_cv _) (fun _ => zlwQ_cv _) evC_22_of
  | 23, _ => zX2_of (zlwQ_cv _) (fun _ => zlwQ_cv _) evC_23_of
  | n + 24, h => absurd h (by omega)
theorem evC_core : ∀ g, g < 24 → zX2 (fun a b => f_X8_corea [zR 1, zI a, zI b] (hCf g) (fun r h => zands [zrI r, zsubH h (hCf g)]))
  | 0, _ => zX2_of (zlwQ_cv _) (fun _ => zlwQ_cv _) evC_0_core
  | 1, _ => zX2_of (zlwQ_cv _) (fun _ => zlwQ_cv _) evC_1_core
  | 2, _ => zX2_of (zlwQ_cv _) (fun _ => zlwQ_cv _) evC_2_core
  | 3, _ => zX2_of (zlwQ_cv _) (fun _ => zlwQ_cv _) evC_3_core
  | 4, _ => zX2_of (zlwQ_cv _) (fun _ => zlwQ_cv _) evC_4_core
  | 5, _ => zX2_of (zlwQ_cv _) (fun _ => zlwQ_cv _) evC_5_core
  | 6, _ => zX2_of (zlwQ_cv _) (fun _ => zlwQ_cv _) evC_6_core
  | 7, _ => zX2_of (zlwQ_cv _) (fun _ => zlwQ_cv _) evC_7_core
  | 8, _ => zX2_of (zlwQ_cv _) (fun _ => zlwQ_cv _) evC_8_core
  | 9, _ => zX2_of (zlwQ_cv _) (fun _ => zlwQ_cv _) evC_9_core
  | 10, _ => zX2_of (zlwQ_cv _) (fun _ => zlwQ_cv _) evC_10_core
  | 11, _ => zX2_of (zlwQ_cv _) (fun _ => zlwQ_cv _) evC_11_core
  | 12, _ => zX2_of (zlwQ_cv _) (fun _ => zlwQ_cv _) evC_12_core
  | 13, _ => zX2_of (zlwQ_cv _) (fun _ => zlwQ_cv _) evC_13_core
  | 14, _ => zX2_of (zlwQ_cv _) (fun _ => zlwQ_cv _) evC_14_core
  | 15, _ => zX2_of (zlwQ_cv _) (fun _ => zlwQ_cv _) evC_15_core
  | 16, _ => zX2_of (zlwQ_cv _) (fun _ => zlwQ_cv _) evC_16_core
  | 17, _ => zX2_of (zlwQ_cv _) (fun _ => zlwQ_cv _) evC_17_core
  | 18, _ => zX2_of (zlwQ_cv _) (fun _ => zlwQ_cv _) evC_18_core
  | 19, _ => zX2_of (zlwQ_cv _) (fun _ => zlwQ_cv _) evC_19_core
  | 20, _ => zX2_of (zlwQ_cv _) (fun _ => zlwQ_cv _) evC_20_core
  | 21, _ => zX2_of (zlwQ_cv _) (fun _ => zlwQ_cv _) evC_21_core
  | 22, _ => zX2_of (zlwQ_cv _) (fun _ => zlwQ_cv _) evC_22_core
  | 23, _ => zX2_of (zlwQ_cv _) (fun _ => zlwQ_cv _) evC_23_core
  | n + 24, h => absurd h (by omega)
theorem evC_hook : ∀ g, g < 24 → zX3 (fun a b c => f_X8_hooka [zR 1, zI a, zI b, zI c] (hCf g) (fun r h => zands [zrI r, zsubH h (hCf g)]))
  | 0, _ => zX3_of (zlwQ_cv _) (fun _ => zlwQ_cv _) (fun _ _ => zlwQ_cv _) evC_0_hook
  | 1, _ => zX3_of (zlwQ_cv _) (fun _ => zlwQ_cv _) (fun _ _ => zlwQ_cv _) evC_1_hook
  | 2, _ => zX3_of (zlwQ_cv _) (fun _ => zlwQ_cv _) (fun _ _ => zlwQ_cv _) evC_2_hook
  | 3, _ => zX3_of (zlwQ_cv _) (fun _ => zlwQ_cv _) (fun _ _ => zlwQ_cv _) evC_3_hook
  | 4, _ => zX3_of (zlwQ_cv _) (fun _ => zlwQ_cv _) (fun _ _ => zlwQ_cv _) evC_4_hook
  | 5, _ => zX3_of (zlwQ_cv _) (fun _ => zlwQ_cv _) (fun _ _ => zlwQ_cv _) evC_5_hook
  | 6, _ => zX3_of (zlwQ_cv _) (fun _ => zlwQ_cv _) (fun _ _ => zlwQ_cv _) evC_6_hook
  | 7, _ => zX3_of (zlwQ_cv _) (fun _ => zlwQ_cv _) (fun _ _ => zlwQ_cv _) evC_7_hook
  | 8, _ => zX3_of (zlwQ_cv _) (fun _ => zlwQ_cv _) (fun _ _ => zlwQ_cv _) evC_8_hook
  | 9, _ => zX3_of (zlwQ_cv _) (fun _ => zlwQ_cv _) (fun _ _ => zlwQ_cv _) evC_9_hook
  | 10, _ => zX3_of (zlwQ_cv _) (fun _ => zlwQ_cv _) (fun _ _ => zlwQ_cv _) evC_10_hook
  | 11, _ => zX3_of (zlwQ_cv _) (fun _ => zlwQ_cv _) (fun _ _ => zlwQ_cv _) evC_11_hook
  | 12, _ => zX3_of (zlwQ_cv _) (fun _ => zlwQ_cv _) (fun _ _ => zlwQ_cv _) evC_12_hook
  | 13, _ => zX3_of (zlwQ_cv _) (fun _ => zlwQ_cv _) (fun _ _ => zlwQ_cv _) evC_13_hook
  | 14, _ => zX3_of (zlwQ_cv _) (fun _ => zlwQ_cv _) (fun _ _ => zlwQ_cv _) evC_14_hook
  | 15, _ => zX3_of (zlwQ_cv _) (fun _ => zlwQ_cv _) (fun _ _ => zlwQ_cv _) evC_15_hook
  | 16, _ => zX3_of (zlwQ_cv _) (fun _ => zlwQ_cv _) (fun _ _ => zlwQ_cv _) evC_16_hook
  | 17, _ => zX3_of (zlwQ_cv _) (fun _ => zlwQ_cv _) (fun _ _ => zlwQ_cv _) evC_17_hook
  | 18, _ => zX3_of (zlwQ_cv _) (fun _ => zlwQ_cv _) (fun _ _ => zlwQ_cv _) evC_18_hook
  | 19, _ => zX3_of (zlwQ_cv _) (fun _ => zlwQ_cv _) (fun _ _ => zlwQ_cv _) evC_19_hook
  | 20, _ => zX3_of (zlwQ_cv _) (fun _ => zlwQ_cv _) (fun _ _ => zlwQ_cv _) evC_20_hook
  | 21, _ => zX3_of (zlwQ_cv _) (fun _ => zlwQ_cv _) (fun _ _ => zlwQ_cv _) evC_21_hook
  | 22, _ => zX3_of (zlwQ_cv _) (fun _ => zlwQ_cv _) (fun _ _ => zlwQ_cv _) evC_22_hook
  | 23, _ => zX3_of (zlwQ_cv _) (fun _ => zlwQ_cv _) (fun _ _ => zlwQ_cv _) evC_23_hook
  | n + 24, h => absurd h (by omega)
theorem evC_classOf : ∀ g, g < 24 → zX2 (fun a b => f_X8_classOfa [zR 1, zI a, zI b] (hCf g) (fun r h => zands [zrI r, zsubH h (hCf g)]))
  | 0, _ => zX2_of (zlwQ_cv _) (fun _ => zlwQ_cv _) evC_0_classOf
  | 1, _ => zX2_of (zlwQ_cv _) (fun _ => zlwQ_cv _) evC_1_classOf
  | 2, _ => zX2_of (zlwQ_cv _) (fun _ => zlwQ_cv _) evC_2_classOf
  | 3, _ => zX2_of (zlwQ_cv _) (fun _ => zlwQ_cv _) evC_3_classOf
  | 4, _ => zX2_of (zlwQ_cv _) (fun _ => zlwQ_cv _) evC_4_classOf
  | 5, _ => zX2_of (zlwQ_cv _) (fun _ => zlwQ_cv _) evC_5_classOf
  | 6, _ => zX2_of (zlwQ_cv _) (fun _ => zlwQ_cv _) evC_6_classOf
  | 7, _ => zX2_of (zlwQ_cv _) (fun _ => zlwQ_cv _) evC_7_classOf
  | 8, _ => zX2_of (zlwQ_cv _) (fun _ => zlwQ_cv _) evC_8_classOf
  | 9, _ => zX2_of (zlwQ_cv _) (fun _ => zlwQ_cv _) evC_9_classOf
  | 10, _ => zX2_of (zlwQ_cv _) (fun _ => zlwQ_cv _) evC_10_classOf
  | 11, _ => zX2_of (zlwQ_cv _) (fun _ => zlwQ_cv _) evC_11_classOf
  | 12, _ => zX2_of (zlwQ_cv _) (fun _ => zlwQ_cv _) evC_12_classOf
  | 13, _ => zX2_of (zlwQ_cv _) (fun _ => zlwQ_cv _) evC_13_classOf
  | 14, _ => zX2_of (zlwQ_cv _) (fun _ => zlwQ_cv _) evC_14_classOf
  | 15, _ => zX2_of (zlwQ_cv _) (fun _ => zlwQ_cv _) evC_15_classOf
  | 16, _ => zX2_of (zlwQ_cv _) (fun _ => zlwQ_cv _) evC_16_classOf
  | 17, _ => zX2_of (zlwQ_cv _) (fun _ => zlwQ_cv _) evC_17_classOf
  | 18, _ => zX2_of (zlwQ_cv _) (fun _ => zlwQ_cv _) evC_18_classOf
  | 19, _ => zX2_of (zlwQ_cv _) (fun _ => zlwQ_cv _) evC_19_classOf
  | 20, _ => zX2_of (zlwQ_cv _) (fun _ => zlwQ_cv _) evC_20_classOf
  | 21, _ => zX2_of (zlwQ_cv _) (fun _ => zlwQ_cv _) evC_21_classOf
  | 22, _ => zX2_of (zlwQ_cv _) (fun _ => zlwQ_cv _) evC_22_classOf
  | 23, _ => zX2_of (zlwQ_cv _) (fun _ => zlwQ_cv _) evC_23_classOf
  | n + 24, h => absurd h (by omega)
theorem evC_character : ∀ g, g < 24 → zX2 (fun a b => f_X8_charactera [zR 1, zI a, zI b] (hCf g) (fun r h => zands [zrI r, zsubH h (hCf g)]))
  | 0, _ => zX2_of (zlwQ_cv _) (fun _ => zlwQ_cv _) evC_0_character
  | 1, _ => zX2_of (zlwQ_cv _) (fun _ => zlwQ_cv _) evC_1_character
  | 2, _ => zX2_of (zlwQ_cv _) (fun _ => zlwQ_cv _) evC_2_character
  | 3, _ => zX2_of (zlwQ_cv _) (fun _ => zlwQ_cv _) evC_3_character
  | 4, _ => zX2_of (zlwQ_cv _) (fun _ => zlwQ_cv _) evC_4_character
  | 5, _ => zX2_of (zlwQ_cv _) (fun _ => zlwQ_cv _) evC_5_character
  | 6, _ => zX2_of (zlwQ_cv _) (fun _ => zlwQ_cv _) evC_6_character
  | 7, _ => zX2_of (zlwQ_cv _) (fun _ => zlwQ_cv _) evC_7_character
  | 8, _ => zX2_of (zlwQ_cv _) (fun _ => zlwQ_cv _) evC_8_character
  | 9, _ => zX2_of (zlwQ_cv _) (fun _ => zlwQ_cv _) evC_9_character
  | 10, _ => zX2_of (zlwQ_cv _) (fun _ => zlwQ_cv _) evC_10_character
  | 11, _ => zX2_of (zlwQ_cv _) (fun _ => zlwQ_cv _) evC_11_character
  | 12, _ => zX2_of (zlwQ_cv _) (fun _ => zlwQ_cv _) evC_12_character
  | 13, _ => zX2_of (zlwQ_cv _) (fun _ => zlwQ_cv _) evC_13_character
  | 14, _ => zX2_of (zlwQ_cv _) (fun _ => zlwQ_cv _) evC_14_character
  | 15, _ => zX2_of (zlwQ_cv _) (fun _ => zlwQ_cv _) evC_15_character
  | 16, _ => zX2_of (zlwQ_cv _) (fun _ => zlwQ_cv _) evC_16_character
  | 17, _ => zX2_of (zlwQ_cv _) (fun _ => zlwQ_cv _) evC_17_character
  | 18, _ => zX2_of (zlwQ_cv _) (fun _ => zlwQ_cv _) evC_18_character
  | 19, _ => zX2_of (zlwQ_cv _) (fun _ => zlwQ_cv _) evC_19_character
  | 20, _ => zX2_of (zlwQ_cv _) (fun _ => zlwQ_cv _) evC_20_character
  | 21, _ => zX2_of (zlwQ_cv _) (fun _ => zlwQ_cv _) evC_21_character
  | 22, _ => zX2_of (zlwQ_cv _) (fun _ => zlwQ_cv _) evC_22_character
  | 23, _ => zX2_of (zlwQ_cv _) (fun _ => zlwQ_cv _) evC_23_character
  | n + 24, h => absurd h (by omega)
theorem evC_modular : ∀ g, g < 24 → zX2 (fun a b => f_X8_modulara [zR 1, zI a, zI b] (hCf g) (fun r h => zands [zrI r, zsubH h (hCf g)]))
  | 0, _ => zX2_of (zlwQ_cv _) (fun _ => zlwQ_cv _) evC_0_modular
  | 1, _ => zX2_of (zlwQ_cv _) (fun _ => zlwQ_cv _) evC_1_modular
  | 2, _ => zX2_of (zlwQ_cv _) (fun _ => zlwQ_cv _) evC_2_modular
  | 3, _ => zX2_of (zlwQ_cv _) (fun _ => zlwQ_cv _) evC_3_modular
  | 4, _ => zX2_of (zlwQ_cv _) (fun _ => zlwQ_cv _) evC_4_modular
  | 5, _ => zX2_of (zlwQ_cv _) (fun _ => zlwQ_cv _) evC_5_modular
  | 6, _ => zX2_of (zlwQ_cv _) (fun _ => zlwQ_cv _) evC_6_modular
  | 7, _ => zX2_of (zlwQ_cv _) (fun _ => zlwQ_cv _) evC_7_modular
  | 8, _ => zX2_of (zlwQ_cv _) (fun _ => zlwQ_cv _) evC_8_modular
  | 9, _ => zX2_of (zlwQ_cv _) (fun _ => zlwQ_cv _) evC_9_modular
  | 10, _ => zX2_of (zlwQ_cv _) (fun _ => zlwQ_cv _) evC_10_modular
  | 11, _ => zX2_of (zlwQ_cv _) (fun _ => zlwQ_cv _) evC_11_modular
  | 12, _ => zX2_of (zlwQ_cv _) (fun _ => zlwQ_cv _) evC_12_modular
  | 13, _ => zX2_of (zlwQ_cv _) (fun _ => zlwQ_cv _) evC_13_modular
  | 14, _ => zX2_of (zlwQ_cv _) (fun _ => zlwQ_cv _) evC_14_modular
  | 15, _ => zX2_of (zlwQ_cv _) (fun _ => zlwQ_cv _) evC_15_modular
  | 16, _ => zX2_of (zlwQ_cv _) (fun _ => zlwQ_cv _) evC_16_modular
  | 17, _ => zX2_of (zlwQ_cv _) (fun _ => zlwQ_cv _) evC_17_modular
  | 18, _ => zX2_of (zlwQ_cv _) (fun _ => zlwQ_cv _) evC_18_modular
  | 19, _ => zX2_of (zlwQ_cv _) (fun _ => zlwQ_cv _) evC_19_modular
  | 20, _ => zX2_of (zlwQ_cv _) (fun _ => zlwQ_cv _) evC_20_modular
  | 21, _ => zX2_of (zlwQ_cv _) (fun _ => zlwQ_cv _) evC_21_modular
  | 22, _ => zX2_of (zlwQ_cv _) (fun _ => zlwQ_cv _) evC_22_modular
  | 23, _ => zX2_of (zlwQ_cv _) (fun _ => zlwQ_cv _) evC_23_modular
  | n + 24, h => absurd h (by omega)
theorem evC_projective : ∀ g, g < 24 → zX2 (fun a b => f_X8_projectivea [zR 1, zI a, zI b] (hCf g) (fun r h => zands [zrI r, zsubH h (hCf g)]))
  | 0, _ => zX2_of (zlwQ_cv _) (fun _ => zlwQ_cv _) evC_0_projective
  | 1, _ => zX2_of (zlwQ_cv _) (fun _ => zlwQ_cv _) evC_1_projective
  | 2, _ => zX2_of (zlwQ_cv _) (fun _ => zlwQ_cv _) evC_2_projective
  | 3, _ => zX2_of (zlwQ_cv _) (fun _ => zlwQ_cv _) evC_3_projective
  | 4, _ => zX2_of (zlwQ_cv _) (fun _ => zlwQ_cv _) evC_4_projective
  | 5, _ => zX2_of (zlwQ_cv _) (fun _ => zlwQ_cv _) evC_5_projective
  | 6, _ => zX2_of (zlwQ_cv _) (fun _ => zlwQ_cv _) evC_6_projective
  | 7, _ => zX2_of (zlwQ_cv _) (fun _ => zlwQ_cv _) evC_7_projective
  | 8, _ => zX2_of (zlwQ_cv _) (fun _ => zlwQ_cv _) evC_8_projective
  | 9, _ => zX2_of (zlwQ_cv _) (fun _ => zlwQ_cv _) evC_9_projective
  | 10, _ => zX2_of (zlwQ_cv _) (fun _ => zlwQ_cv _) evC_10_projective
  | 11, _ => zX2_of (zlwQ_cv _) (fun _ => zlwQ_cv _) evC_11_projective
  | 12, _ => zX2_of (zlwQ_cv _) (fun _ => zlwQ_cv _) evC_12_projective
  | 13, _ => zX2_of (zlwQ_cv _) (fun _ => zlwQ_cv _) evC_13_projective
  | 14, _ => zX2_of (zlwQ_cv _) (fun _ => zlwQ_cv _) evC_14_projective
  | 15, _ => zX2_of (zlwQ_cv _) (fun _ => zlwQ_cv _) evC_15_projective
  | 16, _ => zX2_of (zlwQ_cv _) (fun _ => zlwQ_cv _) evC_16_projective
  | 17, _ => zX2_of (zlwQ_cv _) (fun _ => zlwQ_cv _) evC_17_projective
  | 18, _ => zX2_of (zlwQ_cv _) (fun _ => zlwQ_cv _) evC_18_projective
  | 19, _ => zX2_of (zlwQ_cv _) (fun _ => zlwQ_cv _) evC_19_projective
  | 20, _ => zX2_of (zlwQ_cv _) (fun _ => zlwQ_cv _) evC_20_projective
  | 21, _ => zX2_of (zlwQ_cv _) (fun _ => zlwQ_cv _) evC_21_projective
  | 22, _ => zX2_of (zlwQ_cv _) (fun _ => zlwQ_cv _) evC_22_projective
  | 23, _ => zX2_of (zlwQ_cv _) (fun _ => zlwQ_cv _) evC_23_projective
  | n + 24, h => absurd h (by omega)
theorem evC_decomposition : ∀ g, g < 24 → zX2 (fun a b => f_X8_decompositiona [zR 1, zI a, zI b] (hCf g) (fun r h => zands [zrI r, zsubH h (hCf g)]))
  | 0, _ => zX2_of (zlwQ_cv _) (fun _ => zlwQ_cv _) evC_0_decomposition
  | 1, _ => zX2_of (zlwQ_cv _) (fun _ => zlwQ_cv _) evC_1_decomposition
  | 2, _ => zX2_of (zlwQ_cv _) (fun _ => zlwQ_cv _) evC_2_decomposition
  | 3, _ => zX2_of (zlwQ_cv _) (fun _ => zlwQ_cv _) evC_3_decomposition
  | 4, _ => zX2_of (zlwQ_cv _) (fun _ => zlwQ_cv _) evC_4_decomposition
  | 5, _ => zX2_of (zlwQ_cv _) (fun _ => zlwQ_cv _) evC_5_decomposition
  | 6, _ => zX2_of (zlwQ_cv _) (fun _ => zlwQ_cv _) evC_6_decomposition
  | 7, _ => zX2_of (zlwQ_cv _) (fun _ => zlwQ_cv _) evC_7_decomposition
  | 8, _ => zX2_of (zlwQ_cv _) (fun _ => zlwQ_cv _) evC_8_decomposition
  | 9, _ => zX2_of (zlwQ_cv _) (fun _ => zlwQ_cv _) evC_9_decomposition
  | 10, _ => zX2_of (zlwQ_cv _) (fun _ => zlwQ_cv _) evC_10_decomposition
  | 11, _ => zX2_of (zlwQ_cv _) (fun _ => zlwQ_cv _) evC_11_decomposition
  | 12, _ => zX2_of (zlwQ_cv _) (fun _ => zlwQ_cv _) evC_12_decomposition
  | 13, _ => zX2_of (zlwQ_cv _) (fun _ => zlwQ_cv _) evC_13_decomposition
  | 14, _ => zX2_of (zlwQ_cv _) (fun _ => zlwQ_cv _) evC_14_decomposition
  | 15, _ => zX2_of (zlwQ_cv _) (fun _ => zlwQ_cv _) evC_15_decomposition
  | 16, _ => zX2_of (zlwQ_cv _) (fun _ => zlwQ_cv _) evC_16_decomposition
  | 17, _ => zX2_of (zlwQ_cv _) (fun _ => zlwQ_cv _) evC_17_decomposition
  | 18, _ => zX2_of (zlwQ_cv _) (fun _ => zlwQ_cv _) evC_18_decomposition
  | 19, _ => zX2_of (zlwQ_cv _) (fun _ => zlwQ_cv _) evC_19_decomposition
  | 20, _ => zX2_of (zlwQ_cv _) (fun _ => zlwQ_cv _) evC_20_decomposition
  | 21, _ => zX2_of (zlwQ_cv _) (fun _ => zlwQ_cv _) evC_21_decomposition
  | 22, _ => zX2_of (zlwQ_cv _) (fun _ => zlwQ_cv _) evC_22_decomposition
  | 23, _ => zX2_of (zlwQ_cv _) (fun _ => zlwQ_cv _) evC_23_decomposition
  | n + 24, h => absurd h (by omega)
theorem evC_cartan : ∀ g, g < 24 → zX2 (fun a b => f_X8_cartana [zR 1, zI a, zI b] (hCf g) (fun r h => zands [zrI r, zsubH h (hCf g)]))
  | 0, _ => zX2_of (zlwQ_cv _) (fun _ => zlwQ_cv _) evC_0_cartan
  | 1, _ => zX2_of (zlwQ_cv _) (fun _ => zlwQ_cv _) evC_1_cartan
  | 2, _ => zX2_of (zlwQ_cv _) (fun _ => zlwQ_cv _) evC_2_cartan
  | 3, _ => zX2_of (zlwQ_cv _) (fun _ => zlwQ_cv _) evC_3_cartan
  | 4, _ => zX2_of (zlwQ_cv _) (fun _ => zlwQ_cv _) evC_4_cartan
  | 5, _ => zX2_of (zlwQ_cv _) (fun _ => zlwQ_cv _) evC_5_cartan
  | 6, _ => zX2_of (zlwQ_cv _) (fun _ => zlwQ_cv _) evC_6_cartan
  | 7, _ => zX2_of (zlwQ_cv _) (fun _ => zlwQ_cv _) evC_7_cartan
  | 8, _ => zX2_of (zlwQ_cv _) (fun _ => zlwQ_cv _) evC_8_cartan
  | 9, _ => zX2_of (zlwQ_cv _) (fun _ => zlwQ_cv _) evC_9_cartan
  | 10, _ => zX2_of (zlwQ_cv _) (fun _ => zlwQ_cv _) evC_10_cartan
  | 11, _ => zX2_of (zlwQ_cv _) (fun _ => zlwQ_cv _) evC_11_cartan
  | 12, _ => zX2_of (zlwQ_cv _) (fun _ => zlwQ_cv _) evC_12_cartan
  | 13, _ => zX2_of (zlwQ_cv _) (fun _ => zlwQ_cv _) evC_13_cartan
  | 14, _ => zX2_of (zlwQ_cv _) (fun _ => zlwQ_cv _) evC_14_cartan
  | 15, _ => zX2_of (zlwQ_cv _) (fun _ => zlwQ_cv _) evC_15_cartan
  | 16, _ => zX2_of (zlwQ_cv _) (fun _ => zlwQ_cv _) evC_16_cartan
  | 17, _ => zX2_of (zlwQ_cv _) (fun _ => zlwQ_cv _) evC_17_cartan
  | 18, _ => zX2_of (zlwQ_cv _) (fun _ => zlwQ_cv _) evC_18_cartan
  | 19, _ => zX2_of (zlwQ_cv _) (fun _ => zlwQ_cv _) evC_19_cartan
  | 20, _ => zX2_of (zlwQ_cv _) (fun _ => zlwQ_cv _) evC_20_cartan
  | 21, _ => zX2_of (zlwQ_cv _) (fun _ => zlwQ_cv _) evC_21_cartan
  | 22, _ => zX2_of (zlwQ_cv _) (fun _ => zlwQ_cv _) evC_22_cartan
  | 23, _ => zX2_of (zlwQ_cv _) (fun _ => zlwQ_cv _) evC_23_cartan
  | n + 24, h => absurd h (by omega)
theorem evC_tableau : ∀ g, g < 24 → zX4 (fun a b c d => f_X8_tableaua [zR 1, zI a, zI b, zI c, zI d] (hCf g) (fun r h => zands [zrI r, zsubH h (hCf g)]))
  | 0, _ => zX4_of (zlwQ_cv _) (fun _ => zlwQ_cv _) (fun _ _ => zlwQ_cv _) (fun _ _ _ => zlwQ_cv _) evC_0_tableau
  | 1, _ => zX4_of (zlwQ_cv _) (fun _ => zlwQ_cv _) (fun _ _ => zlwQ_cv _) (fun _ _ _ => zlwQ_cv _) evC_1_tableau
  | 2, _ => zX4_of (zlwQ_cv _) (fun _ => zlwQ_cv _) (fun _ _ => zlwQ_cv _) (fun _ _ _ => zlwQ_cv _) evC_2_tableau
  | 3, _ => zX4_of (zlwQ_cv _) (fun _ => zlwQ_cv _) (fun _ _ => zlwQ_cv _) (fun _ _ _ => zlwQ_cv _) evC_3_tableau
  | 4, _ => zX4_of (zlwQ_cv _) (fun _ => zlwQ_cv _) (fun _ _ => zlwQ_cv _) (fun _ _ _ => zlwQ_cv _) evC_4_tableau
  | 5, _ => zX4_of (zlwQ_cv _) (fun _ => zlwQ_cv _) (fun _ _ => zlwQ_cv _) (fun _ _ _ => zlwQ_cv _) evC_5_tableau
  | 6, _ => zX4_of (zlwQ_cv _) (fun _ => zlwQ_cv _) (fun _ _ => zlwQ_cv _) (fun _ _ _ => zlwQ_cv _) evC_6_tableau
  | 7, _ => zX4_of (zlwQ_cv _) (fun _ => zlwQ_cv _) (fun _ _ => zlwQ_cv _) (fun _ _ _ => zlwQ_cv _) evC_7_tableau
  | 8, _ => zX4_of (zlwQ_cv _) (fun _ => zlwQ_cv _) (fun _ _ => zlwQ_cv _) (fun _ _ _ => zlwQ_cv _) evC_8_tableau
  | 9, _ => zX4_of (zlwQ_cv _) (fun _ => zlwQ_cv _) (fun _ _ => zlwQ_cv _) (fun _ _ _ => zlwQ_cv _) evC_9_tableau
  | 10, _ => zX4_of (zlwQ_cv _) (fun _ => zlwQ_cv _) (fun _ _ => zlwQ_cv _) (fun _ _ _ => zlwQ_cv _) evC_10_tableau
  | 11, _ => zX4_of (zlwQ_cv _) (fun _ => zlwQ_cv _) (fun _ _ => zlwQ_cv _) (fun _ _ _ => zlwQ_cv _) evC_11_tableau
  | 12, _ => zX4_of (zlwQ_cv _) (fun _ => zlwQ_cv _) (fun _ _ => zlwQ_cv _) (fun _ _ _ => zlwQ_cv _) evC_12_tableau
  | 13, _ => zX4_of (zlwQ_cv _) (fun _ => zlwQ_cv _) (fun _ _ => zlwQ_cv _) (fun _ _ _ => zlwQ_cv _) evC_13_tableau
  | 14, _ => zX4_of (zlwQ_cv _) (fun _ => zlwQ_cv _) (fun _ _ => zlwQ_cv _) (fun _ _ _ => zlwQ_cv _) evC_14_tableau
  | 15, _ => zX4_of (zlwQ_cv _) (fun _ => zlwQ_cv _) (fun _ _ => zlwQ_cv _) (fun _ _ _ => zlwQ_cv _) evC_15_tableau
  | 16, _ => zX4_of (zlwQ_cv _) (fun _ => zlwQ_cv _) (fun _ _ => zlwQ_cv _) (fun _ _ _ => zlwQ_cv _) evC_16_tableau
  | 17, _ => zX4_of (zlwQ_cv _) (fun _ => zlwQ_cv _) (fun _ _ => zlwQ_cv _) (fun _ _ _ => zlwQ_cv _) evC_17_tableau
  | 18, _ => zX4_of (zlwQ_cv _) (fun _ => zlwQ_cv _) (fun _ _ => zlwQ_cv _) (fun _ _ _ => zlwQ_cv _) evC_18_tableau
  | 19, _ => zX4_of (zlwQ_cv _) (fun _ => zlwQ_cv _) (fun _ _ => zlwQ_cv _) (fun _ _ _ => zlwQ_cv _) evC_19_tableau
  | 20, _ => zX4_of (zlwQ_cv _) (fun _ => zlwQ_cv _) (fun _ _ => zlwQ_cv _) (fun _ _ _ => zlwQ_cv _) evC_20_tableau
  | 21, _ => zX4_of (zlwQ_cv _) (fun _ => zlwQ_cv _) (fun _ _ => zlwQ_cv _) (fun _ _ _ => zlwQ_cv _) evC_21_tableau
  | 22, _ => zX4_of (zlwQ_cv _) (fun _ => zlwQ_cv _) (fun _ _ => zlwQ_cv _) (fun _ _ _ => zlwQ_cv _) evC_22_tableau
  | 23, _ => zX4_of (zlwQ_cv _) (fun _ => zlwQ_cv _) (fun _ _ => zlwQ_cv _) (fun _ _ _ => zlwQ_cv _) evC_23_tableau
  | n + 24, h => absurd h (by omega)
theorem evC_gram : ∀ g, g < 24 → zX3 (fun a b c => f_X8_grama [zR 1, zI a, zI b, zI c] (hCf g) (fun r h => zands [zrI r, zsubH h (hCf g)]))
  | 0, _ => zX3_of (zlwQ_cv _) (fun _ => zlwQ_cv _) (fun _ _ => zlwQ_cv _) evC_0_gram
  | 1, _ => zX3_of (zlwQ_cv _) (fun _ => zlwQ_cv _) (fun _ _ => zlwQ_cv _) evC_1_gram
  | 2, _ => zX3_of (zlwQ_cv _) (fun _ => zlwQ_cv _) (fun _ _ => zlwQ_cv _) evC_2_gram
  | 3, _ => zX3_of (zlwQ_cv _) (fun _ => zlwQ_cv _) (fun _ _ => zlwQ_cv _) evC_3_gram
  | 4, _ => zX3_of (zlwQ_cv _) (fun _ => zlwQ_cv _) (fun _ _ => zlwQ_cv _) evC_4_gram
  | 5, _ => zX3_of (zlwQ_cv _) (fun _ => zlwQ_cv _) (fun _ _ => zlwQ_cv _) evC_5_gram
  | 6, _ => zX3_of (zlwQ_cv _) (fun _ => zlwQ_cv _) (fun _ _ => zlwQ_cv _) evC_6_gram
  | 7, _ => zX3_of (zlwQ_cv _) (fun _ => zlwQ_cv _) (fun _ _ => zlwQ_cv _) evC_7_gram
  | 8, _ => zX3_of (zlwQ_cv _) (fun _ => zlwQ_cv _) (fun _ _ => zlwQ_cv _) evC_8_gram
  | 9, _ => zX3_of (zlwQ_cv _) (fun _ => zlwQ_cv _) (fun _ _ => zlwQ_cv _) evC_9_gram
  | 10, _ => zX3_of (zlwQ_cv _) (fun _ => zlwQ_cv _) (fun _ _ => zlwQ_cv _) evC_10_gram
  | 11, _ => zX3_of (zlwQ_cv _) (fun _ => zlwQ_cv _) (fun _ _ => zlwQ_cv _) evC_11_gram
  | 12, _ => zX3_of (zlwQ_cv _) (fun _ => zlwQ_cv _) (fun _ _ => zlwQ_cv _) evC_12_gram
  | 13, _ => zX3_of (zlwQ_cv _) (fun _ => zlwQ_cv _) (fun _ _ => zlwQ_cv _) evC_13_gram
  | 14, _ => zX3_of (zlwQ_cv _) (fun _ => zlwQ_cv _) (fun _ _ => zlwQ_cv _) evC_14_gram
  | 15, _ => zX3_of (zlwQ_cv _) (fun _ => zlwQ_cv _) (fun _ _ => zlwQ_cv _) evC_15_gram
  | 16, _ => zX3_of (zlwQ_cv _) (fun _ => zlwQ_cv _) (fun _ _ => zlwQ_cv _) evC_16_gram
  | 17, _ => zX3_of (zlwQ_cv _) (fun _ => zlwQ_cv _) (fun _ _ => zlwQ_cv _) evC_17_gram
  | 18, _ => zX3_of (zlwQ_cv _) (fun _ => zlwQ_cv _) (fun _ _ => zlwQ_cv _) evC_18_gram
  | 19, _ => zX3_of (zlwQ_cv _) (fun _ => zlwQ_cv _) (fun _ _ => zlwQ_cv _) evC_19_gram
  | 20, _ => zX3_of (zlwQ_cv _) (fun _ => zlwQ_cv _) (fun _ _ => zlwQ_cv _) evC_20_gram
  | 21, _ => zX3_of (zlwQ_cv _) (fun _ => zlwQ_cv _) (fun _ _ => zlwQ_cv _) evC_21_gram
  | 22, _ => zX3_of (zlwQ_cv _) (fun _ => zlwQ_cv _) (fun _ _ => zlwQ_cv _) evC_22_gram
  | 23, _ => zX3_of (zlwQ_cv _) (fun _ => zlwQ_cv _) (fun _ _ => zlwQ_cv _) evC_23_gram
  | n + 24, h => absurd h (by omega)
theorem evC_block : ∀ g, g < 24 → zX2 (fun a b => f_X8_blocka [zR 1, zI a, zI b] (hCf g) (fun r h => zands [zrI r, zsubH h (hCf g)]))
  | 0, _ => zX2_of (zlwQ_cv _) (fun _ => zlwQ_cv _) evC_0_block
  | 1, _ => zX2_of (zlwQ_cv _) (fun _ => zlwQ_cv _) evC_1_block
  | 2, _ => zX2_of (zlwQ_cv _) (fun _ => zlwQ_cv _) evC_2_block
  | 3, _ => zX2_of (zlwQ_cv _) (fun _ => zlwQ_cv _) evC_3_block
  | 4, _ => zX2_of (zlwQ_cv _) (fun _ => zlwQ_cv _) evC_4_block
  | 5, _ => zX2_of (zlwQ_cv _) (fun _ => zlwQ_cv _) evC_5_block
  | 6, _ => zX2_of (zlwQ_cv _) (fun _ => zlwQ_cv _) evC_6_block
  | 7, _ => zX2_of (zlwQ_cv _) (fun _ => zlwQ_cv _) evC_7_block
  | 8, _ => zX2_of (zlwQ_cv _) (fun _ => zlwQ_cv _) evC_8_block
  | 9, _ => zX2_of (zlwQ_cv _) (fun _ => zlwQ_cv _) evC_9_block
  | 10, _ => zX2_of (zlwQ_cv _) (fun _ => zlwQ_cv _) evC_10_block
  | 11, _ => zX2_of (zlwQ_cv _) (fun _ => zlwQ_cv _) evC_11_block
  | 12, _ => zX2_of (zlwQ_cv _) (fun _ => zlwQ_cv _) evC_12_block
  | 13, _ => zX2_of (zlwQ_cv _) (fun _ => zlwQ_cv _) evC_13_block
  | 14, _ => zX2_of (zlwQ_cv _) (fun _ => zlwQ_cv _) evC_14_block
  | 15, _ => zX2_of (zlwQ_cv _) (fun _ => zlwQ_cv _) evC_15_block
  | 16, _ => zX2_of (zlwQ_cv _) (fun _ => zlwQ_cv _) evC_16_block
  | 17, _ => zX2_of (zlwQ_cv _) (fun _ => zlwQ_cv _) evC_17_block
  | 18, _ => zX2_of (zlwQ_cv _) (fun _ => zlwQ_cv _) evC_18_block
  | 19, _ => zX2_of (zlwQ_cv _) (fun _ => zlwQ_cv _) evC_19_block
  | 20, _ => zX2_of (zlwQ_cv _) (fun _ => zlwQ_cv _) evC_20_block
  | 21, _ => zX2_of (zlwQ_cv _) (fun _ => zlwQ_cv _) evC_21_block
  | 22, _ => zX2_of (zlwQ_cv _) (fun _ => zlwQ_cv _) evC_22_block
  | 23, _ => zX2_of (zlwQ_cv _) (fun _ => zlwQ_cv _) evC_23_block
  | n + 24, h => absurd h (by omega)
theorem evC_value : ∀ g, g < 24 → zX2 (fun a b => f_X8_valuea [zR 1, zI a, zI b] (hCf g) (fun r h => zands [zrJ r, zsubH h (hCf g)]))
  | 0, _ => zX2_of (zlwQ_cv _) (fun _ => zlwQ_cv _) evC_0_value
  | 1, _ => zX2_of (zlwQ_cv _) (fun _ => zlwQ_cv _) evC_1_value
  | 2, _ => zX2_of (zlwQ_cv _) (fun _ => zlwQ_cv _) evC_2_value
  | 3, _ => zX2_of (zlwQ_cv _) (fun _ => zlwQ_cv _) evC_3_value
  | 4, _ => zX2_of (zlwQ_cv _) (fun _ => zlwQ_cv _) evC_4_value
  | 5, _ => zX2_of (zlwQ_cv _) (fun _ => zlwQ_cv _) evC_5_value
  | 6, _ => zX2_of (zlwQ_cv _) (fun _ => zlwQ_cv _) evC_6_value
  | 7, _ => zX2_of (zlwQ_cv _) (fun _ => zlwQ_cv _) evC_7_value
  | 8, _ => zX2_of (zlwQ_cv _) (fun _ => zlwQ_cv _) evC_8_value
  | 9, _ => zX2_of (zlwQ_cv _) (fun _ => zlwQ_cv _) evC_9_value
  | 10, _ => zX2_of (zlwQ_cv _) (fun _ => zlwQ_cv _) evC_10_value
  | 11, _ => zX2_of (zlwQ_cv _) (fun _ => zlwQ_cv _) evC_11_value
  | 12, _ => zX2_of (zlwQ_cv _) (fun _ => zlwQ_cv _) evC_12_value
  | 13, _ => zX2_of (zlwQ_cv _) (fun _ => zlwQ_cv _) evC_13_value
  | 14, _ => zX2_of (zlwQ_cv _) (fun _ => zlwQ_cv _) evC_14_value
  | 15, _ => zX2_of (zlwQ_cv _) (fun _ => zlwQ_cv _) evC_15_value
  | 16, _ => zX2_of (zlwQ_cv _) (fun _ => zlwQ_cv _) evC_16_value
  | 17, _ => zX2_of (zlwQ_cv _) (fun _ => zlwQ_cv _) evC_17_value
  | 18, _ => zX2_of (zlwQ_cv _) (fun _ => zlwQ_cv _) evC_18_value
  | 19, _ => zX2_of (zlwQ_cv _) (fun _ => zlwQ_cv _) evC_19_value
  | 20, _ => zX2_of (zlwQ_cv _) (fun _ => zlwQ_cv _) evC_20_value
  | 21, _ => zX2_of (zlwQ_cv _) (fun _ => zlwQ_cv _) evC_21_value
  | 22, _ => zX2_of (zlwQ_cv _) (fun _ => zlwQ_cv _) evC_22_value
  | 23, _ => zX2_of (zlwQ_cv _) (fun _ => zlwQ_cv _) evC_23_value
  | n + 24, h => absurd h (by omega)
theorem evC_parts : ∀ g, g < 24 → zX3 (fun a b c => f_X8_partst [zR 1, zI a, zI b, zI c] (hCf g) (fun r h => zands [zrJ r, zsubH h (hCf g)]))
  | 0, _ => zX3_of (zlwQ_cv _) (fun _ => zlwQ_cv _) (fun _ _ => zlwQ_cv _) evC_0_parts
  | 1, _ => zX3_of (zlwQ_cv _) (fun _ => zlwQ_cv _) (fun _ _ => zlwQ_cv _) evC_1_parts
  | 2, _ => zX3_of (zlwQ_cv _) (fun _ => zlwQ_cv _) (fun _ _ => zlwQ_cv _) evC_2_parts
  | 3, _ => zX3_of (zlwQ_cv _) (fun _ => zlwQ_cv _) (fun _ _ => zlwQ_cv _) evC_3_parts
  | 4, _ => zX3_of (zlwQ_cv _) (fun _ => zlwQ_cv _) (fun _ _ => zlwQ_cv _) evC_4_parts
  | 5, _ => zX3_of (zlwQ_cv _) (fun _ => zlwQ_cv _) (fun _ _ => zlwQ_cv _) evC_5_parts
  | 6, _ => zX3_of (zlwQ_cv _) (fun _ => zlwQ_cv _) (fun _ _ => zlwQ_cv _) evC_6_parts
  | 7, _ => zX3_of (zlwQ_cv _) (fun _ => zlwQ_cv _) (fun _ _ => zlwQ_cv _) evC_7_parts
  | 8, _ => zX3_of (zlwQ_cv _) (fun _ => zlwQ_cv _) (fun _ _ => zlwQ_cv _) evC_8_parts
  | 9, _ => zX3_of (zlwQ_cv _) (fun _ => zlwQ_cv _) (fun _ _ => zlwQ_cv _) evC_9_parts
  | 10, _ => zX3_of (zlwQ_cv _) (fun _ => zlwQ_cv _) (fun _ _ => zlwQ_cv _) evC_10_parts
  | 11, _ => zX3_of (zlwQ_cv _) (fun _ => zlwQ_cv _) (fun _ _ => zlwQ_cv _) evC_11_parts
  | 12, _ => zX3_of (zlwQ_cv _) (fun _ => zlwQ_cv _) (fun _ _ => zlwQ_cv _) evC_12_parts
  | 13, _ => zX3_of (zlwQ_cv _) (fun _ => zlwQ_cv _) (fun _ _ => zlwQ_cv _) evC_13_parts
  | 14, _ => zX3_of (zlwQ_cv _) (fun _ => zlwQ_cv _) (fun _ _ => zlwQ_cv _) evC_14_parts
  | 15, _ => zX3_of (zlwQ_cv _) (fun _ => zlwQ_cv _) (fun _ _ => zlwQ_cv _) evC_15_parts
  | 16, _ => zX3_of (zlwQ_cv _) (fun _ => zlwQ_cv _) (fun _ _ => zlwQ_cv _) evC_16_parts
  | 17, _ => zX3_of (zlwQ_cv _) (fun _ => zlwQ_cv _) (fun _ _ => zlwQ_cv _) evC_17_parts
  | 18, _ => zX3_of (zlwQ_cv _) (fun _ => zlwQ_cv _) (fun _ _ => zlwQ_cv _) evC_18_parts
  | 19, _ => zX3_of (zlwQ_cv _) (fun _ => zlwQ_cv _) (fun _ _ => zlwQ_cv _) evC_19_parts
  | 20, _ => zX3_of (zlwQ_cv _) (fun _ => zlwQ_cv _) (fun _ _ => zlwQ_cv _) evC_20_parts
  | 21, _ => zX3_of (zlwQ_cv _) (fun _ => zlwQ_cv _) (fun _ _ => zlwQ_cv _) evC_21_parts
  | 22, _ => zX3_of (zlwQ_cv _) (fun _ => zlwQ_cv _) (fun _ _ => zlwQ_cv _) evC_22_parts
  | 23, _ => zX3_of (zlwQ_cv _) (fun _ => zlwQ_cv _) (fun _ _ => zlwQ_cv _) evC_23_parts
  | n + 24, h => absurd h (by omega)
theorem evC_inner : ∀ g, g < 24 → zX2 (fun a b => f_X8_innera [zR 1, zI a, zI b] (hCf g) (fun r h => zands [zrJ r, zsubH h (hCf g)]))
  | 0, _ => zX2_of (zlwQ_cv _) (fun _ => zlwQ_cv _) evC_0_inner
  | 1, _ => zX2_of (zlwQ_cv _) (fun _ => zlwQ_cv _) evC_1_inner
  | 2, _ => zX2_of (zlwQ_cv _) (fun _ => zlwQ_cv _) evC_2_inner
  | 3, _ => zX2_of (zlwQ_cv _) (fun _ => zlwQ_cv _) evC_3_inner
  | 4, _ => zX2_of (zlwQ_cv _) (fun _ => zlwQ_cv _) evC_4_inner
  | 5, _ => zX2_of (zlwQ_cv _) (fun _ => zlwQ_cv _) evC_5_inner
  | 6, _ => zX2_of (zlwQ_cv _) (fun _ => zlwQ_cv _) evC_6_inner
  | 7, _ => zX2_of (zlwQ_cv _) (fun _ => zlwQ_cv _) evC_7_inner
  | 8, _ => zX2_of (zlwQ_cv _) (fun _ => zlwQ_cv _) evC_8_inner
  | 9, _ => zX2_of (zlwQ_cv _) (fun _ => zlwQ_cv _) evC_9_inner
  | 10, _ => zX2_of (zlwQ_cv _) (fun _ => zlwQ_cv _) evC_10_inner
  | 11, _ => zX2_of (zlwQ_cv _) (fun _ => zlwQ_cv _) evC_11_inner
  | 12, _ => zX2_of (zlwQ_cv _) (fun _ => zlwQ_cv _) evC_12_inner
  | 13, _ => zX2_of (zlwQ_cv _) (fun _ => zlwQ_cv _) evC_13_inner
  | 14, _ => zX2_of (zlwQ_cv _) (fun _ => zlwQ_cv _) evC_14_inner
  | 15, _ => zX2_of (zlwQ_cv _) (fun _ => zlwQ_cv _) evC_15_inner
  | 16, _ => zX2_of (zlwQ_cv _) (fun _ => zlwQ_cv _) evC_16_inner
  | 17, _ => zX2_of (zlwQ_cv _) (fun _ => zlwQ_cv _) evC_17_inner
  | 18, _ => zX2_of (zlwQ_cv _) (fun _ => zlwQ_cv _) evC_18_inner
  | 19, _ => zX2_of (zlwQ_cv _) (fun _ => zlwQ_cv _) evC_19_inner
  | 20, _ => zX2_of (zlwQ_cv _) (fun _ => zlwQ_cv _) evC_20_inner
  | 21, _ => zX2_of (zlwQ_cv _) (fun _ => zlwQ_cv _) evC_21_inner
  | 22, _ => zX2_of (zlwQ_cv _) (fun _ => zlwQ_cv _) evC_22_inner
  | 23, _ => zX2_of (zlwQ_cv _) (fun _ => zlwQ_cv _) evC_23_inner
  | n + 24, h => absurd h (by omega)
theorem evC_kind : ∀ g, g < 24 → zX2 (fun a b => f_X8_kinda [zR 1, zI a, zI b] (hCf g) (fun r h => zands [zrI r, zsubH h (hCf g)]))
  | 0, _ => zX2_of (zlwQ_cv _) (fun _ => zlwQ_cv _) evC_0_kind
  | 1, _ => zX2_of (zlwQ_cv _) (fun _ => zlwQ_cv _) evC_1_kind
  | 2, _ => zX2_of (zlwQ_cv _) (fun _ => zlwQ_cv _) evC_2_kind
  | 3, _ => zX2_of (zlwQ_cv _) (fun _ => zlwQ_cv _) evC_3_kind
  | 4, _ => zX2_of (zlwQ_cv _) (fun _ => zlwQ_cv _) evC_4_kind
  | 5, _ => zX2_of (zlwQ_cv _) (fun _ => zlwQ_cv _) evC_5_kind
  | 6, _ => zX2_of (zlwQ_cv _) (fun _ => zlwQ_cv _) evC_6_kind
  | 7, _ => zX2_of (zlwQ_cv _) (fun _ => zlwQ_cv _) evC_7_kind
  | 8, _ => zX2_of (zlwQ_cv _) (fun _ => zlwQ_cv _) evC_8_kind
  | 9, _ => zX2_of (zlwQ_cv _) (fun _ => zlwQ_cv _) evC_9_kind
  | 10, _ => zX2_of (zlwQ_cv _) (fun _ => zlwQ_cv _) evC_10_kind
  | 11, _ => zX2_of (zlwQ_cv _) (fun _ => zlwQ_cv _) evC_11_kind
  | 12, _ => zX2_of (zlwQ_cv _) (fun _ => zlwQ_cv _) evC_12_kind
  | 13, _ => zX2_of (zlwQ_cv _) (fun _ => zlwQ_cv _) evC_13_kind
  | 14, _ => zX2_of (zlwQ_cv _) (fun _ => zlwQ_cv _) evC_14_kind
  | 15, _ => zX2_of (zlwQ_cv _) (fun _ => zlwQ_cv _) evC_15_kind
  | 16, _ => zX2_of (zlwQ_cv _) (fun _ => zlwQ_cv _) evC_16_kind
  | 17, _ => zX2_of (zlwQ_cv _) (fun _ => zlwQ_cv _) evC_17_kind
  | 18, _ => zX2_of (zlwQ_cv _) (fun _ => zlwQ_cv _) evC_18_kind
  | 19, _ => zX2_of (zlwQ_cv _) (fun _ => zlwQ_cv _) evC_19_kind
  | 20, _ => zX2_of (zlwQ_cv _) (fun _ => zlwQ_cv _) evC_20_kind
  | 21, _ => zX2_of (zlwQ_cv _) (fun _ => zlwQ_cv _) evC_21_kind
  | 22, _ => zX2_of (zlwQ_cv _) (fun _ => zlwQ_cv _) evC_22_kind
  | 23, _ => zX2_of (zlwQ_cv _) (fun _ => zlwQ_cv _) evC_23_kind
  | n + 24, h => absurd h (by omega)
theorem evC_cut : ∀ g, g < 24 → zX3 (fun a b c => f_X8_cuta [zR 1, zI a, zI b, zI c] (hCf g) (fun r h => zands [zrI r, zsubH h (hCf g)]))
  | 0, _ => zX3_of (zlwQ_cv _) (fun _ => zlwQ_cv _) (fun _ _ => zlwQ_cv _) evC_0_cut
  | 1, _ => zX3_of (zlwQ_cv _) (fun _ => zlwQ_cv _) (fun _ _ => zlwQ_cv _) evC_1_cut
  | 2, _ => zX3_of (zlwQ_cv _) (fun _ => zlwQ_cv _) (fun _ _ => zlwQ_cv _) evC_2_cut
  | 3, _ => zX3_of (zlwQ_cv _) (fun _ => zlwQ_cv _) (fun _ _ => zlwQ_cv _) evC_3_cut
  | 4, _ => zX3_of (zlwQ_cv _) (fun _ => zlwQ_cv _) (fun _ _ => zlwQ_cv _) evC_4_cut
  | 5, _ => zX3_of (zlwQ_cv _) (fun _ => zlwQ_cv _) (fun _ _ => zlwQ_cv _) evC_5_cut
  | 6, _ => zX3_of (zlwQ_cv _) (fun _ => zlwQ_cv _) (fun _ _ => zlwQ_cv _) evC_6_cut
  | 7, _ => zX3_of (zlwQ_cv _) (fun _ => zlwQ_cv _) (fun _ _ => zlwQ_cv _) evC_7_cut
  | 8, _ => zX3_of (zlwQ_cv _) (fun _ => zlwQ_cv _) (fun _ _ => zlwQ_cv _) evC_8_cut
  | 9, _ => zX3_of (zlwQ_cv _) (fun _ => zlwQ_cv _) (fun _ _ => zlwQ_cv _) evC_9_cut
  | 10, _ => zX3_of (zlwQ_cv _) (fun _ => zlwQ_cv _) (fun _ _ => zlwQ_cv _) evC_10_cut
  | 11, _ => zX3_of (zlwQ_cv _) (fun _ => zlwQ_cv _) (fun _ _ => zlwQ_cv _) evC_11_cut
  | 12, _ => zX3_of (zlwQ_cv _) (fun _ => zlwQ_cv _) (fun _ _ => zlwQ_cv _) evC_12_cut
  | 13, _ => zX3_of (zlwQ_cv _) (fun _ => zlwQ_cv _) (fun _ _ => zlwQ_cv _) evC_13_cut
  | 14, _ => zX3_of (zlwQ_cv _) (fun _ => zlwQ_cv _) (fun _ _ => zlwQ_cv _) evC_14_cut
  | 15, _ => zX3_of (zlwQ_cv _) (fun _ => zlwQ_cv _) (fun _ _ => zlwQ_cv _) evC_15_cut
  | 16, _ => zX3_of (zlwQ_cv _) (fun _ => zlwQ_cv _) (fun _ _ => zlwQ_cv _) evC_16_cut
  | 17, _ => zX3_of (zlwQ_cv _) (fun _ => zlwQ_cv _) (fun _ _ => zlwQ_cv _) evC_17_cut
  | 18, _ => zX3_of (zlwQ_cv _) (fun _ => zlwQ_cv _) (fun _ _ => zlwQ_cv _) evC_18_cut
  | 19, _ => zX3_of (zlwQ_cv _) (fun _ => zlwQ_cv _) (fun _ _ => zlwQ_cv _) evC_19_cut
  | 20, _ => zX3_of (zlwQ_cv _) (fun _ => zlwQ_cv _) (fun _ _ => zlwQ_cv _) evC_20_cut
  | 21, _ => zX3_of (zlwQ_cv _) (fun _ => zlwQ_cv _) (fun _ _ => zlwQ_cv _) evC_21_cut
  | 22, _ => zX3_of (zlwQ_cv _) (fun _ => zlwQ_cv _) (fun _ _ => zlwQ_cv _) evC_22_cut
  | 23, _ => zX3_of (zlwQ_cv _) (fun _ => zlwQ_cv _) (fun _ _ => zlwQ_cv _) evC_23_cut
  | n + 24, h => absurd h (by omega)
theorem evC_look : ∀ g, g < 24 → zX1 (fun a => f_X8_lookt [zR 1, zI a] (hCf g) (fun r h => zands [zrI r, zsubH h (hCf g)]))
  | 0, _ => zX1_of (zlwQ_cv _) evC_0_look
  | 1, _ => zX1_of (zlwQ_cv _) evC_1_look
  | 2, _ => zX1_of (zlwQ_cv _) evC_2_look
  | 3, _ => zX1_of (zlwQ_cv _) evC_3_look
  | 4, _ => zX1_of (zlwQ_cv _) evC_4_look
  | 5, _ => zX1_of (zlwQ_cv _) evC_5_look
  | 6, _ => zX1_of (zlwQ_cv _) evC_6_look
  | 7, _ => zX1_of (zlwQ_cv _) evC_7_look
  | 8, _ => zX1_of (zlwQ_cv _) evC_8_look
  | 9, _ => zX1_of (zlwQ_cv _) evC_9_look
  | 10, _ => zX1_of (zlwQ_cv _) evC_10_look
  | 11, _ => zX1_of (zlwQ_cv _) evC_11_look
  | 12, _ => zX1_of (zlwQ_cv _) evC_12_look
  | 13, _ => zX1_of (zlwQ_cv _) evC_13_look
  | 14, _ => zX1_of (zlwQ_cv _) evC_14_look
  | 15, _ => zX1_of (zlwQ_cv _) evC_15_look
  | 16, _ => zX1_of (zlwQ_cv _) evC_16_look
  | 17, _ => zX1_of (zlwQ_cv _) evC_17_look
  | 18, _ => zX1_of (zlwQ_cv _) evC_18_look
  | 19, _ => zX1_of (zlwQ_cv _) evC_19_look
  | 20, _ => zX1_of (zlwQ_cv _) evC_20_look
  | 21, _ => zX1_of (zlwQ_cv _) evC_21_look
  | 22, _ => zX1_of (zlwQ_cv _) evC_22_look
  | 23, _ => zX1_of (zlwQ_cv _) evC_23_look
  | n + 24, h => absurd h (by omega)
theorem evR_fault : ∀ g, g < 24 → zX1 (fun a => f_X9_faulta [zR 1, zI a] (hRf g) (fun r h => zands [zrI r, zsubH h (hRf g)]))
  | 0, _ => zX1_of (zlvR_cv) evR_0_fault
  | 1, _ => zX1_of (zlvR_cv) evR_1_fault
  | 2, _ => zX1_of (zlvR_cv) evR_2_fault
  | 3, _ => zX1_of (zlvR_cv) evR_3_fault
  | 4, _ => zX1_of (zlvR_cv) evR_4_fault
  | 5, _ => zX1_of (zlvR_cv) evR_5_fault
  | 6, _ => zX1_of (zlvR_cv) evR_6_fault
  | 7, _ => zX1_of (zlvR_cv) evR_7_fault
  | 8, _ => zX1_of (zlvR_cv) evR_8_fault
  | 9, _ => zX1_of (zlvR_cv) evR_9_fault
  | 10, _ => zX1_of (zlvR_cv) evR_10_fault
  | 11, _ => zX1_of (zlvR_cv) evR_11_fault
  | 12, _ => zX1_of (zlvR_cv) evR_12_fault
  | 13, _ => zX1_of (zlvR_cv) evR_13_fault
  | 14, _ => zX1_of (zlvR_cv) evR_14_fault
  | 15, _ => zX1_of (zlvR_cv) evR_15_fault
  | 16, _ => zX1_of (zlvR_cv) evR_16_fault
  | 17, _ => zX1_of (zlvR_cv) evR_17_fault
  | 18, _ => zX1_of (zlvR_cv) evR_18_fault
  | 19, _ => zX1_of (zlvR_cv) evR_19_fault
  | 20, _ => zX1_of (zlvR_cv) evR_20_fault
  | 21, _ => zX1_of (zlvR_cv) evR_21_fault
  | 22, _ => zX1_of (zlvR_cv) evR_22_fault
  | 23, _ => zX1_of (zlvR_cv) evR_23_fault
  | n + 24, h => absurd h (by omega)
theorem evR_partition : ∀ g, g < 24 → zX2 (fun a b => f_X9_partitiona [zR 1, zI a, zI b] (hRf g) (fun r h => zands [zrI r, zsubH h (hRf g)]))
  | 0, _ => zX2_of (zlwQ_cv _) (fun _ => zlwQ_cv _) evR_0_partition
  | 1, _ => zX2_of (zlwQ_cv _) (fun _ => zlwQ_cv _) evR_1_partition
  | 2, _ => zX2_of (zlwQ_cv _) (fun _ => zlwQ_cv _) evR_2_partition
  | 3, _ => zX2_of (zlwQ_cv _) (fun _ => zlwQ_cv _) evR_3_partition
  | 4, _ => zX2_of (zlwQ_cv _) (fun _ => zlwQ_cv _) evR_4_partition
  | 5, _ => zX2_of (zlwQ_cv _) (fun _ => zlwQ_cv _) evR_5_partition
  | 6, _ => zX2_of (zlwQ_cv _) (fun _ => zlwQ_cv _) evR_6_partition
  | 7, _ => zX2_of (zlwQ_cv _) (fun _ => zlwQ_cv _) evR_7_partition
  | 8, _ => zX2_of (zlwQ_cv _) (fun _ => zlwQ_cv _) evR_8_partition
  | 9, _ => zX2_of (zlwQ_cv _) (fun _ => zlwQ_cv _) evR_9_partition
  | 10, _ => zX2_of (zlwQ_cv _) (fun _ => zlwQ_cv _) evR_10_partition
  | 11, _ => zX2_of (zlwQ_cv _) (fun _ => zlwQ_cv _) evR_11_partition
  | 12, _ => zX2_of (zlwQ_cv _) (fun _ => zlwQ_cv _) evR_12_partition
  | 13, _ => zX2_of (zlwQ_cv _) (fun _ => zlwQ_cv _) evR_13_partition
  | 14, _ => zX2_of (zlwQ_cv _) (fun _ => zlwQ_cv _) evR_14_partition
  | 15, _ => zX2_of (zlwQ_cv _) (fun _ => zlwQ_cv _) evR_15_partition
  | 16, _ => zX2_of (zlwQ_cv _) (fun _ => zlwQ_cv _) evR_16_partition
  | 17, _ => zX2_of (zlwQ_cv _) (fun _ => zlwQ_cv _) evR_17_partition
  | 18, _ => zX2_of (zlwQ_cv _) (fun _ => zlwQ_cv _) evR_18_partition
  | 19, _ => zX2_of (zlwQ_cv _) (fun _ => zlwQ_cv _) evR_19_partition
  | 20, _ => zX2_of (zlwQ_cv _) (fun _ => zlwQ_cv _) evR_20_partition
  | 21, _ => zX2_of (zlwQ_cv _) (fun _ => zlwQ_cv _) evR_21_partition
  | 22, _ => zX2_of (zlwQ_cv _) (fun _ => zlwQ_cv _) evR_22_partition
  | 23, _ => zX2_of (zlwQ_cv _) (fun _ => zlwQ_cv _) evR_23_partition
  | n + 24, h => absurd h (by omega)
theorem evR_of : ∀ g, g < 24 → zX2 (fun a b => f_X9_ofa [zR 1, zI a, zI b] (hRf g) (fun r h => zands [zrI r, zsubH h (hRf g)]))
  | 0, _ => zX2_of (zlwQ_cv _) (fun _ => zlwQ_cv _) evR_0_of
  | 1, _ => zX2_of (zlwQ_cv _) (fun _ => zlwQ_cv _) evR_1_of
  | 2, _ => zX2_of (zlwQ_cv _) (fun _ => zlwQ_cv _) evR_2_of
  | 3, _ => zX2_of (zlwQ_cv _) (fun _ => zlwQ_cv _) evR_3_of
  | 4, _ => zX2_of (zlwQ_cv _) (fun _ => zlwQ_cv _) evR_4_of
  | 5, _ => zX2_of (zlwQ_cv _) (fun _ => zlwQ_cv _) evR_5_of
  | 6, _ => zX2_of (zlwQ_cv _) (fun _ => zlwQ_cv _) evR_6_of
  | 7, _ => zX2_of (zlwQ_cv _) (fun _ => zlwQ_cv _) evR_7_of
  | 8, _ => zX2_of (zlwQ_cv _) (fun _ => zlwQ_cv _) evR_8_of
  | 9, _ => zX2_of (zlwQ_cv _) (fun _ => zlwQ_cv _) evR_9_of
  | 10, _ => zX2_of (zlwQ_cv _) (fun _ => zlwQ_cv _) evR_10_of
  | 11, _ => zX2_of (zlwQ_cv _) (fun _ => zlwQ_cv _) evR_11_of
  | 12, _ => zX2_of (zlwQ_cv _) (fun _ => zlwQ_cv _) evR_12_of
  | 13, _ => zX2_of (zlwQ_cv _) (fun _ => zlwQ_cv _) evR_13_of
  | 14, _ => zX2_of (zlwQ_cv _) (fun _ => zlwQ_cv _) evR_14_of
  | 15, _ => zX2_of (zlwQ_cv _) (fun _ => zlwQ_cv _) evR_15_of
  | 16, _ => zX2_of (zlwQ_cv _) (fun _ => zlwQ_cv _) evR_16_of
  | 17, _ => zX2_of (zlwQ_cv _) (fun _ => zlwQ_cv _) evR_17_of
  | 18, _ => zX2_of (zlwQ_cv _) (fun _ => zlwQ_cv _) evR_18_of
  | 19, _ => zX2_of (zlwQ_cv _) (fun _ => zlwQ_cv _) evR_19_of
  | 20, _ => zX2_of (zlwQ_cv _) (fun _ => zlwQ_cv _) evR_20_of
  | 21, _ => zX2_of (zlwQ_cv _) (fun _ => zlwQ_cv _) evR_21_of
  | 22, _ => zX2_of (zlwQ_cv _) (fun _ => zlwQ_cv _) evR_22_of
  | 23, _ => zX2_of (zlwQ_cv _) (fun _ => zlwQ_cv _) evR_23_of
  | n + 24, h => absurd h (by omega)
theorem evR_core : ∀ g, g < 24 → zX2 (fun a b => f_X9_corea [zR 1, zI a, zI b] (hRf g) (fun r h => zands [zrI r, zsubH h (hRf g)]))
  | 0, _ => zX2_of (zlwQ_cv _) (fun _ => zlwQ_cv _) evR_0_core
  | 1, _ => zX2_of (zlwQ_cv _) (fun _ => zlwQ_cv _) evR_1_core
  | 2, _ => zX2_of (zlwQ_cv _) (fun _ => zlwQ_cv _) evR_2_core
  | 3, _ => zX2_of (zlwQ_cv _) (fun _ => zlwQ_cv _) evR_3_core
  | 4, _ => zX2_of (zlwQ_cv _) (fun _ => zlwQ_cv _) evR_4_core
  | 5, _ => zX2_of (zlwQ_cv _) (fun _ => zlwQ_cv _) evR_5_core
  | 6, _ => zX2_of (zlwQ_cv _) (fun _ => zlwQ_cv _) evR_6_core
  | 7, _ => zX2_of (zlwQ_cv _) (fun _ => zlwQ_cv _) evR_7_core
  | 8, _ => zX2_of (zlwQ_cv _) (fun _ => zlwQ_cv _) evR_8_core
  | 9, _ => zX2_of (zlwQ_cv _) (fun _ => zlwQ_cv _) evR_9_core
  | 10, _ => zX2_of (zlwQ_cv _) (fun _ => zlwQ_cv _) evR_10_core
  | 11, _ => zX2_of (zlwQ_cv _) (fun _ => zlwQ_cv _) evR_11_core
  | 12, _ => zX2_of (zlwQ_cv _) (fun _ => zlwQ_cv _) evR_12_core
  | 13, _ => zX2_of (zlwQ_cv _) (fun _ => zlwQ_cv _) evR_13_core
  | 14, _ => zX2_of (zlwQ_cv _) (fun _ => zlwQ_cv _) evR_14_core
  | 15, _ => zX2_of (zlwQ_cv _) (fun _ => zlwQ_cv _) evR_15_core
  | 16, _ => zX2_of (zlwQ_cv _) (fun _ => zlwQ_cv _) evR_16_core
  | 17, _ => zX2_of (zlwQ_cv _) (fun _ => zlwQ_cv _) evR_17_core
  | 18, _ => zX2_of (zlwQ_cv _) (fun _ => zlwQ_cv _) evR_18_core
  | 19, _ => zX2_of (zlwQ_cv _) (fun _ => zlwQ_cv _) evR_19_core
  | 20, _ => zX2_of (zlwQ_cv _) (fun _ => zlwQ_cv _) evR_20_core
  | 21, _ => zX2_of (zlwQ_cv _) (fun _ => zlwQ_cv _) evR_21_core
  | 22, _ => zX2_of (zlwQ_cv _) (fun _ => zlwQ_cv _) evR_22_core
  | 23, _ => zX2_of (zlwQ_cv _) (fun _ => zlwQ_cv _) evR_23_core
  | n + 24, h => absurd h (by omega)
theorem evR_hook : ∀ g, g < 24 → zX3 (fun a b c => f_X9_hooka [zR 1, zI a, zI b, zI c] (hRf g) (fun r h => zands [zrI r, zsubH h (hRf g)]))
  | 0, _ => zX3_of (zlwQ_cv _) (fun _ => zlwQ_cv _) (fun _ _ => zlwQ_cv _) evR_0_hook
  | 1, _ => zX3_of (zlwQ_cv _) (fun _ => zlwQ_cv _) (fun _ _ => zlwQ_cv _) evR_1_hook
  | 2, _ => zX3_of (zlwQ_cv _) (fun _ => zlwQ_cv _) (fun _ _ => zlwQ_cv _) evR_2_hook
  | 3, _ => zX3_of (zlwQ_cv _) (fun _ => zlwQ_cv _) (fun _ _ => zlwQ_cv _) evR_3_hook
  | 4, _ => zX3_of (zlwQ_cv _) (fun _ => zlwQ_cv _) (fun _ _ => zlwQ_cv _) evR_4_hook
  | 5, _ => zX3_of (zlwQ_cv _) (fun _ => zlwQ_cv _) (fun _ _ => zlwQ_cv _) evR_5_hook
  | 6, _ => zX3_of (zlwQ_cv _) (fun _ => zlwQ_cv _) (fun _ _ => zlwQ_cv _) evR_6_hook
  | 7, _ => zX3_of (zlwQ_cv _) (fun _ => zlwQ_cv _) (fun _ _ => zlwQ_cv _) evR_7_hook
  | 8, _ => zX3_of (zlwQ_cv _) (fun _ => zlwQ_cv _) (fun _ _ => zlwQ_cv _) evR_8_hook
  | 9, _ => zX3_of (zlwQ_cv _) (fun _ => zlwQ_cv _) (fun _ _ => zlwQ_cv _) evR_9_hook
  | 10, _ => zX3_of (zlwQ_cv _) (fun _ => zlwQ_cv _) (fun _ _ => zlwQ_cv _) evR_10_hook
  | 11, _ => zX3_of (zlwQ_cv _) (fun _ => zlwQ_cv _) (fun _ _ => zlwQ_cv _) evR_11_hook
  | 12, _ => zX3_of (zlwQ_cv _) (fun _ => zlwQ_cv _) (fun _ _ => zlwQ_cv _) evR_12_hook
  | 13, _ => zX3_of (zlwQ_cv _) (fun _ => zlwQ_cv _) (fun _ _ => zlwQ_cv _) evR_13_hook
  | 14, _ => zX3_of (zlwQ_cv _) (fun _ => zlwQ_cv _) (fun _ _ => zlwQ_cv _) evR_14_hook
  | 15, _ => zX3_of (zlwQ_cv _) (fun _ => zlwQ_cv _) (fun _ _ => zlwQ_cv _) evR_15_hook
  | 16, _ => zX3_of (zlwQ_cv _) (fun _ => zlwQ_cv _) (fun _ _ => zlwQ_cv _) evR_16_hook
  | 17, _ => zX3_of (zlwQ_cv _) (fun _ => zlwQ_cv _) (fun _ _ => zlwQ_cv _) evR_17_hook
  | 18, _ => zX3_of (zlwQ_cv _) (fun _ => zlwQ_cv _) (fun _ _ => zlwQ_cv _) evR_18_hook
  | 19, _ => zX3_of (zlwQ_cv _) (fun _ => zlwQ_cv _) (fun _ _ => zlwQ_cv _) evR_19_hook
  | 20, _ => zX3_of (zlwQ_cv _) (fun _ => zlwQ_cv _) (fun _ _ => zlwQ_cv _) evR_20_hook
  | 21, _ => zX3_of (zlwQ_cv _) (fun _ => zlwQ_cv _) (fun _ _ => zlwQ_cv _) evR_21_hook
  | 22, _ => zX3_of (zlwQ_cv _) (fun _ => zlwQ_cv _) (fun _ _ => zlwQ_cv _) evR_22_hook
  | 23, _ => zX3_of (zlwQ_cv _) (fun _ => zlwQ_cv _) (fun _ _ => zlwQ_cv _) evR_23_hook
  | n + 24, h => absurd h (by omega)
theorem evR_classOf : ∀ g, g < 24 → zX2 (fun a b => f_X9_classOfa [zR 1, zI a, zI b] (hRf g) (fun r h => zands [zrI r, zsubH h (hRf g)]))
  | 0, _ => zX2_of (zlwQ_cv _) (fun _ => zlwQ_cv _) evR_0_classOf
  | 1, _ => zX2_of (zlwQ_cv _) (fun _ => zlwQ_cv _) evR_1_classOf
  | 2, _ => zX2_of (zlwQ_cv _) (fun _ => zlwQ_cv _) evR_2_classOf
  | 3, _ => zX2_of (zlwQ_cv _) (fun _ => zlwQ_cv _) evR_3_classOf
  | 4, _ => zX2_of (zlwQ_cv _) (fun _ => zlwQ_cv _) evR_4_classOf
  | 5, _ => zX2_of (zlwQ_cv _) (fun _ => zlwQ_cv _) evR_5_classOf
  | 6, _ => zX2_of (zlwQ_cv _) (fun _ => zlwQ_cv _) evR_6_classOf
  | 7, _ => zX2_of (zlwQ_cv _) (fun _ => zlwQ_cv _) evR_7_classOf
  | 8, _ => zX2_of (zlwQ_cv _) (fun _ => zlwQ_cv _) evR_8_classOf
  | 9, _ => zX2_of (zlwQ_cv _) (fun _ => zlwQ_cv _) evR_9_classOf
  | 10, _ => zX2_of (zlwQ_cv _) (fun _ => zlwQ_cv _) evR_10_classOf
  | 11, _ => zX2_of (zlwQ_cv _) (fun _ => zlwQ_cv _) evR_11_classOf
  | 12, _ => zX2_of (zlwQ_cv _) (fun _ => zlwQ_cv _) evR_12_classOf
  | 13, _ => zX2_of (zlwQ_cv _) (fun _ => zlwQ_cv _) evR_13_classOf
  | 14, _ => zX2_of (zlwQ_cv _) (fun _ => zlwQ_cv _) evR_14_classOf
  | 15, _ => zX2_of (zlwQ_cv _) (fun _ => zlwQ_cv _) evR_15_classOf
  | 16, _ => zX2_of (zlwQ_cv _) (fun _ => zlwQ_cv _) evR_16_classOf
  | 17, _ => zX2_of (zlwQ_cv _) (fun _ => zlwQ_cv _) evR_17_classOf
  | 18, _ => zX2_of (zlwQ_cv _) (fun _ => zlwQ_cv _) evR_18_classOf
  | 19, _ => zX2_of (zlwQ_cv _) (fun _ => zlwQ_cv _) evR_19_classOf
  | 20, _ => zX2_of (zlwQ_cv _) (fun _ => zlwQ_cv _) evR_20_classOf
  | 21, _ => zX2_of (zlwQ_cv _) (fun _ => zlwQ_cv _) evR_21_classOf
  | 22, _ => zX2_of (zlwQ_cv _) (fun _ => zlwQ_cv _) evR_22_classOf
  | 23, _ => zX2_of (zlwQ_cv _) (fun _ => zlwQ_cv _) evR_23_classOf
  | n + 24, h => absurd h (by omega)
theorem evR_character : ∀ g, g < 24 → zX2 (fun a b => f_X9_charactera [zR 1, zI a, zI b] (hRf g) (fun r h => zands [zrI r, zsubH h (hRf g)]))
  | 0, _ => zX2_of (zlwQ_cv _) (fun _ => zlwQ_cv _) evR_0_character
  | 1, _ => zX2_of (zlwQ_cv _) (fun _ => zlwQ_cv _) evR_1_character
  | 2, _ => zX2_of (zlwQ_cv _) (fun _ => zlwQ_cv _) evR_2_character
  | 3, _ => zX2_of (zlwQ_cv _) (fun _ => zlwQ_cv _) evR_3_character
  | 4, _ => zX2_of (zlwQ_cv _) (fun _ => zlwQ_cv _) evR_4_character
  | 5, _ => zX2_of (zlwQ_cv _) (fun _ => zlwQ_cv _) evR_5_character
  | 6, _ => zX2_of (zlwQ_cv _) (fun _ => zlwQ_cv _) evR_6_character
  | 7, _ => zX2_of (zlwQ_cv _) (fun _ => zlwQ_cv _) evR_7_character
  | 8, _ => zX2_of (zlwQ_cv _) (fun _ => zlwQ_cv _) evR_8_character
  | 9, _ => zX2_of (zlwQ_cv _) (fun _ => zlwQ_cv _) evR_9_character
  | 10, _ => zX2_of (zlwQ_cv _) (fun _ => zlwQ_cv _) evR_10_character
  | 11, _ => zX2_of (zlwQ_cv _) (fun _ => zlwQ_cv _) evR_11_character
  | 12, _ => zX2_of (zlwQ_cv _) (fun _ => zlwQ_cv _) evR_12_character
  | 13, _ => zX2_of (zlwQ_cv _) (fun _ => zlwQ_cv _) evR_13_character
  | 14, _ => zX2_of (zlwQ_cv _) (fun _ => zlwQ_cv _) evR_14_character
  | 15, _ => zX2_of (zlwQ_cv _) (fun _ => zlwQ_cv _) evR_15_character
  | 16, _ => zX2_of (zlwQ_cv _) (fun _ => zlwQ_cv _) evR_16_character
  | 17, _ => zX2_of (zlwQ_cv _) (fun _ => zlwQ_cv _) evR_17_character
  | 18, _ => zX2_of (zlwQ_cv _) (fun _ => zlwQ_cv _) evR_18_character
  | 19, _ => zX2_of (zlwQ_cv _) (fun _ => zlwQ_cv _) evR_19_character
  | 20, _ => zX2_of (zlwQ_cv _) (fun _ => zlwQ_cv _) evR_20_character
  | 21, _ => zX2_of (zlwQ_cv _) (fun _ => zlwQ_cv _) evR_21_character
  | 22, _ => zX2_of (zlwQ_cv _) (fun _ => zlwQ_cv _) evR_22_character
  | 23, _ => zX2_of (zlwQ_cv _) (fun _ => zlwQ_cv _) evR_23_character
  | n + 24, h => absurd h (by omega)
theorem evR_modular : ∀ g, g < 24 → zX2 (fun a b => f_X9_modulara [zR 1, zI a, zI b] (hRf g) (fun r h => zands [zrI r, zsubH h (hRf g)]))
  | 0, _ => zX2_of (zlwQ_cv _) (fun _ => zlwQ_cv _) evR_0_modular
  | 1, _ => zX2_of (zlwQ_cv _) (fun _ => zlwQ_cv _) evR_1_modular
  | 2, _ => zX2_of (zlwQ_cv _) (fun _ => zlwQ_cv _) evR_2_modular
  | 3, _ => zX2_of (zlwQ_cv _) (fun _ => zlwQ_cv _) evR_3_modular
  | 4, _ => zX2_of (zlwQ_cv _) (fun _ => zlwQ_cv _) evR_4_modular
  | 5, _ => zX2_of (zlwQ_cv _) (fun _ => zlwQ_cv _) evR_5_modular
  | 6, _ => zX2_of (zlwQ_cv _) (fun _ => zlwQ_cv _) evR_6_modular
  | 7, _ => zX2_of (zlwQ_cv _) (fun _ => zlwQ_cv _) evR_7_modular
  | 8, _ => zX2_of (zlwQ_cv _) (fun _ => zlwQ_cv _) evR_8_modular
  | 9, _ => zX2_of (zlwQ_cv _) (fun _ => zlwQ_cv _) evR_9_modular
  | 10, _ => zX2_of (zlwQ_cv _) (fun _ => zlwQ_cv _) evR_10_modular
  | 11, _ => zX2_of (zlwQ_cv _) (fun _ => zlwQ_cv _) evR_11_modular
  | 12, _ => zX2_of (zlwQ_cv _) (fun _ => zlwQ_cv _) evR_12_modular
  | 13, _ => zX2_of (zlwQ_cv _) (fun _ => zlwQ_cv _) evR_13_modular
  | 14, _ => zX2_of (zlwQ_cv _) (fun _ => zlwQ_cv _) evR_14_modular
  | 15, _ => zX2_of (zlwQ_cv _) (fun _ => zlwQ_cv _) evR_15_modular
  | 16, _ => zX2_of (zlwQ_cv _) (fun _ => zlwQ_cv _) evR_16_modular
  | 17, _ => zX2_of (zlwQ_cv _) (fun _ => zlwQ_cv _) evR_17_modular
  | 18, _ => zX2_of (zlwQ_cv _) (fun _ => zlwQ_cv _) evR_18_modular
  | 19, _ => zX2_of (zlwQ_cv _) (fun _ => zlwQ_cv _) evR_19_modular
  | 20, _ => zX2_of (zlwQ_cv _) (fun _ => zlwQ_cv _) evR_20_modular
  | 21, _ => zX2_of (zlwQ_cv _) (fun _ => zlwQ_cv _) evR_21_modular
  | 22, _ => zX2_of (zlwQ_cv _) (fun _ => zlwQ_cv _) evR_22_modular
  | 23, _ => zX2_of (zlwQ_cv _) (fun _ => zlwQ_cv _) evR_23_modular
  | n + 24, h => absurd h (by omega)
theorem evR_projective : ∀ g, g < 24 → zX2 (fun a b => f_X9_projectivea [zR 1, zI a, zI b] (hRf g) (fun r h => zands [zrI r, zsubH h (hRf g)]))
  | 0, _ => zX2_of (zlwQ_cv _) (fun _ => zlwQ_cv _) evR_0_projective
  | 1, _ => zX2_of (zlwQ_cv _) (fun _ => zlwQ_cv _) evR_1_projective
  | 2, _ => zX2_of (zlwQ_cv _) (fun _ => zlwQ_cv _) evR_2_projective
  | 3, _ => zX2_of (zlwQ_cv _) (fun _ => zlwQ_cv _) evR_3_projective
  | 4, _ => zX2_of (zlwQ_cv _) (fun _ => zlwQ_cv _) evR_4_projective
  | 5, _ => zX2_of (zlwQ_cv _) (fun _ => zlwQ_cv _) evR_5_projective
  | 6, _ => zX2_of (zlwQ_cv _) (fun _ => zlwQ_cv _) evR_6_projective
  | 7, _ => zX2_of (zlwQ_cv _) (fun _ => zlwQ_cv _) evR_7_projective
  | 8, _ => zX2_of (zlwQ_cv _) (fun _ => zlwQ_cv _) evR_8_projective
  | 9, _ => zX2_of (zlwQ_cv _) (fun _ => zlwQ_cv _) evR_9_projective
  | 10, _ => zX2_of (zlwQ_cv _) (fun _ => zlwQ_cv _) evR_10_projective
  | 11, _ => zX2_of (zlwQ_cv _) (fun _ => zlwQ_cv _) evR_11_projective
  | 12, _ => zX2_of (zlwQ_cv _) (fun _ => zlwQ_cv _) evR_12_projective
  | 13, _ => zX2_of (zlwQ_cv _) (fun _ => zlwQ_cv _) evR_13_projective
  | 14, _ => zX2_of (zlwQ_cv _) (fun _ => zlwQ_cv _) evR_14_projective
  | 15, _ => zX2_of (zlwQ_cv _) (fun _ => zlwQ_cv _) evR_15_projective
  | 16, _ => zX2_of (zlwQ_cv _) (fun _ => zlwQ_cv _) evR_16_projective
  | 17, _ => zX2_of (zlwQ_cv _) (fun _ => zlwQ_cv _) evR_17_projective
  | 18, _ => zX2_of (zlwQ_cv _) (fun _ => zlwQ_cv _) evR_18_projective
  | 19, _ => zX2_of (zlwQ_cv _) (fun _ => zlwQ_cv _) evR_19_projective
  | 20, _ => zX2_of (zlwQ_cv _) (fun _ => zlwQ_cv _) evR_20_projective
  | 21, _ => zX2_of (zlwQ_cv _) (fun _ => zlwQ_cv _) evR_21_projective
  | 22, _ => zX2_of (zlwQ_cv _) (fun _ => zlwQ_cv _) evR_22_projective
  | 23, _ => zX2_of (zlwQ_cv _) (fun _ => zlwQ_cv _) evR_23_projective
  | n + 24, h => absurd h (by omega)
theorem evR_decomposition : ∀ g, g < 24 → zX2 (fun a b => f_X9_decompositiona [zR 1, zI a, zI b] (hRf g) (fun r h => zands [zrI r, zsubH h (hRf g)]))
  | 0, _ => zX2_of (zlwQ_cv _) (fun _ => zlwQ_cv _) evR_0_decomposition
  | 1, _ => zX2_of (zlwQ_cv _) (fun _ => zlwQ_cv _) evR_1_decomposition
  | 2, _ => zX2_of (zlwQ_cv _) (fun _ => zlwQ_cv _) evR_2_decomposition
  | 3, _ => zX2_of (zlwQ_cv _) (fun _ => zlwQ_cv _) evR_3_decomposition
  | 4, _ => zX2_of (zlwQ_cv _) (fun _ => zlwQ_cv _) evR_4_decomposition
  | 5, _ => zX2_of (zlwQ_cv _) (fun _ => zlwQ_cv _) evR_5_decomposition
  | 6, _ => zX2_of (zlwQ_cv _) (fun _ => zlwQ_cv _) evR_6_decomposition
  | 7, _ => zX2_of (zlwQ_cv _) (fun _ => zlwQ_cv _) evR_7_decomposition
  | 8, _ => zX2_of (zlwQ_cv _) (fun _ => zlwQ_cv _) evR_8_decomposition
  | 9, _ => zX2_of (zlwQ_cv _) (fun _ => zlwQ_cv _) evR_9_decomposition
  | 10, _ => zX2_of (zlwQ_cv _) (fun _ => zlwQ_cv _) evR_10_decomposition
  | 11, _ => zX2_of (zlwQ_cv _) (fun _ => zlwQ_cv _) evR_11_decomposition
  | 12, _ => zX2_of (zlwQ_cv _) (fun _ => zlwQ_cv _) evR_12_decomposition
  | 13, _ => zX2_of (zlwQ_cv _) (fun _ => zlwQ_cv _) evR_13_decomposition
  | 14, _ => zX2_of (zlwQ_cv _) (fun _ => zlwQ_cv _) evR_14_decomposition
  | 15, _ => zX2_of (zlwQ_cv _) (fun _ => zlwQ_cv _) evR_15_decomposition
  | 16, _ => zX2_of (zlwQ_cv _) (fun _ => zlwQ_cv _) evR_16_decomposition
  | 17, _ => zX2_of (zlwQ_cv _) (fun _ => zlwQ_cv _) evR_17_decomposition
  | 18, _ => zX2_of (zlwQ_cv _) (fun _ => zlwQ_cv _) evR_18_decomposition
  | 19, _ => zX2_of (zlwQ_cv _) (fun _ => zlwQ_cv _) evR_19_decomposition
  | 20, _ => zX2_of (zlwQ_cv _) (fun _ => zlwQ_cv _) evR_20_decomposition
  | 21, _ => zX2_of (zlwQ_cv _) (fun _ => zlwQ_cv _) evR_21_decomposition
  | 22, _ => zX2_of (zlwQ_cv _) (fun _ => zlwQ_cv _) evR_22_decomposition
  | 23, _ => zX2_of (zlwQ_cv _) (fun _ => zlwQ_cv _) evR_23_decomposition
  | n + 24, h => absurd h (by omega)
theorem evR_cartan : ∀ g, g < 24 → zX2 (fun a b => f_X9_cartana [zR 1, zI a, zI b] (hRf g) (fun r h => zands [zrI r, zsubH h (hRf g)]))
  | 0, _ => zX2_of (zlwQ_cv _) (fun _ => zlwQ_cv _) evR_0_cartan
  | 1, _ => zX2_of (zlwQ_cv _) (fun _ => zlwQ_cv _) evR_1_cartan
  | 2, _ => zX2_of (zlwQ_cv _) (fun _ => zlwQ_cv _) evR_2_cartan
  | 3, _ => zX2_of (zlwQ_cv _) (fun _ => zlwQ_cv _) evR_3_cartan
  | 4, _ => zX2_of (zlwQ_cv _) (fun _ => zlwQ_cv _) evR_4_cartan
  | 5, _ => zX2_of (zlwQ_cv _) (fun _ => zlwQ_cv _) evR_5_cartan
  | 6, _ => zX2_of (zlwQ_cv _) (fun _ => zlwQ_cv _) evR_6_cartan
  | 7, _ => zX2_of (zlwQ_cv _) (fun _ => zlwQ_cv _) evR_7_cartan
  | 8, _ => zX2_of (zlwQ_cv _) (fun _ => zlwQ_cv _) evR_8_cartan
  | 9, _ => zX2_of (zlwQ_cv _) (fun _ => zlwQ_cv _) evR_9_cartan
  | 10, _ => zX2_of (zlwQ_cv _) (fun _ => zlwQ_cv _) evR_10_cartan
  | 11, _ => zX2_of (zlwQ_cv _) (fun _ => zlwQ_cv _) evR_11_cartan
  | 12, _ => zX2_of (zlwQ_cv _) (fun _ => zlwQ_cv _) evR_12_cartan
  | 13, _ => zX2_of (zlwQ_cv _) (fun _ => zlwQ_cv _) evR_13_cartan
  | 14, _ => zX2_of (zlwQ_cv _) (fun _ => zlwQ_cv _) evR_14_cartan
  | 15, _ => zX2_of (zlwQ_cv _) (fun _ => zlwQ_cv _) evR_15_cartan
  | 16, _ => zX2_of (zlwQ_cv _) (fun _ => zlwQ_cv _) evR_16_cartan
  | 17, _ => zX2_of (zlwQ_cv _) (fun _ => zlwQ_cv _) evR_17_cartan
  | 18, _ => zX2_of (zlwQ_cv _) (fun _ => zlwQ_cv _) evR_18_cartan
  | 19, _ => zX2_of (zlwQ_cv _) (fun _ => zlwQ_cv _) evR_19_cartan
  | 20, _ => zX2_of (zlwQ_cv _) (fun _ => zlwQ_cv _) evR_20_cartan
  | 21, _ => zX2_of (zlwQ_cv _) (fun _ => zlwQ_cv _) evR_21_cartan
  | 22, _ => zX2_of (zlwQ_cv _) (fun _ => zlwQ_cv _) evR_22_cartan
  | 23, _ => zX2_of (zlwQ_cv _) (fun _ => zlwQ_cv _) evR_23_cartan
  | n + 24, h => absurd h (by omega)
theorem evR_tableau : ∀ g, g < 24 → zX4 (fun a b c d => f_X9_tableaua [zR 1, zI a, zI b, zI c, zI d] (hRf g) (fun r h => zands [zrI r, zsubH h (hRf g)]))
  | 0, _ => zX4_of (zlwQ_cv _) (fun _ => zlwQ_cv _) (fun _ _ => zlwQ_cv _) (fun _ _ _ => zlwQ_cv _) evR_0_tableau
  | 1, _ => zX4_of (zlwQ_cv _) (fun _ => zlwQ_cv _) (fun _ _ => zlwQ_cv _) (fun _ _ _ => zlwQ_cv _) evR_1_tableau
  | 2, _ => zX4_of (zlwQ_cv _) (fun _ => zlwQ_cv _) (fun _ _ => zlwQ_cv _) (fun _ _ _ => zlwQ_cv _) evR_2_tableau
  | 3, _ => zX4_of (zlwQ_cv _) (fun _ => zlwQ_cv _) (fun _ _ => zlwQ_cv _) (fun _ _ _ => zlwQ_cv _) evR_3_tableau
  | 4, _ => zX4_of (zlwQ_cv _) (fun _ => zlwQ_cv _) (fun _ _ => zlwQ_cv _) (fun _ _ _ => zlwQ_cv _) evR_4_tableau
  | 5, _ => zX4_of (zlwQ_cv _) (fun _ => zlwQ_cv _) (fun _ _ => zlwQ_cv _) (fun _ _ _ => zlwQ_cv _) evR_5_tableau
  | 6, _ => zX4_of (zlwQ_cv _) (fun _ => zlwQ_cv _) (fun _ _ => zlwQ_cv _) (fun _ _ _ => zlwQ_cv _) evR_6_tableau
  | 7, _ => zX4_of (zlwQ_cv _) (fun _ => zlwQ_cv _) (fun _ _ => zlwQ_cv _) (fun _ _ _ => zlwQ_cv _) evR_7_tableau
  | 8, _ => zX4_of (zlwQ_cv _) (fun _ => zlwQ_cv _) (fun _ _ => zlwQ_cv _) (fun _ _ _ => zlwQ_cv _) evR_8_tableau
  | 9, _ => zX4_of (zlwQ_cv _) (fun _ => zlwQ_cv _) (fun _ _ => zlwQ_cv _) (fun _ _ _ => zlwQ_cv _) evR_9_tableau
  | 10, _ => zX4_of (zlwQ_cv _) (fun _ => zlwQ_cv _) (fun _ _ => zlwQ_cv _) (fun _ _ _ => zlwQ_cv _) evR_10_tableau
  | 11, _ => zX4_of (zlwQ_cv _) (fun _ => zlwQ_cv _) (fun _ _ => zlwQ_cv _) (fun _ _ _ => zlwQ_cv _) evR_11_tableau
  | 12, _ => zX4_of (zlwQ_cv _) (fun _ => zlwQ_cv _) (fun _ _ => zlwQ_cv _) (fun _ _ _ => zlwQ_cv _) evR_12_tableau
  | 13, _ => zX4_of (zlwQ_cv _) (fun _ => zlwQ_cv _) (fun _ _ => zlwQ_cv _) (fun _ _ _ => zlwQ_cv _) evR_13_tableau
  | 14, _ => zX4_of (zlwQ_cv _) (fun _ => zlwQ_cv _) (fun _ _ => zlwQ_cv _) (fun _ _ _ => zlwQ_cv _) evR_14_tableau
  | 15, _ => zX4_of (zlwQ_cv _) (fun _ => zlwQ_cv _) (fun _ _ => zlwQ_cv _) (fun _ _ _ => zlwQ_cv _) evR_15_tableau
  | 16, _ => zX4_of (zlwQ_cv _) (fun _ => zlwQ_cv _) (fun _ _ => zlwQ_cv _) (fun _ _ _ => zlwQ_cv _) evR_16_tableau
  | 17, _ => zX4_of (zlwQ_cv _) (fun _ => zlwQ_cv _) (fun _ _ => zlwQ_cv _) (fun _ _ _ => zlwQ_cv _) evR_17_tableau
  | 18, _ => zX4_of (zlwQ_cv _) (fun _ => zlwQ_cv _) (fun _ _ => zlwQ_cv _) (fun _ _ _ => zlwQ_cv _) evR_18_tableau
  | 19, _ => zX4_of (zlwQ_cv _) (fun _ => zlwQ_cv _) (fun _ _ => zlwQ_cv _) (fun _ _ _ => zlwQ_cv _) evR_19_tableau
  | 20, _ => zX4_of (zlwQ_cv _) (fun _ => zlwQ_cv _) (fun _ _ => zlwQ_cv _) (fun _ _ _ => zlwQ_cv _) evR_20_tableau
  | 21, _ => zX4_of (zlwQ_cv _) (fun _ => zlwQ_cv _) (fun _ _ => zlwQ_cv _) (fun _ _ _ => zlwQ_cv _) evR_21_tableau
  | 22, _ => zX4_of (zlwQ_cv _) (fun _ => zlwQ_cv _) (fun _ _ => zlwQ_cv _) (fun _ _ _ => zlwQ_cv _) evR_22_tableau
  | 23, _ => zX4_of (zlwQ_cv _) (fun _ => zlwQ_cv _) (fun _ _ => zlwQ_cv _) (fun _ _ _ => zlwQ_cv _) evR_23_tableau
  | n + 24, h => absurd h (by omega)
theorem evR_gram : ∀ g, g < 24 → zX3 (fun a b c => f_X9_grama [zR 1, zI a, zI b, zI c] (hRf g) (fun r h => zands [zrI r, zsubH h (hRf g)]))
  | 0, _ => zX3_of (zlwQ_cv _) (fun _ => zlwQ_cv _) (fun _ _ => zlwQ_cv _) evR_0_gram
  | 1, _ => zX3_of (zlwQ_cv _) (fun _ => zlwQ_cv _) (fun _ _ => zlwQ_cv _) evR_1_gram
  | 2, _ => zX3_of (zlwQ_cv _) (fun _ => zlwQ_cv _) (fun _ _ => zlwQ_cv _) evR_2_gram
  | 3, _ => zX3_of (zlwQ_cv _) (fun _ => zlwQ_cv _) (fun _ _ => zlwQ_cv _) evR_3_gram
  | 4, _ => zX3_of (zlwQ_cv _) (fun _ => zlwQ_cv _) (fun _ _ => zlwQ_cv _) evR_4_gram
  | 5, _ => zX3_of (zlwQ_cv _) (fun _ => zlwQ_cv _) (fun _ _ => zlwQ_cv _) evR_5_gram
  | 6, _ => zX3_of (zlwQ_cv _) (fun _ => zlwQ_cv _) (fun _ _ => zlwQ_cv _) evR_6_gram
  | 7, _ => zX3_of (zlwQ_cv _) (fun _ => zlwQ_cv _) (fun _ _ => zlwQ_cv _) evR_7_gram
  | 8, _ => zX3_of (zlwQ_cv _) (fun _ => zlwQ_cv _) (fun _ _ => zlwQ_cv _) evR_8_gram
  | 9, _ => zX3_of (zlwQ_cv _) (fun _ => zlwQ_cv _) (fun _ _ => zlwQ_cv _) evR_9_gram
  | 10, _ => zX3_of (zlwQ_cv _) (fun _ => zlwQ_cv _) (fun _ _ => zlwQ_cv _) evR_10_gram
  | 11, _ => zX3_of (zlwQ_cv _) (fun _ => zlwQ_cv _) (fun _ _ => zlwQ_cv _) evR_11_gram
  | 12, _ => zX3_of (zlwQ_cv _) (fun _ => zlwQ_cv _) (fun _ _ => zlwQ_cv _) evR_12_gram
  | 13, _ => zX3_of (zlwQ_cv _) (fun _ => zlwQ_cv _) (fun _ _ => zlwQ_cv _) evR_13_gram
  | 14, _ => zX3_of (zlwQ_cv _) (fun _ => zlwQ_cv _) (fun _ _ => zlwQ_cv _) evR_14_gram
  | 15, _ => zX3_of (zlwQ_cv _) (fun _ => zlwQ_cv _) (fun _ _ => zlwQ_cv _) evR_15_gram
  | 16, _ => zX3_of (zlwQ_cv _) (fun _ => zlwQ_cv _) (fun _ _ => zlwQ_cv _) evR_16_gram
  | 17, _ => zX3_of (zlwQ_cv _) (fun _ => zlwQ_cv _) (fun _ _ => zlwQ_cv _) evR_17_gram
  | 18, _ => zX3_of (zlwQ_cv _) (fun _ => zlwQ_cv _) (fun _ _ => zlwQ_cv _) evR_18_gram
  | 19, _ => zX3_of (zlwQ_cv _) (fun _ => zlwQ_cv _) (fun _ _ => zlwQ_cv _) evR_19_gram
  | 20, _ => zX3_of (zlwQ_cv _) (fun _ => zlwQ_cv _) (fun _ _ => zlwQ_cv _) evR_20_gram
  | 21, _ => zX3_of (zlwQ_cv _) (fun _ => zlwQ_cv _) (fun _ _ => zlwQ_cv _) evR_21_gram
  | 22, _ => zX3_of (zlwQ_cv _) (fun _ => zlwQ_cv _) (fun _ _ => zlwQ_cv _) evR_22_gram
  | 23, _ => zX3_of (zlwQ_cv _) (fun _ => zlwQ_cv _) (fun _ _ => zlwQ_cv _) evR_23_gram
  | n + 24, h => absurd h (by omega)
theorem evR_block : ∀ g, g < 24 → zX2 (fun a b => f_X9_blockt [zR 1, zI a, zI b] (hRf g) (fun r h => zands [zrI r, zsubH h (hRf g)]))
  | 0, _ => zX2_of (zlwQ_cv _) (fun _ => zlwQ_cv _) evR_0_block
  | 1, _ => zX2_of (zlwQ_cv _) (fun _ => zlwQ_cv _) evR_1_block
  | 2, _ => zX2_of (zlwQ_cv _) (fun _ => zlwQ_cv _) evR_2_block
  | 3, _ => zX2_of (zlwQ_cv _) (fun _ => zlwQ_cv _) evR_3_block
  | 4, _ => zX2_of (zlwQ_cv _) (fun _ => zlwQ_cv _) evR_4_block
  | 5, _ => zX2_of (zlwQ_cv _) (fun _ => zlwQ_cv _) evR_5_block
  | 6, _ => zX2_of (zlwQ_cv _) (fun _ => zlwQ_cv _) evR_6_block
  | 7, _ => zX2_of (zlwQ_cv _) (fun _ => zlwQ_cv _) evR_7_block
  | 8, _ => zX2_of (zlwQ_cv _) (fun _ => zlwQ_cv _) evR_8_block
  | 9, _ => zX2_of (zlwQ_cv _) (fun _ => zlwQ_cv _) evR_9_block
  | 10, _ => zX2_of (zlwQ_cv _) (fun _ => zlwQ_cv _) evR_10_block
  | 11, _ => zX2_of (zlwQ_cv _) (fun _ => zlwQ_cv _) evR_11_block
  | 12, _ => zX2_of (zlwQ_cv _) (fun _ => zlwQ_cv _) evR_12_block
  | 13, _ => zX2_of (zlwQ_cv _) (fun _ => zlwQ_cv _) evR_13_block
  | 14, _ => zX2_of (zlwQ_cv _) (fun _ => zlwQ_cv _) evR_14_block
  | 15, _ => zX2_of (zlwQ_cv _) (fun _ => zlwQ_cv _) evR_15_block
  | 16, _ => zX2_of (zlwQ_cv _) (fun _ => zlwQ_cv _) evR_16_block
  | 17, _ => zX2_of (zlwQ_cv _) (fun _ => zlwQ_cv _) evR_17_block
  | 18, _ => zX2_of (zlwQ_cv _) (fun _ => zlwQ_cv _) evR_18_block
  | 19, _ => zX2_of (zlwQ_cv _) (fun _ => zlwQ_cv _) evR_19_block
  | 20, _ => zX2_of (zlwQ_cv _) (fun _ => zlwQ_cv _) evR_20_block
  | 21, _ => zX2_of (zlwQ_cv _) (fun _ => zlwQ_cv _) evR_21_block
  | 22, _ => zX2_of (zlwQ_cv _) (fun _ => zlwQ_cv _) evR_22_block
  | 23, _ => zX2_of (zlwQ_cv _) (fun _ => zlwQ_cv _) evR_23_block
  | n + 24, h => absurd h (by omega)
theorem evR_value : ∀ g, g < 24 → zX2 (fun a b => f_X9_valuev [zR 1, zI a, zI b] (hRf g) (fun r h => zands [zrJ r, zsubH h (hRf g)]))
  | 0, _ => zX2_of (zlwQ_cv _) (fun _ => zlwQ_cv _) evR_0_value
  | 1, _ => zX2_of (zlwQ_cv _) (fun _ => zlwQ_cv _) evR_1_value
  | 2, _ => zX2_of (zlwQ_cv _) (fun _ => zlwQ_cv _) evR_2_value
  | 3, _ => zX2_of (zlwQ_cv _) (fun _ => zlwQ_cv _) evR_3_value
  | 4, _ => zX2_of (zlwQ_cv _) (fun _ => zlwQ_cv _) evR_4_value
  | 5, _ => zX2_of (zlwQ_cv _) (fun _ => zlwQ_cv _) evR_5_value
  | 6, _ => zX2_of (zlwQ_cv _) (fun _ => zlwQ_cv _) evR_6_value
  | 7, _ => zX2_of (zlwQ_cv _) (fun _ => zlwQ_cv _) evR_7_value
  | 8, _ => zX2_of (zlwQ_cv _) (fun _ => zlwQ_cv _) evR_8_value
  | 9, _ => zX2_of (zlwQ_cv _) (fun _ => zlwQ_cv _) evR_9_value
  | 10, _ => zX2_of (zlwQ_cv _) (fun _ => zlwQ_cv _) evR_10_value
  | 11, _ => zX2_of (zlwQ_cv _) (fun _ => zlwQ_cv _) evR_11_value
  | 12, _ => zX2_of (zlwQ_cv _) (fun _ => zlwQ_cv _) evR_12_value
  | 13, _ => zX2_of (zlwQ_cv _) (fun _ => zlwQ_cv _) evR_13_value
  | 14, _ => zX2_of (zlwQ_cv _) (fun _ => zlwQ_cv _) evR_14_value
  | 15, _ => zX2_of (zlwQ_cv _) (fun _ => zlwQ_cv _) evR_15_value
  | 16, _ => zX2_of (zlwQ_cv _) (fun _ => zlwQ_cv _) evR_16_value
  | 17, _ => zX2_of (zlwQ_cv _) (fun _ => zlwQ_cv _) evR_17_value
  | 18, _ => zX2_of (zlwQ_cv _) (fun _ => zlwQ_cv _) evR_18_value
  | 19, _ => zX2_of (zlwQ_cv _) (fun _ => zlwQ_cv _) evR_19_value
  | 20, _ => zX2_of (zlwQ_cv _) (fun _ => zlwQ_cv _) evR_20_value
  | 21, _ => zX2_of (zlwQ_cv _) (fun _ => zlwQ_cv _) evR_21_value
  | 22, _ => zX2_of (zlwQ_cv _) (fun _ => zlwQ_cv _) evR_22_value
  | 23, _ => zX2_of (zlwQ_cv _) (fun _ => zlwQ_cv _) evR_23_value
  | n + 24, h => absurd h (by omega)
theorem evR_parts : ∀ g, g < 24 → zX3 (fun a b c => f_X9_partsv [zR 1, zI a, zI b, zI c] (hRf g) (fun r h => zands [zrJ r, zsubH h (hRf g)]))
  | 0, _ => zX3_of (zlwQ_cv _) (fun _ => zlwQ_cv _) (fun _ _ => zlwQ_cv _) evR_0_parts
  | 1, _ => zX3_of (zlwQ_cv _) (fun _ => zlwQ_cv _) (fun _ _ => zlwQ_cv _) evR_1_parts
  | 2, _ => zX3_of (zlwQ_cv _) (fun _ => zlwQ_cv _) (fun _ _ => zlwQ_cv _) evR_2_parts
  | 3, _ => zX3_of (zlwQ_cv _) (fun _ => zlwQ_cv _) (fun _ _ => zlwQ_cv _) evR_3_parts
  | 4, _ => zX3_of (zlwQ_cv _) (fun _ => zlwQ_cv _) (fun _ _ => zlwQ_cv _) evR_4_parts
  | 5, _ => zX3_of (zlwQ_cv _) (fun _ => zlwQ_cv _) (fun _ _ => zlwQ_cv _) evR_5_parts
  | 6, _ => zX3_of (zlwQ_cv _) (fun _ => zlwQ_cv _) (fun _ _ => zlwQ_cv _) evR_6_parts
  | 7, _ => zX3_of (zlwQ_cv _) (fun _ => zlwQ_cv _) (fun _ _ => zlwQ_cv _) evR_7_parts
  | 8, _ => zX3_of (zlwQ_cv _) (fun _ => zlwQ_cv _) (fun _ _ => zlwQ_cv _) evR_8_parts
  | 9, _ => zX3_of (zlwQ_cv _) (fun _ => zlwQ_cv _) (fun _ _ => zlwQ_cv _) evR_9_parts
  | 10, _ => zX3_of (zlwQ_cv _) (fun _ => zlwQ_cv _) (fun _ _ => zlwQ_cv _) evR_10_parts
  | 11, _ => zX3_of (zlwQ_cv _) (fun _ => zlwQ_cv _) (fun _ _ => zlwQ_cv _) evR_11_parts
  | 12, _ => zX3_of (zlwQ_cv _) (fun _ => zlwQ_cv _) (fun _ _ => zlwQ_cv _) evR_12_parts
  | 13, _ => zX3_of (zlwQ_cv _) (fun _ => zlwQ_cv _) (fun _ _ => zlwQ_cv _) evR_13_parts
  | 14, _ => zX3_of (zlwQ_cv _) (fun _ => zlwQ_cv _) (fun _ _ => zlwQ_cv _) evR_14_parts
  | 15, _ => zX3_of (zlwQ_cv _) (fun _ => zlwQ_cv _) (fun _ _ => zlwQ_cv _) evR_15_parts
  | 16, _ => zX3_of (zlwQ_cv _) (fun _ => zlwQ_cv _) (fun _ _ => zlwQ_cv _) evR_16_parts
  | 17, _ => zX3_of (zlwQ_cv _) (fun _ => zlwQ_cv _) (fun _ _ => zlwQ_cv _) evR_17_parts
  | 18, _ => zX3_of (zlwQ_cv _) (fun _ => zlwQ_cv _) (fun _ _ => zlwQ_cv _) evR_18_parts
  | 19, _ => zX3_of (zlwQ_cv _) (fun _ => zlwQ_cv _) (fun _ _ => zlwQ_cv _) evR_19_parts
  | 20, _ => zX3_of (zlwQ_cv _) (fun _ => zlwQ_cv _) (fun _ _ => zlwQ_cv _) evR_20_parts
  | 21, _ => zX3_of (zlwQ_cv _) (fun _ => zlwQ_cv _) (fun _ _ => zlwQ_cv _) evR_21_parts
  | 22, _ => zX3_of (zlwQ_cv _) (fun _ => zlwQ_cv _) (fun _ _ => zlwQ_cv _) evR_22_parts
  | 23, _ => zX3_of (zlwQ_cv _) (fun _ => zlwQ_cv _) (fun _ _ => zlwQ_cv _) evR_23_parts
  | n + 24, h => absurd h (by omega)
theorem evR_inner : ∀ g, g < 24 → zX2 (fun a b => f_X9_innerv [zR 1, zI a, zI b] (hRf g) (fun r h => zands [zrJ r, zsubH h (hRf g)]))
  | 0, _ => zX2_of (zlwQ_cv _) (fun _ => zlwQ_cv _) evR_0_inner
  | 1, _ => zX2_of (zlwQ_cv _) (fun _ => zlwQ_cv _) evR_1_inner
  | 2, _ => zX2_of (zlwQ_cv _) (fun _ => zlwQ_cv _) evR_2_inner
  | 3, _ => zX2_of (zlwQ_cv _) (fun _ => zlwQ_cv _) evR_3_inner
  | 4, _ => zX2_of (zlwQ_cv _) (fun _ => zlwQ_cv _) evR_4_inner
  | 5, _ => zX2_of (zlwQ_cv _) (fun _ => zlwQ_cv _) evR_5_inner
  | 6, _ => zX2_of (zlwQ_cv _) (fun _ => zlwQ_cv _) evR_6_inner
  | 7, _ => zX2_of (zlwQ_cv _) (fun _ => zlwQ_cv _) evR_7_inner
  | 8, _ => zX2_of (zlwQ_cv _) (fun _ => zlwQ_cv _) evR_8_inner
  | 9, _ => zX2_of (zlwQ_cv _) (fun _ => zlwQ_cv _) evR_9_inner
  | 10, _ => zX2_of (zlwQ_cv _) (fun _ => zlwQ_cv _) evR_10_inner
  | 11, _ => zX2_of (zlwQ_cv _) (fun _ => zlwQ_cv _) evR_11_inner
  | 12, _ => zX2_of (zlwQ_cv _) (fun _ => zlwQ_cv _) evR_12_inner
  | 13, _ => zX2_of (zlwQ_cv _) (fun _ => zlwQ_cv _) evR_13_inner
  | 14, _ => zX2_of (zlwQ_cv _) (fun _ => zlwQ_cv _) evR_14_inner
  | 15, _ => zX2_of (zlwQ_cv _) (fun _ => zlwQ_cv _) evR_15_inner
  | 16, _ => zX2_of (zlwQ_cv _) (fun _ => zlwQ_cv _) evR_16_inner
  | 17, _ => zX2_of (zlwQ_cv _) (fun _ => zlwQ_cv _) evR_17_inner
  | 18, _ => zX2_of (zlwQ_cv _) (fun _ => zlwQ_cv _) evR_18_inner
  | 19, _ => zX2_of (zlwQ_cv _) (fun _ => zlwQ_cv _) evR_19_inner
  | 20, _ => zX2_of (zlwQ_cv _) (fun _ => zlwQ_cv _) evR_20_inner
  | 21, _ => zX2_of (zlwQ_cv _) (fun _ => zlwQ_cv _) evR_21_inner
  | 22, _ => zX2_of (zlwQ_cv _) (fun _ => zlwQ_cv _) evR_22_inner
  | 23, _ => zX2_of (zlwQ_cv _) (fun _ => zlwQ_cv _) evR_23_inner
  | n + 24, h => absurd h (by omega)
theorem evR_kind : ∀ g, g < 24 → zX2 (fun a b => f_X9_kindv [zR 1, zI a, zI b] (hRf g) (fun r h => zands [zrI r, zsubH h (hRf g)]))
  | 0, _ => zX2_of (zlwQ_cv _) (fun _ => zlwQ_cv _) evR_0_kind
  | 1, _ => zX2_of (zlwQ_cv _) (fun _ => zlwQ_cv _) evR_1_kind
  | 2, _ => zX2_of (zlwQ_cv _) (fun _ => zlwQ_cv _) evR_2_kind
  | 3, _ => zX2_of (zlwQ_cv _) (fun _ => zlwQ_cv _) evR_3_kind
  | 4, _ => zX2_of (zlwQ_cv _) (fun _ => zlwQ_cv _) evR_4_kind
  | 5, _ => zX2_of (zlwQ_cv _) (fun _ => zlwQ_cv _) evR_5_kind
  | 6, _ => zX2_of (zlwQ_cv _) (fun _ => zlwQ_cv _) evR_6_kind
  | 7, _ => zX2_of (zlwQ_cv _) (fun _ => zlwQ_cv _) evR_7_kind
  | 8, _ => zX2_of (zlwQ_cv _) (fun _ => zlwQ_cv _) evR_8_kind
  | 9, _ => zX2_of (zlwQ_cv _) (fun _ => zlwQ_cv _) evR_9_kind
  | 10, _ => zX2_of (zlwQ_cv _) (fun _ => zlwQ_cv _) evR_10_kind
  | 11, _ => zX2_of (zlwQ_cv _) (fun _ => zlwQ_cv _) evR_11_kind
  | 12, _ => zX2_of (zlwQ_cv _) (fun _ => zlwQ_cv _) evR_12_kind
  | 13, _ => zX2_of (zlwQ_cv _) (fun _ => zlwQ_cv _) evR_13_kind
  | 14, _ => zX2_of (zlwQ_cv _) (fun _ => zlwQ_cv _) evR_14_kind
  | 15, _ => zX2_of (zlwQ_cv _) (fun _ => zlwQ_cv _) evR_15_kind
  | 16, _ => zX2_of (zlwQ_cv _) (fun _ => zlwQ_cv _) evR_16_kind
  | 17, _ => zX2_of (zlwQ_cv _) (fun _ => zlwQ_cv _) evR_17_kind
  | 18, _ => zX2_of (zlwQ_cv _) (fun _ => zlwQ_cv _) evR_18_kind
  | 19, _ => zX2_of (zlwQ_cv _) (fun _ => zlwQ_cv _) evR_19_kind
  | 20, _ => zX2_of (zlwQ_cv _) (fun _ => zlwQ_cv _) evR_20_kind
  | 21, _ => zX2_of (zlwQ_cv _) (fun _ => zlwQ_cv _) evR_21_kind
  | 22, _ => zX2_of (zlwQ_cv _) (fun _ => zlwQ_cv _) evR_22_kind
  | 23, _ => zX2_of (zlwQ_cv _) (fun _ => zlwQ_cv _) evR_23_kind
  | n + 24, h => absurd h (by omega)
theorem evR_cut : ∀ g, g < 24 → zX3 (fun a b c => f_X9_cutv [zR 1, zI a, zI b, zI c] (hRf g) (fun r h => zands [zrI r, zsubH h (hRf g)]))
  | 0, _ => zX3_of (zlwQ_cv _) (fun _ => zlwQ_cv _) (fun _ _ => zlwQ_cv _) evR_0_cut
  | 1, _ => zX3_of (zlwQ_cv _) (fun _ => zlwQ_cv _) (fun _ _ => zlwQ_cv _) evR_1_cut
  | 2, _ => zX3_of (zlwQ_cv _) (fun _ => zlwQ_cv _) (fun _ _ => zlwQ_cv _) evR_2_cut
  | 3, _ => zX3_of (zlwQ_cv _) (fun _ => zlwQ_cv _) (fun _ _ => zlwQ_cv _) evR_3_cut
  | 4, _ => zX3_of (zlwQ_cv _) (fun _ => zlwQ_cv _) (fun _ _ => zlwQ_cv _) evR_4_cut
  | 5, _ => zX3_of (zlwQ_cv _) (fun _ => zlwQ_cv _) (fun _ _ => zlwQ_cv _) evR_5_cut
  | 6, _ => zX3_of (zlwQ_cv _) (fun _ => zlwQ_cv _) (fun _ _ => zlwQ_cv _) evR_6_cut
  | 7, _ => zX3_of (zlwQ_cv _) (fun _ => zlwQ_cv _) (fun _ _ => zlwQ_cv _) evR_7_cut
  | 8, _ => zX3_of (zlwQ_cv _) (fun _ => zlwQ_cv _) (fun _ _ => zlwQ_cv _) evR_8_cut
  | 9, _ => zX3_of (zlwQ_cv _) (fun _ => zlwQ_cv _) (fun _ _ => zlwQ_cv _) evR_9_cut
  | 10, _ => zX3_of (zlwQ_cv _) (fun _ => zlwQ_cv _) (fun _ _ => zlwQ_cv _) evR_10_cut
  | 11, _ => zX3_of (zlwQ_cv _) (fun _ => zlwQ_cv _) (fun _ _ => zlwQ_cv _) evR_11_cut
  | 12, _ => zX3_of (zlwQ_cv _) (fun _ => zlwQ_cv _) (fun _ _ => zlwQ_cv _) evR_12_cut
  | 13, _ => zX3_of (zlwQ_cv _) (fun _ => zlwQ_cv _) (fun _ _ => zlwQ_cv _) evR_13_cut
  | 14, _ => zX3_of (zlwQ_cv _) (fun _ => zlwQ_cv _) (fun _ _ => zlwQ_cv _) evR_14_cut
  | 15, _ => zX3_of (zlwQ_cv _) (fun _ => zlwQ_cv _) (fun _ _ => zlwQ_cv _) evR_15_cut
  | 16, _ => zX3_of (zlwQ_cv _) (fun _ => zlwQ_cv _) (fun _ _ => zlwQ_cv _) evR_16_cut
  | 17, _ => zX3_of (zlwQ_cv _) (fun _ => zlwQ_cv _) (fun _ _ => zlwQ_cv _) evR_17_cut
  | 18, _ => zX3_of (zlwQ_cv _) (fun _ => zlwQ_cv _) (fun _ _ => zlwQ_cv _) evR_18_cut
  | 19, _ => zX3_of (zlwQ_cv _) (fun _ => zlwQ_cv _) (fun _ _ => zlwQ_cv _) evR_19_cut
  | 20, _ => zX3_of (zlwQ_cv _) (fun _ => zlwQ_cv _) (fun _ _ => zlwQ_cv _) evR_20_cut
  | 21, _ => zX3_of (zlwQ_cv _) (fun _ => zlwQ_cv _) (fun _ _ => zlwQ_cv _) evR_21_cut
  | 22, _ => zX3_of (zlwQ_cv _) (fun _ => zlwQ_cv _) (fun _ _ => zlwQ_cv _) evR_22_cut
  | 23, _ => zX3_of (zlwQ_cv _) (fun _ => zlwQ_cv _) (fun _ _ => zlwQ_cv _) evR_23_cut
  | n + 24, h => absurd h (by omega)
theorem evR_look : ∀ g, g < 24 → zX1 (fun a => f_X9_lookv [zR 1, zI a] (hRf g) (fun r h => zands [zrI r, zsubH h (hRf g)]))
  | 0, _ => zX1_of (zlwQ_cv _) evR_0_look
  | 1, _ => zX1_of (zlwQ_cv _) evR_1_look
  | 2, _ => zX1_of (zlwQ_cv _) evR_2_look
  | 3, _ => zX1_of (zlwQ_cv _) evR_3_look
  | 4, _ => zX1_of (zlwQ_cv _) evR_4_look
  | 5, _ => zX1_of (zlwQ_cv _) evR_5_look
  | 6, _ => zX1_of (zlwQ_cv _) evR_6_look
  | 7, _ => zX1_of (zlwQ_cv _) evR_7_look
  | 8, _ => zX1_of (zlwQ_cv _) evR_8_look
  | 9, _ => zX1_of (zlwQ_cv _) evR_9_look
  | 10, _ => zX1_of (zlwQ_cv _) evR_10_look
  | 11, _ => zX1_of (zlwQ_cv _) evR_11_look
  | 12, _ => zX1_of (zlwQ_cv _) evR_12_look
  | 13, _ => zX1_of (zlwQ_cv _) evR_13_look
  | 14, _ => zX1_of (zlwQ_cv _) evR_14_look
  | 15, _ => zX1_of (zlwQ_cv _) evR_15_look
  | 16, _ => zX1_of (zlwQ_cv _) evR_16_look
  | 17, _ => zX1_of (zlwQ_cv _) evR_17_look
  | 18, _ => zX1_of (zlwQ_cv _) evR_18_look
  | 19, _ => zX1_of (zlwQ_cv _) evR_19_look
  | 20, _ => zX1_of (zlwQ_cv _) evR_20_look
  | 21, _ => zX1_of (zlwQ_cv _) evR_21_look
  | 22, _ => zX1_of (zlwQ_cv _) evR_22_look
  | 23, _ => zX1_of (zlwQ_cv _) evR_23_look
  | n + 24, h => absurd h (by omega)
end
