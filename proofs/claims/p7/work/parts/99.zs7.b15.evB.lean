/-! both sides at (4, 7): by program -/
set_option maxRecDepth 100000 in
theorem evB_15_partition : zrgs (zlwQ 4) (fun a => zrgs (zlwQ (zlkQ [(0, 4), (1, 4), (2, 4), (3, 4), (4, 4)] a)) (fun b => f_X8_partitiona [zR 1, zI a, zI b] (hCf 15) (fun r h => zands [zsubH h (hCf 15), f_X9_partitiona [zR 1, zI a, zI b] (hRf 15) (fun r2 h2 => zands [zeqI r r2, zsubH h2 (hRf 15)])]))) = true := by decide +kernel
