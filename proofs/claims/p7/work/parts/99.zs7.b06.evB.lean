/-! both sides at (2, 5): by program -/
set_option maxRecDepth 100000 in
theorem evB_6_partition : zrgs (zlwQ 2) (fun a => zrgs (zlwQ (zlkQ [(0, 4), (1, 4)] a)) (fun b => f_X8_partitiona [zR 1, zI a, zI b] (hCf 6) (fun r h => zands [zsubH h (hCf 6), f_X9_partitiona [zR 1, zI a, zI b] (hRf 6) (fun r2 h2 => zands [zeqI r r2, zsubH h2 (hRf 6)])]))) = true := by decide +kernel
