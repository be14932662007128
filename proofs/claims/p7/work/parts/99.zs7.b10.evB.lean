/-! both sides at (3, 5): by program -/
set_option maxRecDepth 100000 in
theorem evB_10_partition : zrgs (zlwQ 2) (fun a => zrgs (zlwQ (zlkQ [(0, 4), (1, 4), (2, 4)] a)) (fun b => f_X8_partitiona [zR 1, zI a, zI b] (hCf 10) (fun r h => zands [zsubH h (hCf 10), f_X9_partitiona [zR 1, zI a, zI b] (hRf 10) (fun r2 h2 => zands [zeqI r r2, zsubH h2 (hRf 10)])]))) = true := by decide +kernel
