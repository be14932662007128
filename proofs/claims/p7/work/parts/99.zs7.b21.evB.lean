/-! both sides at (6, 3): by program -/
set_option maxRecDepth 100000 in
theorem evB_21_partition : zrgs (zlwQ 6) (fun a => zrgs (zlwQ (zlkQ [(0, 4), (1, 4), (2, 4), (3, 4), (4, 4), (5, 4), (6, 4), (7, 4), (8, 4), (9, 4), (10, 4)] a)) (fun b => f_X8_partitiona [zR 1, zI a, zI b] (hCf 21) (fun r h => zands [zsubH h (hCf 21), f_X9_partitiona [zR 1, zI a, zI b] (hRf 21) (fun r2 h2 => zands [zeqI r r2, zsubH h2 (hRf 21)])]))) = true := by decide +kernel
