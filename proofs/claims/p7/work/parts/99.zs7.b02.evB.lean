/-! both sides at (1, 5): by program -/
set_option maxRecDepth 100000 in
theorem evB_2_partition : zrgs (zlwQ 1) (fun a => zrgs (zlwQ (zlkQ [(0, 4)] a)) (fun b => f_X8_partitiona [zR 1, zI a, zI b] (hCf 2) (fun r h => zands [zsubH h (hCf 2), f_X9_partitiona [zR 1, zI a, zI b] (hRf 2) (fun r2 h2 => zands [zeqI r r2, zsubH h2 (hRf 2)])]))) = true := by decide +kernel
