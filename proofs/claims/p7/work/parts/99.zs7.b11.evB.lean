/-! both sides at (3, 7): by program -/
set_option maxRecDepth 100000 in
theorem evB_11_partition : zrgs (zlwQ 2) (fun a => zrgs (zlwQ (zlkQ [(0, 4), (1, 4), (2, 4)] a)) (fun b => f_X8_partitiona [zR 1, zI a, zI b] (hCf 11) (fun r h => zands [zsubH h (hCf 11), f_X9_partitiona [zR 1, zI a, zI b] (hRf 11) (fun r2 h2 => zands [zeqI r r2, zsubH h2 (hRf 11)])]))) = true := by decide +kernel
