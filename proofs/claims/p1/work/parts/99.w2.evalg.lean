/-! at the fresh state, by program -/
theorem ev_m_group : zrgs (zlv 5) (fun a => zrgs (zlv (zlkp [(1, 5), (2, 5), (3, 5), (4, 5), (5, 5), (6, 5)] a)) (fun b => zleaf zeqI 1000 80000 f_X8_groupa f_X9_groupa [zI a, zI b])) = true := by decide +kernel
