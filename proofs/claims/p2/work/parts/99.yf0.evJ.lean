/-! the worlds of the class and their blocks: by program -/
set_option maxRecDepth 100000 in
theorem evJ_0 : zands [zjoin (qE 0) hcore (hTf (qgN 0)) (hSf 0) (hCf 0), qspl 0 (hCf 0), qkd (hCf 0)] = true := by decide +kernel
set_option maxRecDepth 100000 in
theorem evJ_1 : zands [zjoin (qE 1) hcore (hTf (qgN 1)) (hSf 1) (hCf 1), qspl 1 (hCf 1), qkd (hCf 1)] = true := by decide +kernel
set_option maxRecDepth 100000 in
theorem evJ_2 : zands [zjoin (qE 2) hcore (hTf (qgN 2)) (hSf 2) (hCf 2), qspl 2 (hCf 2), qkd (hCf 2)] = true := by decide +kernel
set_option maxRecDepth 100000 in
theorem evJ_3 : zands [zjoin (qE 3) hcore (hTf (qgN 3)) (hSf 3) (hCf 3), qspl 3 (hCf 3), qkd (hCf 3)] = true := by decide +kernel
set_option maxRecDepth 100000 in
theorem evJ_4 : zands [zjoin (qE 4) hcore (hTf (qgN 4)) (hSf 4) (hCf 4), qspl 4 (hCf 4), qkd (hCf 4)] = true := by decide +kernel
set_option maxRecDepth 100000 in
theorem evJ_5 : zands [zjoin (qE 5) hcore (hTf (qgN 5)) (hSf 5) (hCf 5), qspl 5 (hCf 5), qkd (hCf 5)] = true := by decide +kernel
set_option maxRecDepth 100000 in
theorem evJ_6 : zands [zjoin (qE 6) hcore (hTf (qgN 6)) (hSf 6) (hCf 6), qspl 6 (hCf 6), qkd (hCf 6)] = true := by decide +kernel
set_option maxRecDepth 100000 in
theorem evJ_7 : zands [zjoin (qE 7) hcore (hTf (qgN 7)) (hSf 7) (hCf 7), qspl 7 (hCf 7), qkd (hCf 7)] = true := by decide +kernel
set_option maxRecDepth 100000 in
theorem evJ_8 : zands [zjoin (qE 8) hcore (hTf (qgN 8)) (hSf 8) (hCf 8), qspl 8 (hCf 8), qkd (hCf 8)] = true := by decide +kernel
set_option maxRecDepth 100000 in
theorem evJ_9 : zands [zjoin (qE 9) hcore (hTf (qgN 9)) (hSf 9) (hCf 9), qspl 9 (hCf 9), qkd (hCf 9)] = true := by decide +kernel
set_option maxRecDepth 100000 in
theorem evJ_10 : zands [zjoin (qE 10) hcore (hTf (qgN 10)) (hSf 10) (hCf 10), qspl 10 (hCf 10), qkd (hCf 10)] = true := by decide +kernel
set_option maxRecDepth 100000 in
theorem evJ_11 : zands [zjoin (qE 11) hcore (hTf (qgN 11)) (hSf 11) (hCf 11), qspl 11 (hCf 11), qkd (hCf 11)] = true := by decide +kernel
set_option maxRecDepth 100000 in
theorem evJ_12 : zands [zjoin (qE 12) hcore (hTf (qgN 12)) (hSf 12) (hCf 12), qspl 12 (hCf 12), qkd (hCf 12)] = true := by decide +kernel
set_option maxRecDepth 100000 in
theorem evJ_13 : zands [zjoin (qE 13) hcore (hTf (qgN 13)) (hSf 13) (hCf 13), qspl 13 (hCf 13), qkd (hCf 13)] = true := by decide +kernel
set_option maxRecDepth 100000 in
theorem evJ_14 : zands [zjoin (qE 14) hcore (hTf (qgN 14)) (hSf 14) (hCf 14), qspl 14 (hCf 14), qkd (hCf 14)] = true := by decide +kernel
set_option maxRecDepth 100000 in
theorem evJ_15 : zands [zjoin (qE 15) hcore (hTf (qgN 15)) (hSf 15) (hCf 15), qspl 15 (hCf 15), qkd (hCf 15)] = true := by decide +kernel
set_option maxRecDepth 100000 in
theorem evJ_16 : zands [zjoin (qE 16) hcore (hTf (qgN 16)) (hSf 16) (hCf 16), qspl 16 (hCf 16), qkd (hCf 16)] = true := by decide +kernel
set_option maxRecDepth 100000 in
theorem evJ_17 : zands [zjoin (qE 17) hcore (hTf (qgN 17)) (hSf 17) (hCf 17), qspl 17 (hCf 17), qkd (hCf 17)] = true := by decide +kernel
set_option maxRecDepth 100000 in
theorem evJ_18 : zands [zjoin (qE 18) hcore (hTf (qgN 18)) (hSf 18) (hCf 18), qspl 18 (hCf 18), qkd (hCf 18)] = true := by decide +kernel
set_option maxRecDepth 100000 in
theorem evJ_19 : zands [zjoin (qE 19) hcore (hTf (qgN 19)) (hSf 19) (hCf 19), qspl 19 (hCf 19), qkd (hCf 19)] = true := by decide +kernel
set_option maxRecDepth 100000 in
theorem evJ_20 : zands [zjoin (qE 20) hcore (hTf (qgN 20)) (hSf 20) (hCf 20), qspl 20 (hCf 20), qkd (hCf 20)] = true := by decide +kernel
set_option maxRecDepth 100000 in
theorem evJ_21 : zands [zjoin (qE 21) hcore (hTf (qgN 21)) (hSf 21) (hCf 21), qspl 21 (hCf 21), qkd (hCf 21)] = true := by decide +kernel
set_option maxRecDepth 100000 in
theorem evJ_22 : zands [zjoin (qE 22) hcore (hTf (qgN 22)) (hSf 22) (hCf 22), qspl 22 (hCf 22), qkd (hCf 22)] = true := by decide +kernel
set_option maxRecDepth 100000 in
theorem evJ_23 : zands [zjoin (qE 23) hcore (hTf (qgN 23)) (hSf 23) (hCf 23), qspl 23 (hCf 23), qkd (hCf 23)] = true := by decide +kernel
theorem ev_J0 : ∀ g, g < 24 → zands [zjoin (qE g) hcore (hTf (qgN g)) (hSf g) (hCf g), qspl g (hCf g), qkd (hCf g)] = true
  | 0, _ => evJ_0
  | 1, _ => evJ_1
  | 2, _ => evJ_2
  | 3, _ => evJ_3
  | 4, _ => evJ_4
  | 5, _ => evJ_5
  | 6, _ => evJ_6
  | 7, _ => evJ_7
  | 8, _ => evJ_8
  | 9, _ => evJ_9
  | 10, _ => evJ_10
  | 11, _ => evJ_11
  | 12, _ => evJ_12
  | 13, _ => evJ_13
  | 14, _ => evJ_14
  | 15, _ => evJ_15
  | 16, _ => evJ_16
  | 17, _ => evJ_17
  | 18, _ => evJ_18
  | 19, _ => evJ_19
  | 20, _ => evJ_20
  | 21, _ => evJ_21
  | 22, _ => evJ_22
  | 23, _ => evJ_23
  | n + 24, h => absurd h (by omega)
theorem ev_J (g : Nat) (hg : g < 24) : zjoin (qE g) hcore (hTf (qgN g)) (hSf g) (hCf g) = true := (zands_c (ev_J0 g hg)).1
theorem ev_S (g : Nat) (hg : g < 24) : qspl g (hCf g) = true := (zands_c (zands_c (ev_J0 g hg)).2).1
theorem ev_K (g : Nat) (hg : g < 24) : qkd (hCf g) = true := (zands_c (zands_c (zands_c (ev_J0 g hg)).2).2).1
theorem ev_k0 : qkd hcore = true := by decide +kernel
theorem ev_s0 : zsubB (zrng 0 38) hcore hcore = true := by decide +kernel
set_option maxRecDepth 100000 in
theorem ev_sR0 : zall 24 (fun g => zands [zsubB (zrng 0 45) (hRf g) (hRf g), Nat.beq (hRf g).2.1 45, Nat.beq (zget 6 (hRf g).1 0).1 25, Nat.beq (zget 6 (hRf g).1 0).2.1 63, Nat.beq (zwd 40 (zget 6 (hRf g).1 0).2.2 46) (zoc 0 46), zsubH (hRf g) hRw]) = true := by decide +kernel
theorem ev_r0 : zall 24 (fun g => zands [Nat.beq (hCf g).2.2.1 0, Nat.beq (hCf g).2.2.2 0, Nat.beq (hRf g).2.2.1 0, Nat.beq (hRf g).2.2.2 0]) = true := by decide +kernel

