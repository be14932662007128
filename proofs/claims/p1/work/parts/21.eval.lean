/-- an empty tree -/
noncomputable def zT0 (d : Nat) : zT d := Nat.rec (motive := fun d => zT d) ((0, 0, 0) : zC) (fun _ t => (t, t)) d
noncomputable def hM0 : zH 6 := (zset 6 (zT0 6) 0 (25, 63, 0), (1, (50, 80000)))
theorem ev1 : f_X9_init [zR 1] hM0 (fun _ _ => true) = true := by decide +kernel
