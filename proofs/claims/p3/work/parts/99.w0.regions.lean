/-! regions of the numbers, by program -/
def zlv : Nat → List Nat
  | 1 => [0, 1, 2, 3304977334272, 2361183241439117574144]
  | 2 => [0, 1, 2, 3304977334272, 2361183241443412541439, 4294967295]
  | 3 => [0, 1, 2, 3, 4, 5, 6603512217600, 2361183241439117574144]
  | 4 => [0, 1, 2, 3, 4, 5, 6603512217600, 2361183241443412541439, 4294967295]
  | 5 => [0, 1, 2, 3, 4, 5, 6, 7, 8, 9902047100928, 2361183241443412541439, 4294967295]
  | 6 => [0, 1, 2, 3, 4, 5, 6, 7, 8, 9, 11001558728704, 2361183241443412541439, 4294967295]
  | 7 => [0, 1, 2, 3, 4, 5, 6, 7703023845376, 2361183241439117574144]
  | 8 => [0, 1, 2, 3, 4, 5, 6, 7, 8802535473152, 2361183241439117574144]
  | _ => [4294967296]
theorem zlv_cv : ∀ i, zcvr (zlv i) 0 = true
  | 0 => by decide +kernel
  | 1 => by decide +kernel
  | 2 => by decide +kernel
  | 3 => by decide +kernel
  | 4 => by decide +kernel
  | 5 => by decide +kernel
  | 6 => by decide +kernel
  | 7 => by decide +kernel
  | 8 => by decide +kernel
  | n + 9 => by show zcvr [4294967296] 0 = true; decide +kernel
noncomputable def zlkp (l : List (Nat × Nat)) (k : Nat) : Nat := List.rec (motive := fun _ => Nat) 0 (fun e _ r => Prod.rec (motive := fun _ => Nat) (fun a v => cond (Nat.beq k a) v r) e) l
noncomputable def zeqI (r r2 : zV) : Bool := Sum.rec (motive := fun _ => Bool) (fun a => Sum.rec (motive := fun _ => Bool) (fun b => cond (Nat.ble a 4294967295) (Nat.beq a b) false) (fun _ => false) r2) (fun _ => false) r
noncomputable def zeqJ (r r2 : zV) : Bool := Sum.rec (motive := fun _ => Bool) (fun _ => false) (fun u => Sum.rec (motive := fun _ => Bool) (fun _ => false) (fun v => Sum.rec (motive := fun _ => Bool) (fun a => Sum.rec (motive := fun _ => Bool) (fun _ => false) (fun u2 => Sum.rec (motive := fun _ => Bool) (fun _ => false) (fun v2 => Sum.rec (motive := fun _ => Bool) (fun b => cond (Nat.ble a 18446744073709551615) (Nat.beq a b) false) (fun _ => false) v2) u2) r2) (fun _ => false) v) u) r
noncomputable def zleaf (eq : zV → zV → Bool) (mc ms : Nat) (f g : List zV → zH 10 → zP 10 → Bool) (as : List zV) : Bool := zgo mc ms f (zR 1 :: as) hB_lw (fun r h => zat h 166 (fun _ _ _ kd _ _ => cond (Nat.beq kd 25) (zgo 0 0 g (zR 166 :: as) h (fun r2 _ => eq r r2)) false))
