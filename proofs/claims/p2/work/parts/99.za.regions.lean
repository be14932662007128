/-! regions of the numbers, by program -/
noncomputable def zlvQ : Nat → List Nat
  | 1 => [0, 1105954078720, 2361183241439117574144]
  | 2 => [0, 1, 2, 3, 4404488962048, 2361183241443412541439, 4294967295]
  | 3 => [0, 1, 2, 3304977334272, 2361183241439117574144]
  | 4 => [0, 1, 2, 3, 4, 5, 6603512217600, 2361183241443412541439, 4294967295]
  | 5 => [0, 1, 2, 3, 4, 5, 6603512217600, 2361183241439117574144]
  | 6 => [0, 1, 2, 3, 4, 5, 6, 7, 8, 9, 10, 11, 13200581984256, 2361183241439117574144]
  | 7 => [0, 1, 2, 3, 4, 5, 6, 7, 8, 9, 10, 11, 12, 13, 14, 15, 17598628495360, 2361183241443412541439, 4294967295]
  | 8 => [0, 1, 2, 3, 4, 5, 6, 7, 8, 9, 10, 11, 12, 13, 14, 15, 16, 17, 18, 19, 20, 21, 22, 23, 24, 25, 28593744773120, 2361183241439117574144]
  | _ => [4294967296]
theorem zlvQ_cv : ∀ i, zcvr (zlvQ i) 0 = true
  | 0 => by decide +kernel
  | 1 => by decide +kernel
  | 2 => by decide +kernel
  | 3 => by decide +kernel
  | 4 => by decide +kernel
  | 5 => by decide +kernel
  | 6 => by decide +kernel
  | 7 => by decide +kernel
  | 8 => by decide +kernel
  | n + 9 => by show zcvr [4294967296] 0 = true; decide +kernel
noncomputable def zlkQ (l : List (Nat × Nat)) (k : Nat) : Nat := List.rec (motive := fun _ => Nat) 0 (fun e _ r => Prod.rec (motive := fun _ => Nat) (fun a v => cond (Nat.beq k a) v r) e) l
