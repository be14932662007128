/-! group at all groups: by program -/
noncomputable def qvl (a b n : Nat) : Bool := Nat.rec (motive := fun _ => Bool) false (fun g r => cond (zands [Nat.beq a (qgN g), Nat.beq b (qgP g)]) true r) n
theorem qvl_t {a b : Nat} : ∀ {n : Nat}, qvl a b n = true → ∃ g, g < n ∧ a = qgN g ∧ b = qgP g
  | 0, h => by cases h
  | n + 1, h => by
    have h : cond (zands [Nat.beq a (qgN n), Nat.beq b (qgP n)]) true (qvl a b n) = true := h
    cases hb : zands [Nat.beq a (qgN n), Nat.beq b (qgP n)]
    · rw [hb, cond_false] at h
      obtain ⟨g, h1, h2⟩ := qvl_t h
      exact ⟨g, by omega, h2⟩
    · obtain ⟨e1, hb⟩ := zands_c hb
      obtain ⟨e2, -⟩ := zands_c hb
      exact ⟨n, Nat.lt_succ_self n, Nat.eq_of_beq_eq_true e1, Nat.eq_of_beq_eq_true e2⟩
theorem qgN_lt : ∀ g, g < 24 → qgN g < 4294967296 ∧ qgP g < 4294967296 := by decide
noncomputable def qlN : List Nat := [0, 1, 2, 3, 4, 5, 6, 7703023845376, 2361183241439117574144]
noncomputable def qlP : List Nat := [0, 1, 2, 3, 4, 5, 6, 7, 8802535473152, 2361183241439117574144]
theorem qlN_cv : zcvr qlN 0 = true := by decide +kernel
theorem qlP_cv : zcvr qlP 0 = true := by decide +kernel
theorem ev_grpI : zrgs qlN (fun a => zrgs qlP (fun b => cond (qvl a b 24) true (zands [f_X8_groupa [zR 1, zI a, zI b] hs0C (fun r h => zands [zeqI r (zI 4294967295), zsubH h hs0C]), f_X9_groupb [zR 1, zI a, zI b] hs0R (fun r h => zands [zeqI r (zI 4294967295), zsubH h hs0R])]))) = true := by decide +kernel
theorem ev_grp (G : zGh) (n p : Int32) : (∃ g, g < 24 ∧ zi n = qgN g ∧ zi p = qgP g) ∨ ∃ r1 r2, @zIs G r1 n ∧ @zIs G r2 p ∧ f_X8_groupa [zR 1, zI r1, zI r2] hs0C (fun r h => zands [zeqI r (zI 4294967295), zsubH h hs0C]) = true ∧ f_X9_groupb [zR 1, zI r1, zI r2] hs0R (fun r h => zands [zeqI r (zI 4294967295), zsubH h hs0R]) = true := by
  obtain ⟨r1, h1, k1⟩ := @zrgs_i G _ _ qlN_cv ev_grpI n
  obtain ⟨r2, h2, k2⟩ := @zrgs_i G _ _ qlP_cv k1 p
  have k2 : cond (qvl r1 r2 24) true (zands [f_X8_groupa [zR 1, zI r1, zI r2] hs0C (fun r h => zands [zeqI r (zI 4294967295), zsubH h hs0C]), f_X9_groupb [zR 1, zI r1, zI r2] hs0R (fun r h => zands [zeqI r (zI 4294967295), zsubH h hs0R])]) = true := k2
  cases hb : qvl r1 r2 24
  · rw [hb, cond_false] at k2
    obtain ⟨a1, k2⟩ := zands_c k2
    obtain ⟨a2, -⟩ := zands_c k2
    exact Or.inr ⟨r1, r2, h1, h2, a1, a2⟩
  · obtain ⟨g, hg, e1, e2⟩ := qvl_t hb
    obtain ⟨b1, b2⟩ := qgN_lt g hg
    exact Or.inl ⟨g, hg, (h1.1 (by omega)).trans e1, (h2.1 (by omega)).trans e2⟩
theorem ev_hRw : zands [Nat.beq hRw.2.2.1 0, Nat.beq hRw.2.2.2 0, Nat.beq (zget 6 hRw.1 0).1 (16 + 9)] = true := by decide +kernel
theorem ev_obR : zsubH hs0R hbR = true := by decide +kernel
set_option maxRecDepth 100000 in
theorem ev_grpA_0 : qevA f_X8_groupa [zI (qgN 0), zI (qgP 0)] 0 = true := by decide +kernel
set_option maxRecDepth 100000 in
theorem ev_grpA_1 : qevA f_X8_groupa [zI (qgN 1), zI (qgP 1)] 1 = true := by decide +kernel
set_option maxRecDepth 100000 in
theorem ev_grpA_2 : qevA f_X8_groupa [zI (qgN 2), zI (qgP 2)] 2 = true := by decide +kernel
set_option maxRecDepth 100000 in
theorem ev_grpA_3 : qevA f_X8_groupa [zI (qgN 3), zI (qgP 3)] 3 = true := by decide +kernel
set_option maxRecDepth 100000 in
theorem ev_grpA_4 : qevA f_X8_groupa [zI (qgN 4), zI (qgP 4)] 4 = true := by decide +kernel
set_option maxRecDepth 100000 in
theorem ev_grpA_5 : qevA f_X8_groupa [zI (qgN 5), zI (qgP 5)] 5 = true := by decide +kernel
set_option maxRecDepth 100000 in
theorem ev_grpA_6 : qevA f_X8_groupa [zI (qgN 6), zI (qgP 6)] 6 = true := by decide +kernel
set_option maxRecDepth 100000 in
theorem ev_grpA_7 : qevA f_X8_groupa [zI (qgN 7), zI (qgP 7)] 7 = true := by decide +kernel
set_option maxRecDepth 100000 in
theorem ev_grpA_8 : qevA f_X8_groupa [zI (qgN 8), zI (qgP 8)] 8 = true := by decide +kernel
set_option maxRecDepth 100000 in
theorem ev_grpA_9 : qevA f_X8_groupa [zI (qgN 9), zI (qgP 9)] 9 = true := by decide +kernel
set_option maxRecDepth 100000 in
theorem ev_grpA_10 : qevA f_X8_groupa [zI (qgN 10), zI (qgP 10)] 10 = true := by decide +kernel
set_option maxRecDepth 100000 in
theorem ev_grpA_11 : qevA f_X8_groupa [zI (qgN 11), zI (qgP 11)] 11 = true := by decide +kernel
set_option maxRecDepth 100000 in
theorem ev_grpA_12 : qevA f_X8_groupa [zI (qgN 12), zI (qgP 12)] 12 = true := by decide +kernel
set_option maxRecDepth 100000 in
theorem ev_grpA_13 : qevA f_X8_groupa [zI (qgN 13), zI (qgP 13)] 13 = true := by decide +kernel
set_option maxRecDepth 100000 in
theorem ev_grpA_14 : qevA f_X8_groupa [zI (qgN 14), zI (qgP 14)] 14 = true := by decide +kernel
set_option maxRecDepth 100000 in
theorem ev_grpA_15 : qevA f_X8_groupa [zI (qgN 15), zI (qgP 15)] 15 = true := by decide +kernel
set_option maxRecDepth 100000 in
theorem ev_grpA_16 : qevA f_X8_groupa [zI (qgN 16), zI (qgP 16)] 16 = true := by decide +kernel
set_option maxRecDepth 100000 in
theorem ev_grpA_17 : qevA f_X8_groupa [zI (qgN 17), zI (qgP 17)] 17 = true := by decide +kernel
set_option maxRecDepth 100000 in
theorem ev_grpA_18 : qevA f_X8_groupa [zI (qgN 18), zI (qgP 18)] 18 = true := by decide +kernel
set_option maxRecDepth 100000 in
theorem ev_grpA_19 : qevA f_X8_groupa [zI (qgN 19), zI (qgP 19)] 19 = true := by decide +kernel
set_option maxRecDepth 100000 in
theorem ev_grpA_20 : qevA f_X8_groupa [zI (qgN 20), zI (qgP 20)] 20 = true := by decide +kernel
set_option maxRecDepth 100000 in
theorem ev_grpA_21 : qevA f_X8_groupa [zI (qgN 21), zI (qgP 21)] 21 = true := by decide +kernel
set_option maxRecDepth 100000 in
theorem ev_grpA_22 : qevA f_X8_groupa [zI (qgN 22), zI (qgP 22)] 22 = true := by decide +kernel
set_option maxRecDepth 100000 in
theorem ev_grpA_23 : qevA f_X8_groupa [zI (qgN 23), zI (qgP 23)] 23 = true := by decide +kernel
theorem ev_grpA : ∀ g, g < 24 → qevA f_X8_groupa [zI (qgN g), zI (qgP g)] g = true
  | 0, _ => ev_grpA_0
  | 1, _ => ev_grpA_1
  | 2, _ => ev_grpA_2
  | 3, _ => ev_grpA_3
  | 4, _ => ev_grpA_4
  | 5, _ => ev_grpA_5
  | 6, _ => ev_grpA_6
  | 7, _ => ev_grpA_7
  | 8, _ => ev_grpA_8
  | 9, _ => ev_grpA_9
  | 10, _ => ev_grpA_10
  | 11, _ => ev_grpA_11
  | 12, _ => ev_grpA_12
  | 13, _ => ev_grpA_13
  | 14, _ => ev_grpA_14
  | 15, _ => ev_grpA_15
  | 16, _ => ev_grpA_16
  | 17, _ => ev_grpA_17
  | 18, _ => ev_grpA_18
  | 19, _ => ev_grpA_19
  | 20, _ => ev_grpA_20
  | 21, _ => ev_grpA_21
  | 22, _ => ev_grpA_22
  | 23, _ => ev_grpA_23
  | n + 24, h => absurd h (by omega)
set_option maxRecDepth 100000 in
theorem ev_grpB_0 : qevB f_X8_groupa [zI (qgN 0), zI (qgP 0)] 0 = true := by decide +kernel
set_option maxRecDepth 100000 in
theorem ev_grpB_1 : qevB f_X8_groupa [zI (qgN 1), zI (qgP 1)] 1 = true := by decide +kernel
set_option maxRecDepth 100000 in
theorem ev_grpB_2 : qevB f_X8_groupa [zI (qgN 2), zI (qgP 2)] 2 = true := by decide +kernel
set_option maxRecDepth 100000 in
theorem ev_grpB_3 : qevB f_X8_groupa [zI (qgN 3), zI (qgP 3)] 3 = true := by decide +kernel
set_option maxRecDepth 100000 in
theorem ev_grpB_4 : qevB f_X8_groupa [zI (qgN 4), zI (qgP 4)] 4 = true := by decide +kernel
set_option maxRecDepth 100000 in
theorem ev_grpB_5 : qevB f_X8_groupa [zI (qgN 5), zI (qgP 5)] 5 = true := by decide +kernel
set_option maxRecDepth 100000 in
theorem ev_grpB_6 : qevB f_X8_groupa [zI (qgN 6), zI (qgP 6)] 6 = true := by decide +kernel
set_option maxRecDepth 100000 in
theorem ev_grpB_7 : qevB f_X8_groupa [zI (qgN 7), zI (qgP 7)] 7 = true := by decide +kernel
set_option maxRecDepth 100000 in
theorem ev_grpB_8 : qevB f_X8_groupa [zI (qgN 8), zI (qgP 8)] 8 = true := by decide +kernel
set_option maxRecDepth 100000 in
theorem ev_grpB_9 : qevB f_X8_groupa [zI (qgN 9), zI (qgP 9)] 9 = true := by decide +kernel
set_option maxRecDepth 100000 in
theorem ev_grpB_10 : qevB f_X8_groupa [zI (qgN 10), zI (qgP 10)] 10 = true := by decide +kernel
set_option maxRecDepth 100000 in
theorem ev_grpB_11 : qevB f_X8_groupa [zI (qgN 11), zI (qgP 11)] 11 = true := by decide +kernel
set_option maxRecDepth 100000 in
theorem ev_grpB_12 : qevB f_X8_groupa [zI (qgN 12), zI (qgP 12)] 12 = true := by decide +kernel
set_option maxRecDepth 100000 in
theorem ev_grpB_13 : qevB f_X8_groupa [zI (qgN 13), zI (qgP 13)] 13 = true := by decide +kernel
set_option maxRecDepth 100000 in
theorem ev_grpB_14 : qevB f_X8_groupa [zI (qgN 14), zI (qgP 14)] 14 = true := by decide +kernel
set_option maxRecDepth 100000 in
theorem ev_grpB_15 : qevB f_X8_groupa [zI (qgN 15), zI (qgP 15)] 15 = true := by decide +kernel
set_option maxRecDepth 100000 in
theorem ev_grpB_16 : qevB f_X8_groupa [zI (qgN 16), zI (qgP 16)] 16 = true := by decide +kernel
set_option maxRecDepth 100000 in
theorem ev_grpB_17 : qevB f_X8_groupa [zI (qgN 17), zI (qgP 17)] 17 = true := by decide +kernel
set_option maxRecDepth 100000 in
theorem ev_grpB_18 : qevB f_X8_groupa [zI (qgN 18), zI (qgP 18)] 18 = true := by decide +kernel
set_option maxRecDepth 100000 in
theorem ev_grpB_19 : qevB f_X8_groupa [zI (qgN 19), zI (qgP 19)] 19 = true := by decide +kernel
set_option maxRecDepth 100000 in
theorem ev_grpB_20 : qevB f_X8_groupa [zI (qgN 20), zI (qgP 20)] 20 = true := by decide +kernel
set_option maxRecDepth 100000 in
theorem ev_grpB_21 : qevB f_X8_groupa [zI (qgN 21), zI (qgP 21)] 21 = true := by decide +kernel
set_option maxRecDepth 100000 in
theorem ev_grpB_22 : qevB f_X8_groupa [zI (qgN 22), zI (qgP 22)] 22 = true := by decide +kernel
set_option maxRecDepth 100000 in
theorem ev_grpB_23 : qevB f_X8_groupa [zI (qgN 23), zI (qgP 23)] 23 = true := by decide +kernel
theorem ev_grpB : ∀ g, g < 24 → qevB f_X8_groupa [zI (qgN g), zI (qgP g)] g = true
  | 0, _ => ev_grpB_0
  | 1, _ => ev_grpB_1
  | 2, _ => ev_grpB_2
  | 3, _ => ev_grpB_3
  | 4, _ => ev_grpB_4
  | 5, _ => ev_grpB_5
  | 6, _ => ev_grpB_6
  | 7, _ => ev_grpB_7
  | 8, _ => ev_grpB_8
  | 9, _ => ev_grpB_9
  | 10, _ => ev_grpB_10
  | 11, _ => ev_grpB_11
  | 12, _ => ev_grpB_12
  | 13, _ => ev_grpB_13
  | 14, _ => ev_grpB_14
  | 15, _ => ev_grpB_15
  | 16, _ => ev_grpB_16
  | 17, _ => ev_grpB_17
  | 18, _ => ev_grpB_18
  | 19, _ => ev_grpB_19
  | 20, _ => ev_grpB_20
  | 21, _ => ev_grpB_21
  | 22, _ => ev_grpB_22
  | 23, _ => ev_grpB_23
  | n + 24, h => absurd h (by omega)
set_option maxRecDepth 100000 in
theorem ev_grpC_0 : qevC f_X8_groupa [zI (qgN 0), zI (qgP 0)] 0 = true := by decide +kernel
set_option maxRecDepth 100000 in
theorem ev_grpC_1 : qevC f_X8_groupa [zI (qgN 1), zI (qgP 1)] 1 = true := by decide +kernel
set_option maxRecDepth 100000 in
theorem ev_grpC_2 : qevC f_X8_groupa [zI (qgN 2), zI (qgP 2)] 2 = true := by decide +kernel
set_option maxRecDepth 100000 in
theorem ev_grpC_3 : qevC f_X8_groupa [zI (qgN 3), zI (qgP 3)] 3 = true := by decide +kernel
set_option maxRecDepth 100000 in
theorem ev_grpC_4 : qevC f_X8_groupa [zI (qgN 4), zI (qgP 4)] 4 = true := by decide +kernel
set_option maxRecDepth 100000 in
theorem ev_grpC_5 : qevC f_X8_groupa [zI (qgN 5), zI (qgP 5)] 5 = true := by decide +kernel
set_option maxRecDepth 100000 in
theorem ev_grpC_6 : qevC f_X8_groupa [zI (qgN 6), zI (qgP 6)] 6 = true := by decide +kernel
set_option maxRecDepth 100000 in
theorem ev_grpC_7 : qevC f_X8_groupa [zI (qgN 7), zI (qgP 7)] 7 = true := by decide +kernel
set_option maxRecDepth 100000 in
theorem ev_grpC_8 : qevC f_X8_groupa [zI (qgN 8), zI (qgP 8)] 8 = true := by decide +kernel
set_option maxRecDepth 100000 in
theorem ev_grpC_9 : qevC f_X8_groupa [zI (qgN 9), zI (qgP 9)] 9 = true := by decide +kernel
set_option maxRecDepth 100000 in
theorem ev_grpC_10 : qevC f_X8_groupa [zI (qgN 10), zI (qgP 10)] 10 = true := by decide +kernel
set_option maxRecDepth 100000 in
theorem ev_grpC_11 : qevC f_X8_groupa [zI (qgN 11), zI (qgP 11)] 11 = true := by decide +kernel
set_option maxRecDepth 100000 in
theorem ev_grpC_12 : qevC f_X8_groupa [zI (qgN 12), zI (qgP 12)] 12 = true := by decide +kernel
set_option maxRecDepth 100000 in
theorem ev_grpC_13 : qevC f_X8_groupa [zI (qgN 13), zI (qgP 13)] 13 = true := by decide +kernel
set_option maxRecDepth 100000 in
theorem ev_grpC_14 : qevC f_X8_groupa [zI (qgN 14), zI (qgP 14)] 14 = true := by decide +kernel
set_option maxRecDepth 100000 in
theorem ev_grpC_15 : qevC f_X8_groupa [zI (qgN 15), zI (qgP 15)] 15 = true := by decide +kernel
set_option maxRecDepth 100000 in
theorem ev_grpC_16 : qevC f_X8_groupa [zI (qgN 16), zI (qgP 16)] 16 = true := by decide +kernel
set_option maxRecDepth 100000 in
theorem ev_grpC_17 : qevC f_X8_groupa [zI (qgN 17), zI (qgP 17)] 17 = true := by decide +kernel
set_option maxRecDepth 100000 in
theorem ev_grpC_18 : qevC f_X8_groupa [zI (qgN 18), zI (qgP 18)] 18 = true := by decide +kernel
set_option maxRecDepth 100000 in
theorem ev_grpC_19 : qevC f_X8_groupa [zI (qgN 19), zI (qgP 19)] 19 = true := by decide +kernel
set_option maxRecDepth 100000 in
theorem ev_grpC_20 : qevC f_X8_groupa [zI (qgN 20), zI (qgP 20)] 20 = true := by decide +kernel
set_option maxRecDepth 100000 in
theorem ev_grpC_21 : qevC f_X8_groupa [zI (qgN 21), zI (qgP 21)] 21 = true := by decide +kernel
set_option maxRecDepth 100000 in
theorem ev_grpC_22 : qevC f_X8_groupa [zI (qgN 22), zI (qgP 22)] 22 = true := by decide +kernel
set_option maxRecDepth 100000 in
theorem ev_grpC_23 : qevC f_X8_groupa [zI (qgN 23), zI (qgP 23)] 23 = true := by decide +kernel
theorem ev_grpC : ∀ g, g < 24 → qevC f_X8_groupa [zI (qgN g), zI (qgP g)] g = true
  | 0, _ => ev_grpC_0
  | 1, _ => ev_grpC_1
  | 2, _ => ev_grpC_2
  | 3, _ => ev_grpC_3
  | 4, _ => ev_grpC_4
  | 5, _ => ev_grpC_5
  | 6, _ => ev_grpC_6
  | 7, _ => ev_grpC_7
  | 8, _ => ev_grpC_8
  | 9, _ => ev_grpC_9
  | 10, _ => ev_grpC_10
  | 11, _ => ev_grpC_11
  | 12, _ => ev_grpC_12
  | 13, _ => ev_grpC_13
  | 14, _ => ev_grpC_14
  | 15, _ => ev_grpC_15
  | 16, _ => ev_grpC_16
  | 17, _ => ev_grpC_17
  | 18, _ => ev_grpC_18
  | 19, _ => ev_grpC_19
  | 20, _ => ev_grpC_20
  | 21, _ => ev_grpC_21
  | 22, _ => ev_grpC_22
  | 23, _ => ev_grpC_23
  | n + 24, h => absurd h (by omega)
