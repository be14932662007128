/-! feed and end at every length: by program -/
theorem ev_endC : zall 200 (fun m => qeL f_X8_endt hTC m) = true := by decide +kernel
theorem ev_endCG : zall 201 (fun t => qeG f_X8_endt hTC t) = true := by decide +kernel
theorem ev_endR : zall 200 (fun m => qeL f_X9_endt hTR m) = true := by decide +kernel
theorem ev_endRG : zall 201 (fun t => qeG f_X9_endt hTR t) = true := by decide +kernel
theorem ev_feedC0 : zall 51 (fun t => qfF f_X8_feeda hTC t) = true := by decide +kernel
theorem ev_feedC1 : zall 50 (fun t => zF (fun t => qfF f_X8_feeda hTC t) (Nat.add 51 t)) = true := by decide +kernel
theorem ev_feedC2 : zall 50 (fun t => zF (fun t => qfF f_X8_feeda hTC t) (Nat.add 101 t)) = true := by decide +kernel
theorem ev_feedC3 : zall 50 (fun t => zF (fun t => qfF f_X8_feeda hTC t) (Nat.add 151 t)) = true := by decide +kernel
theorem ev_feedR0 : zall 51 (fun t => qfF f_X9_feeda hTR t) = true := by decide +kernel
theorem ev_feedR1 : zall 50 (fun t => zF (fun t => qfF f_X9_feeda hTR t) (Nat.add 51 t)) = true := by decide +kernel
theorem ev_feedR2 : zall 50 (fun t => zF (fun t => qfF f_X9_feeda hTR t) (Nat.add 101 t)) = true := by decide +kernel
theorem ev_feedR3 : zall 50 (fun t => zF (fun t => qfF f_X9_feeda hTR t) (Nat.add 151 t)) = true := by decide +kernel
theorem q_upto {K : Nat → Bool} (h0 : zall 51 (fun t => K t) = true) (h1 : zall 50 (fun t => zF (fun t => K t) (Nat.add 51 t)) = true) (h2 : zall 50 (fun t => zF (fun t => K t) (Nat.add 101 t)) = true) (h3 : zall 50 (fun t => zF (fun t => K t) (Nat.add 151 t)) = true) (t : Nat) (ht : t ≤ 200) : K t = true := by
  by_cases c0 : t < 51
  · exact zall_t h0 t c0
  by_cases c1 : t < 101
  · have := zall_t h1 (t - 51) (by omega)
    rw [zF_eq, show Nat.add 51 (t - 51) = t by show 51 + (t - 51) = t; omega] at this
    exact this
  by_cases c2 : t < 151
  · have := zall_t h2 (t - 101) (by omega)
    rw [zF_eq, show Nat.add 101 (t - 101) = t by show 101 + (t - 101) = t; omega] at this
    exact this
  have := zall_t h3 (t - 151) (by omega)
  rw [zF_eq, show Nat.add 151 (t - 151) = t by show 151 + (t - 151) = t; omega] at this
  exact this
theorem q_feedC (t : Nat) (ht : t ≤ 200) : qfF f_X8_feeda hTC t = true := q_upto (K := fun t => qfF f_X8_feeda hTC t) ev_feedC0 ev_feedC1 ev_feedC2 ev_feedC3 t ht
theorem q_feedR (t : Nat) (ht : t ≤ 200) : qfF f_X9_feeda hTR t = true := q_upto (K := fun t => qfF f_X9_feeda hTR t) ev_feedR0 ev_feedR1 ev_feedR2 ev_feedR3 t ht
/-- end: what it answers, and the length behind it -/
noncomputable def qeA (t n : Nat) : Nat := if n ≤ t then 1 else 0
noncomputable def qeT (t n : Nat) : Nat := if n ≤ t then n else t
theorem qeT_le {t n : Nat} (h : t ≤ 200) : qeT t n ≤ 200 := by
  unfold qeT
  by_cases c : n ≤ t
  · rw [if_pos c]
    omega
  · rw [if_neg c]
    exact h
theorem q_endC (t : Nat) (ht : t ≤ 200) (i : Int32) : ∃ (c v : Nat), (∀ (_ : zGh), zIs c i) ∧ (∀ (Ch : zCh) (cB : Nat → ClassId) (ws : va_W), @zHp Ch 2 cB hs0C ws → zgw ws 1 1 = t → @zHp Ch 2 cB (hTC v) ws) ∧ f_X8_endt [zR 1, zI c] (hTC v) (fun r h => zands [zeqI r (zI (qeA t (zi i))), zsubH h (hTC (qeT t (zi i)))]) = true := by
  unfold qeA qeT
  by_cases c1 : t < zi i
  · rw [if_neg (by omega), if_neg (by omega)]
    obtain ⟨c, h1, h2⟩ := qeG_t ht (zall_t ev_endCG t (by omega)) i c1
    exact ⟨c, t, h1, fun Ch cB ws hH hz => hTC_op hH hz ht, h2⟩
  · rw [if_pos (by omega), if_pos (by omega)]
    by_cases c2 : zi i = t
    · rw [c2]
      exact ⟨t, t, fun G => zIs_e c2, fun Ch cB ws hH hz => hTC_op hH hz ht, qeG_e (zall_t ev_endCG t (by omega))⟩
    · exact ⟨zi i, _, fun G => zIs_e rfl, fun Ch cB ws hH hz => hTC_opT hH hz (by show zi i + 1 ≤ t; omega) ht, zall_t ev_endC (zi i) (by omega)⟩
theorem q_endR (t : Nat) (ht : t ≤ 200) (i : Int32) : ∃ (c v : Nat), (∀ (_ : zGh), zIs c i) ∧ (∀ (Ch : zCh) (cB : Nat → ClassId) (ws : va_W), @zHp Ch 1 cB hs0R ws → zgw ws 0 46 = t → @zHp Ch 1 cB (hTR v) ws) ∧ f_X9_endt [zR 1, zI c] (hTR v) (fun r h => zands [zeqI r (zI (qeA t (zi i))), zsubH h (hTR (qeT t (zi i)))]) = true := by
  unfold qeA qeT
  by_cases c1 : t < zi i
  · rw [if_neg (by omega), if_neg (by omega)]
    obtain ⟨c, h1, h2⟩ := qeG_t ht (zall_t ev_endRG t (by omega)) i c1
    exact ⟨c, t, h1, fun Ch cB ws hH hz => hTR_op hH hz ht, h2⟩
  · rw [if_pos (by omega), if_pos (by omega)]
    by_cases c2 : zi i = t
    · rw [c2]
      exact ⟨t, t, fun G => zIs_e c2, fun Ch cB ws hH hz => hTR_op hH hz ht, qeG_e (zall_t ev_endRG t (by omega))⟩
    · exact ⟨zi i, _, fun G => zIs_e rfl, fun Ch cB ws hH hz => hTR_opT hH hz (by show zi i + 1 ≤ t; omega) ht, zall_t ev_endR (zi i) (by omega)⟩
