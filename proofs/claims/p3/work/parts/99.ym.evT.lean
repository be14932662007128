/-! feed and end at every length: by program -/
theorem ev_feedC : zall 201 (fun t => qfF f_X8_feeda hTC t) = true := by decide +kernel
theorem ev_feedR : zall 201 (fun t => qfF f_X9_feeda hTR t) = true := by decide +kernel
theorem ev_endC0 : zall 80 (fun t => qeF f_X8_enda hTC t) = true := by decide +kernel
theorem ev_endC1 : zall 45 (fun t => zF (fun t => qeF f_X8_enda hTC t) (Nat.add 80 t)) = true := by decide +kernel
theorem ev_endC2 : zall 40 (fun t => zF (fun t => qeF f_X8_enda hTC t) (Nat.add 125 t)) = true := by decide +kernel
theorem ev_endC3 : zall 36 (fun t => zF (fun t => qeF f_X8_enda hTC t) (Nat.add 165 t)) = true := by decide +kernel
theorem ev_endR0 : zall 80 (fun t => qeF f_X9_enda hTR t) = true := by decide +kernel
theorem ev_endR1 : zall 45 (fun t => zF (fun t => qeF f_X9_enda hTR t) (Nat.add 80 t)) = true := by decide +kernel
theorem ev_endR2 : zall 40 (fun t => zF (fun t => qeF f_X9_enda hTR t) (Nat.add 125 t)) = true := by decide +kernel
theorem ev_endR3 : zall 36 (fun t => zF (fun t => qeF f_X9_enda hTR t) (Nat.add 165 t)) = true := by decide +kernel
theorem q_upto {K : Nat → Bool} (h0 : zall 80 (fun t => K t) = true) (h1 : zall 45 (fun t => zF (fun t => K t) (Nat.add 80 t)) = true) (h2 : zall 40 (fun t => zF (fun t => K t) (Nat.add 125 t)) = true) (h3 : zall 36 (fun t => zF (fun t => K t) (Nat.add 165 t)) = true) (t : Nat) (ht : t ≤ 200) : K t = true := by
  by_cases c0 : t < 80
  · exact zall_t h0 t c0
  by_cases c1 : t < 125
  · have := zall_t h1 (t - 80) (by omega)
    rw [zF_eq, show Nat.add 80 (t - 80) = t by show 80 + (t - 80) = t; omega] at this
    exact this
  by_cases c2 : t < 165
  · have := zall_t h2 (t - 125) (by omega)
    rw [zF_eq, show Nat.add 125 (t - 125) = t by show 125 + (t - 125) = t; omega] at this
    exact this
  have := zall_t h3 (t - 165) (by omega)
  rw [zF_eq, show Nat.add 165 (t - 165) = t by show 165 + (t - 165) = t; omega] at this
  exact this
theorem q_feedC (t : Nat) (ht : t ≤ 200) : qfF f_X8_feeda hTC t = true := zall_t ev_feedC t (by omega)
theorem q_feedR (t : Nat) (ht : t ≤ 200) : qfF f_X9_feeda hTR t = true := zall_t ev_feedR t (by omega)
theorem q_endC (t : Nat) (ht : t ≤ 200) (i : Int32) : ∃ c, (∀ (_ : zGh), zIs c i) ∧ f_X8_enda [zR 1, zI c] (hTC t) (fun r h => zands [zeqI r (zI (qeA t (zi i))), zsubH h (hTC (qeT t (zi i)))]) = true := qeF_t ht (q_upto (K := fun t => qeF f_X8_enda hTC t) ev_endC0 ev_endC1 ev_endC2 ev_endC3 t ht) i
theorem q_endR (t : Nat) (ht : t ≤ 200) (i : Int32) : ∃ c, (∀ (_ : zGh), zIs c i) ∧ f_X9_enda [zR 1, zI c] (hTR t) (fun r h => zands [zeqI r (zI (qeA t (zi i))), zsubH h (hTR (qeT t (zi i)))]) = true := qeF_t ht (q_upto (K := fun t => qeF f_X9_enda hTR t) ev_endR0 ev_endR1 ev_endR2 ev_endR3 t ht) i
