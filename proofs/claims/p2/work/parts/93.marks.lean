/-! seen and tabloids are marked -/
theorem chk8_ok {lam : Nat} (hl : lam < 1048576) (h6 : zpn lam < 4294967295) (F : Nat → Nat → Int32) (t len x : Nat) (h : (cond (Nat.ble (zpn lam) len) (zprm (zpn lam) x) false) = true) (hf : zAI len x (F 8)) : zKi F t 8 len lam := by
  obtain ⟨h1, h2⟩ := zcnd_t h
  refine ⟨fun _ => ?_, fun q => absurd q (by decide), fun q => absurd q (by decide), fun q => absurd q (by decide)⟩
  rw [Nat.mod_eq_of_lt hl]
  exact zprm_t (Nat.le_of_ble_eq_true h1) h6 h2 hf
theorem chk9_ok {lam : Nat} (hl : lam < 1048576) (F : Nat → Nat → Int32) (t len : Nat) : zKi F t 9 len lam := by
  refine ⟨fun q => absurd q (by decide), fun _ c _ hc => ?_, fun q => absurd q (by decide), fun q => absurd q (by decide)⟩
  rw [Nat.div_eq_of_lt hl] at hc
  exact absurd hc (Nat.not_lt_zero _)
theorem chk10_ok {lam : Nat} (F : Nat → Nat → Int32) (t len x : Nat) (h : Nat.beq x (zun 40 len 4294968017) = true) (hf : zAI len x (F 10)) : zKi F t 10 len lam := by
  refine ⟨fun q => absurd q (by decide), fun q => absurd q (by decide), fun _ j hj => ?_, fun q => absurd q (by decide)⟩
  have e := Nat.eq_of_beq_eq_true h
  have hw := hf j hj
  rw [e, zun_wd 40 len 4294968017 j (by decide) (by decide) hj] at hw
  have := hw.2 (by decide) (by decide)
  omega
theorem zFl_gh2 {C C' : zCh} {ad : zA} {ci k w : Nat} {v : Value} (hw : w ≠ 549755813888) (h : @zFl C ad ci k w v) : @zFl C' ad ci k w v := by
  unfold zFl at h ⊢
  cases hz : zisR (zfty ci k)
  · rw [hz, cond_false] at h
    rw [cond_false]
    obtain ⟨i, h1, ⟨h2, h3⟩, h4⟩ := h
    exact ⟨i, h1, ⟨h2, fun q => absurd q hw⟩, h4⟩
  · rw [hz, cond_true] at h
    rw [cond_true]
    exact h
theorem zCell_gh2 {C C' : zCh} {cA : Nat → ClassId} {ad : zA} {c : zC} {e : va_E} (hT : 16 ≤ c.1 → ∀ k, k < zN (c.1 - 16) → zwd 40 c.2.2 k ≠ 549755813888) (hF : ∀ q, q < 11 → @zcF C' q = @zcF C q) (h11 : c.1 ≠ 11) (h : @zCell C cA ad c e) : @zCell C' cA ad c e := by
  rcases h with h | h | ⟨k1, k2, k3, h | h⟩ | h | ⟨k1, fs, k2, k3, k4⟩
  · exact Or.inl h
  · exact Or.inr (Or.inl h)
  · refine Or.inr (Or.inr (Or.inl ⟨k1, k2, k3, Or.inl ?_⟩))
    obtain ⟨g1, f, g2, g3, g4⟩ := h
    obtain ⟨kd, len, x⟩ := c
    have k1 : 8 ≤ kd := k1
    have g1 : kd < 12 := g1
    have h11 : kd ≠ 11 := h11
    have g3 : f = @zcF C kd := g3
    obtain ⟨a1, a2, a3, -⟩ : zKi (@zcF C) (@zcT C) kd len x := g4
    refine ⟨g1, f, g2, show f = @zcF C' kd by rw [hF kd (by omega)]; exact g3, show zKi (@zcF C') (@zcT C') kd len x from ⟨fun q => ?_, fun q => ?_, fun q => ?_, fun q => absurd q h11⟩⟩
    · rw [hF 8 (by decide)]; exact a1 q
    · rw [hF 8 (by decide), hF 9 (by decide)]; exact a2 q
    · rw [hF 10 (by decide)]; exact a3 q
  · exact Or.inr (Or.inr (Or.inl ⟨k1, k2, k3, Or.inr h⟩))
  · exact Or.inr (Or.inr (Or.inr (Or.inl h)))
  · exact Or.inr (Or.inr (Or.inr (Or.inr ⟨k1, fs, k2, k3, fun k v hv => zFl_gh2 (hT k1 k (by rw [← k3]; exact (List.getElem?_eq_some_iff.mp hv).1)) (k4 k v hv)⟩)))
