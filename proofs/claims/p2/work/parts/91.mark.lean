/-! cells that are marked from here on: the ghosts are chosen anew -/
theorem zFl_gh {C C' : zCh} {ad : zA} {ci k w : Nat} {v : Value} (hT : @zcT C' = @zcT C) (h : @zFl C ad ci k w v) : @zFl C' ad ci k w v := by
  unfold zFl at h ⊢
  cases hz : zisR (zfty ci k)
  · rw [hz, cond_false] at h
    rw [cond_false]
    obtain ⟨i, h1, ⟨h2, h3⟩, h4⟩ := h
    refine ⟨i, h1, ⟨h2, fun q => ?_⟩, h4⟩
    have h3 : zi i = @zcT C ∧ @zcT C ≤ 720 := h3 q
    show zi i = @zcT C' ∧ @zcT C' ≤ 720
    rw [hT]
    exact h3
  · rw [hz, cond_true] at h
    rw [cond_true]
    exact h
theorem zCell_gh {C C' : zCh} {cA : Nat → ClassId} {ad : zA} {c : zC} {e : va_E} (hT : @zcT C' = @zcT C) (h8 : c.1 = 8 → @zcF C' 8 = @zcF C 8) (h9 : c.1 = 9 → @zcF C' 9 = @zcF C 9 ∧ @zcF C' 8 = @zcF C 8) (h10 : c.1 = 10 → @zcF C' 10 = @zcF C 10) (h11 : c.1 = 11 → @zcF C' 11 = @zcF C 11 ∧ @zcF C' 10 = @zcF C 10) (h : @zCell C cA ad c e) : @zCell C' cA ad c e := by
  rcases h with h | h | ⟨k1, k2, k3, h | h⟩ | h | ⟨k1, fs, k2, k3, k4⟩
  · exact Or.inl h
  · exact Or.inr (Or.inl h)
  · refine Or.inr (Or.inr (Or.inl ⟨k1, k2, k3, Or.inl ?_⟩))
    obtain ⟨g1, f, g2, g3, g4⟩ := h
    obtain ⟨kd, len, x⟩ := c
    have k1 : 8 ≤ kd := k1
    have g1 : kd < 12 := g1
    have hk : kd = 8 ∨ kd = 9 ∨ kd = 10 ∨ kd = 11 := by omega
    have g3 : f = @zcF C kd := g3
    have g4 : zKi (@zcF C) (@zcT C) kd len x := g4
    refine ⟨g1, f, g2, show f = @zcF C' kd from ?_, show zKi (@zcF C') (@zcT C') kd len x from ?_⟩
    · rcases hk with rfl | rfl | rfl | rfl
      · rw [g3, h8 rfl]
      · rw [g3, (h9 rfl).1]
      · rw [g3, h10 rfl]
      · rw [g3, (h11 rfl).1]
    · obtain ⟨a1, a2, a3, a4⟩ := g4
      rw [hT]
      rcases hk with rfl | rfl | rfl | rfl
      · exact ⟨fun _ => by rw [h8 rfl]; exact a1 rfl, fun q => absurd q (by decide), fun q => absurd q (by decide), fun q => absurd q (by decide)⟩
      · exact ⟨fun q => absurd q (by decide), fun _ => by rw [(h9 rfl).1, (h9 rfl).2]; exact a2 rfl, fun q => absurd q (by decide), fun q => absurd q (by decide)⟩
      · exact ⟨fun q => absurd q (by decide), fun q => absurd q (by decide), fun _ => by rw [h10 rfl]; exact a3 rfl, fun q => absurd q (by decide)⟩
      · exact ⟨fun q => absurd q (by decide), fun q => absurd q (by decide), fun q => absurd q (by decide), fun _ => by rw [(h11 rfl).1, (h11 rfl).2]; exact a4 rfl⟩
  · exact Or.inr (Or.inr (Or.inl ⟨k1, k2, k3, Or.inr h⟩))
  · exact Or.inr (Or.inr (Or.inr (Or.inl h)))
  · exact Or.inr (Or.inr (Or.inr (Or.inr ⟨k1, fs, k2, k3, fun k v hv => zFl_gh hT (k4 k v hv)⟩)))
section MARK
variable {d : Nat} {X : zM} {fr : Nat} {P : zP d} {pc : Nat} {k : zK d}
def zMkOK (mk : zWk d) : Prop := ∀ L h K, mk L h K = true → ∃ h' : zH d, K L h' = true ∧ h'.2 = h.2 ∧ ∀ (C : zCh) (cA : Nat → ClassId) (ws : va_W), @zHp C d cA h ws → ∃ C' : zCh, @zHp C' d cA h' ws
noncomputable def xmk (mk : zWk d) (k : zK d) : zK d := fun L S h => mk L h (fun L' h' => k L' S h')
theorem sm_mk [G : zGh] {mk : zWk d} (hm : zMkOK mk) (hs : zSim X fr P pc k) : zSim X fr P pc (xmk mk k) := by
  intro Ch cA D ad0 A MC MS p l e s m args below meth c ls st H locs cells slots L S h Cx hk R0
  obtain ⟨ws, hHp, hpre, hP, hD, hS, hL, hst, hcb, hsb⟩ := R0
  obtain ⟨h', hk1, h2, hh⟩ := hm _ _ _ hk
  obtain ⟨C', hHp'⟩ := hh Ch cA ws hHp
  exact hs C' cA D ad0 A MC MS p l e s m args below meth c ls st H locs cells slots L S h' Cx hk1 ⟨ws, hHp', hpre, hP, hD, hS, hL, hst, by rw [h2]; exact hcb, by rw [h2]; exact hsb⟩
end MARK
