/-! clone of an int array, and its cast -/
section OPS
variable {d : Nat} {X : zM} {fr : Nat} {P : zP d} {pc : Nat} {k : zK d}
noncomputable def xcln (k : zK d) : zK d := fun L S h => zpR S (fun r S => zat h r (fun _ _ _ kd len x => cond (Nat.beq kd 0) (zle4 S (zmk h len (0, len, x) (fun r h => k L (zR r :: S) h))) false))
theorem sm_clone [G : zGh] {index : Nat} (hlink : Cond.methodLink X.1 index ⟨"[I", "clone", "()Ljava/lang/Object;"⟩ ∈ ztbl) (hsame : Cond.sameMethod "[I" "java/lang/Object" "clone" "()Ljava/lang/Object;" ∈ ztbl) (hnat : Cond.native ⟨"java/lang/Object", "clone", "()Ljava/lang/Object;"⟩ ∈ ztbl) (hinst : Cond.instanceMethod ⟨"java/lang/Object", "clone", "()Ljava/lang/Object;"⟩ ∈ ztbl) (hsel : Cond.selects "[I" ⟨"[I", "clone", "()Ljava/lang/Object;"⟩ ⟨"java/lang/Object", "clone", "()Ljava/lang/Object;"⟩ ∈ ztbl) (hfr : 1 ≤ fr) (dg : decode X.2.1 pc = .ok (.invokevirtual index, 3)) (hs : zSim X fr P (pc + 3) k) : zSim X fr P pc (xcln k) := by
  intro Ch cA D ad0 A MC MS p l e s m args below meth c ls st H locs cells slots L S h Cx hk R0
  obtain ⟨ws, hHp, hpre, hP, hD, hS, hL, hst, hcb, hsb⟩ := R0
  obtain ⟨r, S, rfl, hk1⟩ := zpR_t hk
  obtain ⟨o, st, rfl, ho, hst2⟩ := zRepL_R hst
  obtain ⟨i, kd, len, x, rfl, hg, hk2⟩ := zat_t hk1
  obtain ⟨a, en, rfl, hwi, hcell⟩ := zat_w hHp ho
  rw [hg] at hcell
  have hq2 : cond (Nat.beq kd 0) (zle4 S (zmk h len (0, len, x) (fun r h => k L (zR r :: S) h))) false = true := hk2
  cases hb : Nat.beq kd 0
  · rw [hb] at hq2; cases hq2
  · rw [hb, cond_true] at hq2
    have e0 := Nat.eq_of_beq_eq_true hb
    subst e0
    obtain ⟨h4, hq3⟩ := zle4_t hq2
    obtain ⟨h1, h2, h3, hq4⟩ := zmk_t hq3
    obtain ⟨hlen, f, rfl, hf⟩ := zCell_i hcell (by decide)
    have hcat := zcat hst2
    refine va_clone (ad := "[I") (ty := .int) (x := (len, .inl f)) Cx.1 Cx.2.1 (by rw [Cx.2.2.1]; exact hL.2.choose_spec.1.1.symm) Cx.2.2.2.1 (Cx.2.2.2.2.1 _ hlink) (Cx.2.2.2.2.1 _ hsame) (Cx.2.2.2.2.1 _ hnat) (Cx.2.2.2.2.1 _ hinst) (Cx.2.2.2.2.1 _ hsel) Cx.2.2.2.2.2.2.2.2.2.2.2.2.2.2.2.2.2 Cx.2.2.2.2.2.1 hP hD hS Cx.2.2.2.2.2.2.1 i 0 hwi rfl (Cx.2.2.2.2.2.1.2 0 _ rfl).2 (fun j v hv => ?_) hfr (by show (st.map fun v => v.category).sum + 14 ≤ 64 * fr; omega) (by show cells + 1 ≤ MC; omega) (by show slots + len ≤ MS; omega) dg (fun q H1 _ hP1 hD1 hS1 => ?_)
    · have hv : (arrV (cA 0) len (fun j => .int (f j))).slots[j]? = some v := hv
      have hj : j < len := by
        have := (Array.getElem?_eq_some_iff.mp hv).1
        rw [arrV_size] at this
        exact this
      rw [arrV_read _ _ hj] at hv
      cases hv
      rfl
    · have hp := zPre_push (cA := cA) ws q (.inl (cA 0, len, .inl f))
      exact hs Ch cA D ad0 A MC MS p l e s m args below meth c ls _ H1 locs _ _ L _ _ Cx hq4 ⟨_, zHp_push hHp h3 (zCell_ik (by decide) hlen hf), zPre_trans hpre hp, hP1, hD1, hS1, zLoc_mono hp hL, ⟨⟨some q, rfl, Or.inr ⟨h.2.1, q, rfl, zad_new hHp.1, rfl⟩⟩, zRepL_mono hp hst2⟩, by show cells + 1 + (h.2.2.1 - 1) ≤ MC; omega, by show slots + len + (h.2.2.2 - len) ≤ MS; omega⟩
noncomputable def xcast (k : zK d) : zK d := fun L S h => zpR S (fun r S => zat h r (fun _ _ _ kd _ _ => cond (Nat.beq kd 0) (k L (zR r :: S) h) false))
theorem sm_castI [G : zGh] {index : Nat} (hlink : Cond.classLink X.1 index "[I" ∈ ztbl) (dg : decode X.2.1 pc = .ok (.checkcast index, 3)) (hs : zSim X fr P (pc + 3) k) : zSim X fr P pc (xcast k) := by
  intro Ch cA D ad0 A MC MS p l e s m args below meth c ls st H locs cells slots L S h Cx hk R0
  obtain ⟨ws, hHp, hpre, hP, hD, hS, hL, hst, hcb, hsb⟩ := R0
  obtain ⟨r, S, rfl, hk1⟩ := zpR_t hk
  obtain ⟨o, st, rfl, ho, hst2⟩ := zRepL_R hst
  obtain ⟨i, kd, len, x, rfl, hg, hk2⟩ := zat_t hk1
  obtain ⟨a, en, rfl, hwi, hcell⟩ := zat_w hHp ho
  rw [hg] at hcell
  have hq2 : cond (Nat.beq kd 0) (k L (zR (i + 1) :: S) h) false = true := hk2
  cases hb : Nat.beq kd 0
  · rw [hb] at hq2; cases hq2
  · rw [hb, cond_true] at hq2
    have e0 := Nat.eq_of_beq_eq_true hb
    subst e0
    obtain ⟨hlen, f, rfl, hf⟩ := zCell_i hcell (by decide)
    exact va_castA Cx.1 Cx.2.1 Cx.2.2.2.1 (Cx.2.2.2.2.1 _ hlink) hP i hwi (Cx.2.2.2.2.2.1.2 0 _ rfl).2 dg (hs Ch cA D ad0 A MC MS p l e s m args below meth c ls _ H locs cells slots L _ h Cx hq2 ⟨ws, hHp, hpre, hP, hD, hS, hL, hst, hcb, hsb⟩)
end OPS
