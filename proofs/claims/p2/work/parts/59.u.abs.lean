/-! abs of a long that isn't 0 -/
def zabsN (a : Nat) : Nat := cond (Nat.beq a 1606938044258990275541962092341162602527285592350703190540288) 1606938044258990275541962092341162602527285592350703190540288 (zabsj a)
theorem zabsN_ok {a : Nat} {x : Int64} (hx : zJs a x) : zJs (zabsN a) (if 0 < x then x else -x) := by
  unfold zabsN
  cases hb : Nat.beq a 1606938044258990275541962092341162602527285592350703190540288
  · exact zJs_of (zabsj_ok hx.1) (zabsj_lt _)
  · rw [cond_true]
    rw [Nat.eq_of_beq_eq_true hb] at hx
    have h0 := (hx.2 (by decide)).1
    have h0 : 1 ≤ zj x := h0
    refine ⟨fun q => absurd q (by decide), fun _ => ?_⟩
    have hl := zj_lt (if 0 < x then x else -x)
    refine ⟨?_, by show zj (if 0 < x then x else -x) < 18446744073709551616; exact hl⟩
    show 1 ≤ zj (if 0 < x then x else -x)
    have hne : (if 0 < x then x else -x) ≠ 0 := by
      by_cases q : 0 < x
      · rw [if_pos q]
        intro e
        rw [e] at h0
        exact absurd h0 (by decide)
      · rw [if_neg q]
        intro e
        have : x = 0 := by
          have e2 : -(-x) = -(0 : Int64) := by rw [e]
          simpa using e2
        rw [this] at h0
        exact absurd h0 (by decide)
    exact Nat.pos_of_ne_zero (fun z => hne (zj_inj (by rw [z]; rfl)))
section OPS
variable {d : Nat} {X : zM} {fr : Nat} {P : zP d} {pc : Nat} {k : zK d}
noncomputable def xabsN (k : zK d) : zK d := fun L S h => zpL S (fun a S => zle4 S (zF (fun v => k L (zL v :: S) h) (zabsN a)))
theorem sm_mabsN [G : zGh] {index : Nat} (hlink : Cond.methodLink X.1 index Lib.MathLoose.abs_long.x ∈ ztbl) (hstat : Cond.static Lib.MathLoose.abs_long.x ∈ ztbl) (hini : Cond.initialized "java/lang/Math" ∈ ztbl) (hcode : Cond.code Lib.MathLoose.abs_long.x Lib.MathLoose.abs_long.code 2 (some .long) ∈ ztbl) (hfr : 1 ≤ fr) (dg : decode X.2.1 pc = .ok (.invokestatic index, 3)) (hs : zSim X fr P (pc + 3) k) : zSim X fr P pc (xabsN k) := by
  intro Ch cA D ad0 A MC MS p l e s m args below meth c ls st H locs cells slots L S h Cx hk R0
  obtain ⟨ws, hHp, hpre, hP, hD, hS, hL, hst, hcb, hsb⟩ := R0
  obtain ⟨a, S, rfl, hk2⟩ := zpL_t hk
  obtain ⟨x, st, rfl, hx, hst2⟩ := zRepL_L hst
  obtain ⟨h4, hk3⟩ := zle4_t hk2
  have hk3 : zF (fun v => k L (zL v :: S) h) (zabsN a) = true := hk3
  rw [zF_eq] at hk3
  have hcat := zcat hst2
  exact va_mabs_long Cx.1 Cx.2.1 (by rw [Cx.2.2.1]; exact hL.2.choose_spec.1.1.symm) Cx.2.2.2.1 (Cx.2.2.2.2.1 _ hlink) (Cx.2.2.2.2.1 _ hstat) (Cx.2.2.2.2.1 _ hini) (Cx.2.2.2.2.1 _ hcode) hfr (by show (st.map fun v => v.category).sum + 13 ≤ 64 * fr; omega) (by show cells ≤ MC; omega) (by show slots ≤ MS; omega) dg (hs Ch cA D ad0 A MC MS p l e s m args below meth c ls _ H locs cells slots L _ h Cx hk3 ⟨ws, hHp, hpre, hP, hD, hS, hL, ⟨⟨_, rfl, zabsN_ok hx⟩, hst2⟩, hcb, hsb⟩)
end OPS
