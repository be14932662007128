/-! Math.abs of a long; a recursion of four methods -/
def zabsj (a : Nat) : Nat := cond (Nat.ble 18446744073709551616 a) 18446744073709551616 (cond (Nat.ble 9223372036854775808 a) (Nat.mod (Nat.sub 18446744073709551616 a) 18446744073709551616) a)
theorem zabsj_ok {a : Nat} {x : Int64} (hx : a < 18446744073709551616 → zj x = a) : zabsj a < 18446744073709551616 → zj (if 0 < x then x else -x) = zabsj a := by
  have h0 : (0 : Int64).toInt = 0 := rfl
  have hl := zj_lt x
  unfold zabsj
  cases hb : Nat.ble 18446744073709551616 a
  · intro _
    have e := hx (zble_f hb)
    rw [cond_false]
    cases hc : Nat.ble 9223372036854775808 a
    · have h1 := zble_f hc
      rw [cond_false]
      by_cases q : 0 < x
      · rw [if_pos q]
        exact e
      · rw [if_neg q, zj_neg, e]
        rw [Int64.lt_iff_toInt_lt, h0] at q
        have : a = 0 := by rcases zj_cases x with ⟨c1, c2⟩ | ⟨c1, c2⟩ <;> omega
        subst this
        rfl
    · have h1 := Nat.le_of_ble_eq_true hc
      rw [cond_true]
      have q : ¬ 0 < x := fun q => by
        rw [Int64.lt_iff_toInt_lt, h0] at q
        rcases zj_cases x with ⟨c1, c2⟩ | ⟨c1, c2⟩ <;> omega
      rw [if_neg q, zj_neg, e]
      rfl
  · rw [cond_true]
    intro q
    exact absurd q (Nat.lt_irrefl _)
theorem zabsj_lt (a : Nat) : zabsj a < 4722366482869645213696 := by
  unfold zabsj
  cases h1 : Nat.ble 18446744073709551616 a
  · cases h2 : Nat.ble 9223372036854775808 a
    · exact Nat.lt_trans (zble_f h2) (by decide)
    · exact zmodj_lt _
  · exact (by decide : (18446744073709551616 : Nat) < 4722366482869645213696)
theorem zmet_rec4 {d : Nat} {X : zM} {y : MethodName} {fr : Nat} {body : (List zV → zH d → zP d → Bool) → zP d → zK d} (hy : plainName y.cls = true) (h1 : X.1 = y.cls) (h2 : X.2.2.2.2 = y.name) (hs : ∀ n f, zMet X y (fr + 4 * n) f → ∀ [zGh] P, zSim X (fr + 4 * n + 4) P 0 (body f P)) : ∀ n, zMet X y (fr + 4 * n) (zrec X.2.2.1 body n)
  | 0 => fun l cA D ws av as h P sz hf => by cases hf
  | n + 1 => by
    rw [show fr + 4 * (n + 1) = fr + 4 * n + 4 by omega]
    exact zmet_mk hy h1 h2 (hs n _ (zmet_rec4 hy h1 h2 hs n))
section OPS
variable {d : Nat} {X : zM} {fr : Nat} {P : zP d} {pc : Nat} {k : zK d}
noncomputable def xabsj (k : zK d) : zK d := fun L S h => zpL S (fun a S => zle4 S (zF (fun v => k L (zL v :: S) h) (zabsj a)))
theorem sm_mabsj [G : zGh] {index : Nat} (hlink : Cond.methodLink X.1 index Lib.MathLoose.abs_long.x ∈ ztbl) (hstat : Cond.static Lib.MathLoose.abs_long.x ∈ ztbl) (hini : Cond.initialized "java/lang/Math" ∈ ztbl) (hcode : Cond.code Lib.MathLoose.abs_long.x Lib.MathLoose.abs_long.code 2 (some .long) ∈ ztbl) (hfr : 1 ≤ fr) (dg : decode X.2.1 pc = .ok (.invokestatic index, 3)) (hs : zSim X fr P (pc + 3) k) : zSim X fr P pc (xabsj k) := by
  intro Ch cA D ad0 A MC MS p l e s m args below meth c ls st H locs cells slots L S h Cx hk R0
  obtain ⟨ws, hHp, hpre, hP, hD, hS, hL, hst, hcb, hsb⟩ := R0
  obtain ⟨a, S, rfl, hk2⟩ := zpL_t hk
  obtain ⟨x, st, rfl, hx, hst2⟩ := zRepL_L hst
  obtain ⟨h4, hk3⟩ := zle4_t hk2
  have hk3 : zF (fun v => k L (zL v :: S) h) (zabsj a) = true := hk3
  rw [zF_eq] at hk3
  have hcat := zcat hst2
  exact va_mabs_long Cx.1 Cx.2.1 (by rw [Cx.2.2.1]; exact hL.2.choose_spec.1.1.symm) Cx.2.2.2.1 (Cx.2.2.2.2.1 _ hlink) (Cx.2.2.2.2.1 _ hstat) (Cx.2.2.2.2.1 _ hini) (Cx.2.2.2.2.1 _ hcode) hfr (by show (st.map fun v => v.category).sum + 13 ≤ 64 * fr; omega) (by show cells ≤ MC; omega) (by show slots ≤ MS; omega) dg (hs Ch cA D ad0 A MC MS p l e s m args below meth c ls _ H locs cells slots L _ h Cx hk3 ⟨ws, hHp, hpre, hP, hD, hS, hL, ⟨⟨_, rfl, zJs_of (zabsj_ok hx.1) (zabsj_lt _)⟩, hst2⟩, hcb, hsb⟩)
end OPS
