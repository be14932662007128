/-! longs in arrays that aren't 0 -/
theorem zNZ_e : zjr 1 18446744073709551616 = 1606938044258990275541962092341162602526925360265662480515072 := by decide
theorem zJs_nz {i : Int64} (h : 1 ≤ zj i) : zJs 1606938044258990275541962092341162602526925360265662480515072 i := by
  rw [← zNZ_e]
  exact zjr_ok h (zj_lt i)
theorem zJs_nzi {i : Int64} (h : zJs 1606938044258990275541962092341162602526925360265662480515072 i) : 1 ≤ zj i := by
  have h1 := (h.2 (by decide)).1
  have e : 1606938044258990275541962092341162602526925360265662480515072 / 4722366482869645213696 % 18446744073709551616 = 1 := by decide
  rw [e] at h1
  exact h1
def zcapN (v : Nat) : Nat := cond (Nat.beq v 1606938044258990275541962092341162602526925360265662480515072) 18446744073709551617 (zcapj v)
theorem zAJ_upN {len x n v : Nat} {f : Nat → Int64} {i : Int64} (hf : zAJ len x f) (hi : zJs v i) : zAJ len (zup 72 x n (zcapN v)) (vp_updL f n i) := by
  unfold zcapN
  cases hb : Nat.beq v 1606938044258990275541962092341162602526925360265662480515072
  · rw [cond_false]
    exact zAJ_up hf hi.1
  · rw [cond_true]
    have e := Nat.eq_of_beq_eq_true hb
    rw [e] at hi
    intro j hj
    by_cases q : j = n
    · subst q
      rw [zwd_up_same _ _ _ _ (by decide), pk_uLs]
      exact ⟨fun z => absurd z (by decide), fun _ => zJs_nzi hi⟩
    · rw [zwd_up_ne _ _ _ _ _ (by decide) (fun z => q z.symm), pk_uLn q]
      exact hf j hj
section OPS
variable {d : Nat} {X : zM} {fr : Nat} {P : zP d} {pc tgt : Nat} {off : Int} {k kt kf : zK d}
noncomputable def xlalN (k : zK d) : zK d := fun L S h => zpI S (fun i S => zpR S (fun r S => zat h r (fun _ _ _ kd len x => cond (Nat.beq kd 2) (cond (Nat.ble len i) false (zF (fun v => cond (Nat.beq v 18446744073709551617) (k L (zL 1606938044258990275541962092341162602526925360265662480515072 :: S) h) (k L (zL v :: S) h)) (zwd 72 x i))) false)))
theorem sm_laloadN [G : zGh] (dg : decode X.2.1 pc = .ok (.laload, 1)) (hs : zSim X fr P (pc + 1) k) : zSim X fr P pc (xlalN k) := by
  intro Ch cA D ad0 A MC MS p l e s m args below meth c ls st H locs cells slots L S h Cx hk R0
  obtain ⟨ws, hHp, hpre, hP, hD, hS, hL, hst, hcb, hsb⟩ := R0
  obtain ⟨n, S, rfl, hk1⟩ := zpI_t hk
  obtain ⟨r, S, rfl, hk2⟩ := zpR_t hk1
  obtain ⟨i, st, rfl, hi, hst1⟩ := zRepL_I hst
  obtain ⟨o, st, rfl, ho, hst2⟩ := zRepL_R hst1
  obtain ⟨j, kd, len, x, rfl, hg, hk3⟩ := zat_t hk2
  obtain ⟨a, en, rfl, hwi, hcell⟩ := zat_w hHp ho
  rw [hg] at hcell
  have hk3 : cond (Nat.beq kd 2) (cond (Nat.ble len n) false (zF (fun v => cond (Nat.beq v 18446744073709551617) (k L (zL 1606938044258990275541962092341162602526925360265662480515072 :: S) h) (k L (zL v :: S) h)) (zwd 72 x n))) false = true := hk3
  cases hb : Nat.beq kd 2
  · rw [hb] at hk3
    cases hk3
  · have hb2 := Nat.eq_of_beq_eq_true hb
    subst hb2
    rw [hb, cond_true] at hk3
    cases hbl : Nat.ble len n
    · rw [hbl, cond_false, zF_eq] at hk3
      have hk4 : cond (Nat.beq (zwd 72 x n) 18446744073709551617) (k L (zL 1606938044258990275541962092341162602526925360265662480515072 :: S) h) (k L (zL (zwd 72 x n) :: S) h) = true := hk3
      obtain ⟨hlen, f, rfl, hf⟩ := zCell_j hcell
      obtain ⟨g1, g2, g3⟩ := zi_idx hi.1 hlen hbl
      cases hz : Nat.beq (zwd 72 x n) 18446744073709551617
      · rw [hz, cond_false] at hk4
        exact va_lald Cx.1 Cx.2.1 Cx.2.2.2.2.2.1 hP j 2 hwi rfl g1 dg (hs Ch cA D ad0 A MC MS p l e s m args below meth c ls _ H locs cells slots L _ h Cx hk4 ⟨ws, hHp, hpre, hP, hD, hS, hL, ⟨⟨_, rfl, by rw [g2]; exact zJs_of (hf n g3).1 (zwd_lt _ _ _)⟩, hst2⟩, hcb, hsb⟩)
      · rw [hz, cond_true] at hk4
        exact va_lald Cx.1 Cx.2.1 Cx.2.2.2.2.2.1 hP j 2 hwi rfl g1 dg (hs Ch cA D ad0 A MC MS p l e s m args below meth c ls _ H locs cells slots L _ h Cx hk4 ⟨ws, hHp, hpre, hP, hD, hS, hL, ⟨⟨_, rfl, by rw [g2]; exact zJs_nz ((hf n g3).2 (Nat.eq_of_beq_eq_true hz))⟩, hst2⟩, hcb, hsb⟩)
    · rw [hbl] at hk3
      cases hk3
noncomputable def xlasN (k : zK d) : zK d := fun L S h => zpL S (fun v S => zpI S (fun i S => zpR S (fun r S => zat h r (fun t u j kd len x => cond (Nat.beq kd 2) (cond (Nat.ble len i) false (zF (fun y => zsetK d t j (kd, len, y) (fun t => k L S (t, u))) (zup 72 x i (zcapN v)))) false))))
theorem sm_lastoreN [G : zGh] (dg : decode X.2.1 pc = .ok (.lastore, 1)) (hs : zSim X fr P (pc + 1) k) : zSim X fr P pc (xlasN k) := by
  intro Ch cA D ad0 A MC MS p l e s m args below meth c ls st H locs cells slots L S h Cx hk R0
  obtain ⟨ws, hHp, hpre, hP, hD, hS, hL, hst, hcb, hsb⟩ := R0
  obtain ⟨v, S, rfl, hk0⟩ := zpL_t hk
  obtain ⟨n, S, rfl, hk1⟩ := zpI_t hk0
  obtain ⟨r, S, rfl, hk2⟩ := zpR_t hk1
  obtain ⟨y, st, rfl, hy, hst0⟩ := zRepL_L hst
  obtain ⟨i, st, rfl, hi, hst1⟩ := zRepL_I hst0
  obtain ⟨o, st, rfl, ho, hst2⟩ := zRepL_R hst1
  obtain ⟨j, kd, len, x, rfl, hgt, hk3⟩ := zat_t hk2
  obtain ⟨a, en, rfl, hwi, hcell⟩ := zat_w hHp ho
  rw [hgt] at hcell
  have hk3 : cond (Nat.beq kd 2) (cond (Nat.ble len n) false (zF (fun y => zsetK d h.1 j (kd, len, y) (fun t => k L S (t, h.2))) (zup 72 x n (zcapN v)))) false = true := hk3
  cases hb : Nat.beq kd 2
  · rw [hb] at hk3
    cases hk3
  · have hb2 := Nat.eq_of_beq_eq_true hb
    subst hb2
    rw [hb, cond_true] at hk3
    cases hbl : Nat.ble len n
    · rw [hbl, cond_false, zF_eq, zsetK_eq] at hk3
      obtain ⟨hlen, f, rfl, hf⟩ := zCell_j hcell
      obtain ⟨g1, g2, g3⟩ := zi_idx hi.1 hlen hbl
      refine va_last Cx.1 Cx.2.1 Cx.2.2.2.2.2.1 hP hD hS j 2 hwi rfl g1 dg (fun H1 locs1 hP1 hD1 hS1 => ?_)
      have hz := zad_set (cA := cA) (e' := .inl (cA 2, len, .inr (.inl (vp_updL f i.toNatClampNeg y)))) hwi
      exact hs Ch cA D ad0 A MC MS p l e s m args below meth c ls _ H1 locs1 cells slots L _ _ Cx hk3 ⟨_, zHp_set hHp hwi (zCell_jk hlen (by rw [g2]; exact zAJ_upN hf hy)), by rw [hz]; exact hpre, hP1, hD1, hS1, by rw [hz]; exact hL, by rw [hz]; exact hst2, hcb, hsb⟩
    · rw [hbl] at hk3
      cases hk3
/-- a long of an array against 0: what is known of it behind the test stays -/
noncomputable def xlalz (kt kf : zK d) : zK d := fun L S h => zpI S (fun i S => zpR S (fun r S => zat h r (fun t u j kd len x => cond (Nat.beq kd 2) (cond (Nat.ble len i) false (zF (fun v => cond (Nat.ble 18446744073709551616 v) (cond (Nat.beq v 18446744073709551617) (kf L S h) (and (kt L S h) (zsetK d t j (kd, len, zup 72 x i 18446744073709551617) (fun t => kf L S (t, u))))) (cond (Nat.beq v 0) (kt L S h) (kf L S h))) (zwd 72 x i))) false)))
theorem sm_lalz [G : zGh] {z0 : Fin 2} (d1 : decode X.2.1 pc = .ok (.laload, 1)) (d2 : decode X.2.1 (pc + 1) = .ok (.lconst z0, 1)) (ez : (z0 : Nat) = 0) (d3 : decode X.2.1 (pc + 1 + 1) = .ok (.lcmp, 1)) (d4 : decode X.2.1 (pc + 1 + 1 + 1) = .ok (.ifCond .ne off, 3)) (ht : ((pc + 1 + 1 + 1 : Nat) : Int) + off = (tgt : Int)) (h2 : zSim X fr P tgt kf) (h1 : zSim X fr P (pc + 1 + 1 + 1 + 3) kt) : zSim X fr P pc (xlalz kt kf) := by
  intro Ch cA D ad0 A MC MS p l e s m args below meth c ls st H locs cells slots L S h Cx hk R0
  obtain ⟨ws, hHp, hpre, hP, hD, hS, hL, hst, hcb, hsb⟩ := R0
  obtain ⟨n, S, rfl, hk1⟩ := zpI_t hk
  obtain ⟨r, S, rfl, hk2⟩ := zpR_t hk1
  obtain ⟨i, st, rfl, hi, hst1⟩ := zRepL_I hst
  obtain ⟨o, st, rfl, ho, hst2⟩ := zRepL_R hst1
  obtain ⟨j, kd, len, x, rfl, hg, hk3⟩ := zat_t hk2
  obtain ⟨a, en, rfl, hwi, hcell⟩ := zat_w hHp ho
  rw [hg] at hcell
  have hk3 : cond (Nat.beq kd 2) (cond (Nat.ble len n) false (zF (fun v => cond (Nat.ble 18446744073709551616 v) (cond (Nat.beq v 18446744073709551617) (kf L S h) (and (kt L S h) (zsetK d h.1 j (kd, len, zup 72 x n 18446744073709551617) (fun t => kf L S (t, h.2))))) (cond (Nat.beq v 0) (kt L S h) (kf L S h))) (zwd 72 x n))) false = true := hk3
  cases hb : Nat.beq kd 2
  · rw [hb] at hk3
    cases hk3
  · have hb2 := Nat.eq_of_beq_eq_true hb
    subst hb2
    rw [hb, cond_true] at hk3
    cases hbl : Nat.ble len n
    · rw [hbl, cond_false, zF_eq, zsetK_eq] at hk3
      have hk4 : cond (Nat.ble 18446744073709551616 (zwd 72 x n)) (cond (Nat.beq (zwd 72 x n) 18446744073709551617) (kf L S h) (and (kt L S h) (kf L S (zset d h.1 j (2, len, zup 72 x n 18446744073709551617), h.2)))) (cond (Nat.beq (zwd 72 x n) 0) (kt L S h) (kf L S h)) = true := hk3
      obtain ⟨hlen, f, rfl, hf⟩ := zCell_j hcell
      obtain ⟨g1, g2, g3⟩ := zi_idx hi.1 hlen hbl
      obtain ⟨hf1, hf2⟩ := hf n g3
      have e0 : Int64.ofNat ((z0 : Nat)) = 0 := by rw [ez]; rfl
      have key : (f n = 0 → kt L S h = true) ∧ (¬ f n = 0 → kf L S h = true ∨ kf L S (zset d h.1 j (2, len, zup 72 x n 18446744073709551617), h.2) = true) := by
        cases hu : Nat.ble 18446744073709551616 (zwd 72 x n)
        · rw [hu, cond_false] at hk4
          have hz := hf1 (zble_f hu)
          cases hv : Nat.beq (zwd 72 x n) 0
          · rw [hv, cond_false] at hk4
            refine ⟨fun q => ?_, fun _ => Or.inl hk4⟩
            rw [q, zj_z] at hz
            rw [← hz] at hv
            exact absurd hv (by decide)
          · rw [hv, cond_true] at hk4
            refine ⟨fun _ => hk4, fun q => absurd (zj_zero.mp ?_) q⟩
            rw [hz, Nat.eq_of_beq_eq_true hv]
        · rw [hu, cond_true] at hk4
          cases hv : Nat.beq (zwd 72 x n) 18446744073709551617
          · rw [hv, cond_false, Bool.and_eq_true] at hk4
            exact ⟨fun _ => hk4.1, fun _ => Or.inr hk4.2⟩
          · rw [hv, cond_true] at hk4
            refine ⟨fun q => ?_, fun _ => Or.inl hk4⟩
            have := hf2 (Nat.eq_of_beq_eq_true hv)
            rw [q, zj_z] at this
            exact absurd this (by decide)
      refine va_lald Cx.1 Cx.2.1 Cx.2.2.2.2.2.1 hP j 2 hwi rfl g1 d1 ?_
      rw [g2]
      refine lv_lconst Cx.1 Cx.2.1 d2 rfl ?_
      refine W.lcmp Cx.1 Cx.2.1 d3 ?_
      refine lv_if_ne Cx.1 Cx.2.1 d4 ht (fun hq => ?_) (fun hq => ?_)
      rotate_left
      · have hz : f n = 0 := by
          rw [e0] at hq
          unfold lg_cmp at hq
          by_cases c1 : 0 < f n
          · rw [if_pos c1] at hq; exact absurd hq (by decide)
          · rw [if_neg c1] at hq
            by_cases c2 : f n = 0
            · exact c2
            · rw [if_neg c2] at hq; exact absurd hq (by decide)
        exact h1 Ch cA D ad0 A MC MS p l e s m args below meth c ls _ H locs cells slots L _ h Cx (key.1 hz) ⟨ws, hHp, hpre, hP, hD, hS, hL, hst2, hcb, hsb⟩
      · have hz : ¬ f n = 0 := fun q => hq (by
          rw [e0, q]
          rfl)
        rcases key.2 hz with g | g
        · exact h2 Ch cA D ad0 A MC MS p l e s m args below meth c ls _ H locs cells slots L _ h Cx g ⟨ws, hHp, hpre, hP, hD, hS, hL, hst2, hcb, hsb⟩
        · refine h2 Ch cA D ad0 A MC MS p l e s m args below meth c ls _ H locs cells slots L _ _ Cx g ⟨ws, zHp_cell hHp hwi (zCell_jk hlen (fun q hq2 => ?_)), hpre, hP, hD, hS, hL, hst2, hcb, hsb⟩
          by_cases c1 : q = n
          · subst c1
            rw [zwd_up_same _ _ _ _ (by decide)]
            refine ⟨fun z => absurd z (by decide), fun _ => ?_⟩
            rcases Nat.eq_zero_or_pos (zj (f q)) with z | z
            · exact absurd (zj_zero.mp z) hz
            · exact z
          · rw [zwd_up_ne _ _ _ _ _ (by decide) (fun z => c1 z.symm)]
            exact hf q hq2
    · rw [hbl] at hk3
      cases hk3
end OPS
