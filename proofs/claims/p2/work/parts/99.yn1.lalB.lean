/-! longs of an array at a place that is known within bounds: nothing is known of them -/
section OPSB
variable {d : Nat} {X : zM} {fr : Nat} {P : zP d} {pc : Nat} {k : zK d}
noncomputable def xlalB (k : zK d) : zK d := fun L S h => zpI S (fun i S => zpR S (fun r S => zat h r (fun _ _ _ kd len _ => cond (Nat.beq kd 2) (cond (Nat.ble (zhi i) len) (k L (zL 18446744073709551616 :: S) h) false) false)))
theorem sm_laloadB [G : zGh] (dg : decode X.2.1 pc = .ok (.laload, 1)) (hs : zSim X fr P (pc + 1) k) : zSim X fr P pc (xlalB k) := by
  intro Ch cA D ad0 A MC MS p l e s m args below meth c ls st H locs cells slots L S h Cx hk R0
  obtain ⟨ws, hHp, hpre, hP, hD, hS, hL, hst, hcb, hsb⟩ := R0
  obtain ⟨n, S, rfl, hk1⟩ := zpI_t hk
  obtain ⟨r, S, rfl, hk2⟩ := zpR_t hk1
  obtain ⟨i, st, rfl, hi, hst1⟩ := zRepL_I hst
  obtain ⟨o, st, rfl, ho, hst2⟩ := zRepL_R hst1
  obtain ⟨j, kd, len, x, rfl, hg, hk3⟩ := zat_t hk2
  obtain ⟨a, en, rfl, hwi, hcell⟩ := zat_w hHp ho
  rw [hg] at hcell
  have hk3 : cond (Nat.beq kd 2) (cond (Nat.ble (zhi n) len) (k L (zL 18446744073709551616 :: S) h) false) false = true := hk3
  obtain ⟨hb, hk4⟩ := zcnd_t hk3
  obtain ⟨hbl0, hk5⟩ := zcnd_t hk4
  have hb2 := Nat.eq_of_beq_eq_true hb
  clear hk3 hk4 hb
  subst hb2
  have hbl := Nat.le_of_ble_eq_true hbl0
  obtain ⟨hlen, f, rfl, hf⟩ := zCell_j hcell
  obtain ⟨g1, g2, g3⟩ := zi_idxR hi hlen hbl
  exact va_lald Cx.1 Cx.2.1 Cx.2.2.2.2.2.1 hP j 2 hwi rfl g1 dg (hs Ch cA D ad0 A MC MS p l e s m args below meth c ls _ H locs cells slots L _ h Cx hk5 ⟨ws, hHp, hpre, hP, hD, hS, hL, ⟨⟨_, rfl, zJs_of (fun z => absurd z (Nat.lt_irrefl _)) (by decide)⟩, hst2⟩, hcb, hsb⟩)
noncomputable def xlasB (k : zK d) : zK d := fun L S h => zpL S (fun _ S => zpI S (fun i S => zpR S (fun r S => zat h r (fun t u j kd len _ => cond (Nat.beq kd 2) (cond (Nat.ble (zhi i) len) (zF (fun y => zsetK d t j (kd, len, y) (fun t => k L S (t, u))) (zun 72 len 18446744073709551616)) false) false))))
theorem sm_lastoreB [G : zGh] (dg : decode X.2.1 pc = .ok (.lastore, 1)) (hs : zSim X fr P (pc + 1) k) : zSim X fr P pc (xlasB k) := by
  intro Ch cA D ad0 A MC MS p l e s m args below meth c ls st H locs cells slots L S h Cx hk R0
  obtain ⟨ws, hHp, hpre, hP, hD, hS, hL, hst, hcb, hsb⟩ := R0
  obtain ⟨v, S, rfl, hk0⟩ := zpL_t hk
  obtain ⟨n, S, rfl, hk1⟩ := zpI_t hk0
  obtain ⟨r, S, rfl, hk2⟩ := zpR_t hk1
  obtain ⟨y, st, rfl, hy, hst0⟩ := zRepL_L hst
  obtain ⟨i, st, rfl, hi, hst1⟩ := zRepL_I hst0
  obtain ⟨o, st, rfl, ho, hst2⟩ := zRepL_R hst1
  obtain ⟨j, kd, len, x, rfl, hgt, hk3⟩ := zat_t hk2
  obtain ⟨a, en, rfl, hwi, hcell⟩ := zat_w hHp ho
  rw [hgt] at hcell
  have hk3 : cond (Nat.beq kd 2) (cond (Nat.ble (zhi n) len) (zF (fun y => zsetK d h.1 j (kd, len, y) (fun t => k L S (t, h.2))) (zun 72 len 18446744073709551616)) false) false = true := hk3
  obtain ⟨hb, hk4⟩ := zcnd_t hk3
  obtain ⟨hbl0, hk5⟩ := zcnd_t hk4
  have hb2 := Nat.eq_of_beq_eq_true hb
  clear hk3 hk4 hb
  subst hb2
  have hbl := Nat.le_of_ble_eq_true hbl0
  rw [zF_eq, zsetK_eq] at hk5
  obtain ⟨hlen, f, rfl, hf⟩ := zCell_j hcell
  obtain ⟨g1, g2, g3⟩ := zi_idxR hi hlen hbl
  refine va_last Cx.1 Cx.2.1 Cx.2.2.2.2.2.1 hP hD hS j 2 hwi rfl g1 dg (fun H1 locs1 hP1 hD1 hS1 => ?_)
  have hz := zad_set (cA := cA) (e' := .inl (cA 2, len, .inr (.inl (vp_updL f i.toNatClampNeg y)))) hwi
  exact hs Ch cA D ad0 A MC MS p l e s m args below meth c ls _ H1 locs1 cells slots L _ _ Cx hk5 ⟨_, zHp_set hHp hwi (zCell_jk hlen (fun q hq => by
    rw [zun_wd 72 len _ q (by decide) (by decide) hq]
    exact ⟨fun z => absurd z (Nat.lt_irrefl _), fun z => absurd z (by decide)⟩)), by rw [hz]; exact hpre, hP1, hD1, hS1, by rw [hz]; exact hL, by rw [hz]; exact hst2, hcb, hsb⟩
end OPSB
