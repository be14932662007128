/-! a row into an array of rows -/
theorem zcompI {s : State} {cA : Nat → ClassId} {D : va_G} (hK : va_K D zcl (zty cA) s) (hE : va_AOA .int s) : ∃ kA : Class, s.vm.classes[cA 3]? = some kA ∧ kA.kind = .array (cA 0) (.array .int) := by
  obtain ⟨comp, c, k, h1, -, h3, h4, h5⟩ := Jvm.Stand.arrayOver_specB hE
  have e1 : s.vm.findClass ("[" ++ (FieldType.array .int).toString) = some (cA 3) := (hK.2 3 _ rfl).2
  have e0 : s.vm.findClass ("[" ++ FieldType.int.toString) = some (cA 0) := (hK.2 0 _ rfl).2
  have ec : c = cA 3 := Option.some.inj (h5.symm.trans e1)
  have e2 : (FieldType.array .int).toString = "[" ++ FieldType.int.toString := rfl
  rw [e2] at h1
  have ek : comp = cA 0 := Option.some.inj (h1.symm.trans e0)
  subst ec
  subst ek
  exact ⟨k, h3, h4⟩
section OPS
variable {d : Nat} {X : zM} {fr : Nat} {P : zP d} {pc : Nat} {k : zK d}
theorem sm_aastoreI [G : zGh] (dg : decode X.2.1 pc = .ok (.aastore, 1)) (hs : zSim X fr P (pc + 1) k) : zSim X fr P pc (xaas 3 0 k) := by
  intro Ch cA D ad0 A MC MS p l e s m args below meth c ls st H locs cells slots L S h Cx hk R0
  obtain ⟨ws, hHp, hpre, hP, hD, hS, hL, hst, hcb, hsb⟩ := R0
  obtain ⟨v, S, rfl, hk0⟩ := zpR_t hk
  obtain ⟨n, S, rfl, hk1⟩ := zpI_t hk0
  obtain ⟨r, S, rfl, hk2⟩ := zpR_t hk1
  obtain ⟨y, st, rfl, hy, hst0⟩ := zRepL_R hst
  obtain ⟨i, st, rfl, hi, hst1⟩ := zRepL_I hst0
  obtain ⟨o, st, rfl, ho, hst2⟩ := zRepL_R hst1
  obtain ⟨jv, kv, lenv, xv, rfl, hgv, hk3⟩ := zat_t hk2
  have hq3 : cond (Nat.beq kv 0) (zat h r (fun t u j kd len x => cond (Nat.beq kd 3) (cond (Nat.ble len n) false (cond (Nat.ble 549755813888 (jv + 1)) false (zF (fun y => zsetK d t j (kd, len, y) (fun t => k L S (t, u))) (zup 40 x n (jv + 1))))) false)) false = true := hk3
  cases hbv : Nat.beq kv 0
  · rw [hbv] at hq3
    cases hq3
  · rw [hbv, cond_true] at hq3
    obtain ⟨av, ev, rfl, hwv, hcv⟩ := zat_w hHp hy
    rw [hgv] at hcv
    have ekv := Nat.eq_of_beq_eq_true hbv
    subst ekv
    obtain ⟨hlv, fv, rfl, -⟩ := zCell_i hcv (by decide)
    obtain ⟨j, kd, len, x, rfl, hgt, hk4⟩ := zat_t hq3
    obtain ⟨a, en, rfl, hwi, hcell⟩ := zat_w hHp ho
    rw [hgt] at hcell
    have hk5 : cond (Nat.beq kd 3) (cond (Nat.ble len n) false (cond (Nat.ble 549755813888 (jv + 1)) false (zF (fun y => zsetK d h.1 j (kd, len, y) (fun t => k L S (t, h.2))) (zup 40 x n (jv + 1))))) false = true := hk4
    cases hb : Nat.beq kd 3
    · rw [hb] at hk5
      cases hk5
    · cases hbl : Nat.ble len n
      · cases hbw : Nat.ble 549755813888 (jv + 1)
        · rw [hb, hbl, hbw, cond_true, cond_false, cond_false, zF_eq, zsetK_eq] at hk5
          have hb2 := Nat.eq_of_beq_eq_true hb
          subst hb2
          obtain ⟨hlen, f, rfl, hf⟩ := zCell_r hcell (by decide) (by decide)
          obtain ⟨g1, g2, g3⟩ := zi_idx hi.1 hlen hbl
          obtain ⟨kA, k1, k2⟩ := zcompI Cx.2.2.2.2.2.1 Cx.2.2.2.2.2.2.2.2.2.2.2.2.2.2.1
          obtain ⟨kC, hkC⟩ : ∃ kC : Class, s.vm.classes[cA 0]? = some kC := by
            obtain ⟨-, kk, hkk, -⟩ := (Cx.2.2.2.2.2.1.2 0 _ rfl).1 0 (fun _ => .null)
            exact ⟨kk, hkk⟩
          have h0 : ¬ i < 0 := fun q => g1 (Or.inl q)
          have hlt : i.toNatClampNeg < len := by rw [g2]; exact g3
          refine W.aast Cx.1 Cx.2.1 (hP j _ hwi) (fun q h => by cases h) (fun h => by cases h) k1 k2 rfl hkC ⟨h0, by show _ < (arrV _ _ _).slots.size; rw [arrV_size]; exact hlt⟩ (hP jv _ hwv) (fun q h => by cases h) hkC (va_asg s.vm (cA 0)) rfl rfl dg fun H1 e1 z oq => ?_
          have hP1 : va_P D zcl (ws.set j (a, .inl (cA 3, len, .inr (.inr (.inr (.inr (va_up f i.toNatClampNeg (some av)))))))) H1 := by
            refine hP.set hD hwi ?_ oq
            show H1[a]? = some (vp_cell _ _)
            rw [e1]
            rw [vp_cell_q, vp_cell_q, arrV_store]
            congr 2
            funext q
            by_cases hq : q = i.toNatClampNeg
            · subst hq
              simp [updV, va_up, va_rf]
            · simp [updV, va_up, hq]
          have hz := zad_set (cA := cA) (e' := .inl (cA 3, len, .inr (.inr (.inr (.inr (va_up f i.toNatClampNeg (some av))))))) hwi
          exact hs Ch cA D ad0 A MC MS p l e s m args below meth c ls _ H1 _ cells slots L _ _ Cx hk5 ⟨_, zHp_set hHp hwi (zCell_rk (by decide) (by decide) hlen (by rw [g2]; exact zAR_up (zble_f hbw) hf hy)), by rw [hz]; exact hpre, hP1, hD.set hwi, hS.put z oq (hD.2 j _ hwi), by rw [hz]; exact hL, by rw [hz]; exact hst2, hcb, hsb⟩
        · rw [hb, hbl, hbw] at hk5
          cases hk5
      · rw [hb, hbl] at hk5
        cases hk5
end OPS
