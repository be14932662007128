/-! more of the static arrays; arraycopy of longs -/
section OPS
variable {d : Nat} {X : zM} {fr : Nat} {P : zP d} {pc : Nat} {k : zK d}
/-- a static array's length -/
theorem sm_stlen [G : zGh] {C nm : String} {tb : List Nat} {index : Nat} (hst1 : ∀ (A : Nat → Prop) (s : State), zStat A s s.heap → zSt1 C nm tb A s s.heap) (hlink : Cond.fieldLink X.1 index C nm "[I" ∈ ztbl) (dg1 : decode X.2.1 pc = .ok (.getstatic index, 3)) (dg2 : decode X.2.1 (pc + 3) = .ok (.arraylength, 1)) (hs : zSim X fr P (pc + 3 + 1) k) : zSim X fr P pc (xpI 7 k) := by
  intro Ch cA D ad0 A MC MS p l e s m args below meth c ls st H locs cells slots L S h Cx hk R0
  obtain ⟨ws, hHp, hpre, hP, hD, hS, hL, hst, hcb, hsb⟩ := R0
  obtain ⟨t, hZ, f, hT, hf⟩ := hst1 A s Cx.2.2.2.2.2.2.2.2.2.2.1
  refine va_gets Cx.1 Cx.2.1 hZ hS Cx.2.2.2.1 (Cx.2.2.2.2.1 _ hlink) (fun _ h => h) dg1 ?_
  refine va_tlen (v := Int32.ofNat 7) Cx.1 Cx.2.1 hT hS rfl dg2 ?_
  exact hs Ch cA D ad0 A MC MS p l e s m args below meth c ls _ H locs cells slots L _ h Cx hk ⟨ws, hHp, hpre, hP, hD, hS, hL, ⟨⟨_, rfl, zIs_e (zi_nI (by decide))⟩, hst⟩, hcb, hsb⟩
/-- a static array's element by the quotient of two locals -/
noncomputable def xst2 (tb : List Nat) (n1 n2 : Nat) (k : zK d) : zK d := fun L S h => znth n1 L (fun v => Sum.rec (motive := fun _ => Bool) (fun a => znth n2 L (fun w => Sum.rec (motive := fun _ => Bool) (fun b => cond (Nat.beq b 0) false (cond (Nat.ble 2147483648 (Nat.lor a b)) false (zF (fun q => ztab tb q (fun w => k L (zI w :: S) h)) (Nat.div a b)))) (fun _ => false) w)) (fun _ => false) v)
theorem sm_st2 [G : zGh] {C nm : String} {tb : List Nat} {n1 n2 index : Nat} {f1 : Fin 4} (htb : tb.length = 7) (hst1 : ∀ (A : Nat → Prop) (s : State), zStat A s s.heap → zSt1 C nm tb A s s.heap) (hlink : Cond.fieldLink X.1 index C nm "[I" ∈ ztbl) (dg1 : decode X.2.1 pc = .ok (.getstatic index, 3)) (dg2 : decode X.2.1 (pc + 3) = .ok (.iload_n f1, 1)) (hf1 : (f1 : Nat) = n1) (dg3 : decode X.2.1 (pc + 3 + 1) = .ok (.iload n2, 2)) (dg4 : decode X.2.1 (pc + 3 + 1 + 2) = .ok (.idiv, 1)) (dg5 : decode X.2.1 (pc + 3 + 1 + 2 + 1) = .ok (.iaload, 1)) (hs : zSim X fr P (pc + 3 + 1 + 2 + 1 + 1) k) : zSim X fr P pc (xst2 tb n1 n2 k) := by
  intro Ch cA D ad0 A MC MS p l e s m args below meth c ls st H locs cells slots L S h Cx hk R0
  obtain ⟨ws, hHp, hpre, hP, hD, hS, hL, hst, hcb, hsb⟩ := R0
  obtain ⟨v, hv, hk2⟩ := znth_t n1 hk
  match v, hv, hk2 with
  | .inl a, hv, hk2 =>
    obtain ⟨w, hw, hk3⟩ := znth_t n2 hk2
    match w, hw, hk3 with
    | .inl b, hw, hk3 =>
      have hk3 : cond (Nat.beq b 0) false (cond (Nat.ble 2147483648 (Nat.lor a b)) false (zF (fun q => ztab tb q (fun w => k L (zI w :: S) h)) (Nat.div a b))) = true := hk3
      cases b1 : Nat.beq b 0
      · cases b2 : Nat.ble 2147483648 (Nat.lor a b)
        · rw [b1, b2, cond_false, cond_false, zF_eq] at hk3
          obtain ⟨x, hx, i, rfl, hi⟩ := zLoc_at hL hv (by intro q; cases q)
          obtain ⟨y, hy, j, rfl, hj⟩ := zLoc_at hL hw (by intro q; cases q)
          obtain ⟨u, hu, hk4⟩ := ztab_t tb _ hk3
          obtain ⟨t, hZ, f, hT, hf⟩ := hst1 A s Cx.2.2.2.2.2.2.2.2.2.2.1
          have ha : Nat.div a b < 7 := by rw [← htb]; exact (List.getElem?_eq_some_iff.mp hu).1
          obtain ⟨q1, q2⟩ := zle31 b2
          have ei := hi.1 (by omega)
          have ej := hj.1 (by omega)
          have hjne : ¬ j = 0 := fun q => by
            rw [q, zi_z] at ej
            rw [← ej] at b1
            cases b1
          have hd : zi (i / j) = Nat.div a b := by rw [zi_div (by omega) (by omega), ei, ej]; rfl
          obtain ⟨g1, g2, g3⟩ := zi_idx (i := i / j) (a := Nat.div a b) (len := 7) (fun _ => hd) (by decide) (zble_lt ha)
          obtain ⟨iv, hfv, hiv⟩ := hf _ u hu
          refine va_gets Cx.1 Cx.2.1 hZ hS Cx.2.2.2.1 (Cx.2.2.2.2.1 _ hlink) (fun _ h => h) dg1 ?_
          refine lv_iload_n Cx.1 Cx.2.1 dg2 hf1 hx ?_
          refine lv_iload Cx.1 Cx.2.1 dg3 hy ?_
          refine lv_idiv Cx.1 Cx.2.1 dg4 hjne ?_
          refine va_ti (v := .int iv) Cx.1 Cx.2.1 hT hS g1 (by rw [g2]; exact hfv) dg5 ?_
          exact hs Ch cA D ad0 A MC MS p l e s m args below meth c ls _ H locs cells slots L _ h Cx hk4 ⟨ws, hHp, hpre, hP, hD, hS, hL, ⟨⟨iv, rfl, zIs_e hiv⟩, hst⟩, hcb, hsb⟩
        · rw [b1, b2] at hk3; cases hk3
      · rw [b1] at hk3; cases hk3
theorem sm_copyJ [G : zGh] {index : Nat} (hlink : Cond.methodLink X.1 index arraycopyName ∈ ztbl) (hnat : Cond.native arraycopyName ∈ ztbl) (hstat : Cond.static arraycopyName ∈ ztbl) (hini : Cond.initialized "java/lang/System" ∈ ztbl) (hfr : 1 ≤ fr) (dg : decode X.2.1 pc = .ok (.invokestatic index, 3)) (hs : zSim X fr P (pc + 3) k) : zSim X fr P pc (xcpy 2 72 k) := by
  intro Ch cA D ad0 A MC MS p l e s m args below meth c ls st H locs cells slots L S h Cx hk R0
  obtain ⟨ws, hHp, hpre, hP, hD, hS, hL, hst, hcb, hsb⟩ := R0
  obtain ⟨n, S, rfl, hk1⟩ := zpI_t hk
  obtain ⟨dp, S, rfl, hk2⟩ := zpI_t hk1
  obtain ⟨r1, S, rfl, hk3⟩ := zpR_t hk2
  obtain ⟨sp, S, rfl, hk4⟩ := zpI_t hk3
  obtain ⟨r0, S, rfl, hk5⟩ := zpR_t hk4
  obtain ⟨jn, st, rfl, hn, hst1⟩ := zRepL_I hst
  obtain ⟨jd, st, rfl, hdp, hst2⟩ := zRepL_I hst1
  obtain ⟨o1, st, rfl, ho1, hst3⟩ := zRepL_R hst2
  obtain ⟨js, st, rfl, hsp, hst4⟩ := zRepL_I hst3
  obtain ⟨o0, st, rfl, ho0, hst5⟩ := zRepL_R hst4
  obtain ⟨h4, hk6⟩ := zle4_t hk5
  have hk6 : cond (Nat.ble n 100000) (cond (Nat.ble dp 100000) (cond (Nat.ble sp 100000) (zat h r0 (fun _ _ _ kd0 len0 x0 => zat h r1 (fun t u j kd1 len1 x1 => cond (Nat.beq kd0 2) (cond (Nat.beq kd1 2) (cond (Nat.ble (Nat.add sp n) len0) (cond (Nat.ble (Nat.add dp n) len1) (zF (fun y => zsetK d t j (kd1, len1, y) (fun t => k L S (t, u))) (zcp 72 x0 x1 sp dp n)) false) false) false) false))) false) false) false = true := hk6
  cases b1 : Nat.ble n 100000
  · rw [b1] at hk6; cases hk6
  cases b2 : Nat.ble dp 100000
  · rw [b1, b2] at hk6; cases hk6
  cases b3 : Nat.ble sp 100000
  · rw [b1, b2, b3] at hk6; cases hk6
  rw [b1, b2, b3, cond_true, cond_true, cond_true] at hk6
  obtain ⟨i0, kd0, len0, x0, rfl, hg0, hk7⟩ := zat_t hk6
  obtain ⟨i1, kd1, len1, x1, rfl, hg1, hk8⟩ := zat_t hk7
  have hk9 : cond (Nat.beq kd0 2) (cond (Nat.beq kd1 2) (cond (Nat.ble (Nat.add sp n) len0) (cond (Nat.ble (Nat.add dp n) len1) (zF (fun y => zsetK d h.1 i1 (kd1, len1, y) (fun t => k L S (t, h.2))) (zcp 72 x0 x1 sp dp n)) false) false) false) false = true := hk8
  cases b4 : Nat.beq kd0 2
  · rw [b4] at hk9; cases hk9
  cases b5 : Nat.beq kd1 2
  · rw [b4, b5] at hk9; cases hk9
  cases b6 : Nat.ble (Nat.add sp n) len0
  · rw [b4, b5, b6] at hk9; cases hk9
  cases b7 : Nat.ble (Nat.add dp n) len1
  · rw [b4, b5, b6, b7] at hk9; cases hk9
  rw [b4, b5, b6, b7, cond_true, cond_true, cond_true, cond_true, zF_eq, zsetK_eq] at hk9
  have e0 := Nat.eq_of_beq_eq_true b4
  have e1 := Nat.eq_of_beq_eq_true b5
  subst e0
  subst e1
  obtain ⟨a0, en0, rfl, hw0, hc0⟩ := zat_w hHp ho0
  obtain ⟨a1, en1, rfl, hw1, hc1⟩ := zat_w hHp ho1
  rw [hg0] at hc0
  rw [hg1] at hc1
  obtain ⟨hl0, f0, rfl, hf0⟩ := zCell_j hc0
  obtain ⟨hl1, f1, rfl, hf1⟩ := zCell_j hc1
  obtain ⟨n1, n2⟩ := zi_len hn.1 (Nat.le_of_ble_eq_true b1)
  obtain ⟨d1, d2⟩ := zi_len hdp.1 (Nat.le_of_ble_eq_true b2)
  obtain ⟨s1, s2⟩ := zi_len hsp.1 (Nat.le_of_ble_eq_true b3)
  have hle0 : sp + n ≤ len0 := Nat.le_of_ble_eq_true b6
  have hle1 : dp + n ≤ len1 := Nat.le_of_ble_eq_true b7
  have hcat := zcat hst5
  refine va_copyl (ty := .long) Cx.1 Cx.2.1 (by rw [Cx.2.2.1]; exact hL.2.choose_spec.1.1.symm) Cx.2.2.2.1 (Cx.2.2.2.2.1 _ hlink) (Cx.2.2.2.2.1 _ hnat) (Cx.2.2.2.2.1 _ hstat) (Cx.2.2.2.2.1 _ hini) Cx.2.2.2.2.2.1 hP hD hS i0 i1 2 2 hw0 hw1 rfl rfl rfl s1 d1 n1 (by rw [s2, n2]; exact hle0) (by rw [d2, n2]; exact hle1) (fun _ _ => rfl) hfr (by show (st.map fun v => v.category).sum + (nativeFrameWords "java/lang/System" "arraycopy" 5 + 11) ≤ 64 * fr; rw [znfw]; omega) dg (fun H1 locs1 hP1 hD1 hS1 => ?_)
  have hz := zad_set (cA := cA) (e' := .inl (cA 2, len1, .inr (.inl (va_cpy f0 f1 js.toNatClampNeg jd.toNatClampNeg jn.toNatClampNeg)))) hw1
  refine hs Ch cA D ad0 A MC MS p l e s m args below meth c ls _ H1 locs1 cells slots L _ _ Cx hk9 ⟨_, zHp_set hHp hw1 (zCell_jk hl1 (fun j hj => ?_)), by rw [hz]; exact hpre, hP1, hD1, hS1, by rw [hz]; exact hL, by rw [hz]; exact hst5, hcb, hsb⟩
  rw [zcp_wd]
  rw [s2, d2, n2]
  unfold va_cpy
  by_cases q : dp ≤ j ∧ j < dp + n
  · rw [if_pos q, if_pos q]
    exact hf0 _ (by omega)
  · rw [if_neg q, if_neg q]
    exact hf1 _ hj
end OPS
