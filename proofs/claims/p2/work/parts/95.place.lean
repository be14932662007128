/-! inRow[held[c]] = r -/
section PLACE
variable {d : Nat} {X : zM} {fr : Nat} {P : zP d} {pc : Nat} {k : zK d}
noncomputable def zo9 (j : Nat) (T : zT d) (q : Nat) : Bool := cond (Nat.beq q j) true (znk 9 9 (zget d T q))
/-- inRow[held[c]] = r, in three instructions -/
noncomputable def xpl (n : Nat) (k : zK d) : zK d := fun L S h => zpI S (fun c S => zpR S (fun rh S => zpR S (fun ri S => znth n L (fun v => Sum.rec (motive := fun _ => Bool) (fun r => zat h rh (fun _ _ _ kd len lam => zat h ri (fun t u j kd2 len2 x2 => cond (Nat.beq kd 8) (cond (Nat.beq kd2 9) (cond (Nat.ble len c) false (cond (Nat.ble (Nat.succ c) (zpn lam)) (cond (Nat.ble (Nat.succ lam) 1048576) (cond (Nat.ble (Nat.succ (zpn lam)) len2) (cond (Nat.beq (Nat.mod x2 1048576) lam) (cond (Nat.ble r 4294967295) (cond (Nat.beq (zrw lam c) r) (cond (zall (zpn lam) (fun q => cond (Nat.beq q c) true (cond (Nat.beq (zps lam q) (Nat.div x2 1048576)) false true))) (cond (zall h.2.1 (zo9 j t)) (zF (fun y => zsetK d t j (9, len2, y) (fun t => k L S (t, u))) (Nat.add lam (Nat.mul 1048576 (Nat.succ (Nat.div x2 1048576))))) false) false) false) false) false) false) false) false)) false) false))) (fun _ => false) v))))
theorem sm_pl [G : zGh] {n : Nat} (d1 : decode X.2.1 pc = .ok (.iaload, 1)) (d2 : decode X.2.1 (pc + 1) = .ok (.iload n, 2)) (d3 : decode X.2.1 (pc + 1 + 2) = .ok (.iastore, 1)) (hs : zSim X fr P (pc + 1 + 2 + 1) k) : zSim X fr P pc (xpl n k) := by
  intro Ch cA D ad0 A MC MS p l e s m args below meth c0 ls st H locs cells slots L S h Cx hk R0
  obtain ⟨ws, hHp, hpre, hP, hD, hS, hL, hst, hcb, hsb⟩ := R0
  obtain ⟨c, S, rfl, hk1⟩ := zpI_t hk
  obtain ⟨rh, S, rfl, hk2⟩ := zpR_t hk1
  obtain ⟨ri, S, rfl, hk3⟩ := zpR_t hk2
  obtain ⟨ci, st, rfl, hci, hst1⟩ := zRepL_I hst
  obtain ⟨oh, st, rfl, hoh, hst2⟩ := zRepL_R hst1
  obtain ⟨oi, st, rfl, hoi, hst3⟩ := zRepL_R hst2
  obtain ⟨v, hv, hk4⟩ := znth_t n hk3
  match v, hv, hk4 with
  | .inl r, hv, hk4 =>
    obtain ⟨xr, hxr, rv, rfl, hrv⟩ := zLoc_at hL hv (by intro q; cases q)
    obtain ⟨jh, kd, len, lam, rfl, hg1, hk5⟩ := zat_t hk4
    obtain ⟨j, kd2, len2, x2, rfl, hg2, hk6⟩ := zat_t hk5
    obtain ⟨ah, eh, rfl, hwh, hch⟩ := zat_w hHp hoh
    obtain ⟨ai, ei, rfl, hwi, hcl⟩ := zat_w hHp hoi
    rw [hg1] at hch
    rw [hg2] at hcl
    obtain ⟨b1, hk7⟩ := zcnd_t hk6
    obtain ⟨b2, hk8⟩ := zcnd_t hk7
    cases b3 : Nat.ble len c
    case true => rw [b3] at hk8; cases hk8
    rw [b3, cond_false] at hk8
    obtain ⟨b4, hk9⟩ := zcnd_t hk8
    obtain ⟨b5, hk10⟩ := zcnd_t hk9
    obtain ⟨b6, hk11⟩ := zcnd_t hk10
    obtain ⟨b7, hk12⟩ := zcnd_t hk11
    obtain ⟨b8, hk13⟩ := zcnd_t hk12
    obtain ⟨b9, hk14⟩ := zcnd_t hk13
    obtain ⟨b10, hk15⟩ := zcnd_t hk14
    obtain ⟨b11, hk16⟩ := zcnd_t hk15
    rw [zF_eq, zsetK_eq] at hk16
    clear hk hk1 hk2 hk3 hk4 hk5 hk6 hk7 hk8 hk9 hk10 hk11 hk12 hk13 hk14 hk15
    have e1 : kd = 8 := Nat.eq_of_beq_eq_true b1
    have e2 : kd2 = 9 := Nat.eq_of_beq_eq_true b2
    subst e1
    subst e2
    have e4 : c < zpn lam := Nat.le_of_ble_eq_true b4
    have e5 : lam < 1048576 := Nat.le_of_ble_eq_true b5
    have e6 : zpn lam < len2 := Nat.le_of_ble_eq_true b6
    have e7 : x2 % 1048576 = lam := Nat.eq_of_beq_eq_true b7
    have e8 : r ≤ 4294967295 := Nat.le_of_ble_eq_true b8
    have e9 : zrw lam c = r := Nat.eq_of_beq_eq_true b9
    have mk : ∀ {kd len x : Nat} {e : va_E}, 8 ≤ kd → kd < 12 → zCell cA (zad cA ws) (kd, len, x) e → len < 2147483648 ∧ e = .inl (cA 0, len, .inl (zcF kd)) ∧ zKi zcF zcT kd len x := by
      intro kd len x e q1 q2 hc
      rcases hc with ⟨g, -⟩ | ⟨g, -⟩ | ⟨-, -, g3, ⟨-, f, g5, g6, g7⟩ | ⟨g4, -⟩⟩ | ⟨-, g, -⟩ | ⟨g, -⟩
      · exact absurd (show kd < 2 from g) (by omega)
      · exact absurd (show kd = 2 from g) (by omega)
      · have g6 : f = zcF kd := g6
        subst g6
        exact ⟨g3, g5, g7⟩
      · exact absurd (show kd = 12 from g4) (by omega)
      · exact absurd (show kd < 8 from g) (by omega)
      · exact absurd (show 16 ≤ kd from g) (by omega)
    obtain ⟨l1, rfl, m1⟩ := mk (by decide) (by decide) hch
    obtain ⟨l2, rfl, m2⟩ := mk (by decide) (by decide) hcl
    have hpm : zPm (zpn lam) (fun i => zi (zcF 8 i)) := by
      have := m1.1 rfl
      rw [Nat.mod_eq_of_lt e5] at this
      exact this
    have h9 := m2.2.1 rfl
    rw [e7] at h9
    obtain ⟨g1, g2, g3⟩ := zi_idx hci.1 l1 b3
    have hrg := zPm_rg hpm e4
    have hbl : Nat.ble len2 (zi (zcF 8 c)) = false := by
      cases q : Nat.ble len2 (zi (zcF 8 c))
      · rfl
      · have := Nat.le_of_ble_eq_true q
        have hr2 : zi (zcF 8 c) ≤ zpn lam := hrg.2
        omega
    obtain ⟨i1, i2, i3⟩ := zi_idx (i := zcF 8 c) (a := zi (zcF 8 c)) (fun _ => rfl) l2 hbl
    have hr0 : zi rv = r := hrv.1 (by omega)
    refine va_iald Cx.1 Cx.2.1 Cx.2.2.2.2.2.1 hP _ 0 hwh rfl g1 d1 ?_
    rw [g2]
    refine lv_iload Cx.1 Cx.2.1 d2 hxr ?_
    refine va_iast Cx.1 Cx.2.1 Cx.2.2.2.2.2.1 hP hD hS _ 0 hwi rfl i1 d3 (fun H1 locs1 hP1 hD1 hS1 => ?_)
    rw [i2] at hP1 hD1
    have hz := zad_set (cA := cA) (e' := .inl (cA 0, len2, .inl (upd (zcF 9) (zi (zcF 8 c)) rv))) hwi
    let C' : zCh := ⟨((fun q => if q = 9 then upd (zcF 9) (zi (zcF 8 c)) rv else zcF q, zcT) : (Nat → Nat → Int32) × Nat)⟩
    obtain ⟨w1, w2, w3⟩ := hHp
    have hjw : j < ws.length := (List.getElem?_eq_some_iff.mp hwi).1
    refine hs C' cA D ad0 A MC MS p l e s m args below meth c0 ls _ H1 locs1 cells slots L _ _ Cx hk16 ⟨_, ⟨by rw [List.length_set]; exact w1, w2, fun q y hq => ?_⟩, by rw [hz]; exact hpre, hP1, hD1, hS1, by rw [hz]; exact hL, by rw [hz]; exact hst3, hcb, hsb⟩
    rw [hz]
    rw [List.getElem?_set] at hq
    by_cases ej : j = q
    · subst ej
      rw [if_pos rfl, if_pos hjw] at hq
      cases hq
      show @zCell C' cA _ (zget d (zset d h.1 j _) j) _
      rw [zget_set_same d _ _ _ (by omega)]
      refine Or.inr (Or.inr (Or.inl ⟨show 8 ≤ 9 by decide, show 9 < 16 by decide, l2, Or.inl ⟨show 9 < 12 by decide, _, rfl, rfl, ?_⟩⟩))
      refine (show zKi (@zcF C') (@zcT C') 9 len2 (lam + 1048576 * (x2 / 1048576 + 1)) from ⟨fun z => absurd z (by decide), fun _ c' hc' hq' => ?_, fun z => absurd z (by decide), fun z => absurd z (by decide)⟩)
      rw [show (lam + 1048576 * (x2 / 1048576 + 1)) % 1048576 = lam by omega] at hc' hq' ⊢
      rw [show (lam + 1048576 * (x2 / 1048576 + 1)) / 1048576 = x2 / 1048576 + 1 by omega] at hq'
      show zi (upd (@zcF Ch 9) (zi (@zcF Ch 8 c)) rv (zi (@zcF Ch 8 c'))) = zrw lam c'
      unfold upd
      by_cases ec : c' = c
      · subst ec
        simp only [if_true]
        rw [hr0, e9]
      · have hne : zi (@zcF Ch 8 c') ≠ zi (@zcF Ch 8 c) := fun z => ec (zPm_inj hpm hc' e4 z)
        simp only [hne, if_false]
        refine h9 c' hc' ?_
        have hb := zall_t b10 c' hc'
        have hb : cond (Nat.beq c' c) true (cond (Nat.beq (zps lam c') (Nat.div x2 1048576)) false true) = true := hb
        have f1 : Nat.beq c' c = false := by
          cases z : Nat.beq c' c
          · rfl
          · exact absurd (Nat.eq_of_beq_eq_true z) ec
        rw [f1, cond_false] at hb
        have f2 : zps lam c' ≠ x2 / 1048576 := fun z => by
          have z : zps lam c' = Nat.div x2 1048576 := z
          rw [z, show Nat.beq (Nat.div x2 1048576) (Nat.div x2 1048576) = true from Nat.beq_refl _] at hb
          cases hb
        omega
    · rw [if_neg ej] at hq
      have hqw : q < ws.length := (List.getElem?_eq_some_iff.mp hq).1
      show @zCell C' cA _ (zget d (zset d h.1 j _) q) _
      rw [zget_set_ne d _ _ _ _ (by omega) (by omega) ej]
      have hb := zall_t b11 q (by omega)
      unfold zo9 at hb
      have f1 : Nat.beq q j = false := by
        cases z : Nat.beq q j
        · rfl
        · exact absurd (Nat.eq_of_beq_eq_true z).symm ej
      rw [f1, cond_false] at hb
      have hn := znk_t hb
      have hF : ∀ z, z ≠ 9 → @zcF C' z = @zcF Ch z := fun z h9' => if_neg h9'
      exact zCell_gh (C := Ch) rfl (fun _ => hF 8 (by decide)) (fun z => absurd z (by omega)) (fun _ => hF 10 (by decide)) (fun _ => ⟨hF 11 (by decide), hF 10 (by decide)⟩) (w3 q y hq)
end PLACE
