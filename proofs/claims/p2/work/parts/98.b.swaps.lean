/-! swaps, where held and inRow are marked -/
section SWAPS
variable {d : Nat}
noncomputable def gM_X9_swaps : List zV → zH d → zP d → Bool := fun as h P => zpR as (fun r as => zpI as (fun a as => zpI as (fun b as => List.rec (motive := fun _ => Bool) (zat h r (fun _ _ i0 kd _ x => cond (Nat.beq kd 25) (zat h (zwd 40 x 31) (fun _ _ bh k8 l8 lam => zat h (zwd 40 x 32) (fun _ _ bi k9 l9 x9 => cond (zands [Nat.ble (Nat.succ i0) h.2.1, Nat.beq k8 8, Nat.beq k9 9, Nat.ble (Nat.succ bh) h.2.1, Nat.ble (Nat.succ bi) h.2.1, Nat.ble bh 1000000, Nat.ble bi 1000000, Nat.ble (Nat.succ a) (zpn lam), Nat.ble (Nat.succ b) (zpn lam), Nat.ble (zpn lam) l8, Nat.ble (Nat.succ lam) 1048576, Nat.beq (Nat.mod x9 1048576) lam, Nat.ble (Nat.succ (zpn lam)) l9, Nat.ble (Nat.div x9 1048576) (zps lam a), Nat.ble (Nat.div x9 1048576) (zps lam b), zall h.2.1 (fun q => cond (Nat.beq q bh) true (cond (Nat.beq q bi) true (znk 8 9 (zget d h.1 q))))]) (P zU h) false))) false)) (fun _ _ _ => false) as)))
set_option maxRecDepth 100000 in
set_option maxHeartbeats 4000000 in
theorem mM_X9_swaps : zMet (d := d) X_X9_swaps yX9_swaps 1 gM_X9_swaps := zMet_ex m_X9_swaps (fun C cA ws as h P hg hH => by
  classical
  obtain ⟨r, as1, rfl, hg1⟩ := zpR_t hg
  clear hg
  obtain ⟨a, as2, rfl, hg2⟩ := zpI_t hg1
  clear hg1
  obtain ⟨b, as3, rfl, hg3⟩ := zpI_t hg2
  clear hg2
  match as3, hg3 with
  | _ :: _, hg3 => cases hg3
  | [], hg3 =>
    obtain ⟨i, kd, len, x, rfl, gi, hg4⟩ := zat_t hg3
    clear hg3
    obtain ⟨c1, hg5⟩ := zcnd_t hg4
    obtain ⟨bh, k8, l8, lam, x31, g8, hg6⟩ := zat_t hg5
    obtain ⟨bi, k9, l9, x9, x32, g9, hg7⟩ := zat_t hg6
    obtain ⟨hA, hg⟩ := zcnd_t hg7
    clear hg4 hg5 hg6 hg7
    obtain ⟨c0, hA⟩ := zands_c hA
    obtain ⟨c2, hA⟩ := zands_c hA
    obtain ⟨c3, hA⟩ := zands_c hA
    obtain ⟨c4, hA⟩ := zands_c hA
    obtain ⟨c5, hA⟩ := zands_c hA
    obtain ⟨c6, hA⟩ := zands_c hA
    obtain ⟨c7, hA⟩ := zands_c hA
    obtain ⟨c8, hA⟩ := zands_c hA
    obtain ⟨c9, hA⟩ := zands_c hA
    obtain ⟨c10, hA⟩ := zands_c hA
    obtain ⟨c11, hA⟩ := zands_c hA
    obtain ⟨c12, hA⟩ := zands_c hA
    obtain ⟨c13, hA⟩ := zands_c hA
    obtain ⟨c14, hA⟩ := zands_c hA
    obtain ⟨c15, hA⟩ := zands_c hA
    obtain ⟨c16, hA⟩ := zands_c hA
    have e0 : i < h.2.1 := Nat.le_of_ble_eq_true c0
    have e1 := Nat.eq_of_beq_eq_true c1
    have e2 := Nat.eq_of_beq_eq_true c2
    have e3 := Nat.eq_of_beq_eq_true c3
    subst e1
    subst e2
    subst e3
    have e4 : bh < h.2.1 := Nat.le_of_ble_eq_true c4
    have e5 : bi < h.2.1 := Nat.le_of_ble_eq_true c5
    have e6 := Nat.le_of_ble_eq_true c6
    have e7 := Nat.le_of_ble_eq_true c7
    have e8 : a < zpn lam := Nat.le_of_ble_eq_true c8
    have e9 : b < zpn lam := Nat.le_of_ble_eq_true c9
    have e10 := Nat.le_of_ble_eq_true c10
    have e11 : lam < 1048576 := Nat.le_of_ble_eq_true c11
    have e12 : x9 % 1048576 = lam := Nat.eq_of_beq_eq_true c12
    have e13 : zpn lam < l9 := Nat.le_of_ble_eq_true c13
    have e14 : x9 / 1048576 ≤ zps lam a := Nat.le_of_ble_eq_true c14
    have e15 : x9 / 1048576 ≤ zps lam b := Nat.le_of_ble_eq_true c15
    have n89 : bh ≠ bi := fun q => by
      rw [q, g9] at g8
      exact absurd (show (9 : Nat) = 8 from congrArg (fun c : zC => c.1) g8) (by decide)
    have ni8 : bh ≠ i := fun q => by
      rw [q, gi] at g8
      exact absurd (show (25 : Nat) = 8 from congrArg (fun c : zC => c.1) g8) (by decide)
    have ni9 : bi ≠ i := fun q => by
      rw [q, gi] at g9
      exact absurd (show (25 : Nat) = 9 from congrArg (fun c : zC => c.1) g9) (by decide)
    obtain ⟨w1, w2, w3⟩ := hH
    have q8 := w3 bh _ (List.getElem?_eq_getElem (by omega))
    rw [g8] at q8
    obtain ⟨L8, E8, M8⟩ := @zCell_mkd C cA _ 8 l8 lam _ (by decide) (by decide) q8
    have q9 := w3 bi _ (List.getElem?_eq_getElem (by omega))
    rw [g9] at q9
    obtain ⟨L9, E9, M9⟩ := @zCell_mkd C cA _ 9 l9 x9 _ (by decide) (by decide) q9
    have hpm : zPm (zpn lam) (fun i => zi (@zcF C 8 i)) := by
      have := M8.1 rfl
      rw [Nat.mod_eq_of_lt e11] at this
      exact this
    have h9 := M9.2.1 rfl
    rw [e12] at h9
    generalize hw8 : zpk (@zcF C 8) l8 = W8
    generalize hw9 : zpk (@zcF C 9) l9 = W9
    have A8 : ∀ j, j < l8 → zwd 40 W8 j = zi (@zcF C 8 j) := fun j hj => by rw [← hw8]; exact zpk_wd _ _ _ hj
    have A9 : ∀ j, j < l9 → zwd 40 W9 j = zi (@zcF C 9 j) := fun j hj => by rw [← hw9]; exact zpk_wd _ _ _ hj
    have hH1 : @zHp C d cA (zset d h.1 bh (0, l8, W8), h.2) ws := zHp_cell ⟨w1, w2, w3⟩ (List.getElem?_eq_getElem (show bh < ws.length by omega)) (by rw [E8]; exact @zCell_ik C cA _ 0 l8 W8 _ (by decide) L8 (by rw [← hw8]; exact zpk_AI _ _))
    have hH2 : @zHp C d cA (zset d (zset d h.1 bh (0, l8, W8)) bi (0, l9, W9), h.2) ws := zHp_cell (h := (zset d h.1 bh (0, l8, W8), h.2)) hH1 (List.getElem?_eq_getElem (show bi < ws.length by omega)) (by rw [E9]; exact @zCell_ik C cA _ 0 l9 W9 _ (by decide) L9 (by rw [← hw9]; exact zpk_AI _ _))
    have hT : ∃ T1 : zT d, T1 = zset d (zset d h.1 bh (0, l8, W8)) bi (0, l9, W9) := ⟨_, rfl⟩
    obtain ⟨T1, hT1⟩ := hT
    rw [← hT1] at hH2
    have k8 : zget d T1 bh = (0, l8, W8) := by rw [hT1, zget_set_ne d _ _ _ _ (by omega) (by omega) n89.symm, zget_set_same d _ _ _ (by omega)]
    have k9 : zget d T1 bi = (0, l9, W9) := by rw [hT1, zget_set_same d _ _ _ (by omega)]
    have ko : ∀ p, p < h.2.1 → p ≠ bh → p ≠ bi → zget d T1 p = zget d h.1 p := fun p hp n1 n2 => by rw [hT1, zget_set_ne d _ _ _ _ (by omega) (by omega) n2.symm, zget_set_ne d _ _ _ _ (by omega) (by omega) n1.symm]
    have ki : zget d T1 i = (25, len, x) := by rw [ko i e0 ni8.symm ni9.symm, gi]
    generalize hva : zi (@zcF C 8 a) = va
    generalize hvb : zi (@zcF C 8 b) = vb
    have lva : va < 4294967296 := by rw [← hva]; exact zi_lt _
    have lvb : vb < 4294967296 := by rw [← hvb]; exact zi_lt _
    obtain ⟨hX, hXe⟩ : ∃ hX : zH d, hX = (zset d (zset d T1 bh (0, l8, zup 40 W8 a vb)) bh (0, l8, zup 40 (zup 40 W8 a vb) b va), h.2) := ⟨_, rfl⟩
    refine ⟨C, (T1, h.2), fun r h2 => decide (r = zU ∧ h2 = hX), rfl, hH2, ?_, ?_⟩
    · show b_X9_swaps (fun r h2 => decide (r = zU ∧ h2 = hX)) [zR (i + 1), zI a, zI b, zU] [] (T1, h.2) = true
      unfold b_X9_swaps
      refine go_ald rfl ?_
      refine go_gfR ki x31 (by omega) ?_
      refine go_ild rfl ?_
      refine go_al1 k8 (by omega) ((A8 a (by omega)).trans hva) ?_
      refine go_ist (L' := [zR (i + 1), zI a, zI b, zI va]) (fun _ => rfl) ?_
      refine go_ald rfl ?_
      refine go_gfR ki x31 (by omega) ?_
      refine go_ild rfl ?_
      refine go_ald rfl ?_
      refine go_gfR ki x31 (by omega) ?_
      refine go_ild rfl ?_
      refine go_al1 k8 (by omega) ((A8 b (by omega)).trans hvb) ?_
      refine go_as1 k8 (by omega) lvb ?_
      refine go_ald rfl ?_
      refine go_gfR (show zget d (zset d T1 bh (0, l8, zup 40 W8 a vb)) i = (25, len, x) by rw [zget_set_ne d _ _ _ _ (by omega) (by omega) ni8]; exact ki) x31 (by omega) ?_
      refine go_ild rfl ?_
      refine go_ild rfl ?_
      refine go_as1 (show zget d (zset d T1 bh (0, l8, zup 40 W8 a vb)) bh = (0, l8, zup 40 W8 a vb) from zget_set_same d _ _ _ (by omega)) (by omega) lva ?_
      exact decide_eq_true ⟨rfl, hXe.symm⟩
    · intro C2 ws2 r h2 hp hH3
      obtain ⟨hr, hh⟩ := of_decide_eq_true hp
      subst hh
      subst hr
      have kX8 : zget d h2.1 bh = (0, l8, zup 40 (zup 40 W8 a vb) b va) := by rw [hXe]; exact zget_set_same d _ _ _ (by omega)
      have kX9 : zget d h2.1 bi = (0, l9, W9) := by rw [hXe]; show zget d (zset d (zset d T1 bh _) bh _) bi = _; rw [zget_set_ne d _ _ _ _ (by omega) (by omega) n89, zget_set_ne d _ _ _ _ (by omega) (by omega) n89]; exact k9
      have kXo : ∀ p, p < h.2.1 → p ≠ bh → p ≠ bi → zget d h2.1 p = zget d h.1 p := fun p hp n1 n2 => by rw [hXe]; show zget d (zset d (zset d T1 bh _) bh _) p = _; rw [zget_set_ne d _ _ _ _ (by omega) (by omega) n1.symm, zget_set_ne d _ _ _ _ (by omega) (by omega) n1.symm]; exact ko p hp n1 n2
      have hn2 : h2.2 = h.2 := by rw [hXe]
      have yw : ∀ j, j < l8 → zwd 40 (zup 40 (zup 40 W8 a vb) b va) j = if j = b then va else if j = a then vb else zi (@zcF C 8 j) := fun j hj => by
        have l40a : va < 2 ^ 40 := Nat.lt_of_lt_of_le lva (by decide)
        have l40b : vb < 2 ^ 40 := Nat.lt_of_lt_of_le lvb (by decide)
        by_cases q1 : j = b
        · rw [if_pos q1, q1, zwd_up_same _ _ _ _ l40a]
        · rw [if_neg q1, zwd_up_ne _ _ _ _ _ l40a (fun z => q1 z.symm)]
          by_cases q2 : j = a
          · rw [if_pos q2, q2, zwd_up_same _ _ _ _ l40b]
          · rw [if_neg q2, zwd_up_ne _ _ _ _ _ l40b (fun z => q2 z.symm)]
            exact A8 j hj
      obtain ⟨u1, u2, u3⟩ := hH3
      have hlen : ws2.length = h.2.1 := by rw [u1, hn2]
      have p8 := u3 bh _ (List.getElem?_eq_getElem (by omega))
      rw [kX8] at p8
      obtain ⟨-, f8, F8, R8⟩ := @zCell_i C2 cA _ 0 l8 _ _ p8 (by decide)
      have p9 := u3 bi _ (List.getElem?_eq_getElem (by omega))
      rw [kX9] at p9
      obtain ⟨-, f9, F9, R9⟩ := @zCell_i C2 cA _ 0 l9 _ _ p9 (by decide)
      have V8 : ∀ j, j < l8 → zi (f8 j) = if j = b then va else if j = a then vb else zi (@zcF C 8 j) := fun j hj => by
        rw [← yw j hj]
        refine zAI_e R8 hj ?_
        rw [yw j hj]
        split
        · exact lva
        · split
          · exact lvb
          · exact zi_lt _
      have V9 : ∀ j, j < l9 → zi (f9 j) = zi (@zcF C 9 j) := fun j hj => by
        rw [← A9 j hj]
        refine zAI_e R9 hj ?_
        rw [A9 j hj]
        exact zi_lt _
      obtain ⟨C3, hC3⟩ : ∃ C3 : zCh, C3 = ⟨((fun q => if q = 8 then f8 else if q = 9 then f9 else @zcF C2 q, @zcT C2) : (Nat → Nat → Int32) × Nat)⟩ := ⟨_, rfl⟩
      have d8 : @zcF C3 8 = f8 := by rw [hC3]; rfl
      have d9 : @zcF C3 9 = f9 := by rw [hC3]; rfl
      have d10 : @zcF C3 10 = @zcF C2 10 := by rw [hC3]; rfl
      have d11 : @zcF C3 11 = @zcF C2 11 := by rw [hC3]; rfl
      have dT : @zcT C3 = @zcT C2 := by rw [hC3]; rfl
      clear hC3
      refine ⟨C3, zU, h, hg, ⟨hlen, w2, fun p y hp' => ?_⟩, fun _ => rfl, fun x hx G' => absurd (hx G') (fun q => @zRep_U G' _ _ q)⟩
      have hpl : p < ws2.length := (List.getElem?_eq_some_iff.mp hp').1
      by_cases ep8 : p = bh
      · subst ep8
        rw [List.getElem?_eq_getElem hpl] at hp'
        cases hp'
        rw [g8, F8]
        refine @zCell_km C3 cA _ 8 l8 lam f8 (by decide) (by decide) L8 d8.symm ⟨fun _ => ?_, fun q => absurd q (by decide), fun q => absurd q (by decide), fun q => absurd q (by decide)⟩
        rw [Nat.mod_eq_of_lt e11]
        refine zPm_c (fun c hc => ?_) (zPm_swap hpm e8 e9)
        show _ = zi (@zcF C3 8 c)
        rw [d8, V8 c (by omega), hva, hvb]
      · by_cases ep9 : p = bi
        · subst ep9
          rw [List.getElem?_eq_getElem hpl] at hp'
          cases hp'
          rw [g9, F9]
          refine @zCell_km C3 cA _ 9 l9 x9 f9 (by decide) (by decide) L9 d9.symm ⟨fun q => absurd q (by decide), fun _ => ?_, fun q => absurd q (by decide), fun q => absurd q (by decide)⟩
          rw [e12]
          intro c hc hq
          show zi (@zcF C3 9 (zi (@zcF C3 8 c))) = zrw lam c
          rw [d8, d9]
          have nb : c ≠ b := fun z => by rw [z] at hq; omega
          have na : c ≠ a := fun z => by rw [z] at hq; omega
          have hv := V8 c (by omega)
          rw [if_neg nb, if_neg na] at hv
          have hrg := (zPm_rg hpm hc).2
          have hrg : zi (@zcF C 8 c) ≤ zpn lam := hrg
          rw [hv, V9 _ (by omega)]
          exact h9 c hc hq
        · have hz := zall_t c16 p (by omega)
          have hz : cond (Nat.beq p bh) true (cond (Nat.beq p bi) true (znk 8 9 (zget d h.1 p))) = true := hz
          have f1 : Nat.beq p bh = false := by
            cases z : Nat.beq p bh
            · rfl
            · exact absurd (Nat.eq_of_beq_eq_true z) ep8
          have f2 : Nat.beq p bi = false := by
            cases z : Nat.beq p bi
            · rfl
            · exact absurd (Nat.eq_of_beq_eq_true z) ep9
          rw [f1, f2] at hz
          have hz : znk 8 9 (zget d h.1 p) = true := hz
          have hn := znk_t hz
          have hc := u3 p y hp'
          rw [kXo p (by omega) ep8 ep9] at hc
          generalize zget d h.1 p = cc at hn hc ⊢
          exact zCell_gh (C := C2) dT (fun z => absurd z (by omega)) (fun z => absurd z (by omega)) (fun _ => d10) (fun _ => ⟨d11, d10⟩) hc)
end SWAPS
