/-! a long local against 0, the other way round -/
section OPS
variable {d : Nat} {X : zM} {fr : Nat} {P : zP d} {pc pc' tgt : Nat} {off : Int} {k kt kf : zK d}
theorem sm_lzne [G : zGh] {n : Nat} {z0 : Fin 2} (row1 : ∀ {p : Program} {l : Launch} {e : Env} {R : Room} {s : State} {m : MethodId} {args : Array Value} {below : List Frame} {meth : Method} {c : Code} {H : Heap} {locs : List Loc} {cells slots : Nat} {Q : State → Prop} {ls : Array Slot} {rest : List Value} {x : Int64}, p.tables.exec = Jvm.exec → c.code = X.2.1 → ls[n]? = some (.val (.long x)) → W p l e R s m args below meth c H locs cells slots Q (F0 m pc' ls (.long x :: rest)) → W p l e R s m args below meth c H locs cells slots Q (F0 m pc ls rest)) (d2 : decode X.2.1 pc' = .ok (.lconst z0, 1)) (ez : (z0 : Nat) = 0) (d3 : decode X.2.1 (pc' + 1) = .ok (.lcmp, 1)) (d4 : decode X.2.1 (pc' + 1 + 1) = .ok (.ifCond .ne off, 3)) (ht : ((pc' + 1 + 1 : Nat) : Int) + off = (tgt : Int)) (h2 : zSim X fr P tgt kf) (h1 : zSim X fr P (pc' + 1 + 1 + 3) kt) : zSim X fr P pc (xlz n kt kf) := by
  intro Ch cA D ad0 A MC MS p l e s m args below meth c ls st H locs cells slots L S h Cx hk R0
  obtain ⟨ws, hHp, hpre, hP, hD, hS, hL, hst, hcb, hsb⟩ := R0
  obtain ⟨v, hv, hk2⟩ := znth_t n hk
  match v, hv, hk2 with
  | .inr (.inr (.inl a)), hv, hk2 =>
    obtain ⟨x, hx, i, rfl, hi⟩ := zLoc_at hL hv (by intro q; cases q)
    have hk2 : cond (Nat.ble 18446744073709551616 a) (and (kt L S h) (zst (Nat.succ n) zU L (fun L => zst n (zL 1606938044258990275541962092341162602527285592350703190540288) L (fun L => kf L S h)))) (cond (Nat.beq a 0) (kt L S h) (kf L S h)) = true := hk2
    have e0 : Int64.ofNat ((z0 : Nat)) = 0 := by rw [ez]; rfl
    have key : (i = 0 → kt L S h = true) ∧ (¬ i = 0 → kf L S h = true ∨ zst (Nat.succ n) zU L (fun L => zst n (zL 1606938044258990275541962092341162602527285592350703190540288) L (fun L => kf L S h)) = true) := by
      cases hb : Nat.ble 18446744073709551616 a
      · rw [hb, cond_false] at hk2
        have hia := hi.1 (zble_f hb)
        cases hb0 : Nat.beq a 0
        · rw [hb0, cond_false] at hk2
          refine ⟨fun q => ?_, fun _ => Or.inl hk2⟩
          rw [q, zj_z] at hia
          rw [← hia] at hb0
          exact absurd hb0 (by decide)
        · rw [hb0, cond_true] at hk2
          refine ⟨fun _ => hk2, fun q => absurd (zj_inj (i := i) (j := 0) ?_) q⟩
          rw [hia, Nat.eq_of_beq_eq_true hb0]
          rfl
      · rw [hb, cond_true, Bool.and_eq_true] at hk2
        exact ⟨fun _ => hk2.1, fun _ => Or.inr hk2.2⟩
    refine row1 Cx.1 Cx.2.1 hx ?_
    refine lv_lconst Cx.1 Cx.2.1 d2 rfl ?_
    refine W.lcmp Cx.1 Cx.2.1 d3 ?_
    refine lv_if_ne Cx.1 Cx.2.1 d4 ht (fun hq => ?_) (fun hq => ?_)
    rotate_left
    · have hz : i = 0 := by
        rw [e0] at hq
        unfold lg_cmp at hq
        by_cases c1 : 0 < i
        · rw [if_pos c1] at hq; exact absurd hq (by decide)
        · rw [if_neg c1] at hq
          by_cases c2 : i = 0
          · exact c2
          · rw [if_neg c2] at hq; exact absurd hq (by decide)
      exact h1 Ch cA D ad0 A MC MS p l e s m args below meth c ls _ H locs cells slots L _ h Cx (key.1 hz) ⟨ws, hHp, hpre, hP, hD, hS, hL, hst, hcb, hsb⟩
    · have hz : ¬ i = 0 := fun q => hq (by
        rw [e0, q]
        rfl)
      rcases key.2 hz with g | g
      · exact h2 Ch cA D ad0 A MC MS p l e s m args below meth c ls _ H locs cells slots L _ h Cx g ⟨ws, hHp, hpre, hP, hD, hS, hL, hst, hcb, hsb⟩
      · obtain ⟨L1, y1, y2, y3, g⟩ := zst_t (Nat.succ n) g
        obtain ⟨L2, w1, w2, w3, g⟩ := zst_t n g
        obtain ⟨b1, lv, b2, b3⟩ := hL
        have hL2 : zLoc (zad cA ws) X.2.2.1 L2 ls := by
          refine ⟨by omega, lv, b2, fun q w hw => ?_⟩
          rw [w3 q] at hw
          unfold zsta at hw
          by_cases c1 : q = n
          · rw [if_pos c1] at hw
            cases hw
            rw [c1]
            rcases b3 n _ hv with z | ⟨x, hx', i', rfl, hi'⟩
            · cases z
            · have hl2 := b2.2.2 _ hx'
              rw [show ((n, Value.long i') : Nat × Value).1 = n from rfl, hx] at hl2
              cases hl2
              refine Or.inr ⟨_, hx', i, rfl, fun z => absurd z (by decide), fun _ => ?_⟩
              have hp : 0 < zj i := Nat.pos_of_ne_zero (fun z => hz (zj_inj (by rw [z]; rfl)))
              have hl := zj_lt i
              exact ⟨by show 1 ≤ zj i; omega, by show zj i < 18446744073709551616; omega⟩
          · rw [if_neg c1] at hw
            have y3q := y3 q
            unfold zsta at y3q
            have rest : ∀ u, L1[q]? = some u → u = zU ∨ ∃ x : Value, (q, x) ∈ lv ∧ zRep (zad cA ws) u x := by
              intro u hu
              rw [y3q] at hu
              by_cases c2 : q = Nat.succ n
              · rw [if_pos c2] at hu
                cases hu
                exact Or.inl rfl
              · rw [if_neg c2] at hu
                by_cases c3 : q + 1 = Nat.succ n
                · exact absurd (show q = n by omega) c1
                · rw [if_neg c3] at hu
                  exact b3 q u hu
            by_cases c4 : q + 1 = n
            · rw [if_pos c4] at hw
              obtain ⟨u, hu, hw2⟩ := Option.map_eq_some_iff.mp hw
              rcases rest u hu with z | ⟨x, hx', hr⟩
              · rw [z] at hw2
                exact Or.inl hw2.symm
              · match u, hr, hw2 with
                | .inl b, hr, hw2 => exact Or.inr ⟨x, hx', by rw [← hw2]; exact hr⟩
                | .inr (.inl b), hr, hw2 => exact Or.inr ⟨x, hx', by rw [← hw2]; exact hr⟩
                | .inr (.inr (.inl b)), hr, hw2 => exact Or.inl hw2.symm
                | .inr (.inr (.inr b)), hr, hw2 => exact Or.inr ⟨x, hx', by rw [← hw2]; exact hr⟩
            · rw [if_neg c4] at hw
              exact rest w hw
        exact h2 Ch cA D ad0 A MC MS p l e s m args below meth c ls _ H locs cells slots L2 _ h Cx g ⟨ws, hHp, hpre, hP, hD, hS, hL2, hst, hcb, hsb⟩
end OPS
