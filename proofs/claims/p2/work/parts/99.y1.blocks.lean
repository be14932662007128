/-! blocks of a world: a part of it, and parts put together -/
section BLOCK
/-- a part of a world -/
noncomputable def zsubB {d ds : Nat} (φ : List Nat) (h : zH d) (hs : zH ds) : Bool := cond (Nat.ble hs.2.1 (Nat.pow 2 ds)) (cond (Nat.beq (zlen φ) hs.2.1) (cond (znd h.2.1 φ) (cond (zmtL φ h.1 hs.1 φ 0) (Nat.ble (Nat.add h.2.1 hs.2.1) 1000000) false) false) false) false
def zsubw (φ : List Nat) (ws : va_W) : va_W := φ.map (fun b => (ws[b]?).getD ((0, .inr (0, [])) : Nat × va_E))
theorem zHp_sub [zCh] {d ds : Nat} {cA : Nat → ClassId} {h : zH d} {hs : zH ds} {ws : va_W} {φ : List Nat} (hk : zsubB φ h hs = true) (hH : zHp cA h ws) : zHp (zcg cA (zsubw φ ws)) hs (zsubw φ ws) ∧ ∀ (p : Nat) (q : Nat × va_E), (zsubw φ ws)[p]? = some q → ∃ b, φ[p]? = some b ∧ ws[b]? = some q := by
  obtain ⟨c0, hk⟩ := zcnd_t hk
  obtain ⟨c1, hk⟩ := zcnd_t hk
  obtain ⟨c2, hk⟩ := zcnd_t hk
  obtain ⟨c3, c4⟩ := zcnd_t hk
  have m0 : hs.2.1 ≤ 2 ^ ds := Nat.le_of_ble_eq_true c0
  have m1 : φ.length = hs.2.1 := by rw [← zlen_eq]; exact Nat.eq_of_beq_eq_true c1
  have m4 : h.2.1 + hs.2.1 ≤ 1000000 := Nat.le_of_ble_eq_true c4
  obtain ⟨n1, n2⟩ := znd_t c2
  have hN : ws.length = h.2.1 := hH.1
  have hwl : (zsubw φ ws).length = φ.length := List.length_map ..
  have hφ : ∀ (p b : Nat), φ[p]? = some b → b < 549755813887 ∧ p < 549755813887 ∧ ∃ q, ws[b]? = some q ∧ (zsubw φ ws)[p]? = some q := by
    intro p b hp
    have hb := n1 p b hp
    have hpl := (List.getElem?_eq_some_iff.mp hp).1
    have e : ws[b]? = some ws[b] := List.getElem?_eq_getElem (by omega)
    refine ⟨by omega, by omega, ws[b], e, ?_⟩
    unfold zsubw
    rw [List.getElem?_map, hp]
    simp [e]
  have hφr : ∀ (p : Nat) (q : Nat × va_E), (zsubw φ ws)[p]? = some q → ∃ b, φ[p]? = some b ∧ ws[b]? = some q := by
    intro p q hp
    have hpl := (List.getElem?_eq_some_iff.mp hp).1
    have e : φ[p]? = some φ[p] := List.getElem?_eq_getElem (by omega)
    obtain ⟨-, -, q', g1, g2⟩ := hφ p _ e
    rw [hp] at g2
    cases g2
    exact ⟨_, e, g1⟩
  refine ⟨⟨by omega, m0, fun i q hi => ?_⟩, hφr⟩
  obtain ⟨b, hb, hq⟩ := hφr i q hi
  have hm := zmtL_t φ 0 c3 i b hb
  rw [Nat.zero_add] at hm
  obtain ⟨qa, qe⟩ := q
  exact zmt_ok hφ hi (hH.2.2 b _ hq) hm
/-- what an opaque word of a block becomes: the same (where both ghosts agree), or a cell -/
noncomputable def zjE (ok : Nat → Bool) (w w3 : Nat) (E : List (Nat × Nat)) : Bool := List.rec (motive := fun _ => Bool) (cond (Nat.beq w3 w) (ok w) false) (fun e _ r => Prod.rec (motive := fun _ => Bool) (fun w0 k => cond (Nat.beq w w0) (Nat.beq w3 k) r) e) E
theorem zjE_t {ok : Nat → Bool} {w w3 : Nat} : ∀ {E : List (Nat × Nat)}, zjE ok w w3 E = true → (w3 = w ∧ ok w = true) ∨ (w, w3) ∈ E
  | [], h => by
    have h : cond (Nat.beq w3 w) (ok w) false = true := h
    obtain ⟨h1, h2⟩ := zcnd_t h
    exact Or.inl ⟨Nat.eq_of_beq_eq_true h1, h2⟩
  | (w0, k) :: E, h => by
    have h : cond (Nat.beq w w0) (Nat.beq w3 k) (zjE ok w w3 E) = true := h
    cases hb : Nat.beq w w0
    · rw [hb, cond_false] at h
      rcases zjE_t h with q | q
      · exact Or.inl q
      · exact Or.inr (List.mem_cons_of_mem _ q)
    · rw [hb, cond_true] at h
      rw [Nat.eq_of_beq_eq_true hb]
      rw [Nat.eq_of_beq_eq_true h]
      exact Or.inr List.mem_cons_self
noncomputable def zjw (ok : Nat → Bool) (o : Nat) (E : List (Nat × Nat)) (isR : Bool) (w w3 : Nat) : Bool := cond isR (cond (Nat.ble 549755813888 w) (zjE ok w w3 E) (Nat.rec (motive := fun _ => Bool) (Nat.beq w3 0) (fun _ _ => cond (Nat.beq w3 (Nat.add w o)) (Nat.ble w3 549755813887) false) w)) (cond (Nat.beq w3 w) (cond (Nat.ble 549755813888 w) (ok w) (Nat.ble w 274877906943)) false)
noncomputable def zjC (ok : Nat → Bool) (o : Nat) (E : List (Nat × Nat)) (c c3 : zC) : Bool := Prod.rec (motive := fun _ => Bool) (fun kd v => Prod.rec (motive := fun _ => Bool) (fun len x => Prod.rec (motive := fun _ => Bool) (fun kd3 v3 => Prod.rec (motive := fun _ => Bool) (fun len3 x3 => cond (Nat.beq kd kd3) (cond (Nat.beq len len3) (cond (Nat.ble kd 2) (Nat.beq x x3) (cond (Nat.ble kd 7) (zall len (fun j => zjw ok o E true (zwd 40 x j) (zwd 40 x3 j))) (cond (Nat.ble 16 kd) (zall (zN (Nat.sub kd 16)) (fun j => zjw ok o E (zisR (zfty (Nat.sub kd 16) j)) (zwd 40 x j) (zwd 40 x3 j))) false))) false) false) v3) c3) v) c
variable {cB c3 : Nat → Nat} {wB w3 : va_W} {ok : Nat → Bool} {o : Nat} {E : List (Nat × Nat)}
theorem zjw_R {w v : Nat} {r : Option Nat} (had : ∀ k a, (zad cB wB).1[k]? = some a → (zad c3 w3).1[k + o]? = some a) (hok : ∀ w, ok w = true → c3 w = cB w) (hE : ∀ w v, (w, v) ∈ E → v < 549755813888 ∧ zRf (zad c3 w3) v (zop cB w)) (h : zjw ok o E true w v = true) (hr : zRw (zad cB wB) w r) : zRw (zad c3 w3) v r := by
  unfold zjw at h
  rw [cond_true] at h
  cases hb : Nat.ble 549755813888 w
  · rw [hb, cond_false] at h
    have hw := zble_f hb
    rcases hr with ⟨-, hr⟩ | ⟨z, -⟩
    · cases w with
      | zero =>
        have e : v = 0 := Nat.eq_of_beq_eq_true h
        subst e
        rcases hr with ⟨-, z⟩ | ⟨k, a, z, -⟩
        · exact Or.inl ⟨by decide, Or.inl ⟨rfl, z⟩⟩
        · cases z
      | succ k =>
        have h : cond (Nat.beq v (k + 1 + o)) (Nat.ble v 549755813887) false = true := h
        obtain ⟨h1, h2⟩ := zcnd_t h
        have e := Nat.eq_of_beq_eq_true h1
        have h2 := Nat.le_of_ble_eq_true h2
        rcases hr with ⟨z, -⟩ | ⟨k', a, z1, z2, z3⟩
        · cases z
        · have ek : k = k' := by omega
          subst ek
          exact Or.inl ⟨by omega, Or.inr ⟨k + o, a, by omega, had k a z2, z3⟩⟩
    · omega
  · rw [hb, cond_true] at h
    have hw := Nat.le_of_ble_eq_true hb
    rcases hr with ⟨z, -⟩ | ⟨-, hr⟩
    · omega
    · have hr : r = zop cB w := hr
      rcases zjE_t h with ⟨e, q⟩ | q1
      · rw [e]
        refine Or.inr ⟨hw, ?_⟩
        show r = zop c3 w
        rw [hr]
        unfold zop
        rw [Nat.max_eq_left (by omega), hok w q]
      · obtain ⟨g1, g2⟩ := hE w v q1
        rw [hr]
        exact Or.inl ⟨g1, g2⟩
theorem zjC_ok {C1 C2 : zCh} {c c' : zC} {e : va_E} (hty : ∀ i, i < 8 → c3 i = cB i) (had : ∀ k a, (zad cB wB).1[k]? = some a → (zad c3 w3).1[k + o]? = some a) (hok : ∀ w, ok w = true → c3 w = cB w) (hE : ∀ w v, (w, v) ∈ E → v < 549755813888 ∧ zRf (zad c3 w3) v (zop cB w)) (hok9 : ok 549755813888 = false) (h : zjC ok o E c c' = true) (hc : @zCell C1 cB (zad cB wB) c e) : @zCell C2 c3 (zad c3 w3) c' e := by
  obtain ⟨kd, len, x⟩ := c
  obtain ⟨kd3, len3, x3⟩ := c'
  have h : cond (Nat.beq kd kd3) (cond (Nat.beq len len3) (cond (Nat.ble kd 2) (Nat.beq x x3) (cond (Nat.ble kd 7) (zall len (fun j => zjw ok o E true (zwd 40 x j) (zwd 40 x3 j))) (cond (Nat.ble 16 kd) (zall (zN (Nat.sub kd 16)) (fun j => zjw ok o E (zisR (zfty (Nat.sub kd 16) j)) (zwd 40 x j) (zwd 40 x3 j))) false))) false) false = true := h
  obtain ⟨h1, hA⟩ := zcnd_t h
  obtain ⟨h2, hB⟩ := zcnd_t hA
  have e1 := Nat.eq_of_beq_eq_true h1
  have e2 := Nat.eq_of_beq_eq_true h2
  clear h h1 h2 hA
  subst e1
  subst e2
  clear h
  have h := hB
  clear hB
  cases k2 : Nat.ble kd 2
  · rw [k2, cond_false] at h
    have q2 := zble_f k2
    cases k7 : Nat.ble kd 7
    · rw [k7, cond_false] at h
      obtain ⟨k16, h⟩ := zcnd_t h
      have q16 := Nat.le_of_ble_eq_true k16
      obtain ⟨fs, rfl, hl, hf⟩ := @zCell_obj C1 _ _ _ _ _ (kd - 16) _ hc (by omega)
      have hek : kd = 16 + (kd - 16) := by omega
      have hw := zall_t h
      have key : @zCell C2 c3 (zad c3 w3) (16 + (kd - 16), len, x3) (.inr (kd - 16, fs)) := @zCell_ok C2 _ _ _ _ _ _ hl (fun j v hv => by
        have hj : j < zN (kd - 16) := by rw [← hl]; exact (List.getElem?_eq_some_iff.mp hv).1
        have hwj : zjw ok o E (zisR (zfty (kd - 16) j)) (zwd 40 x j) (zwd 40 x3 j) = true := hw j hj
        have hfj := hf j v hv
        unfold zFl at hfj ⊢
        cases hz : zisR (zfty (kd - 16) j)
        · rw [hz] at hwj
          rw [hz, cond_false] at hfj
          rw [cond_false]
          unfold zjw at hwj
          rw [cond_false] at hwj
          obtain ⟨g1, g2⟩ := zcnd_t hwj
          rw [Nat.eq_of_beq_eq_true g1]
          obtain ⟨i, r1, r2, r3, r4⟩ := hfj
          cases hb : Nat.ble 549755813888 (zwd 40 x j)
          · rw [hb, cond_false] at g2
            have b1 := zble_f hb
            have b2 := Nat.le_of_ble_eq_true g2
            exact ⟨i, r1, ⟨r2.1, fun z => absurd z (by omega)⟩, fun z => absurd z (by omega), fun z => absurd z (by omega)⟩
          · rw [hb, cond_true] at g2
            have b1 := Nat.le_of_ble_eq_true hb
            have b9 : zwd 40 x j ≠ 549755813888 := fun z => by rw [z, hok9] at g2; cases g2
            refine ⟨i, r1, ⟨r2.1, fun z => absurd z b9⟩, fun z => ?_, fun _ z => absurd z (by omega)⟩
            show zi i = c3 (zwd 40 x j)
            rw [hok _ g2]
            exact r3 z
        · rw [hz] at hwj
          rw [hz, cond_true] at hfj
          rw [cond_true]
          obtain ⟨r, rfl, hr⟩ := hfj
          exact ⟨r, rfl, zjw_R had hok hE hwj hr⟩)
      rw [← hek] at key
      exact key
    · rw [k7, cond_true] at h
      have q7 := Nat.le_of_ble_eq_true k7
      obtain ⟨hl, f, rfl, hf⟩ := @zCell_r C1 _ _ _ _ _ _ hc (by omega) (by omega)
      have hw := zall_t h
      have key := @zCell_rk C2 c3 (zad c3 w3) kd len x3 f (by omega) (by omega) hl (fun j hj => zjw_R had hok hE (hw j hj) (hf j hj))
      rw [hty kd (by omega)] at key
      exact key
  · rw [k2, cond_true] at h
    have q2 := Nat.le_of_ble_eq_true k2
    rw [← Nat.eq_of_beq_eq_true h]
    exact zCell_lo q2 hc (fun i hi => hty i (by omega))
noncomputable def zjB {d1 d3 : Nat} (ok : Nat → Bool) (o : Nat) (E : List (Nat × Nat)) (h1 : zH d1) (H3 : zH d3) : Bool := zall h1.2.1 (fun i => zjC ok o E (zget d1 h1.1 i) (zget d3 H3.1 (Nat.add o i)))
theorem zjB_ok {C1 C2 : zCh} {d1 d3 : Nat} {h1 : zH d1} {H3 : zH d3} (hty : ∀ i, i < 8 → c3 i = cB i) (had : ∀ k a, (zad cB wB).1[k]? = some a → (zad c3 w3).1[k + o]? = some a) (hok : ∀ w, ok w = true → c3 w = cB w) (hE : ∀ w v, (w, v) ∈ E → v < 549755813888 ∧ zRf (zad c3 w3) v (zop cB w)) (hok9 : ok 549755813888 = false) (hk : zjB ok o E h1 H3 = true) (hB : @zHp C1 d1 cB h1 wB) : ∀ (i : Nat) (q : Nat × va_E), wB[i]? = some q → @zCell C2 c3 (zad c3 w3) (zget d3 H3.1 (o + i)) q.2 := fun i q hi => zjC_ok hty had hok hE hok9 (zall_t hk i (by rw [← hB.1]; exact (List.getElem?_eq_some_iff.mp hi).1)) (hB.2.2 i q hi)
end BLOCK
/-- three blocks (the last two may be empty) make a world -/
theorem zHp_join {C C1 C2 C3 : zCh} {d1 d2 d3 d : Nat} {h1 : zH d1} {h2 : zH d2} {h3 : zH d3} {HH : zH d} {cA1 cA2 cA3 cA : Nat → Nat} {w1 w2 w3 : va_W} {ok1 ok2 ok3 : Nat → Bool} {E : List (Nat × Nat)}
    (H1 : @zHp C1 d1 cA1 h1 w1) (H2 : @zHp C2 d2 cA2 h2 w2) (H3 : @zHp C3 d3 cA3 h3 w3) (hn : HH.2.1 = h1.2.1 + h2.2.1 + h3.2.1) (hd : HH.2.1 ≤ 2 ^ d)
    (t1 : ∀ i, i < 8 → cA i = cA1 i) (t2 : ∀ i, i < 8 → cA i = cA2 i) (t3 : ∀ i, i < 8 → cA i = cA3 i) (k1 : ∀ w, ok1 w = true → cA w = cA1 w) (k2 : ∀ w, ok2 w = true → cA w = cA2 w) (k3 : ∀ w, ok3 w = true → cA w = cA3 w) (n1 : ok1 549755813888 = false) (n2 : ok2 549755813888 = false) (n3 : ok3 549755813888 = false)
    (hE : ∀ w v, (w, v) ∈ E → v < 549755813888 ∧ zRf (zad cA (w1 ++ w2 ++ w3)) v (zop cA1 w))
    (b1 : zjB ok1 0 E h1 HH = true) (b2 : zjB ok2 h1.2.1 [] h2 HH = true) (b3 : zjB ok3 (h1.2.1 + h2.2.1) [] h3 HH = true) : @zHp C d cA HH (w1 ++ w2 ++ w3) := by
  have l1 : w1.length = h1.2.1 := H1.1
  have l2 : w2.length = h2.2.1 := H2.1
  have l3 : w3.length = h3.2.1 := H3.1
  have a1 : ∀ k a, (zad cA1 w1).1[k]? = some a → (zad cA (w1 ++ w2 ++ w3)).1[k + 0]? = some a := by
    intro k a h
    have h : (w1.map (fun q => q.1))[k]? = some a := h
    show ((w1 ++ w2 ++ w3).map (fun q => q.1))[k + 0]? = some a
    rw [List.map_append, List.map_append, Nat.add_zero, List.append_assoc, List.getElem?_append_left (List.getElem?_eq_some_iff.mp h).1]
    exact h
  have a2 : ∀ k a, (zad cA2 w2).1[k]? = some a → (zad cA (w1 ++ w2 ++ w3)).1[k + h1.2.1]? = some a := by
    intro k a h
    have h : (w2.map (fun q => q.1))[k]? = some a := h
    show ((w1 ++ w2 ++ w3).map (fun q => q.1))[k + h1.2.1]? = some a
    have hk := (List.getElem?_eq_some_iff.mp h).1
    rw [List.map_append, List.map_append, List.append_assoc, List.getElem?_append_right (by rw [List.length_map]; omega), List.length_map, show k + h1.2.1 - w1.length = k by omega, List.getElem?_append_left hk]
    exact h
  have a3 : ∀ k a, (zad cA3 w3).1[k]? = some a → (zad cA (w1 ++ w2 ++ w3)).1[k + (h1.2.1 + h2.2.1)]? = some a := by
    intro k a h
    have h : (w3.map (fun q => q.1))[k]? = some a := h
    show ((w1 ++ w2 ++ w3).map (fun q => q.1))[k + (h1.2.1 + h2.2.1)]? = some a
    rw [List.map_append, List.map_append, List.getElem?_append_right (by rw [List.length_append, List.length_map, List.length_map]; omega), List.length_append, List.length_map, List.length_map, show k + (h1.2.1 + h2.2.1) - (w1.length + w2.length) = k by omega]
    exact h
  refine ⟨by rw [List.length_append, List.length_append]; omega, hd, fun i q hi => ?_⟩
  by_cases c1 : i < w1.length
  · have hi1 : w1[i]? = some q := by
      rw [List.append_assoc, List.getElem?_append_left c1] at hi
      exact hi
    have key := zjB_ok (C2 := C) t1 a1 k1 hE n1 b1 H1 i q hi1
    rw [Nat.zero_add] at key
    exact key
  · by_cases c2 : i < w1.length + w2.length
    · have hi2 : w2[i - w1.length]? = some q := by
        rw [List.append_assoc, List.getElem?_append_right (by omega), List.getElem?_append_left (by omega)] at hi
        exact hi
      have key := zjB_ok (C2 := C) t2 a2 k2 (fun w v h => by cases h) n2 b2 H2 (i - w1.length) q hi2
      rw [show h1.2.1 + (i - w1.length) = i by omega] at key
      exact key
    · have hi3 : w3[i - (w1.length + w2.length)]? = some q := by
        rw [List.getElem?_append_right (by rw [List.length_append]; omega), List.length_append] at hi
        exact hi
      have key := zjB_ok (C2 := C) t3 a3 k3 (fun w v h => by cases h) n3 b3 H3 (i - (w1.length + w2.length)) q hi3
      rw [show h1.2.1 + h2.2.1 + (i - (w1.length + w2.length)) = i by omega] at key
      exact key
