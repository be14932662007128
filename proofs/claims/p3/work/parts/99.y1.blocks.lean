/-! blocks of a world: a part of it, and parts put together -/
section BLOCK
/-- a part of a world -/
noncomputable def zsubB {d ds : Nat} (φ : List Nat) (h : zH d) (hs : zH ds) : Bool := cond (Nat.ble hs.2.1 (Nat.pow 2 ds)) (cond (Nat.beq (zlen φ) hs.2.1) (cond (znd h.2.1 φ) (cond (zmtL φ h.1 hs.1 φ 0) (Nat.ble (Nat.add h.2.1 hs.2.1) 1000000) false) false) false) false
def zsubw (φ : List Nat) (ws : va_W) : va_W := φ.map (fun b => (ws[b]?).getD ((0, .inr (0, [])) : Nat × va_E))
theorem zHp_sub [zCh] {d ds : Nat} {cA : Nat → ClassId} {h : zH d} {hs : zH ds} {ws : va_W} {φ : List Nat} (hk : zsubB φ h hs = true) (hH : zHp cA h ws) : zHp (zcg cA (zsubw φ ws)) hs (zsubw φ ws) ∧ ∀ (p : Nat) (q : Nat × va_E), (zsubw φ ws)[p]? = some q → ∃ b, φ[p]? = some b ∧ ws[b]? = some q := by
  obtain ⟨c0, hk⟩ := zcnd_t hk
  obtain ⟨c1, hk⟩ := zcnd_t hk
  obtain ⟨c2, hk⟩ := zcnd_t hk
  obtain ⟨c3, c4⟩ := zcnd_t hk
  have m0 : hs.2.1 ≤ 2 ^ ds := Nat.le_of_ble_eq_true c0
  have m1 : φ.length = hs.2.1 := by rw [← zlen_eq]; exact Nat.eq_of_beq_eq_true c1
  have m4 : h.2.1 + hs.2.1 ≤ 1000000 := Nat.le_of_ble_eq_true c4
  obtain ⟨n1, n2⟩ := znd_t c2
  have hN : ws.length = h.2.1 := hH.1
  have hwl : (zsubw φ ws).length = φ.length := List.length_map ..
  have hφ : ∀ (p b : Nat), φ[p]? = some b → b < 549755813887 ∧ p < 549755813887 ∧ ∃ q, ws[b]? = some q ∧ (zsubw φ ws)[p]? = some q := by
    intro p b hp
    have hb := n1 p b hp
    have hpl := (List.getElem?_eq_some_iff.mp hp).1
    have e : ws[b]? = some ws[b] := List.getElem?_eq_getElem (by omega)
    refine ⟨by omega, by omega, ws[b], e, ?_⟩
    unfold zsubw
    rw [List.getElem?_map, hp]
    simp [e]
  have hφr : ∀ (p : Nat) (q : Nat × va_E), (zsubw φ ws)[p]? = some q → ∃ b, φ[p]? = some b ∧ ws[b]? = some q := by
    intro p q hp
    have hpl := (List.getElem?_eq_some_iff.mp hp).1
    have e : φ[p]? = some φ[p] := List.getElem?_eq_getElem (by omega)
    obtain ⟨-, -, q', g1, g2⟩ := hφ p _ e
    rw [hp] at g2
    cases g2
    exact ⟨_, e, g1⟩
  refine ⟨⟨by omega, m0, fun i q hi => ?_⟩, hφr⟩
  obtain ⟨b, hb, hq⟩ := hφr i q hi
  have hm := zmtL_t φ 0 c3 i b hb
  rw [Nat.zero_add] at hm
  obtain ⟨qa, qe⟩ := q
  exact zmt_ok hφ hi (hH.2.2 b _ hq) hm
/-- what an opaque word of a block becomes: the same (where both ghosts agree), or a cell -/
noncomputable def zjE (ok : Nat → Bool) (w w3 : Nat) (E : List (Nat × Nat)) : Bool := List.rec (motive := fun _ => Bool) (cond (Nat.beq w3 w) (ok w) false) (fun e _ r => Prod.rec (motive := fun _ => Bool) (fun w0 k => cond (Nat.beq w w0) (Nat.beq w3 (Nat.succ k)) r) e) E
theorem zjE_t {ok : Nat → Bool} {w w3 : Nat} : ∀ {E : List (Nat × Nat)}, zjE ok w w3 E = true → (w3 = w ∧ ok w = true) ∨ ∃ k, (w, k) ∈ E ∧ w3 = k + 1
  | [], h => by
    have h : cond (Nat.beq w3 w) (ok w) false = true := h
    obtain ⟨h1, h2⟩ := zcnd_t h
    exact Or.inl ⟨Nat.eq_of_beq_eq_true h1, h2⟩
  | (w0, k) :: E, h => by
    have h : cond (Nat.beq w w0) (Nat.beq w3 (Nat.succ k)) (zjE ok w w3 E) = true := h
    cases hb : Nat.beq w w0
    · rw [hb, cond_false] at h
      rcases zjE_t h with q | ⟨k', q1, q2⟩
      · exact Or.inl q
      · exact Or.inr ⟨k', List.mem_cons_of_mem _ q1, q2⟩
    · rw [hb, cond_true] at h
      rw [Nat.eq_of_beq_eq_true hb]
      exact Or.inr ⟨k, List.mem_cons_self, Nat.eq_of_beq_eq_true h⟩
noncomputable def zjw (ok : Nat → Bool) (o : Nat) (E : List (Nat × Nat)) (isR : Bool) (w w3 : Nat) : Bool := cond isR (cond (Nat.ble 549755813888 w) (zjE ok w w3 E) (Nat.rec (motive := fun _ => Bool) (Nat.beq w3 0) (fun _ _ => cond (Nat.beq w3 (Nat.add w o)) (Nat.ble w3 549755813887) false) w)) (cond (Nat.beq w3 w) (cond (Nat.ble 549755813888 w) (ok w) (Nat.ble w 274877906943)) false)
noncomputable def zjC (ok : Nat → Bool) (o : Nat) (E : List (Nat × Nat)) (c c3 : zC) : Bool := Prod.rec (motive := fun _ => Bool) (fun kd v => Prod.rec (motive := fun _ => Bool) (fun len x => Prod.rec (motive := fun _ => Bool) (fun kd3 v3 => Prod.rec (motive := fun _ => Bool) (fun len3 x3 => cond (Nat.beq kd kd3) (cond (Nat.beq len len3) (cond (Nat.ble kd 2) (Nat.beq x x3) (cond (Nat.ble kd 7) (zall len (fun j => zjw ok o E true (zwd 40 x j) (zwd 40 x3 j))) (cond (Nat.ble 16 kd) (zall (zN (Nat.sub kd 16)) (fun j => zjw ok o E (zisR (zfty (Nat.sub kd 16) j)) (zwd 40 x j) (zwd 40 x3 j))) false))) false) false) v3) c3) v) c
variable {cB c3 : Nat → Nat} {wB w3 : va_W} {ok : Nat → Bool} {o : Nat} {E : List (Nat × Nat)}
theorem zjw_R {w v : Nat} {r : Option Nat} (had : ∀ k a, (zad cB wB).1[k]? = some a → (zad c3 w3).1[k + o]? = some a) (hok : ∀ w, ok w = true → c3 w = cB w) (hE : ∀ w k, (w, k) ∈ E → ∃ a, (zad c3 w3).1[k]? = some a ∧ zop cB w = some a) (hE9 : ∀ w k, (w, k) ∈ E → k < 549755813887) (h : zjw ok o E true w v = true) (hr : zRw (zad cB wB) w r) : zRw (zad c3 w3) v r := by
  unfold zjw at h
  rw [cond_true] at h
  cases hb : Nat.ble 549755813888 w
  · rw [hb, cond_false] at h
    have hw := zble_f hb
    rcases hr with ⟨-, hr⟩ | ⟨z, -⟩
    · cases w with
      | zero =>
        have e : v = 0 := Nat.eq_of_beq_eq_true h
        subst e
        rcases hr with ⟨-, z⟩ | ⟨k, a, z, -⟩
        · exact Or.inl ⟨by decide, Or.inl ⟨rfl, z⟩⟩
        · cases z
      | succ k =>
        have h : cond (Nat.beq v (k + 1 + o)) (Nat.ble v 549755813887) false = true := h
        obtain ⟨h1, h2⟩ := zcnd_t h
        have e := Nat.eq_of_beq_eq_true h1
        have h2 := Nat.le_of_ble_eq_true h2
        rcases hr with ⟨z, -⟩ | ⟨k', a, z1, z2, z3⟩
        · cases z
        · have ek : k = k' := by omega
          subst ek
          exact Or.inl ⟨by omega, Or.inr ⟨k + o, a, by omega, had k a z2, z3⟩⟩
    · omega
  · rw [hb, cond_true] at h
    have hw := Nat.le_of_ble_eq_true hb
    rcases hr with ⟨z, -⟩ | ⟨-, hr⟩
    · omega
    · have hr : r = zop cB w := hr
      rcases zjE_t h with ⟨e, q⟩ | ⟨k, q1, q2⟩
      · rw [e]
        refine Or.inr ⟨hw, ?_⟩
        show r = zop c3 w
        rw [hr]
        unfold zop
        rw [Nat.max_eq_left (by omega), hok w q]
      · obtain ⟨a, g1, g2⟩ := hE w k q1
        have := hE9 w k q1
        rw [q2]
        exact Or.inl ⟨by omega, Or.inr ⟨k, a, rfl, g1, by rw [hr, g2]⟩⟩
theorem zjC_ok [zCh] {c c' : zC} {e : va_E} (hty : ∀ i, i < 8 → c3 i = cB i) (had : ∀ k a, (zad cB wB).1[k]? = some a → (zad c3 w3).1[k + o]? = some a) (hok : ∀ w, ok w = true → c3 w = cB w) (hE : ∀ w k, (w, k) ∈ E → ∃ a, (zad c3 w3).1[k]? = some a ∧ zop cB w = some a) (hE9 : ∀ w k, (w, k) ∈ E → k < 549755813887) (h : zjC ok o E c c' = true) (hc : zCell cB (zad cB wB) c e) : zCell c3 (zad c3 w3) c' e := by
  obtain ⟨kd, len, x⟩ := c
  obtain ⟨kd3, len3, x3⟩ := c'
  have h : cond (Nat.beq kd kd3) (cond (Nat.beq len len3) (cond (Nat.ble kd 2) (Nat.beq x x3) (cond (Nat.ble kd 7) (zall len (fun j => zjw ok o E true (zwd 40 x j) (zwd 40 x3 j))) (cond (Nat.ble 16 kd) (zall (zN (Nat.sub kd 16)) (fun j => zjw ok o E (zisR (zfty (Nat.sub kd 16) j)) (zwd 40 x j) (zwd 40 x3 j))) false))) false) false = true := h
  obtain ⟨h1, hA⟩ := zcnd_t h
  obtain ⟨h2, hB⟩ := zcnd_t hA
  have e1 := Nat.eq_of_beq_eq_true h1
  have e2 := Nat.eq_of_beq_eq_true h2
  clear h h1 h2 hA
  subst e1
  subst e2
  clear h
  have h := hB
  clear hB
  cases k2 : Nat.ble kd 2
  · rw [k2, cond_false] at h
    have q2 := zble_f k2
    cases k7 : Nat.ble kd 7
    · rw [k7, cond_false] at h
      obtain ⟨k16, h⟩ := zcnd_t h
      have q16 := Nat.le_of_ble_eq_true k16
      obtain ⟨fs, rfl, hl, hf⟩ := zCell_obj (ci := kd - 16) hc (by omega)
      have hek : kd = 16 + (kd - 16) := by omega
      have hw := zall_t h
      have key : zCell c3 (zad c3 w3) (16 + (kd - 16), len, x3) (.inr (kd - 16, fs)) := zCell_ok hl (fun j v hv => by
        have hj : j < zN (kd - 16) := by rw [← hl]; exact (List.getElem?_eq_some_iff.mp hv).1
        have hwj : zjw ok o E (zisR (zfty (kd - 16) j)) (zwd 40 x j) (zwd 40 x3 j) = true := hw j hj
        have hfj := hf j v hv
        unfold zFl at hfj ⊢
        cases hz : zisR (zfty (kd - 16) j)
        · rw [hz] at hwj
          rw [hz, cond_false] at hfj
          rw [cond_false]
          unfold zjw at hwj
          rw [cond_false] at hwj
          obtain ⟨g1, g2⟩ := zcnd_t hwj
          rw [Nat.eq_of_beq_eq_true g1]
          obtain ⟨i, r1, r2, r3, r4⟩ := hfj
          cases hb : Nat.ble 549755813888 (zwd 40 x j)
          · rw [hb, cond_false] at g2
            have b1 := zble_f hb
            have b2 := Nat.le_of_ble_eq_true g2
            exact ⟨i, r1, r2, fun z => absurd z (by omega), fun z => absurd z (by omega)⟩
          · rw [hb, cond_true] at g2
            have b1 := Nat.le_of_ble_eq_true hb
            refine ⟨i, r1, r2, fun z => ?_, fun _ z => absurd z (by omega)⟩
            show zi i = c3 (zwd 40 x j)
            rw [hok _ g2]
            exact r3 z
        · rw [hz] at hwj
          rw [hz, cond_true] at hfj
          rw [cond_true]
          obtain ⟨r, rfl, hr⟩ := hfj
          exact ⟨r, rfl, zjw_R had hok hE hE9 hwj hr⟩)
      rw [← hek] at key
      exact key
    · rw [k7, cond_true] at h
      have q7 := Nat.le_of_ble_eq_true k7
      obtain ⟨hl, f, rfl, hf⟩ := zCell_r hc (by omega) (by omega)
      have hw := zall_t h
      have key := zCell_rk (cA := c3) (ad := zad c3 w3) (x := x3) (f := f) (kd := kd) (by omega) (by omega) hl (fun j hj => zjw_R had hok hE hE9 (hw j hj) (hf j hj))
      rw [hty kd (by omega)] at key
      exact key
  · rw [k2, cond_true] at h
    have q2 := Nat.le_of_ble_eq_true k2
    rw [← Nat.eq_of_beq_eq_true h]
    exact zCell_lo q2 hc (fun i hi => hty i (by omega))
end BLOCK
