/-! by way of exact states -/
section EXACT
variable {d : Nat}
/-- the numbers themselves, packed -/
def zpk (f : Nat → Int32) : Nat → Nat
  | 0 => 0
  | n + 1 => zup 40 (zpk f n) n (zi (f n))
theorem zi_40 (i : Int32) : zi i < 2 ^ 40 := Nat.lt_of_lt_of_le (zi_lt i) (by decide)
theorem zpk_wd (f : Nat → Int32) : ∀ (n i : Nat), i < n → zwd 40 (zpk f n) i = zi (f i)
  | 0, i, h => absurd h (Nat.not_lt_zero i)
  | n + 1, i, h => by
    show zwd 40 (zup 40 (zpk f n) n (zi (f n))) i = zi (f i)
    by_cases q : n = i
    · subst q
      rw [zwd_up_same _ _ _ _ (zi_40 _)]
    · rw [zwd_up_ne _ _ _ _ _ (zi_40 _) q]
      exact zpk_wd f n i (by omega)
theorem zIa_e {w : Nat} {i : Int32} (h : zi i = w) : zIa w i := ⟨fun _ => h, fun q => absurd q (by have := zi_lt i; omega)⟩
theorem zpk_AI (f : Nat → Int32) (n : Nat) : zAI n (zpk f n) f := fun j hj => by
  rw [zpk_wd f n j hj]
  exact zIa_e rfl
theorem zAI_e {len x : Nat} {f : Nat → Int32} (h : zAI len x f) {j : Nat} (hj : j < len) (hx : zwd 40 x j < 4294967296) : zi (f j) = zwd 40 x j := (h j hj).1 hx
theorem zHp_cell {C : zCh} {cA : Nat → ClassId} {h : zH d} {ws : va_W} {b : Nat} {q : Nat × va_E} {c' : zC} (hH : @zHp C d cA h ws) (hq : ws[b]? = some q) (hc : @zCell C cA (zad cA ws) c' q.2) : @zHp C d cA (zset d h.1 b c', h.2) ws := by
  obtain ⟨w1, w2, w3⟩ := hH
  have hb : b < ws.length := (List.getElem?_eq_some_iff.mp hq).1
  refine ⟨w1, w2, fun p y hp => ?_⟩
  have hpw : p < ws.length := (List.getElem?_eq_some_iff.mp hp).1
  show @zCell C cA _ (zget d (zset d h.1 b c') p) _
  by_cases e : b = p
  · subst e
    rw [zget_set_same d _ _ _ (by omega)]
    rw [hq] at hp
    cases hp
    exact hc
  · rw [zget_set_ne d _ _ _ _ (by omega) (by omega) e]
    exact w3 p y hp
theorem zat_eq {h : zH d} {i kd len x : Nat} {K : zT d → (Nat × (Nat × Nat)) → Nat → Nat → Nat → Nat → Bool} (hc : zget d h.1 i = (kd, len, x)) : zat h (i + 1) K = K h.1 h.2 i kd len x := by
  obtain ⟨t, u⟩ := h
  have hc : zget d t i = (kd, len, x) := hc
  show Prod.rec (motive := fun _ => Bool) (fun kd v => Prod.rec (motive := fun _ => Bool) (fun len x => K t u i kd len x) v) (zget d t i) = _
  rw [hc]
/-- a contract by way of other states that stand for the same world -/
theorem zMet_ex {X : zM} {y : MethodName} {fr : Nat} {f g : List zV → zH d → zP d → Bool} (hm : zMet X y fr f) (hg : ∀ (C : zCh) (cA : Nat → ClassId) (ws : va_W) (as : List zV) (h : zH d) (P : zP d), g as h P = true → @zHp C d cA h ws → ∃ (C1 : zCh) (h1 : zH d) (P1 : zP d), h1.2 = h.2 ∧ @zHp C1 d cA h1 ws ∧ f as h1 P1 = true ∧ ∀ (C2 : zCh) (ws2 : va_W) (r : zV) (h2 : zH d), P1 r h2 = true → @zHp C2 d cA h2 ws2 → ∃ (C3 : zCh) (r3 : zV) (h3 : zH d), P r3 h3 = true ∧ @zHp C3 d cA h3 ws2 ∧ (r = zU → r3 = zU) ∧ ∀ x, (∀ (_ : zGh), zRep (zad cA ws2) r x) → ∀ (_ : zGh), zRep (zad cA ws2) r3 x) : zMet X y fr g := by
  intro G C l cA D ws av as h P sz hk has hH hT
  obtain ⟨C1, h1, P1, e1, hH1, hf, hq⟩ := hg C cA ws as h P hk hH
  have M := @hm G C1 l cA D ws av as h1 P1 sz hf has hH1 hT
  rw [e1] at M
  refine Met_mono M (fun _ _ z => z) (fun a s o t _ hQ => ?_) (fun _ z => z)
  obtain ⟨⟨C2, r, h2, ws2, ov, o1, o2, o3, o4, o5, o6, o7⟩, o8⟩ := hQ
  obtain ⟨C3, r3, h3, p1, p2, p3, p4⟩ := hq C2 ws2 r h2 o3 o4
  refine ⟨⟨C3, r3, h3, ws2, ov, o1, ?_, p1, p2, o5, o6, o7⟩, o8⟩
  rcases o2 with ⟨z1, z2⟩ | ⟨x, z1, z2⟩
  · exact Or.inl ⟨z1, p3 z2⟩
  · exact Or.inr ⟨x, z1, p4 x z2⟩
end EXACT
