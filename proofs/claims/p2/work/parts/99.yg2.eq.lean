/-! two answers alike -/
noncomputable def zeqI (r r2 : zV) : Bool := Sum.rec (motive := fun _ => Bool) (fun a => Sum.rec (motive := fun _ => Bool) (fun b => cond (Nat.ble a 4294967295) (Nat.beq a b) false) (fun _ => false) r2) (fun _ => false) r
noncomputable def zeqJ (r r2 : zV) : Bool := Sum.rec (motive := fun _ => Bool) (fun _ => false) (fun u => Sum.rec (motive := fun _ => Bool) (fun _ => false) (fun v => Sum.rec (motive := fun _ => Bool) (fun a => Sum.rec (motive := fun _ => Bool) (fun _ => false) (fun u2 => Sum.rec (motive := fun _ => Bool) (fun _ => false) (fun v2 => Sum.rec (motive := fun _ => Bool) (fun b => cond (Nat.ble a 18446744073709551615) (Nat.beq a b) false) (fun _ => false) v2) u2) r2) (fun _ => false) v) u) r
theorem zPre_at {a b : zA} (h : zPre a b) {k q : Nat} (hk : a.1[k]? = some q) : b.1[k]? = some q := by
  obtain ⟨⟨t, ht⟩, -⟩ := h
  rw [ht, List.getElem?_append_left (List.getElem?_eq_some_iff.mp hk).1]
  exact hk
theorem zcat1 {ad : zA} {r : zV} {ov : Option Value} (h : (ov = none ∧ r = zU) ∨ ∃ x, ov = some x ∧ ∀ (_ : zGh), zRep ad r x) : ((ov.toList ++ []).map fun (v : Value) => v.category).sum ≤ 8 := by
  rcases h with ⟨h, -⟩ | ⟨x, h, -⟩
  · subst h
    exact Nat.zero_le _
  · subst h
    cases x <;> exact Nat.le_of_ble_eq_true rfl
theorem lg_cmp_self (x : Int64) : lg_cmp x x = 0 := by
  unfold lg_cmp
  rw [if_neg Int64.lt_irrefl, if_pos rfl]
theorem zeqI_t {ad ad2 : zA} {r r2 : zV} {ov ov2 : Option Value} (h : zeqI r r2 = true) (h1 : (ov = none ∧ r = zU) ∨ ∃ x, ov = some x ∧ ∀ (_ : zGh), zRep ad r x) (h2 : (ov2 = none ∧ r2 = zU) ∨ ∃ x, ov2 = some x ∧ ∀ (_ : zGh), zRep ad2 r2 x) : ∃ i : Int32, ov = some (.int i) ∧ ov2 = some (.int i) := by
  have G : zGh := ⟨(fun _ => 0 : Nat → Nat)⟩
  match r, r2, h, h1, h2 with
  | .inl a, .inl b, h, h1, h2 =>
    have h : cond (Nat.ble a 4294967295) (Nat.beq a b) false = true := h
    obtain ⟨g1, g2⟩ := zcnd_t h
    have g1 := Nat.le_of_ble_eq_true g1
    have g2 := Nat.eq_of_beq_eq_true g2
    subst g2
    rcases h1 with ⟨-, h1⟩ | ⟨x, h1, hx⟩
    · cases h1
    rcases h2 with ⟨-, h2⟩ | ⟨y, h2, hy⟩
    · cases h2
    obtain ⟨i, rfl, hi⟩ := hx G
    obtain ⟨j, rfl, hj⟩ := hy G
    have e : i = j := zi_inj (by rw [hi.1 (by omega), hj.1 (by omega)])
    subst e
    exact ⟨i, h1, h2⟩
theorem zeqJ_t {ad ad2 : zA} {r r2 : zV} {ov ov2 : Option Value} (h : zeqJ r r2 = true) (h1 : (ov = none ∧ r = zU) ∨ ∃ x, ov = some x ∧ ∀ (_ : zGh), zRep ad r x) (h2 : (ov2 = none ∧ r2 = zU) ∨ ∃ x, ov2 = some x ∧ ∀ (_ : zGh), zRep ad2 r2 x) : ∃ i : Int64, ov = some (.long i) ∧ ov2 = some (.long i) := by
  have G : zGh := ⟨(fun _ => 0 : Nat → Nat)⟩
  match r, r2, h, h1, h2 with
  | .inr (.inr (.inl a)), .inr (.inr (.inl b)), h, h1, h2 =>
    have h : cond (Nat.ble a 18446744073709551615) (Nat.beq a b) false = true := h
    obtain ⟨g1, g2⟩ := zcnd_t h
    have g1 := Nat.le_of_ble_eq_true g1
    have g2 := Nat.eq_of_beq_eq_true g2
    subst g2
    rcases h1 with ⟨-, h1⟩ | ⟨x, h1, hx⟩
    · cases h1
    rcases h2 with ⟨-, h2⟩ | ⟨y, h2, hy⟩
    · cases h2
    obtain ⟨i, rfl, hi⟩ := hx G
    obtain ⟨j, rfl, hj⟩ := hy G
    have e : i = j := zj_inj (by rw [hi.1 (by omega), hj.1 (by omega)])
    subst e
    exact ⟨i, h1, h2⟩
