/-! rests of longs of any sign -/
theorem zj_rem (x y : Int64) : x - x / y * y = x % y := by
  apply Int64.toInt_inj.mp
  rw [Int64.toInt_mod, Int64.toInt_sub, Int64.toInt_mul, Int64.toInt_div, Int.bmod_mul_bmod, Int.sub_bmod_bmod]
  have e : x.toInt - x.toInt.tdiv y.toInt * y.toInt = (x % y).toInt := by
    rw [Int64.toInt_mod, Int.tmod_def, Int.mul_comm]
  rw [e, ← Int64.toInt_mod]
  exact Int64.toInt_bmod _
def zab (a : Nat) : Nat := cond (Nat.ble 9223372036854775808 a) (Nat.sub 18446744073709551616 a) a
def zremjX (a b : Nat) : Nat := cond (Nat.ble 18446744073709551616 (Nat.lor a b)) 18446744073709551616 (cond (Nat.ble 9223372036854775808 a) (Nat.mod (Nat.sub 18446744073709551616 (Nat.mod (zab a) (zab b))) 18446744073709551616) (Nat.mod (zab a) (zab b)))
theorem zab_p {a : Nat} (h : a < 9223372036854775808) : zab a = a := by unfold zab; rw [zble_n h]; rfl
theorem zab_n {a : Nat} (h : 9223372036854775808 ≤ a) : zab a = 18446744073709551616 - a := by unfold zab; rw [Nat.ble_eq_true_of_le h]; rfl
theorem zj_p {x : Int64} (h : zj x < 9223372036854775808) : x.toInt = (zab (zj x) : Int) := by
  rw [zj_toInt, if_pos h, zab_p h]
theorem zj_m {x : Int64} (h : 9223372036854775808 ≤ zj x) : x.toInt = -(zab (zj x) : Int) := by
  have := zj_lt x
  rw [zj_toInt, if_neg (by omega), zab_n h]
  omega
theorem zj_absR (x y : Int64) : (zj x < 9223372036854775808 → (x % y).toInt = ((zab (zj x) % zab (zj y) : Nat) : Int)) ∧ (9223372036854775808 ≤ zj x → (x % y).toInt = -((zab (zj x) % zab (zj y) : Nat) : Int)) := by
  have key : ∀ A : Nat, (A : Int).tmod y.toInt = ((A % zab (zj y) : Nat) : Int) := fun A => by
    by_cases hy : zj y < 9223372036854775808
    · rw [zj_p hy, Int.ofNat_tmod]
    · rw [zj_m (by omega), Int.tmod_neg, Int.ofNat_tmod]
  refine ⟨fun h => ?_, fun h => ?_⟩
  · rw [Int64.toInt_mod, zj_p h, key]
  · rw [Int64.toInt_mod, zj_m h, Int.neg_tmod, key]
theorem zremjX_ok {a b : Nat} {x y : Int64} (hx : a < 18446744073709551616 → zj x = a) (hy : b < 18446744073709551616 → zj y = b) : zremjX a b < 18446744073709551616 → zj (x - x / y * y) = zremjX a b := by
  unfold zremjX
  cases hb : Nat.ble 18446744073709551616 (Nat.lor a b)
  · rw [cond_false]
    obtain ⟨h1, h2⟩ := zle64 hb
    have e1 := hx h1
    have e2 := hy h2
    obtain ⟨p1, p2⟩ := zj_absR x y
    rw [e1, e2] at p1 p2
    rw [zj_rem]
    generalize hr : zab a % zab b = r at p1 p2
    have hz := zj_lt (x % y)
    have ht := zj_toInt (x % y)
    have hrl : r ≤ 9223372036854775808 := by
      rw [← hr]
      refine Nat.le_trans (Nat.mod_le _ _) ?_
      by_cases q : a < 9223372036854775808
      · rw [zab_p q]; omega
      · rw [zab_n (by omega)]; omega
    intro _
    have hr' : Nat.mod (zab a) (zab b) = r := hr
    rw [hr']
    cases hs : Nat.ble 9223372036854775808 a
    · rw [cond_false]
      have p := p1 (zble_f hs)
      rw [p] at ht
      split at ht <;> omega
    · rw [cond_true]
      have p := p2 (Nat.le_of_ble_eq_true hs)
      rw [p] at ht
      show zj (x % y) = (18446744073709551616 - r) % 18446744073709551616
      split at ht <;> omega
  · intro q
    exact absurd q (Nat.lt_irrefl _)
theorem zremjX_lt (a b : Nat) : zremjX a b < 4722366482869645213696 := by
  unfold zremjX
  cases Nat.ble 18446744073709551616 (Nat.lor a b)
  · rw [cond_false]
    cases hs : Nat.ble 9223372036854775808 a
    · rw [cond_false]
      have q := zble_f hs
      rw [zab_p q]
      exact Nat.lt_of_le_of_lt (Nat.mod_le _ _) (by omega)
    · exact Nat.lt_of_lt_of_le (Nat.mod_lt _ (by decide)) (by decide)
  · rw [cond_true]
    decide
section OPS
variable {d : Nat} {X : zM} {fr : Nat} {P : zP d} {pc : Nat} {k : zK d}
theorem sm_lremX [G : zGh] (dg : decode X.2.1 pc = .ok (.lrem, 1)) (hs : zSim X fr P (pc + 1) k) : zSim X fr P pc (xbinjN zremjX k) := sm_binjN zremjX_ok zremjX_lt (fun _ _ hne => fun hx hb kk => lv_lrem hx hb dg hne kk) hs
end OPS
