/-! quotients of numbers below 0 -/
def zdivS (a b : Nat) : Nat := cond (Nat.ble 2147483648 b) 4294967296 (cond (Nat.ble 4294967296 a) 4294967296 (cond (Nat.ble 2147483648 a) (Nat.mod (Nat.sub 4294967296 (Nat.div (Nat.sub 4294967296 a) b)) 4294967296) (Nat.div a b)))
def zremS (a b : Nat) : Nat := cond (Nat.ble 2147483648 b) 4294967296 (cond (Nat.ble 4294967296 a) 4294967296 (cond (Nat.ble 2147483648 a) (Nat.mod (Nat.sub 4294967296 (Nat.mod (Nat.sub 4294967296 a) b)) 4294967296) (Nat.mod a b)))
theorem zi_divN {x y : Int32} (hx : 2147483648 ≤ zi x) (hy : zi y < 2147483648) : zi (x / y) = (4294967296 - (4294967296 - zi x) / zi y) % 4294967296 := by
  have hlt := zi_lt x
  show (x / y).toBitVec.toNat = _
  rw [Int32.toBitVec_div]
  have m1 : x.toBitVec.msb = true := by rw [BitVec.msb_eq_decide]; exact decide_eq_true (by show 2147483648 ≤ zi x; omega)
  have m2 : y.toBitVec.msb = false := by rw [BitVec.msb_eq_decide]; exact decide_eq_false (by show ¬ 2147483648 ≤ zi y; omega)
  rw [BitVec.sdiv_eq, m1, m2]
  show (-((-x.toBitVec).udiv y.toBitVec)).toNat = _
  rw [BitVec.toNat_neg, BitVec.udiv_eq, BitVec.toNat_udiv, BitVec.toNat_neg]
  show (4294967296 - (4294967296 - zi x) % 4294967296 / zi y) % 4294967296 = _
  rw [Nat.mod_eq_of_lt (show 4294967296 - zi x < 4294967296 by omega)]
theorem zdivS_ok {a b : Nat} {x y : Int32} (hx : a < 4294967296 → zi x = a) (hy : b < 4294967296 → zi y = b) : zdivS a b < 4294967296 → zi (x / y) = zdivS a b := by
  unfold zdivS
  cases h1 : Nat.ble 2147483648 b
  · rw [cond_false]
    have q1 := zble_f h1
    have e2 := hy (by omega)
    cases h2 : Nat.ble 4294967296 a
    · rw [cond_false]
      have q2 := zble_f h2
      have e1 := hx q2
      cases h3 : Nat.ble 2147483648 a
      · rw [cond_false]
        have q3 := zble_f h3
        intro _
        rw [zi_div (by omega) (by omega), e1, e2]
        rfl
      · rw [cond_true]
        have q3 := Nat.le_of_ble_eq_true h3
        intro _
        rw [zi_divN (by omega) (by omega), e1, e2]
        rfl
    · intro q
      exact absurd q (Nat.lt_irrefl _)
  · intro q
    exact absurd q (Nat.lt_irrefl _)
theorem zremS_ok {a b : Nat} {x y : Int32} (hx : a < 4294967296 → zi x = a) (hy : b < 4294967296 → zi y = b) : zremS a b < 4294967296 → zi (x - x / y * y) = zremS a b := by
  unfold zremS
  cases h1 : Nat.ble 2147483648 b
  · rw [cond_false]
    have q1 := zble_f h1
    have e2 := hy (by omega)
    cases h2 : Nat.ble 4294967296 a
    · rw [cond_false]
      have q2 := zble_f h2
      have e1 := hx q2
      cases h3 : Nat.ble 2147483648 a
      · rw [cond_false]
        have q3 := zble_f h3
        intro _
        have h := zrem_ok hx hy
        have e : zrem a b = a % b := by
          unfold zrem
          have hl : Nat.lor a b < 2 ^ 31 := Nat.or_lt_two_pow (n := 31) q3 q1
          rw [zble_n (show Nat.lor a b < 2147483648 from hl)]
          rfl
        rw [e] at h
        exact h (Nat.lt_of_le_of_lt (Nat.mod_le _ _) q2)
      · rw [cond_true]
        have q3 := Nat.le_of_ble_eq_true h3
        intro _
        rw [zi_sub, zi_mul, zi_divN (by omega) (by omega), e1, e2]
        show _ = (4294967296 - (4294967296 - a) % b) % 4294967296
        have hA := Nat.mod_add_div (4294967296 - a) b
        have hlt : (4294967296 - a) % b ≤ 4294967296 - a := Nat.mod_le _ _
        generalize hq : (4294967296 - a) / b = q at hA ⊢
        generalize (4294967296 - a) % b = r at hA hlt ⊢
        generalize hc : b * q = c at hA
        have key : (4294967296 - q) % 4294967296 * b % 4294967296 = (4294967296 - c) % 4294967296 := by
          by_cases q0 : q = 0
          · subst q0
            have : c = 0 := by rw [← hc, Nat.mul_zero]
            subst this
            rw [Nat.sub_zero, Nat.mod_self, Nat.zero_mul]
          · have hql : q ≤ 2147483648 := by
              rw [← hq]
              exact Nat.le_trans (Nat.div_le_self _ _) (by omega)
            rw [Nat.mod_eq_of_lt (show 4294967296 - q < 4294967296 by omega), Nat.sub_mul, Nat.mul_comm q b, hc]
            have hb0 : 1 ≤ b := by
              rcases Nat.eq_zero_or_pos b with z | z
              · rw [z, Nat.div_zero] at hq
                omega
              · exact z
            omega
        rw [key]
        omega
    · intro q
      exact absurd q (Nat.lt_irrefl _)
  · intro q
    exact absurd q (Nat.lt_irrefl _)
theorem zdivS_le (a b : Nat) : zdivS a b ≤ 4294967296 := by
  unfold zdivS
  cases Nat.ble 2147483648 b
  · cases h2 : Nat.ble 4294967296 a
    · cases Nat.ble 2147483648 a
      · exact Nat.le_trans (Nat.div_le_self _ _) (Nat.le_of_lt (zble_f h2))
      · exact Nat.le_of_lt (Nat.mod_lt _ (by decide))
    · exact Nat.le_refl _
  · exact Nat.le_refl _
theorem zremS_le (a b : Nat) : zremS a b ≤ 4294967296 := by
  unfold zremS
  cases Nat.ble 2147483648 b
  · cases h2 : Nat.ble 4294967296 a
    · cases Nat.ble 2147483648 a
      · exact Nat.le_trans (Nat.mod_le _ _) (Nat.le_of_lt (zble_f h2))
      · exact Nat.le_of_lt (Nat.mod_lt _ (by decide))
    · exact Nat.le_refl _
  · exact Nat.le_refl _
section OPS
variable {d : Nat} {X : zM} {fr : Nat} {P : zP d} {pc : Nat} {k : zK d}
theorem sm_idivS [G : zGh] (dg : decode X.2.1 pc = .ok (.idiv, 1)) (hs : zSim X fr P (pc + 1) k) : zSim X fr P pc (xbinN zdivS k) := sm_binN zdivS_ok zdivS_le (fun _ _ hne => fun hx hb kk => lv_idiv hx hb dg hne kk) hs
theorem sm_iremS [G : zGh] (dg : decode X.2.1 pc = .ok (.irem, 1)) (hs : zSim X fr P (pc + 1) k) : zSim X fr P pc (xbinN zremS k) := sm_binN zremS_ok zremS_le (fun _ _ hne => fun hx hb kk => lv_irem hx hb dg hne kk) hs
end OPS
