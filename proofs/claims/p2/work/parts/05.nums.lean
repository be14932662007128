/-! numbers: what the machine of numbers works out is what the machine does; 4294967296 (18446744073709551616) stands for a number that isn't known -/
theorem zle_lor {a b w : Nat} (h : Nat.ble (2 ^ w) (Nat.lor a b) = false) : a < 2 ^ w ∧ b < 2 ^ w := zlor_lt (Nat.lt_of_not_le (fun q => by rw [Nat.ble_eq_true_of_le q] at h; cases h))
theorem zle32 {a b : Nat} (h : Nat.ble 4294967296 (Nat.lor a b) = false) : a < 4294967296 ∧ b < 4294967296 := zle_lor (w := 32) h
theorem zle31 {a b : Nat} (h : Nat.ble 2147483648 (Nat.lor a b) = false) : a < 2147483648 ∧ b < 2147483648 := zle_lor (w := 31) h
theorem zle64 {a b : Nat} (h : Nat.ble 18446744073709551616 (Nat.lor a b) = false) : a < 18446744073709551616 ∧ b < 18446744073709551616 := zle_lor (w := 64) h
theorem zble_f {a b : Nat} (h : Nat.ble a b = false) : b < a := Nat.lt_of_not_le (fun q => by rw [Nat.ble_eq_true_of_le q] at h; cases h)
def zk2 (a b : Nat) (v : Nat) : Nat := cond (Nat.ble 4294967296 (Nat.lor a b)) 4294967296 v
def zk2j (a b : Nat) (v : Nat) : Nat := cond (Nat.ble 18446744073709551616 (Nat.lor a b)) 18446744073709551616 v
theorem zk2_ok {a b v : Nat} {x y : Int32} {r : Int32} (hx : a < 4294967296 → zi x = a) (hy : b < 4294967296 → zi y = b) (h : zi x = a → zi y = b → zi r = v) : zk2 a b v < 4294967296 → zi r = zk2 a b v := by
  unfold zk2
  cases hb : Nat.ble 4294967296 (Nat.lor a b)
  · intro _
    obtain ⟨h1, h2⟩ := zle32 hb
    exact h (hx h1) (hy h2)
  · intro q
    exact absurd q (Nat.lt_irrefl _)
theorem zk2j_ok {a b v : Nat} {x y : Int64} {r : Int64} (hx : a < 18446744073709551616 → zj x = a) (hy : b < 18446744073709551616 → zj y = b) (h : zj x = a → zj y = b → zj r = v) : zk2j a b v < 18446744073709551616 → zj r = zk2j a b v := by
  unfold zk2j
  cases hb : Nat.ble 18446744073709551616 (Nat.lor a b)
  · intro _
    obtain ⟨h1, h2⟩ := zle64 hb
    exact h (hx h1) (hy h2)
  · intro q
    exact absurd q (Nat.lt_irrefl _)
abbrev zadd (a b : Nat) : Nat := zk2 a b (Nat.mod (Nat.add a b) 4294967296)
abbrev zsub (a b : Nat) : Nat := zk2 a b (Nat.mod (Nat.add a (Nat.sub 4294967296 b)) 4294967296)
abbrev zmul (a b : Nat) : Nat := zk2 a b (Nat.mod (Nat.mul a b) 4294967296)
abbrev zand (a b : Nat) : Nat := zk2 a b (Nat.land a b)
abbrev zor (a b : Nat) : Nat := zk2 a b (Nat.lor a b)
abbrev zxor (a b : Nat) : Nat := zk2 a b (Nat.xor a b)
theorem zadd_ok {a b : Nat} {x y : Int32} (hx : a < 4294967296 → zi x = a) (hy : b < 4294967296 → zi y = b) : zadd a b < 4294967296 → zi (x + y) = zadd a b := zk2_ok hx hy (fun h1 h2 => by rw [zi_add, h1, h2]; rfl)
theorem zsub_ok {a b : Nat} {x y : Int32} (hx : a < 4294967296 → zi x = a) (hy : b < 4294967296 → zi y = b) : zsub a b < 4294967296 → zi (x - y) = zsub a b := zk2_ok hx hy (fun h1 h2 => by rw [zi_sub, h1, h2]; rfl)
theorem zmul_ok {a b : Nat} {x y : Int32} (hx : a < 4294967296 → zi x = a) (hy : b < 4294967296 → zi y = b) : zmul a b < 4294967296 → zi (x * y) = zmul a b := zk2_ok hx hy (fun h1 h2 => by rw [zi_mul, h1, h2]; rfl)
theorem zand_ok {a b : Nat} {x y : Int32} (hx : a < 4294967296 → zi x = a) (hy : b < 4294967296 → zi y = b) : zand a b < 4294967296 → zi (x &&& y) = zand a b := zk2_ok hx hy (fun h1 h2 => by rw [zi_and, h1, h2])
theorem zor_ok {a b : Nat} {x y : Int32} (hx : a < 4294967296 → zi x = a) (hy : b < 4294967296 → zi y = b) : zor a b < 4294967296 → zi (x ||| y) = zor a b := zk2_ok hx hy (fun h1 h2 => by rw [zi_or, h1, h2])
theorem zxor_ok {a b : Nat} {x y : Int32} (hx : a < 4294967296 → zi x = a) (hy : b < 4294967296 → zi y = b) : zxor a b < 4294967296 → zi (x ^^^ y) = zxor a b := zk2_ok hx hy (fun h1 h2 => by rw [zi_xor, h1, h2])
abbrev zaddj (a b : Nat) : Nat := zk2j a b (Nat.mod (Nat.add a b) 18446744073709551616)
abbrev zsubj (a b : Nat) : Nat := zk2j a b (Nat.mod (Nat.add a (Nat.sub 18446744073709551616 b)) 18446744073709551616)
abbrev zmulj (a b : Nat) : Nat := zk2j a b (Nat.mod (Nat.mul a b) 18446744073709551616)
theorem zaddj_ok {a b : Nat} {x y : Int64} (hx : a < 18446744073709551616 → zj x = a) (hy : b < 18446744073709551616 → zj y = b) : zaddj a b < 18446744073709551616 → zj (x + y) = zaddj a b := zk2j_ok hx hy (fun h1 h2 => by rw [zj_add, h1, h2]; rfl)
theorem zsubj_ok {a b : Nat} {x y : Int64} (hx : a < 18446744073709551616 → zj x = a) (hy : b < 18446744073709551616 → zj y = b) : zsubj a b < 18446744073709551616 → zj (x - y) = zsubj a b := zk2j_ok hx hy (fun h1 h2 => by rw [zj_sub, h1, h2]; rfl)
theorem zmulj_ok {a b : Nat} {x y : Int64} (hx : a < 18446744073709551616 → zj x = a) (hy : b < 18446744073709551616 → zj y = b) : zmulj a b < 18446744073709551616 → zj (x * y) = zmulj a b := zk2j_ok hx hy (fun h1 h2 => by rw [zj_mul, h1, h2]; rfl)
/-- signs -/
def zneg (a : Nat) : Nat := cond (Nat.ble 4294967296 a) 4294967296 (Nat.mod (Nat.sub 4294967296 a) 4294967296)
def znegj (a : Nat) : Nat := cond (Nat.ble 18446744073709551616 a) 18446744073709551616 (Nat.mod (Nat.sub 18446744073709551616 a) 18446744073709551616)
theorem zi_neg (x : Int32) : zi (-x) = (4294967296 - zi x) % 4294967296 := by
  show (-x).toBitVec.toNat = _
  rw [Int32.toBitVec_neg, BitVec.toNat_neg]
  rfl
theorem zj_neg (x : Int64) : zj (-x) = (18446744073709551616 - zj x) % 18446744073709551616 := by
  show (-x).toBitVec.toNat = _
  rw [Int64.toBitVec_neg, BitVec.toNat_neg]
  rfl
theorem zneg_ok {a : Nat} {x : Int32} (hx : a < 4294967296 → zi x = a) : zneg a < 4294967296 → zi (-x) = zneg a := by
  unfold zneg
  cases hb : Nat.ble 4294967296 a
  · intro _
    rw [zi_neg, hx (zble_f hb)]
    rfl
  · intro q
    exact absurd q (Nat.lt_irrefl _)
theorem znegj_ok {a : Nat} {x : Int64} (hx : a < 18446744073709551616 → zj x = a) : znegj a < 18446744073709551616 → zj (-x) = znegj a := by
  unfold znegj
  cases hb : Nat.ble 18446744073709551616 a
  · intro _
    rw [zj_neg, hx (zble_f hb)]
    rfl
  · intro q
    exact absurd q (Nat.lt_irrefl _)
theorem zi_zero {x : Int32} : zi x = 0 ↔ x = 0 := ⟨fun h => zi_inj (by rw [h]; rfl), fun h => by rw [h]; rfl⟩
theorem zj_zero {x : Int64} : zj x = 0 ↔ x = 0 := ⟨fun h => zj_inj (by rw [h]; rfl), fun h => by rw [h]; rfl⟩
/-- quotients: of numbers that aren't below 0 alone, else not known -/
def zdiv (a b : Nat) : Nat := cond (Nat.ble 2147483648 (Nat.lor a b)) 4294967296 (Nat.div a b)
def zrem (a b : Nat) : Nat := cond (Nat.ble 2147483648 (Nat.lor a b)) 4294967296 (Nat.mod a b)
theorem zi_div {x y : Int32} (hx : zi x < 2147483648) (hy : zi y < 2147483648) : zi (x / y) = zi x / zi y := by
  show (x / y).toBitVec.toNat = _
  rw [Int32.toBitVec_div]
  have m1 : x.toBitVec.msb = false := by rw [BitVec.msb_eq_decide]; exact decide_eq_false (by show ¬ 2147483648 ≤ zi x; omega)
  have m2 : y.toBitVec.msb = false := by rw [BitVec.msb_eq_decide]; exact decide_eq_false (by show ¬ 2147483648 ≤ zi y; omega)
  rw [BitVec.sdiv_eq, m1, m2]
  show (x.toBitVec.udiv y.toBitVec).toNat = _
  rw [BitVec.udiv_eq, BitVec.toNat_udiv]
  rfl
theorem zdiv_ok {a b : Nat} {x y : Int32} (hx : a < 4294967296 → zi x = a) (hy : b < 4294967296 → zi y = b) : zdiv a b < 4294967296 → zi (x / y) = zdiv a b := by
  unfold zdiv
  cases hb : Nat.ble 2147483648 (Nat.lor a b)
  · intro _
    obtain ⟨h1, h2⟩ := zle31 hb
    have e1 := hx (by omega)
    have e2 := hy (by omega)
    rw [zi_div (by omega) (by omega), e1, e2]
    rfl
  · intro q
    exact absurd q (Nat.lt_irrefl _)
theorem zrem_ok {a b : Nat} {x y : Int32} (hx : a < 4294967296 → zi x = a) (hy : b < 4294967296 → zi y = b) : zrem a b < 4294967296 → zi (x - x / y * y) = zrem a b := by
  unfold zrem
  cases hb : Nat.ble 2147483648 (Nat.lor a b)
  · intro _
    obtain ⟨h1, h2⟩ := zle31 hb
    have e1 := hx (by omega)
    have e2 := hy (by omega)
    rw [zi_sub, zi_mul, zi_div (by omega) (by omega), e1, e2]
    show _ = a % b
    have h3 : a / b * b ≤ a := Nat.div_mul_le_self a b
    have h4 : a % b + b * (a / b) = a := Nat.mod_add_div a b
    rw [Nat.mul_comm b] at h4
    rw [Nat.mod_eq_of_lt (show a / b * b < 4294967296 by omega)]
    omega
  · intro q
    exact absurd q (Nat.lt_irrefl _)
/-- shifts by less than 32 -/
def zshl (a b : Nat) : Nat := cond (Nat.ble 4294967296 a) 4294967296 (cond (Nat.ble 32 b) 4294967296 (Nat.mod (Nat.shiftLeft a b) 4294967296))
def zshr (a b : Nat) : Nat := cond (Nat.ble 2147483648 a) 4294967296 (cond (Nat.ble 32 b) 4294967296 (Nat.shiftRight a b))
def zushr (a b : Nat) : Nat := cond (Nat.ble 4294967296 a) 4294967296 (cond (Nat.ble 32 b) 4294967296 (Nat.shiftRight a b))
theorem zsm : ∀ n, n < 32 → ((Int32.ofNat n &&& 31).toBitVec.smod 32).toNat = n := by decide +kernel
theorem zsu : ∀ n, n < 32 → (((Int32.ofNat n).toUInt32 &&& Int32.toUInt32 31).toBitVec % 32).toNat = n := by decide +kernel
theorem zi_ofNat {n : Nat} (h : n < 4294967296) : zi (Int32.ofNat n) = n := by
  show (BitVec.ofNat 32 n).toNat = n
  rw [BitVec.toNat_ofNat]
  exact Nat.mod_eq_of_lt h
theorem zi_of {y : Int32} {n : Nat} (h : zi y = n) : y = Int32.ofNat n := zi_inj (by rw [h, zi_ofNat (by have := zi_lt y; omega)])
theorem zshl_ok {a b : Nat} {x y : Int32} (hx : a < 4294967296 → zi x = a) (hy : b < 4294967296 → zi y = b) : zshl a b < 4294967296 → zi (x <<< (y &&& 31)) = zshl a b := by
  unfold zshl
  cases hb : Nat.ble 4294967296 a
  · cases hc : Nat.ble 32 b
    · intro _
      have h2 : b < 32 := zble_f hc
      have e1 := hx (zble_f hb)
      rw [zi_of (hy (by omega))]
      show (x.toBitVec <<< ((Int32.ofNat b &&& 31).toBitVec.smod 32).toNat).toNat = _
      rw [zsm b h2, BitVec.toNat_shiftLeft]
      show (zi x <<< b) % 2 ^ 32 = _
      rw [e1]
      rfl
    · intro q
      exact absurd q (Nat.lt_irrefl _)
  · intro q
    exact absurd q (Nat.lt_irrefl _)
theorem zshr_ok {a b : Nat} {x y : Int32} (hx : a < 4294967296 → zi x = a) (hy : b < 4294967296 → zi y = b) : zshr a b < 4294967296 → zi (x >>> (y &&& 31)) = zshr a b := by
  unfold zshr
  cases hb : Nat.ble 2147483648 a
  · cases hc : Nat.ble 32 b
    · intro _
      have h2 : b < 32 := zble_f hc
      have h1 : a < 2147483648 := zble_f hb
      have e1 := hx (by omega)
      rw [zi_of (hy (by omega))]
      show (x.toBitVec.sshiftRight ((Int32.ofNat b &&& 31).toBitVec.smod 32).toNat).toNat = _
      have m1 : x.toBitVec.msb = false := by rw [BitVec.msb_eq_decide]; exact decide_eq_false (by show ¬ 2147483648 ≤ zi x; omega)
      rw [zsm b h2, BitVec.sshiftRight_eq_of_msb_false m1, BitVec.toNat_ushiftRight]
      show zi x >>> b = _
      rw [e1]
      rfl
    · intro q
      exact absurd q (Nat.lt_irrefl _)
  · intro q
    exact absurd q (Nat.lt_irrefl _)
theorem zushr_ok {a b : Nat} {x y : Int32} (hx : a < 4294967296 → zi x = a) (hy : b < 4294967296 → zi y = b) : zushr a b < 4294967296 → zi ((x.toUInt32 >>> (y.toUInt32 &&& Int32.toUInt32 31)).toInt32) = zushr a b := by
  unfold zushr
  cases hb : Nat.ble 4294967296 a
  · cases hc : Nat.ble 32 b
    · intro _
      have h2 : b < 32 := zble_f hc
      have e1 := hx (zble_f hb)
      rw [zi_of (hy (by omega))]
      show (x.toUInt32.toBitVec >>> (((Int32.ofNat b).toUInt32 &&& Int32.toUInt32 31).toBitVec % 32).toNat).toNat = _
      rw [zsu b h2, BitVec.toNat_ushiftRight]
      show zi x >>> b = _
      rw [e1]
      rfl
    · intro q
      exact absurd q (Nat.lt_irrefl _)
  · intro q
    exact absurd q (Nat.lt_irrefl _)
/-- int to long and back -/
def zi2l (a : Nat) : Nat := cond (Nat.ble 2147483648 a) (cond (Nat.ble 4294967296 a) 18446744073709551616 (Nat.add a 18446744069414584320)) a
def zl2i (a : Nat) : Nat := cond (Nat.ble 18446744073709551616 a) 4294967296 (Nat.mod a 4294967296)
theorem zi_cases (i : Int32) : (zi i < 2147483648 ∧ i.toInt = (zi i : Int)) ∨ (2147483648 ≤ zi i ∧ i.toInt = (zi i : Int) - 4294967296) := by
  have h := zi_toInt i
  by_cases q : zi i < 2147483648
  · rw [if_pos q] at h; exact Or.inl ⟨q, h⟩
  · rw [if_neg q] at h; exact Or.inr ⟨Nat.le_of_not_lt q, h⟩
theorem zj_cases (i : Int64) : (zj i < 9223372036854775808 ∧ i.toInt = (zj i : Int)) ∨ (9223372036854775808 ≤ zj i ∧ i.toInt = (zj i : Int) - 18446744073709551616) := by
  have h := zj_toInt i
  by_cases q : zj i < 9223372036854775808
  · rw [if_pos q] at h; exact Or.inl ⟨q, h⟩
  · rw [if_neg q] at h; exact Or.inr ⟨Nat.le_of_not_lt q, h⟩
theorem znmod (a b c : Nat) : Nat.mod (Nat.add a b) c = (a + b) % c := rfl
theorem zi2l_ok {a : Nat} {x : Int32} (hx : a < 4294967296 → zi x = a) : zi2l a < 18446744073709551616 → zj x.toInt64 = zi2l a := by
  have h0 : x.toInt64.toInt = x.toInt := Int32.toInt_toInt64 x
  have h3 := zj_lt x.toInt64
  have h4 := zi_lt x
  unfold zi2l
  cases hb : Nat.ble 2147483648 a
  · intro _
    have h1 : a < 2147483648 := zble_f hb
    have e1 := hx (by omega)
    show zj x.toInt64 = a
    rcases zi_cases x with ⟨c1, c2⟩ | ⟨c1, c2⟩ <;> rcases zj_cases x.toInt64 with ⟨d1, d2⟩ | ⟨d1, d2⟩ <;> omega
  · have h1 : 2147483648 ≤ a := Nat.le_of_ble_eq_true hb
    cases hc : Nat.ble 4294967296 a
    · intro _
      have e1 := hx (zble_f hc)
      have g : zj x.toInt64 = a + 18446744069414584320 := by
        rcases zi_cases x with ⟨c1, c2⟩ | ⟨c1, c2⟩ <;> rcases zj_cases x.toInt64 with ⟨d1, d2⟩ | ⟨d1, d2⟩ <;> omega
      exact g
    · intro q
      exact absurd q (Nat.lt_irrefl _)
theorem zl2i_ok {a : Nat} {x : Int64} (hx : a < 18446744073709551616 → zj x = a) : zl2i a < 4294967296 → zi x.toInt32 = zl2i a := by
  unfold zl2i
  cases hb : Nat.ble 18446744073709551616 a
  · intro _
    have e1 := hx (zble_f hb)
    show x.toInt32.toBitVec.toNat = _
    rw [Int64.toBitVec_toInt32, BitVec.signExtend_eq_setWidth_of_le _ (by decide), BitVec.toNat_setWidth]
    show zj x % 4294967296 = _
    rw [e1]
    rfl
  · intro q
    exact absurd q (Nat.lt_irrefl _)
/-- comparing -/
def zlei (a b : Nat) : Bool := cond (Nat.ble 2147483648 (Nat.lor a b)) (Nat.ble (Nat.mod (Nat.add a 2147483648) 4294967296) (Nat.mod (Nat.add b 2147483648) 4294967296)) (Nat.ble a b)
def zlej (a b : Nat) : Bool := Nat.ble (Nat.mod (Nat.add a 9223372036854775808) 18446744073709551616) (Nat.mod (Nat.add b 9223372036854775808) 18446744073709551616)
theorem zble_iff {a b : Nat} : Nat.ble a b = true ↔ a ≤ b := ⟨Nat.le_of_ble_eq_true, Nat.ble_eq_true_of_le⟩
theorem zlei_ok {x y : Int32} : zlei (zi x) (zi y) = true ↔ x ≤ y := by
  rw [Int32.le_iff_toInt_le]
  have h1 := zi_lt x
  have h2 := zi_lt y
  unfold zlei
  cases hb : Nat.ble 2147483648 (Nat.lor (zi x) (zi y))
  · obtain ⟨g1, g2⟩ := zle31 hb
    rw [cond_false, zble_iff]
    rcases zi_cases x with ⟨c1, c2⟩ | ⟨c1, c2⟩ <;> rcases zi_cases y with ⟨d1, d2⟩ | ⟨d1, d2⟩ <;> omega
  · rw [cond_true, zble_iff, znmod, znmod]
    rcases zi_cases x with ⟨c1, c2⟩ | ⟨c1, c2⟩ <;> rcases zi_cases y with ⟨d1, d2⟩ | ⟨d1, d2⟩ <;> omega
theorem zlej_ok {x y : Int64} : zlej (zj x) (zj y) = true ↔ x ≤ y := by
  rw [Int64.le_iff_toInt_le]
  have h1 := zj_lt x
  have h2 := zj_lt y
  unfold zlej
  rw [zble_iff, znmod, znmod]
  rcases zj_cases x with ⟨c1, c2⟩ | ⟨c1, c2⟩ <;> rcases zj_cases y with ⟨d1, d2⟩ | ⟨d1, d2⟩ <;> omega
def zlcmp (a b : Nat) : Nat := cond (Nat.ble 18446744073709551616 (Nat.lor a b)) 4294967296 (cond (Nat.beq a b) 0 (cond (zlej a b) 4294967295 1))
theorem zi_m1 : zi (-1 : Int32) = 4294967295 := by decide
theorem zi_p1 : zi (1 : Int32) = 1 := by decide
theorem zi_z : zi (0 : Int32) = 0 := by decide
theorem zlcmp_in (x y : Int64) : zi (lg_cmp x y) = cond (Nat.beq (zj x) (zj y)) 0 (cond (zlej (zj x) (zj y)) 4294967295 1) := by
  unfold lg_cmp
  cases hc : Nat.beq (zj x) (zj y)
  · have hne : ¬ x = y := fun q => by rw [q, Nat.beq_refl] at hc; cases hc
    cases hd : zlej (zj x) (zj y)
    · have h3 : ¬ x ≤ y := fun q => by rw [zlej_ok.mpr q] at hd; cases hd
      rw [if_pos (Int64.not_le.mp h3), cond_false, cond_false]
      exact zi_p1
    · have h3 : x ≤ y := zlej_ok.mp hd
      rw [if_neg (Int64.not_lt.mpr h3), if_neg hne, cond_false, cond_true]
      exact zi_m1
  · have he : x = y := zj_inj (Nat.eq_of_beq_eq_true hc)
    rw [he, if_neg Int64.lt_irrefl, if_pos rfl, cond_true]
    exact zi_z
theorem zlcmp_ok {a b : Nat} {x y : Int64} (hx : a < 18446744073709551616 → zj x = a) (hy : b < 18446744073709551616 → zj y = b) : zlcmp a b < 4294967296 → zi (lg_cmp x y) = zlcmp a b := by
  unfold zlcmp
  cases hb : Nat.ble 18446744073709551616 (Nat.lor a b)
  · intro _
    obtain ⟨h1, h2⟩ := zle64 hb
    rw [zlcmp_in, hx h1, hy h2, cond_false]
  · rw [cond_true]
    intro q
    exact absurd q (Nat.lt_irrefl _)
/-- longs' quotients, likewise -/
def zdivj (a b : Nat) : Nat := cond (Nat.ble 9223372036854775808 (Nat.lor a b)) 18446744073709551616 (Nat.div a b)
def zremj (a b : Nat) : Nat := cond (Nat.ble 9223372036854775808 (Nat.lor a b)) 18446744073709551616 (Nat.mod a b)
theorem zle63 {a b : Nat} (h : Nat.ble 9223372036854775808 (Nat.lor a b) = false) : a < 9223372036854775808 ∧ b < 9223372036854775808 := zle_lor (w := 63) h
theorem zj_div {x y : Int64} (hx : zj x < 9223372036854775808) (hy : zj y < 9223372036854775808) : zj (x / y) = zj x / zj y := by
  show (x / y).toBitVec.toNat = _
  rw [Int64.toBitVec_div]
  have m1 : x.toBitVec.msb = false := by rw [BitVec.msb_eq_decide]; exact decide_eq_false (by show ¬ 9223372036854775808 ≤ zj x; omega)
  have m2 : y.toBitVec.msb = false := by rw [BitVec.msb_eq_decide]; exact decide_eq_false (by show ¬ 9223372036854775808 ≤ zj y; omega)
  rw [BitVec.sdiv_eq, m1, m2]
  show (x.toBitVec.udiv y.toBitVec).toNat = _
  rw [BitVec.udiv_eq, BitVec.toNat_udiv]
  rfl
theorem zdivj_ok {a b : Nat} {x y : Int64} (hx : a < 18446744073709551616 → zj x = a) (hy : b < 18446744073709551616 → zj y = b) : zdivj a b < 18446744073709551616 → zj (x / y) = zdivj a b := by
  unfold zdivj
  cases hb : Nat.ble 9223372036854775808 (Nat.lor a b)
  · intro _
    obtain ⟨h1, h2⟩ := zle63 hb
    have e1 := hx (by omega)
    have e2 := hy (by omega)
    rw [zj_div (by omega) (by omega), e1, e2]
    rfl
  · intro q
    exact absurd q (Nat.lt_irrefl _)
theorem zremj_ok {a b : Nat} {x y : Int64} (hx : a < 18446744073709551616 → zj x = a) (hy : b < 18446744073709551616 → zj y = b) : zremj a b < 18446744073709551616 → zj (x - x / y * y) = zremj a b := by
  unfold zremj
  cases hb : Nat.ble 9223372036854775808 (Nat.lor a b)
  · intro _
    obtain ⟨h1, h2⟩ := zle63 hb
    have e1 := hx (by omega)
    have e2 := hy (by omega)
    rw [zj_sub, zj_mul, zj_div (by omega) (by omega), e1, e2]
    show _ = a % b
    have h3 : a / b * b ≤ a := Nat.div_mul_le_self a b
    have h4 : a % b + b * (a / b) = a := Nat.mod_add_div a b
    rw [Nat.mul_comm b] at h4
    rw [Nat.mod_eq_of_lt (show a / b * b < 18446744073709551616 by omega)]
    omega
  · intro q
    exact absurd q (Nat.lt_irrefl _)
/-- no code but of numbers known and not known -/
theorem zk2_le {a b v : Nat} (h : a < 4294967296 → b < 4294967296 → v ≤ 4294967296) : zk2 a b v ≤ 4294967296 := by
  unfold zk2
  cases hb : Nat.ble 4294967296 (Nat.lor a b)
  · obtain ⟨h1, h2⟩ := zle32 hb
    exact h h1 h2
  · exact Nat.le_refl _
theorem zmod_le (x : Nat) : Nat.mod x 4294967296 ≤ 4294967296 := Nat.le_of_lt (Nat.mod_lt x (by decide))
theorem zadd_le (a b : Nat) : zadd a b ≤ 4294967296 := zk2_le (fun _ _ => zmod_le _)
theorem zsub_le (a b : Nat) : zsub a b ≤ 4294967296 := zk2_le (fun _ _ => zmod_le _)
theorem zmul_le (a b : Nat) : zmul a b ≤ 4294967296 := zk2_le (fun _ _ => zmod_le _)
theorem zand_le (a b : Nat) : zand a b ≤ 4294967296 := zk2_le (fun h _ => Nat.le_trans Nat.and_le_left (Nat.le_of_lt h))
theorem zor_le (a b : Nat) : zor a b ≤ 4294967296 := zk2_le (fun h1 h2 => Nat.le_of_lt (Nat.or_lt_two_pow (n := 32) h1 h2))
theorem zxor_le (a b : Nat) : zxor a b ≤ 4294967296 := zk2_le (fun h1 h2 => Nat.le_of_lt (Nat.xor_lt_two_pow (n := 32) h1 h2))
theorem zdiv_le (a b : Nat) : zdiv a b ≤ 4294967296 := by
  unfold zdiv
  cases hb : Nat.ble 2147483648 (Nat.lor a b)
  · exact Nat.le_trans (Nat.div_le_self a b) (by have := (zle31 hb).1; omega)
  · exact Nat.le_refl _
theorem zrem_le (a b : Nat) : zrem a b ≤ 4294967296 := by
  unfold zrem
  cases hb : Nat.ble 2147483648 (Nat.lor a b)
  · exact Nat.le_trans (Nat.mod_le a b) (by have := (zle31 hb).1; omega)
  · exact Nat.le_refl _
theorem zshl_le (a b : Nat) : zshl a b ≤ 4294967296 := by
  unfold zshl
  cases Nat.ble 4294967296 a
  · cases Nat.ble 32 b
    · exact zmod_le _
    · exact Nat.le_refl _
  · exact Nat.le_refl _
theorem zshr_le (a b : Nat) : zshr a b ≤ 4294967296 := by
  unfold zshr
  cases h : Nat.ble 2147483648 a
  · cases Nat.ble 32 b
    · exact Nat.le_trans (Nat.shiftRight_le a b) (by have := zble_f h; omega)
    · exact Nat.le_refl _
  · exact Nat.le_refl _
theorem zushr_le (a b : Nat) : zushr a b ≤ 4294967296 := by
  unfold zushr
  cases h : Nat.ble 4294967296 a
  · cases Nat.ble 32 b
    · exact Nat.le_trans (Nat.shiftRight_le a b) (by have := zble_f h; omega)
    · exact Nat.le_refl _
  · exact Nat.le_refl _
theorem zneg_le (a : Nat) : zneg a ≤ 4294967296 := by
  unfold zneg
  cases Nat.ble 4294967296 a
  · exact zmod_le _
  · exact Nat.le_refl _
theorem zl2i_le (a : Nat) : zl2i a ≤ 4294967296 := by
  unfold zl2i
  cases Nat.ble 18446744073709551616 a
  · exact zmod_le _
  · exact Nat.le_refl _
theorem zlcmp_le (a b : Nat) : zlcmp a b ≤ 4294967296 := by
  unfold zlcmp
  cases Nat.ble 18446744073709551616 (Nat.lor a b)
  · cases Nat.beq a b
    · cases zlej a b <;> decide
    · exact Nat.zero_le _
  · exact Nat.le_refl _
theorem zk2j_lt {a b v : Nat} (h : v < 4722366482869645213696) : zk2j a b v < 4722366482869645213696 := by
  unfold zk2j
  cases Nat.ble 18446744073709551616 (Nat.lor a b)
  · exact h
  · exact (by decide : (18446744073709551616 : Nat) < 4722366482869645213696)
theorem zmodj_lt (x : Nat) : Nat.mod x 18446744073709551616 < 4722366482869645213696 := Nat.lt_trans (Nat.mod_lt x (by decide)) (by decide)
theorem zaddj_lt (a b : Nat) : zaddj a b < 4722366482869645213696 := zk2j_lt (zmodj_lt _)
theorem zsubj_lt (a b : Nat) : zsubj a b < 4722366482869645213696 := zk2j_lt (zmodj_lt _)
theorem zmulj_lt (a b : Nat) : zmulj a b < 4722366482869645213696 := zk2j_lt (zmodj_lt _)
theorem zdivj_lt (a b : Nat) : zdivj a b < 4722366482869645213696 := by
  unfold zdivj
  cases hb : Nat.ble 9223372036854775808 (Nat.lor a b)
  · exact Nat.lt_of_le_of_lt (Nat.div_le_self a b) (by have := (zle_lor (w := 63) hb).1; omega)
  · exact (by decide : (18446744073709551616 : Nat) < 4722366482869645213696)
theorem zremj_lt (a b : Nat) : zremj a b < 4722366482869645213696 := by
  unfold zremj
  cases hb : Nat.ble 9223372036854775808 (Nat.lor a b)
  · exact Nat.lt_of_le_of_lt (Nat.mod_le a b) (by have := (zle_lor (w := 63) hb).1; omega)
  · exact (by decide : (18446744073709551616 : Nat) < 4722366482869645213696)
theorem znegj_lt (a : Nat) : znegj a < 4722366482869645213696 := by
  unfold znegj
  cases Nat.ble 18446744073709551616 a
  · exact zmodj_lt _
  · exact (by decide : (18446744073709551616 : Nat) < 4722366482869645213696)
theorem zi2l_lt (a : Nat) : zi2l a < 4722366482869645213696 := by
  unfold zi2l
  cases h1 : Nat.ble 2147483648 a
  · exact Nat.lt_trans (zble_f h1) (by decide)
  · cases h2 : Nat.ble 4294967296 a
    · have := zble_f h2
      show Nat.add a 18446744069414584320 < _
      exact Nat.lt_of_lt_of_le (Nat.add_lt_add_right this _) (by decide)
    · exact (by decide : (18446744073709551616 : Nat) < 4722366482869645213696)
