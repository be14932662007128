/-! A machine of numbers alone, which the kernel can run: values, cells, words packed into one number, a tree of cells -/
abbrev zV : Type := Nat ⊕ (Nat ⊕ (Nat ⊕ Nat))
abbrev zI (n : Nat) : zV := Sum.inl n
abbrev zR (n : Nat) : zV := Sum.inr (Sum.inl n)
abbrev zL (n : Nat) : zV := Sum.inr (Sum.inr (Sum.inl n))
abbrev zU : zV := Sum.inr (Sum.inr (Sum.inr 0))
/-- a reference to one of some cells that lie side by side -/
abbrev zW (n : Nat) : zV := Sum.inr (Sum.inr (Sum.inr n))
/-- kind, length, words -/
abbrev zC : Type := Nat × (Nat × Nat)
def zT : Nat → Type
  | 0 => zC
  | d + 1 => zT d × zT d
noncomputable def zget (d : Nat) : zT d → Nat → zC := Nat.rec (motive := fun d => zT d → Nat → zC) (fun c _ => c) (fun d r t i => cond (Nat.ble (Nat.pow 2 d) i) (r (Prod.snd (α := zT d) (β := zT d) t) (Nat.sub i (Nat.pow 2 d))) (r (Prod.fst (α := zT d) (β := zT d) t) i)) d
noncomputable def zset (d : Nat) : zT d → Nat → zC → zT d := Nat.rec (motive := fun d => zT d → Nat → zC → zT d) (fun _ _ c => c) (fun d r t i c => cond (Nat.ble (Nat.pow 2 d) i) (Prod.fst (α := zT d) (β := zT d) t, r (Prod.snd (α := zT d) (β := zT d) t) (Nat.sub i (Nat.pow 2 d)) c) (r (Prod.fst (α := zT d) (β := zT d) t) i c, Prod.snd (α := zT d) (β := zT d) t)) d
noncomputable def zsetK (d : Nat) : zT d → Nat → zC → (zT d → Bool) → Bool := Nat.rec (motive := fun d => zT d → Nat → zC → (zT d → Bool) → Bool) (fun _ _ c k => k c) (fun d r t i c k => Prod.rec (motive := fun _ => Bool) (fun (a b : zT d) => cond (Nat.ble (Nat.pow 2 d) i) (r b (Nat.sub i (Nat.pow 2 d)) c (fun b => k (a, b))) (r a i c (fun a => k (a, b)))) (show zT d × zT d from t)) d
theorem zget_zero (c : zT 0) (i : Nat) : zget 0 c i = c := rfl
theorem zget_succ (d : Nat) (t : zT (d + 1)) (i : Nat) : zget (d + 1) t i = cond (Nat.ble (Nat.pow 2 d) i) (zget d (Prod.snd (α := zT d) (β := zT d) t) (Nat.sub i (Nat.pow 2 d))) (zget d (Prod.fst (α := zT d) (β := zT d) t) i) := rfl
theorem zset_succ (d : Nat) (t : zT (d + 1)) (i : Nat) (c : zC) : zset (d + 1) t i c = cond (Nat.ble (Nat.pow 2 d) i) (Prod.fst (α := zT d) (β := zT d) t, zset d (Prod.snd (α := zT d) (β := zT d) t) (Nat.sub i (Nat.pow 2 d)) c) (zset d (Prod.fst (α := zT d) (β := zT d) t) i c, Prod.snd (α := zT d) (β := zT d) t) := rfl
theorem zsetK_eq (d : Nat) : ∀ (t : zT d) (i : Nat) (c : zC) (k : zT d → Bool), zsetK d t i c k = k (zset d t i c) := by
  induction d with
  | zero => intro t i c k; rfl
  | succ d ih =>
    intro t i c k
    have key : ∀ t : zT d × zT d, zsetK (d + 1) t i c k = k (zset (d + 1) t i c) := by
      intro t
      cases t with
      | mk a b =>
        show cond (Nat.ble (Nat.pow 2 d) i) (zsetK d b (Nat.sub i (Nat.pow 2 d)) c (fun b => k (a, b))) (zsetK d a i c (fun a => k (a, b))) = k (cond (Nat.ble (Nat.pow 2 d) i) (a, zset d b (Nat.sub i (Nat.pow 2 d)) c) (zset d a i c, b))
        cases Nat.ble (Nat.pow 2 d) i
        · exact ih a i c (fun a => k (a, b))
        · exact ih b (Nat.sub i (Nat.pow 2 d)) c (fun b => k (a, b))
    exact key t
theorem zget_set_same (d : Nat) : ∀ (t : zT d) (i : Nat) (c : zC), i < 2 ^ d → zget d (zset d t i c) i = c := by
  induction d with
  | zero => intro t i c h; rfl
  | succ d ih =>
    intro t i c h
    have h2 : i < 2 ^ d + 2 ^ d := by rw [Nat.pow_succ] at h; omega
    have key : ∀ t : zT d × zT d, zget (d + 1) (zset (d + 1) t i c) i = c := by
      intro t
      cases t with
      | mk a b =>
        show cond (Nat.ble (Nat.pow 2 d) i) (zget d (Prod.snd (α := zT d) (β := zT d) (cond (Nat.ble (Nat.pow 2 d) i) (a, zset d b (Nat.sub i (Nat.pow 2 d)) c) (zset d a i c, b))) (Nat.sub i (Nat.pow 2 d))) (zget d (Prod.fst (α := zT d) (β := zT d) (cond (Nat.ble (Nat.pow 2 d) i) (a, zset d b (Nat.sub i (Nat.pow 2 d)) c) (zset d a i c, b))) i) = c
        cases hb : Nat.ble (Nat.pow 2 d) i
        · have hlt : i < 2 ^ d := Nat.lt_of_not_le (fun q => by rw [show Nat.ble (Nat.pow 2 d) i = true from Nat.ble_eq_true_of_le q] at hb; cases hb)
          exact ih a i c hlt
        · have hle : 2 ^ d ≤ i := Nat.le_of_ble_eq_true hb
          exact ih b (i - 2 ^ d) c (show i - 2 ^ d < 2 ^ d by omega)
    exact key t
theorem zget_set_ne (d : Nat) : ∀ (t : zT d) (i j : Nat) (c : zC), i < 2 ^ d → j < 2 ^ d → i ≠ j → zget d (zset d t i c) j = zget d t j := by
  induction d with
  | zero => intro t i j c h1 h2 h; exact absurd (show i = j by have : (2:Nat) ^ 0 = 1 := rfl; omega) h
  | succ d ih =>
    intro t i j c h1 h2 h
    have g1 : i < 2 ^ d + 2 ^ d := by rw [Nat.pow_succ] at h1; omega
    have g2 : j < 2 ^ d + 2 ^ d := by rw [Nat.pow_succ] at h2; omega
    have key : ∀ t : zT d × zT d, zget (d + 1) (zset (d + 1) t i c) j = zget (d + 1) t j := by
      intro t
      cases t with
      | mk a b =>
        show cond (Nat.ble (Nat.pow 2 d) j) (zget d (Prod.snd (α := zT d) (β := zT d) (cond (Nat.ble (Nat.pow 2 d) i) (a, zset d b (Nat.sub i (Nat.pow 2 d)) c) (zset d a i c, b))) (Nat.sub j (Nat.pow 2 d))) (zget d (Prod.fst (α := zT d) (β := zT d) (cond (Nat.ble (Nat.pow 2 d) i) (a, zset d b (Nat.sub i (Nat.pow 2 d)) c) (zset d a i c, b))) j) = cond (Nat.ble (Nat.pow 2 d) j) (zget d b (Nat.sub j (Nat.pow 2 d))) (zget d a j)
        cases hb : Nat.ble (Nat.pow 2 d) i <;> cases hc : Nat.ble (Nat.pow 2 d) j
        · have a1 : i < 2 ^ d := Nat.lt_of_not_le (fun q => by rw [show Nat.ble (Nat.pow 2 d) i = true from Nat.ble_eq_true_of_le q] at hb; cases hb)
          have a2 : j < 2 ^ d := Nat.lt_of_not_le (fun q => by rw [show Nat.ble (Nat.pow 2 d) j = true from Nat.ble_eq_true_of_le q] at hc; cases hc)
          exact ih a i j c a1 a2 h
        · rfl
        · rfl
        · have a1 : 2 ^ d ≤ i := Nat.le_of_ble_eq_true hb
          have a2 : 2 ^ d ≤ j := Nat.le_of_ble_eq_true hc
          exact ih b (i - 2 ^ d) (j - 2 ^ d) c (show i - 2 ^ d < 2 ^ d by omega) (show j - 2 ^ d < 2 ^ d by omega) (show i - 2 ^ d ≠ j - 2 ^ d by omega)
    exact key t
/-- word i of b bits -/
def zwd (b x i : Nat) : Nat := Nat.mod (Nat.shiftRight x (Nat.mul b i)) (Nat.pow 2 b)
def zup (b x i v : Nat) : Nat := Nat.xor x (Nat.shiftLeft (Nat.xor (zwd b x i) v) (Nat.mul b i))
theorem zwd_lt (b x i : Nat) : zwd b x i < 2 ^ b := Nat.mod_lt _ (Nat.two_pow_pos b)
theorem zwd_bit (b x i t : Nat) (h : t < b) : (zwd b x i).testBit t = x.testBit (b * i + t) := by
  show ((x >>> (b * i)) % 2 ^ b).testBit t = _
  rw [Nat.testBit_mod_two_pow, Nat.testBit_shiftRight]
  simp [h]
theorem zwd_ext {b x y : Nat} (hx : x < 2 ^ b) (hy : y < 2 ^ b) (h : ∀ t, t < b → x.testBit t = y.testBit t) : x = y := by
  apply Nat.eq_of_testBit_eq
  intro t
  by_cases ht : t < b
  · exact h t ht
  · rw [Nat.testBit_lt_two_pow (Nat.lt_of_lt_of_le hx (Nat.pow_le_pow_right (by decide) (by omega))), Nat.testBit_lt_two_pow (Nat.lt_of_lt_of_le hy (Nat.pow_le_pow_right (by decide) (by omega)))]
theorem zup_bit (b x i v t : Nat) : (zup b x i v).testBit t = (x.testBit t ^^ (decide (b * i ≤ t) && ((zwd b x i).testBit (t - b * i) ^^ v.testBit (t - b * i)))) := by
  show (x ^^^ ((zwd b x i ^^^ v) <<< (b * i))).testBit t = _
  rw [Nat.testBit_xor, Nat.testBit_shiftLeft, Nat.testBit_xor]
theorem zwd_up_same (b x i v : Nat) (hv : v < 2 ^ b) : zwd b (zup b x i v) i = v := by
  refine zwd_ext (zwd_lt _ _ _) hv (fun t ht => ?_)
  rw [zwd_bit _ _ _ _ ht, zup_bit]
  have h1 : b * i ≤ b * i + t := Nat.le_add_right _ _
  rw [show b * i + t - b * i = t by omega, zwd_bit _ _ _ _ ht]
  simp [h1]
theorem zwd_up_ne (b x i j v : Nat) (hv : v < 2 ^ b) (h : i ≠ j) : zwd b (zup b x i v) j = zwd b x j := by
  refine zwd_ext (zwd_lt _ _ _) (zwd_lt _ _ _) (fun t ht => ?_)
  rw [zwd_bit _ _ _ _ ht, zup_bit, zwd_bit _ _ _ _ ht]
  by_cases hij : j < i
  · have h2 : b * j + b ≤ b * i := by
      have := Nat.mul_le_mul_left b (show j + 1 ≤ i from hij)
      rw [Nat.mul_add, Nat.mul_one] at this
      exact this
    have h3 : ¬ b * i ≤ b * j + t := by omega
    simp [h3]
  · have h2 : b * i + b ≤ b * j := by
      have := Nat.mul_le_mul_left b (show i + 1 ≤ j by omega)
      rw [Nat.mul_add, Nat.mul_one] at this
      exact this
    have h4 : b ≤ b * j + t - b * i := by omega
    rw [Nat.testBit_lt_two_pow (Nat.lt_of_lt_of_le (zwd_lt b x i) (Nat.pow_le_pow_right (by decide) h4)), Nat.testBit_lt_two_pow (Nat.lt_of_lt_of_le hv (Nat.pow_le_pow_right (by decide) h4))]
    simp
/-- a number worked out before it goes on -/
noncomputable def zF (k : Nat → Bool) (x : Nat) : Bool := Nat.rec (motive := fun _ => Bool) (k 0) (fun n _ => k (Nat.succ n)) x
theorem zF_eq (k : Nat → Bool) (x : Nat) : zF k x = k x := by cases x <;> rfl
/-- an int's and a long's number -/
def zi (i : Int32) : Nat := i.toBitVec.toNat
def zj (i : Int64) : Nat := i.toBitVec.toNat
theorem zi_lt (i : Int32) : zi i < 4294967296 := i.toBitVec.isLt
theorem zj_lt (i : Int64) : zj i < 18446744073709551616 := i.toBitVec.isLt
theorem zi_inj {i j : Int32} (h : zi i = zi j) : i = j := Int32.toBitVec_inj.mp (BitVec.eq_of_toNat_eq h)
theorem zj_inj {i j : Int64} (h : zj i = zj j) : i = j := Int64.toBitVec_inj.mp (BitVec.eq_of_toNat_eq h)
theorem zi_toInt (i : Int32) : i.toInt = if zi i < 2147483648 then (zi i : Int) else (zi i : Int) - 4294967296 := by
  have h : i.toInt = i.toBitVec.toInt := rfl
  rw [h, BitVec.toInt_eq_toNat_cond]
  show (if 2 * zi i < 2 ^ 32 then (zi i : Int) else (zi i : Int) - ((2 ^ 32 : Nat) : Int)) = _
  have e : ((2 ^ 32 : Nat) : Int) = 4294967296 := by decide
  rw [e]
  by_cases q : zi i < 2147483648
  · rw [if_pos q, if_pos (by omega)]
  · rw [if_neg q, if_neg (by omega)]
theorem zj_toInt (i : Int64) : i.toInt = if zj i < 9223372036854775808 then (zj i : Int) else (zj i : Int) - 18446744073709551616 := by
  have h : i.toInt = i.toBitVec.toInt := rfl
  rw [h, BitVec.toInt_eq_toNat_cond]
  show (if 2 * zj i < 2 ^ 64 then (zj i : Int) else (zj i : Int) - ((2 ^ 64 : Nat) : Int)) = _
  have e : ((2 ^ 64 : Nat) : Int) = 18446744073709551616 := by decide
  rw [e]
  by_cases q : zj i < 9223372036854775808
  · rw [if_pos q, if_pos (by omega)]
  · rw [if_neg q, if_neg (by omega)]
theorem zi_add (x y : Int32) : zi (x + y) = (zi x + zi y) % 4294967296 := by
  show (x + y).toBitVec.toNat = _
  rw [Int32.toBitVec_add, BitVec.toNat_add]
  rfl
theorem zi_mul (x y : Int32) : zi (x * y) = (zi x * zi y) % 4294967296 := by
  show (x * y).toBitVec.toNat = _
  rw [Int32.toBitVec_mul, BitVec.toNat_mul]
  rfl
theorem zi_sub (x y : Int32) : zi (x - y) = (zi x + (4294967296 - zi y)) % 4294967296 := by
  show (x - y).toBitVec.toNat = _
  rw [Int32.toBitVec_sub, BitVec.toNat_sub, Nat.add_comm]
  rfl
theorem zj_add (x y : Int64) : zj (x + y) = (zj x + zj y) % 18446744073709551616 := by
  show (x + y).toBitVec.toNat = _
  rw [Int64.toBitVec_add, BitVec.toNat_add]
  rfl
theorem zj_mul (x y : Int64) : zj (x * y) = (zj x * zj y) % 18446744073709551616 := by
  show (x * y).toBitVec.toNat = _
  rw [Int64.toBitVec_mul, BitVec.toNat_mul]
  rfl
theorem zj_sub (x y : Int64) : zj (x - y) = (zj x + (18446744073709551616 - zj y)) % 18446744073709551616 := by
  show (x - y).toBitVec.toNat = _
  rw [Int64.toBitVec_sub, BitVec.toNat_sub, Nat.add_comm]
  rfl
theorem zi_and (x y : Int32) : zi (x &&& y) = Nat.land (zi x) (zi y) := by
  show (x &&& y).toBitVec.toNat = _
  rw [Int32.toBitVec_and, BitVec.toNat_and]
  rfl
theorem zi_or (x y : Int32) : zi (x ||| y) = Nat.lor (zi x) (zi y) := by
  show (x ||| y).toBitVec.toNat = _
  rw [Int32.toBitVec_or, BitVec.toNat_or]
  rfl
theorem zi_xor (x y : Int32) : zi (x ^^^ y) = Nat.xor (zi x) (zi y) := by
  show (x ^^^ y).toBitVec.toNat = _
  rw [Int32.toBitVec_xor, BitVec.toNat_xor]
  rfl
theorem zlor_lt {a b w : Nat} (h : Nat.lor a b < 2 ^ w) : a < 2 ^ w ∧ b < 2 ^ w := ⟨Nat.lt_of_le_of_lt Nat.left_le_or h, Nat.lt_of_le_of_lt Nat.right_le_or h⟩
