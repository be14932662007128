/-! numbers within bounds: least, one above the greatest -/
theorem zsub_n (x y : Nat) : Nat.sub x y = x - y := rfl
theorem zmod_n (x y : Nat) : Nat.mod x y = x % y := rfl
theorem zadd_n (x y : Nat) : Nat.add x y = x + y := rfl
theorem zdiv_n (x y : Nat) : Nat.div x y = x / y := rfl
theorem zsuc_n (x : Nat) : Nat.succ x = x + 1 := rfl
def zlo (n : Nat) : Nat := cond (Nat.ble 4294967296 n) (Nat.mod (Nat.div n 1099511627776) 4294967296) n
def zhc (c : Nat) : Nat := cond (Nat.ble c 4294967296) 4294967296 (cond (Nat.ble 549755813888 c) 4294967296 (Nat.sub c 4294967296))
def zhi (n : Nat) : Nat := cond (Nat.ble 4294967296 n) (zhc (Nat.mod n 1099511627776)) (Nat.succ n)
theorem zlo_ok [zGh] {n : Nat} {i : Int32} (h : zIs n i) : zlo n ≤ zi i := by
  unfold zlo
  cases hb : Nat.ble 4294967296 n
  · rw [cond_false]
    have := h.1 (zble_f hb)
    omega
  · exact h.2.2.1
theorem zhi_ok [zGh] {n : Nat} {i : Int32} (h : zIs n i) : zi i < zhi n := by
  have hl := zi_lt i
  unfold zhi
  cases hb : Nat.ble 4294967296 n
  · rw [cond_false, zsuc_n]
    have := h.1 (zble_f hb)
    omega
  · rw [cond_true]
    unfold zhc
    cases h1 : Nat.ble (Nat.mod n 1099511627776) 4294967296
    · rw [cond_false]
      cases h2 : Nat.ble 549755813888 (Nat.mod n 1099511627776)
      · rw [cond_false, zsub_n, zmod_n]
        have q1 := zble_f h1
        have q2 := zble_f h2
        rw [zmod_n] at q1 q2
        exact h.2.1 q1 q2
      · rw [cond_true]
        exact hl
    · rw [cond_true]
      exact hl
/-- the code of what lies between -/
def zrg (lo hi : Nat) : Nat := cond (Nat.ble hi (Nat.succ lo)) lo (Nat.add (Nat.add 4294967296 (cond (Nat.ble 4294967296 hi) 0 hi)) (Nat.mul 1099511627776 lo))
theorem zrg_ok [zGh] {lo hi : Nat} {i : Int32} (h1 : lo ≤ zi i) (h2 : zi i < hi) : zIs (zrg lo hi) i := by
  have hl := zi_lt i
  unfold zrg
  cases hb : Nat.ble hi (Nat.succ lo)
  · rw [cond_false]
    have hb2 : lo + 1 < hi := zble_f hb
    have key : ∀ c : Nat, c < 4294967296 → (0 < c → zi i < c) → zIs (4294967296 + c + 1099511627776 * lo) i := by
      intro c hc hci
      have e1 : (4294967296 + c + 1099511627776 * lo) % 1099511627776 = 4294967296 + c := by omega
      have e2 : (4294967296 + c + 1099511627776 * lo) / 1099511627776 = lo := by omega
      refine ⟨fun q => absurd q (by omega), fun q1 _ => ?_, ?_, fun q => absurd q (by omega)⟩
      · rw [e1] at q1 ⊢
        have := hci (by omega)
        omega
      · rw [e2, Nat.mod_eq_of_lt (by omega)]
        exact h1
    cases hc : Nat.ble 4294967296 hi
    · exact key hi (zble_f hc) (fun _ => h2)
    · exact key 0 (by omega) (fun q => absurd q (Nat.lt_irrefl _))
  · have : hi ≤ lo + 1 := Nat.le_of_ble_eq_true hb
    rw [cond_true]
    exact zIs_e (by omega)
def zaddq (a b : Nat) : Nat := cond (Nat.ble (Nat.add (zhi a) (zhi b)) 4294967297) (zrg (Nat.add (zlo a) (zlo b)) (Nat.pred (Nat.add (zhi a) (zhi b)))) (cond (Nat.ble 2147483648 b) (cond (Nat.ble 4294967296 b) 4294967296 (cond (Nat.ble (Nat.sub 4294967296 b) (zlo a)) (zrg (Nat.sub (zlo a) (Nat.sub 4294967296 b)) (Nat.sub (zhi a) (Nat.sub 4294967296 b))) 4294967296)) 4294967296)
def zaddR (a b : Nat) : Nat := cond (Nat.ble 4294967296 (Nat.lor a b)) (zaddq a b) (Nat.mod (Nat.add a b) 4294967296)
theorem zaddR_ok [zGh] {a b : Nat} {x y : Int32} (hx : zIs a x) (hy : zIs b y) : zIs (zaddR a b) (x + y) := by
  have lx := zlo_ok hx
  have ly := zlo_ok hy
  have ux := zhi_ok hx
  have uy := zhi_ok hy
  have hs := zi_add x y
  unfold zaddR
  cases hb : Nat.ble 4294967296 (Nat.lor a b)
  · obtain ⟨h1, h2⟩ := zle32 hb
    rw [cond_false]
    exact zIs_e (by rw [hs, hx.1 h1, hy.1 h2]; rfl)
  · rw [cond_true]
    unfold zaddq
    cases h1 : Nat.ble (Nat.add (zhi a) (zhi b)) 4294967297
    · rw [cond_false]
      cases h2 : Nat.ble 2147483648 b
      · exact zIs_u _
      · rw [cond_true]
        cases h3 : Nat.ble 4294967296 b
        · rw [cond_false]
          have e := hy.1 (zble_f h3)
          have q3 := zble_f h3
          cases h4 : Nat.ble (Nat.sub 4294967296 b) (zlo a)
          · exact zIs_u _
          · have q4 : 4294967296 - b ≤ zlo a := Nat.le_of_ble_eq_true h4
            rw [cond_true]
            have hxl := zi_lt x
            refine zrg_ok (show zlo a - (4294967296 - b) ≤ _ from ?_) (show _ < zhi a - (4294967296 - b) from ?_) <;> rw [hs, e] <;> omega
        · exact zIs_u _
    · have q1 : zhi a + zhi b ≤ 4294967297 := Nat.le_of_ble_eq_true h1
      rw [cond_true]
      refine zrg_ok (show zlo a + zlo b ≤ _ from ?_) (show _ < zhi a + zhi b - 1 from ?_) <;> rw [hs] <;> omega
def zsubR (a b : Nat) : Nat := cond (Nat.ble 4294967296 (Nat.lor a b)) (cond (Nat.ble (Nat.pred (zhi b)) (zlo a)) (zrg (Nat.sub (zlo a) (Nat.pred (zhi b))) (Nat.sub (zhi a) (zlo b))) 4294967296) (Nat.mod (Nat.add a (Nat.sub 4294967296 b)) 4294967296)
theorem zsubR_ok [zGh] {a b : Nat} {x y : Int32} (hx : zIs a x) (hy : zIs b y) : zIs (zsubR a b) (x - y) := by
  have lx := zlo_ok hx
  have ly := zlo_ok hy
  have ux := zhi_ok hx
  have uy := zhi_ok hy
  have hxl := zi_lt x
  have hs := zi_sub x y
  unfold zsubR
  cases hb : Nat.ble 4294967296 (Nat.lor a b)
  · obtain ⟨h1, h2⟩ := zle32 hb
    rw [cond_false]
    exact zIs_e (by rw [hs, hx.1 h1, hy.1 h2]; rfl)
  · rw [cond_true]
    cases h1 : Nat.ble (Nat.pred (zhi b)) (zlo a)
    · exact zIs_u _
    · have q1 : zhi b - 1 ≤ zlo a := Nat.le_of_ble_eq_true h1
      rw [cond_true]
      refine zrg_ok (show zlo a - (zhi b - 1) ≤ _ from ?_) (show _ < zhi a - zlo b from ?_) <;> rw [hs] <;> omega
def zmulR (a b : Nat) : Nat := cond (Nat.ble 4294967296 (Nat.lor a b)) (cond (Nat.ble (Nat.mul (Nat.pred (zhi a)) (Nat.pred (zhi b))) 4294967295) (zrg (Nat.mul (zlo a) (zlo b)) (Nat.succ (Nat.mul (Nat.pred (zhi a)) (Nat.pred (zhi b))))) 4294967296) (Nat.mod (Nat.mul a b) 4294967296)
theorem zmulR_ok [zGh] {a b : Nat} {x y : Int32} (hx : zIs a x) (hy : zIs b y) : zIs (zmulR a b) (x * y) := by
  have lx := zlo_ok hx
  have ly := zlo_ok hy
  have ux := zhi_ok hx
  have uy := zhi_ok hy
  have hs := zi_mul x y
  unfold zmulR
  cases hb : Nat.ble 4294967296 (Nat.lor a b)
  · obtain ⟨h1, h2⟩ := zle32 hb
    rw [cond_false]
    exact zIs_e (by rw [hs, hx.1 h1, hy.1 h2]; rfl)
  · rw [cond_true]
    cases h1 : Nat.ble (Nat.mul (Nat.pred (zhi a)) (Nat.pred (zhi b))) 4294967295
    · exact zIs_u _
    · have q1 : (zhi a - 1) * (zhi b - 1) ≤ 4294967295 := Nat.le_of_ble_eq_true h1
      rw [cond_true]
      have m1 : zi x * zi y ≤ (zhi a - 1) * (zhi b - 1) := Nat.mul_le_mul (by omega) (by omega)
      have m2 : zlo a * zlo b ≤ zi x * zi y := Nat.mul_le_mul lx ly
      have e : zi (x * y) = zi x * zi y := by rw [hs, Nat.mod_eq_of_lt (by omega)]
      refine zrg_ok (show zlo a * zlo b ≤ _ from ?_) (show _ < (zhi a - 1) * (zhi b - 1) + 1 from ?_) <;> rw [e] <;> omega
def zandR (a b : Nat) : Nat := cond (Nat.ble 4294967296 (Nat.lor a b)) (cond (Nat.ble 4294967296 b) (cond (Nat.ble 4294967296 a) 4294967296 (zrg 0 (Nat.succ a))) (zrg 0 (Nat.succ b))) (Nat.land a b)
theorem zandR_ok [zGh] {a b : Nat} {x y : Int32} (hx : zIs a x) (hy : zIs b y) : zIs (zandR a b) (x &&& y) := by
  have hs := zi_and x y
  unfold zandR
  cases hb : Nat.ble 4294967296 (Nat.lor a b)
  · obtain ⟨h1, h2⟩ := zle32 hb
    rw [cond_false]
    exact zIs_e (by rw [hs, hx.1 h1, hy.1 h2])
  · rw [cond_true]
    cases h1 : Nat.ble 4294967296 b
    · rw [cond_false]
      have e := hy.1 (zble_f h1)
      refine zrg_ok (Nat.zero_le _) (show _ < b + 1 from ?_)
      rw [hs, e]
      exact Nat.lt_succ_of_le Nat.and_le_right
    · rw [cond_true]
      cases h2 : Nat.ble 4294967296 a
      · rw [cond_false]
        have e := hx.1 (zble_f h2)
        refine zrg_ok (Nat.zero_le _) (show _ < a + 1 from ?_)
        rw [hs, e]
        exact Nat.lt_succ_of_le Nat.and_le_left
      · exact zIs_u _
def zremR (a b : Nat) : Nat := cond (Nat.ble 2147483648 (Nat.lor a b)) (cond (Nat.ble 2147483648 b) 4294967296 (cond (Nat.ble (zhi a) 2147483648) (cond (Nat.ble (zhi a) b) a (zrg 0 b)) 4294967296)) (Nat.mod a b)
def zdivR (a b : Nat) : Nat := cond (Nat.ble 2147483648 (Nat.lor a b)) (cond (Nat.ble 2147483648 b) 4294967296 (cond (Nat.ble (zhi a) 2147483648) (zrg (Nat.div (zlo a) b) (Nat.succ (Nat.div (Nat.pred (zhi a)) b))) 4294967296)) (Nat.div a b)
theorem zi_rem {x y : Int32} (hx : zi x < 2147483648) (hy : zi y < 2147483648) : zi (x - x / y * y) = zi x % zi y := by
  have h := zrem_ok (a := zi x) (b := zi y) (x := x) (y := y) (fun _ => rfl) (fun _ => rfl)
  unfold zrem at h
  have hl : Nat.ble 2147483648 (Nat.lor (zi x) (zi y)) = false := by
    cases h : Nat.ble 2147483648 (Nat.lor (zi x) (zi y))
    · rfl
    · exact absurd (Nat.le_of_ble_eq_true h) (Nat.not_le.mpr (Nat.or_lt_two_pow (n := 31) hx hy))
  rw [hl, cond_false] at h
  exact h (Nat.lt_of_le_of_lt (Nat.mod_le _ _) (by omega))
theorem zremR_ok [zGh] {a b : Nat} {x y : Int32} (hx : zIs a x) (hy : zi y = b) (hb0 : 0 < b) : zIs (zremR a b) (x - x / y * y) := by
  have lx := zlo_ok hx
  have ux := zhi_ok hx
  unfold zremR
  cases hb : Nat.ble 2147483648 (Nat.lor a b)
  · obtain ⟨h1, h2⟩ := zle31 hb
    rw [cond_false]
    have e := hx.1 (by omega)
    exact zIs_e (by rw [zi_rem (by omega) (by omega), e, hy]; rfl)
  · rw [cond_true]
    cases h1 : Nat.ble 2147483648 b
    · rw [cond_false]
      have q1 := zble_f h1
      cases h2 : Nat.ble (zhi a) 2147483648
      · exact zIs_u _
      · have q2 := Nat.le_of_ble_eq_true h2
        rw [cond_true]
        have e : zi (x - x / y * y) = zi x % b := by rw [zi_rem (by omega) (by omega), hy]
        cases h3 : Nat.ble (zhi a) b
        · rw [cond_false]
          exact zrg_ok (Nat.zero_le _) (by rw [e]; exact Nat.mod_lt _ hb0)
        · have q3 := Nat.le_of_ble_eq_true h3
          rw [cond_true]
          have e2 : x - x / y * y = x := zi_inj (by rw [e, Nat.mod_eq_of_lt (by omega)])
          rw [e2]
          exact hx
    · exact zIs_u _
theorem zdivR_ok [zGh] {a b : Nat} {x y : Int32} (hx : zIs a x) (hy : zi y = b) (hb0 : 0 < b) : zIs (zdivR a b) (x / y) := by
  have lx := zlo_ok hx
  have ux := zhi_ok hx
  unfold zdivR
  cases hb : Nat.ble 2147483648 (Nat.lor a b)
  · obtain ⟨h1, h2⟩ := zle31 hb
    rw [cond_false]
    have e := hx.1 (by omega)
    exact zIs_e (by rw [zi_div (by omega) (by omega), e, hy]; rfl)
  · rw [cond_true]
    cases h1 : Nat.ble 2147483648 b
    · rw [cond_false]
      have q1 := zble_f h1
      cases h2 : Nat.ble (zhi a) 2147483648
      · exact zIs_u _
      · have q2 := Nat.le_of_ble_eq_true h2
        rw [cond_true]
        have e : zi (x / y) = zi x / b := by rw [zi_div (by omega) (by omega), hy]
        have g1 : zlo a / b ≤ zi x / b := Nat.div_le_div_right lx
        have g2 : zi x / b ≤ (zhi a - 1) / b := Nat.div_le_div_right (by omega)
        refine zrg_ok (show zlo a / b ≤ _ by rw [e]; exact g1) (show _ < (zhi a - 1) / b + 1 by rw [e]; omega)
    · exact zIs_u _
/-- one more: a symbol stays one -/
def zincR (a v : Nat) : Nat := cond (Nat.ble 4722366482869645213696 a) (cond (Nat.beq v 1) (cond (Nat.ble (zhi a) 2147483647) (Nat.add a 309485009821346168236408833) (zaddR a v)) (zaddR a v)) (zaddR a v)
theorem zincR_ok [zGh] {a v : Nat} {x y : Int32} (hx : zIs a x) (hy : zi y = v) : zIs (zincR a v) (x + y) := by
  have hd := zaddR_ok hx (zIs_e hy)
  have ux := zhi_ok hx
  unfold zincR
  cases hb : Nat.ble 4722366482869645213696 a
  · exact hd
  · rw [cond_true]
    cases h1 : Nat.beq v 1
    · exact hd
    · have e1 : v = 1 := Nat.eq_of_beq_eq_true h1
      rw [cond_true]
      cases h2 : Nat.ble (zhi a) 2147483647
      · exact hd
      · have q2 := Nat.le_of_ble_eq_true h2
        have qb := Nat.le_of_ble_eq_true hb
        rw [cond_true]
        have e : zi (x + y) = zi x + 1 := by rw [zi_add, hy, e1, Nat.mod_eq_of_lt (by omega)]
        have hh : 4294967296 < a % 1099511627776 ∧ a % 1099511627776 < 549755813888 ∧ zhi a = a % 1099511627776 - 4294967296 := by
          have q3 : zhi a ≤ 2147483647 := q2
          unfold zhi at q3 ⊢
          have hbb : Nat.ble 4294967296 a = true := Nat.ble_eq_true_of_le (by omega)
          rw [hbb, cond_true] at q3 ⊢
          unfold zhc at q3 ⊢
          rw [zmod_n] at q3 ⊢
          cases k1 : Nat.ble (a % 1099511627776) 4294967296
          · rw [k1, cond_false] at q3
            rw [cond_false]
            cases k2 : Nat.ble 549755813888 (a % 1099511627776)
            · rw [cond_false, zsub_n]
              exact ⟨zble_f k1, zble_f k2, rfl⟩
            · rw [k2, cond_true] at q3; omega
          · rw [k1, cond_true] at q3; omega
        obtain ⟨g1, g2, g3⟩ := hh
        have f3 := hx.2.2.1
        have f4 := hx.2.2.2 qb
        rw [zadd_n]
        refine ⟨fun q => absurd q (by omega), fun _ _ => ?_, ?_, fun _ => ?_⟩
        · rw [e]
          omega
        · rw [e]
          omega
        · have k1 : (a + 309485009821346168236408833) / 4722366482869645213696 = a / 4722366482869645213696 + 65536 := by omega
          rw [k1, e, f4]
          have k2 : (a / 4722366482869645213696 + 65536) % 65536 = a / 4722366482869645213696 % 65536 := by omega
          rw [k2]
          omega
section OPS
variable {d : Nat} {X : zM} {fr : Nat} {P : zP d} {pc pc' : Nat} {k kt kf : zK d}
theorem sm_binR [G : zGh] {z : Nat → Nat → Nat} {F : Int32 → Int32 → Int32} (hz : ∀ {a b : Nat} {x y : Int32}, zIs a x → zIs b y → zIs (z a b) (F x y)) (hg : ∀ x y, zGo X pc pc' [.int y, .int x] [.int (F x y)]) (hs : zSim X fr P pc' k) : zSim X fr P pc (xbin z k) := sm_go (fun ad L S h st hk hst => by
  obtain ⟨b, S, rfl, hk1⟩ := zpI_t hk
  obtain ⟨a, S, rfl, hk2⟩ := zpI_t hk1
  obtain ⟨y, st, rfl, hy, hst⟩ := zRepL_I hst
  obtain ⟨x, st, rfl, hx, hst⟩ := zRepL_I hst
  have hk : zF (fun v => k L (zI v :: S) h) (z a b) = true := hk2
  rw [zF_eq] at hk
  exact ⟨_, [.int y, .int x], [.int (F x y)], st, hk, rfl, hg x y, ⟨⟨_, rfl, hz hx hy⟩, hst⟩⟩) hs
theorem sm_binNR [G : zGh] {z : Nat → Nat → Nat} {F : Int32 → Int32 → Int32} (hz : ∀ {a b : Nat} {x y : Int32}, zIs a x → zi y = b → 0 < b → zIs (z a b) (F x y)) (hg : ∀ x y, ¬ y = 0 → zGo X pc pc' [.int y, .int x] [.int (F x y)]) (hs : zSim X fr P pc' k) : zSim X fr P pc (xbinN z k) := sm_go (fun ad L S h st hk hst => by
  obtain ⟨b, S, rfl, hk1⟩ := zpI_t hk
  obtain ⟨a, S, rfl, hk2⟩ := zpI_t hk1
  obtain ⟨y, st, rfl, hy, hst⟩ := zRepL_I hst
  obtain ⟨x, st, rfl, hx, hst⟩ := zRepL_I hst
  have hk : cond (Nat.beq b 0) false (cond (Nat.ble 4294967296 b) false (zF (fun v => k L (zI v :: S) h) (z a b))) = true := hk2
  cases h1 : Nat.beq b 0
  · cases h2 : Nat.ble 4294967296 b
    · rw [h1, h2, cond_false, cond_false, zF_eq] at hk
      have e := hy.1 (zble_f h2)
      have hb0 : 0 < b := Nat.pos_of_ne_zero (fun q => by rw [q] at h1; cases h1)
      have hne : ¬ y = 0 := fun q => by rw [q, zi_z] at e; omega
      exact ⟨_, [.int y, .int x], [.int (F x y)], st, hk, rfl, hg x y hne, ⟨⟨_, rfl, hz hx e hb0⟩, hst⟩⟩
    · rw [h1, h2] at hk
      cases hk
  · rw [h1] at hk
    cases hk) hs
theorem sm_iaddR [G : zGh] (dg : decode X.2.1 pc = .ok (.iadd, 1)) (hs : zSim X fr P (pc + 1) k) : zSim X fr P pc (xbin zaddR k) := sm_binR zaddR_ok (fun _ _ => fun hx hb kk => lv_iadd hx hb dg kk) hs
theorem sm_isubR [G : zGh] (dg : decode X.2.1 pc = .ok (.isub, 1)) (hs : zSim X fr P (pc + 1) k) : zSim X fr P pc (xbin zsubR k) := sm_binR zsubR_ok (fun _ _ => fun hx hb kk => lv_isub hx hb dg kk) hs
theorem sm_imulR [G : zGh] (dg : decode X.2.1 pc = .ok (.imul, 1)) (hs : zSim X fr P (pc + 1) k) : zSim X fr P pc (xbin zmulR k) := sm_binR zmulR_ok (fun _ _ => fun hx hb kk => lv_imul hx hb dg kk) hs
theorem sm_iandR [G : zGh] (dg : decode X.2.1 pc = .ok (.iand, 1)) (hs : zSim X fr P (pc + 1) k) : zSim X fr P pc (xbin zandR k) := sm_binR zandR_ok (fun _ _ => fun hx hb kk => lv_iand hx hb dg kk) hs
theorem sm_idivR [G : zGh] (dg : decode X.2.1 pc = .ok (.idiv, 1)) (hs : zSim X fr P (pc + 1) k) : zSim X fr P pc (xbinN zdivR k) := sm_binNR zdivR_ok (fun _ _ hne => fun hx hb kk => lv_idiv hx hb dg hne kk) hs
theorem sm_iremR [G : zGh] (dg : decode X.2.1 pc = .ok (.irem, 1)) (hs : zSim X fr P (pc + 1) k) : zSim X fr P pc (xbinN zremR k) := sm_binNR zremR_ok (fun _ _ hne => fun hx hb kk => lv_irem hx hb dg hne kk) hs
noncomputable def xincR (n v : Nat) (k : zK d) : zK d := fun L S h => znth n L (fun u => Sum.rec (motive := fun _ => Bool) (fun a => zF (fun w => zst n (zI w) L (fun L => k L S h)) (zincR a v)) (fun _ => false) u)
theorem sm_iincR [G : zGh] {n v : Nat} {z : Int} (dg : decode X.2.1 pc = .ok (.iinc n z, 3)) (hz : zi (Int32.ofInt z) = v) (hs : zSim X fr P (pc + 3) k) : zSim X fr P pc (xincR n v k) := by
  intro Ch cA D ad0 A MC MS p l e s m args below meth c ls st H locs cells slots L S h Cx hk R0
  obtain ⟨ws, hHp, hpre, hP, hD, hS, hL, hst, hcb, hsb⟩ := R0
  obtain ⟨u, hu, hk2⟩ := znth_t n hk
  match u, hu, hk2 with
  | .inl a, hu, hk2 =>
    have hk2 : zF (fun w => zst n (zI w) L (fun L => k L S h)) (zincR a v) = true := hk2
    rw [zF_eq] at hk2
    obtain ⟨L', hlen, hn, hz2, hk2⟩ := zst_t n hk2
    obtain ⟨hLn, lv, hlv, hall⟩ := hL
    rcases hall n _ hu with q | ⟨x, hx, i, rfl, hi⟩
    · cases q
    · obtain ⟨j, hj⟩ := List.getElem?_of_mem hx
      refine lv_iinc (k := j) Cx.1 Cx.2.1 dg hlv hj rfl (by rw [← hLn]; exact hn) rfl (fun ls' hls => ?_)
      exact hs Ch cA D ad0 A MC MS p l e s m args below meth c ls' _ H locs cells slots L' _ h Cx hk2 ⟨ws, hHp, hpre, hP, hD, hS, zLoc_set1 (by rw [hlen]; exact hLn) hz2 hall (Or.inr ⟨_, rfl, zincR_ok hi hz⟩) hls, hst, hcb, hsb⟩
end OPS
