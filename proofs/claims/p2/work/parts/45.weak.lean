/-! weaker states -/
def zsubI (n m : Nat) : Bool := cond (Nat.beq n m) true (cond (Nat.ble 4722366482869645213696 m) false (cond (Nat.ble 4294967296 m) (cond (Nat.ble (zlo m) (zlo n)) (Nat.ble (zhi n) (zhi m)) false) false))
theorem zsubI_ok [zGh] {n m : Nat} {i : Int32} (h : zsubI n m = true) (hi : zIs n i) : zIs m i := by
  unfold zsubI at h
  cases h1 : Nat.beq n m
  · rw [h1, cond_false] at h
    cases h2 : Nat.ble 4722366482869645213696 m
    · rw [h2, cond_false] at h
      cases h3 : Nat.ble 4294967296 m
      · rw [h3] at h; cases h
      · rw [h3, cond_true] at h
        cases h4 : Nat.ble (zlo m) (zlo n)
        · rw [h4] at h; cases h
        · rw [h4, cond_true] at h
          have q2 := zble_f h2
          have q3 := Nat.le_of_ble_eq_true h3
          have q4 := Nat.le_of_ble_eq_true h4
          have q5 := Nat.le_of_ble_eq_true h
          have ln := zlo_ok hi
          have un := zhi_ok hi
          have e1 : zlo m = m / 1099511627776 % 4294967296 := by unfold zlo; rw [h3, cond_true, zmod_n, zdiv_n]
          refine ⟨fun q => absurd q (by omega), fun c1 c2 => ?_, by omega, fun q => absurd q (by omega)⟩
          have e2 : zhi m = m % 1099511627776 - 4294967296 := by
            unfold zhi zhc
            rw [h3, cond_true, zmod_n, zble_lt c1, cond_false, zble_lt c2, cond_false, zsub_n]
          omega
    · rw [h2] at h; cases h
  · rw [← Nat.eq_of_beq_eq_true h1]
    exact hi
def zsubJ (n m : Nat) : Bool := cond (Nat.beq n m) true (Nat.beq m 18446744073709551616)
theorem zsubJ_ok {n m : Nat} {i : Int64} (h : zsubJ n m = true) (hi : zJs n i) : zJs m i := by
  unfold zsubJ at h
  cases h1 : Nat.beq n m
  · rw [h1, cond_false] at h
    rw [Nat.eq_of_beq_eq_true h]
    exact zJs_of (fun q => absurd q (Nat.lt_irrefl _)) (by decide)
  · rw [← Nat.eq_of_beq_eq_true h1]
    exact hi
/-- a value; u: whether what isn't known at all will do -/
noncomputable def zsubV (u : Bool) (v w : zV) : Bool := Sum.rec (motive := fun _ => Bool) (fun m => Sum.rec (motive := fun _ => Bool) (fun n => zsubI n m) (fun _ => false) v) (fun w1 => Sum.rec (motive := fun _ => Bool) (fun r => Sum.rec (motive := fun _ => Bool) (fun _ => false) (fun v1 => Sum.rec (motive := fun _ => Bool) (fun s => Nat.beq s r) (fun _ => false) v1) v) (fun w2 => Sum.rec (motive := fun _ => Bool) (fun m => Sum.rec (motive := fun _ => Bool) (fun _ => false) (fun v1 => Sum.rec (motive := fun _ => Bool) (fun _ => false) (fun v2 => Sum.rec (motive := fun _ => Bool) (fun n => zsubJ n m) (fun _ => false) v2) v1) v) (fun m => cond (Nat.beq m 0) u (Sum.rec (motive := fun _ => Bool) (fun _ => false) (fun v1 => Sum.rec (motive := fun _ => Bool) (fun s => Nat.rec (motive := fun _ => Bool) false (fun s _ => cond (Nat.ble 1152921504606846976 m) false (cond (Nat.ble (Nat.mod m 1048576) s) (Nat.ble (Nat.succ s) (Nat.div m 1048576)) false)) s) (fun v2 => Sum.rec (motive := fun _ => Bool) (fun _ => false) (fun n => Nat.beq n m) v2) v1) v)) w2) w1) w
theorem zsubV_ok [zGh] {u : Bool} {ad : zA} {v w : zV} {x : Value} (h : zsubV u v w = true) (hv : zRep ad v x) : (u = true ∧ w = zU) ∨ zRep ad w x := by
  match w, h with
  | .inl m, h =>
    match v, h, hv with
    | .inl n, h, ⟨i, h1, h2⟩ => exact Or.inr ⟨i, h1, zsubI_ok h h2⟩
  | .inr (.inl r), h =>
    match v, h, hv with
    | .inr (.inl s), h, hv =>
      have e : s = r := Nat.eq_of_beq_eq_true h
      subst e
      exact Or.inr hv
  | .inr (.inr (.inl m)), h =>
    match v, h, hv with
    | .inr (.inr (.inl n)), h, ⟨i, h1, h2⟩ => exact Or.inr ⟨i, h1, zsubJ_ok h h2⟩
  | .inr (.inr (.inr 0)), h => exact Or.inl ⟨h, rfl⟩
  | .inr (.inr (.inr (m + 1))), h =>
    match v, h, hv with
    | .inr (.inl (s + 1)), h, ⟨o, h1, h2⟩ =>
      have h : cond (Nat.ble 1152921504606846976 (m + 1)) false (cond (Nat.ble (Nat.mod (m + 1) 1048576) s) (Nat.ble (Nat.succ s) (Nat.div (m + 1) 1048576)) false) = true := h
      cases hb0 : Nat.ble 1152921504606846976 (m + 1)
      · rw [hb0, cond_false] at h
        cases hb : Nat.ble (Nat.mod (m + 1) 1048576) s
        · rw [hb] at h; cases h
        rw [hb, cond_true] at h
        rcases h2 with ⟨q, -⟩ | ⟨k, a, q1, q2, q3⟩
        · cases q
        · cases q1
          subst q3
          exact Or.inr (Or.inl ⟨zble_f hb0, s, a, Nat.le_of_ble_eq_true hb, Nat.le_of_ble_eq_true h, q2, h1⟩)
      · rw [hb0] at h; cases h
    | .inr (.inr (.inr n)), h, hv =>
      have e : n = m + 1 := Nat.eq_of_beq_eq_true h
      subst e
      exact Or.inr hv
noncomputable def zsubL (u : Bool) : List zV → List zV → Bool := List.rec (motive := fun _ => List zV → Bool) (fun B => List.rec (motive := fun _ => Bool) true (fun _ _ _ => false) B) (fun v _ r B => List.rec (motive := fun _ => Bool) false (fun w t _ => cond (zsubV u v w) (r t) false) B)
theorem zsubL_S [zGh] {ad : zA} : ∀ {S S' : List zV} {st : List Value}, zsubL false S S' = true → zRepL ad S st → zRepL ad S' st
  | [], [], st, _, h => h
  | [], _ :: _, st, h, _ => by cases h
  | _ :: _, [], st, h, _ => by cases h
  | v :: S, w :: S', [], h, hr => by cases hr
  | v :: S, w :: S', x :: st, h, hr => by
    have h : cond (zsubV false v w) (zsubL false S S') false = true := h
    cases hb : zsubV false v w
    · rw [hb] at h; cases h
    · rw [hb, cond_true] at h
      rcases zsubV_ok hb hr.1 with ⟨q, -⟩ | q
      · cases q
      · exact ⟨q, zsubL_S h hr.2⟩
theorem zsubL_t : ∀ {L L' : List zV}, zsubL true L L' = true → L'.length = L.length ∧ ∀ (i : Nat) (w : zV), L'[i]? = some w → ∃ v, L[i]? = some v ∧ zsubV true v w = true
  | [], [], _ => ⟨rfl, fun i w q => by simp at q⟩
  | [], _ :: _, h => by cases h
  | _ :: _, [], h => by cases h
  | v :: L, w :: L', h => by
    have h : cond (zsubV true v w) (zsubL true L L') false = true := h
    cases hb : zsubV true v w
    · rw [hb] at h; cases h
    · rw [hb, cond_true] at h
      obtain ⟨h1, h2⟩ := zsubL_t h
      refine ⟨by simp [h1], fun i u q => ?_⟩
      cases i with
      | zero =>
        have q : w = u := by simpa using q
        subst q
        exact ⟨v, rfl, hb⟩
      | succ i =>
        obtain ⟨z, z1, z2⟩ := h2 i u (by simpa using q)
        exact ⟨z, by simpa using z1, z2⟩
theorem zsubV_U : ∀ {w : zV}, zsubV true zU w = true → w = zU
  | .inr (.inr (.inr 0)), _ => rfl
  | .inr (.inr (.inr (m + 1))), h => by
    have e : 0 = m + 1 := Nat.eq_of_beq_eq_true h
    cases e
theorem zsubL_L [zGh] {ad : zA} {nL : Nat} {L L' : List zV} {ls : Array Slot} (h : zsubL true L L' = true) (hL : zLoc ad nL L ls) : zLoc ad nL L' ls := by
  obtain ⟨a1, lv, a2, a3⟩ := hL
  obtain ⟨h1, h2⟩ := zsubL_t h
  refine ⟨by rw [h1]; exact a1, lv, a2, fun i w hw => ?_⟩
  obtain ⟨v, hv, hs⟩ := h2 i w hw
  rcases a3 i v hv with rfl | ⟨x, hx, hr⟩
  · exact Or.inl (zsubV_U hs)
  · rcases zsubV_ok hs hr with ⟨-, q⟩ | q
    · exact Or.inl q
    · exact Or.inr ⟨x, hx, q⟩
/-- all words alike -/
def zun (b len w : Nat) : Nat := Nat.mul w (Nat.div (Nat.sub (Nat.pow 2 (Nat.mul b len)) 1) (Nat.sub (Nat.pow 2 b) 1))
def zrp (B : Nat) : Nat → Nat
  | 0 => 0
  | n + 1 => B * zrp B n + 1
theorem zrp_mul (B : Nat) (hB : 2 ≤ B) : ∀ n, (B - 1) * zrp B n + 1 = B ^ n
  | 0 => by simp [zrp]
  | n + 1 => by
    have ih := zrp_mul B hB n
    show (B - 1) * (B * zrp B n + 1) + 1 = B ^ (n + 1)
    rw [Nat.pow_succ, ← ih]
    obtain ⟨c, rfl⟩ : ∃ c, B = c + 1 := ⟨B - 1, by omega⟩
    show c * ((c + 1) * zrp (c + 1) n + 1) + 1 = (c * zrp (c + 1) n + 1) * (c + 1)
    have e : c * ((c + 1) * zrp (c + 1) n) = c * zrp (c + 1) n * (c + 1) := by rw [Nat.mul_comm (c + 1) (zrp (c + 1) n), Nat.mul_assoc]
    rw [Nat.mul_add, e, Nat.mul_one, Nat.add_mul, Nat.one_mul]
    omega
theorem zrp_div (B : Nat) (hB : 2 ≤ B) (n : Nat) : (B ^ n - 1) / (B - 1) = zrp B n := by
  have h := zrp_mul B hB n
  have : B ^ n - 1 = (B - 1) * zrp B n := by omega
  rw [this, Nat.mul_div_cancel_left _ (by omega)]
theorem zrp_split (B : Nat) : ∀ (j m : Nat), zrp B (j + m) = B ^ j * zrp B m + zrp B j
  | 0, m => by simp [zrp]
  | j + 1, m => by
    have ih := zrp_split B j m
    show zrp B (j + 1 + m) = B ^ (j + 1) * zrp B m + (B * zrp B j + 1)
    rw [show j + 1 + m = (j + m) + 1 by omega]
    show B * zrp B (j + m) + 1 = _
    rw [ih, Nat.mul_add, Nat.pow_succ, ← Nat.mul_assoc, Nat.mul_comm B (B ^ j)]
    omega
theorem zun_wd (b len w j : Nat) (hb : 1 ≤ b) (hw : w < 2 ^ b) (hj : j < len) : zwd b (zun b len w) j = w := by
  have hB : 2 ≤ 2 ^ b := by
    have := Nat.pow_le_pow_right (show 1 ≤ 2 by decide) hb
    simpa using this
  have e0 : zun b len w = w * zrp (2 ^ b) len := by
    show w * ((2 ^ (b * len) - 1) / (2 ^ b - 1)) = _
    rw [Nat.pow_mul, zrp_div _ hB]
  unfold zwd
  show (zun b len w >>> (b * j)) % 2 ^ b = w
  rw [e0, Nat.shiftRight_eq_div_pow, Nat.pow_mul]
  obtain ⟨m, rfl⟩ : ∃ m, len = j + (m + 1) := ⟨len - j - 1, by omega⟩
  generalize 2 ^ b = B at *
  rw [zrp_split]
  have hlt : w * zrp B j < B ^ j := by
    have h1 := zrp_mul B hB j
    have h2 : w * zrp B j ≤ (B - 1) * zrp B j := Nat.mul_le_mul_right _ (by omega)
    omega
  have hpos : 0 < B ^ j := Nat.lt_of_le_of_lt (Nat.zero_le _) hlt
  rw [Nat.mul_add, ← Nat.mul_assoc, Nat.mul_comm w (B ^ j), Nat.mul_assoc, Nat.mul_add_div hpos, Nat.div_eq_of_lt hlt, Nat.add_zero]
  show w * (B * zrp B m + 1) % B = w
  rw [Nat.mul_add, Nat.mul_one, ← Nat.mul_assoc, Nat.mul_comm w B, Nat.mul_assoc, Nat.mul_add_mod]
  exact Nat.mod_eq_of_lt hw
theorem zAI_un (len : Nat) (f : Nat → Int32) : zAI len (zun 40 len 4294967296) f := by
  intro j hj
  rw [zun_wd 40 len 4294967296 j (by decide) (by decide) hj]
  exact ⟨fun q => absurd q (Nat.lt_irrefl _), fun q => absurd q (Nat.lt_irrefl _)⟩
theorem zAJ_un (len : Nat) (f : Nat → Int64) : zAJ len (zun 72 len 18446744073709551616) f := by
  intro j hj
  rw [zun_wd 72 len 18446744073709551616 j (by decide) (by decide) hj]
  exact ⟨fun q => absurd q (Nat.lt_irrefl _), fun q => absurd q (by decide)⟩
/-- all words below a number -/
noncomputable def zall (n : Nat) (p : Nat → Bool) : Bool := Nat.rec (motive := fun _ => Bool) true (fun m r => cond (p m) r false) n
theorem zall_t {p : Nat → Bool} : ∀ {n : Nat}, zall n p = true → ∀ j, j < n → p j = true
  | 0, _, j, hj => absurd hj (Nat.not_lt_zero j)
  | n + 1, h, j, hj => by
    have h : cond (p n) (zall n p) false = true := h
    cases hb : p n
    · rw [hb] at h; cases h
    · rw [hb, cond_true] at h
      rcases Nat.lt_succ_iff_lt_or_eq.mp hj with q | rfl
      · exact zall_t h j q
      · exact hb
theorem zsubI_a {n m : Nat} {i : Int32} (hn : n < 1099511627776) (hm : m < 1099511627776) (h : zsubI n m = true) (hi : zIa n i) : zIa m i := by
  have this := @zsubI_ok ⟨(fun _ => 0 : Nat → Nat)⟩ n m i h (@zIs_a ⟨(fun _ => 0 : Nat → Nat)⟩ n i hi hn)
  exact ⟨this.1, fun q1 q2 => by have z := this.2.1; rw [Nat.mod_eq_of_lt hm] at z; exact z q1 q2⟩
/-- words all alike on both sides, or each below the other's -/
noncomputable def zsubA (len x y : Nat) : Bool := cond (Nat.beq y (zun 40 len 4294967296)) true (cond (Nat.beq x (zun 40 len (zwd 40 x 0))) (cond (Nat.beq y (zun 40 len (zwd 40 y 0))) (zsubI (zwd 40 x 0) (zwd 40 y 0)) (zall len (fun j => zsubI (zwd 40 x j) (zwd 40 y j)))) (zall len (fun j => zsubI (zwd 40 x j) (zwd 40 y j))))
theorem zsubA_ok {len x y : Nat} {f : Nat → Int32} (h : zsubA len x y = true) (hf : zAI len x f) : zAI len y f := by
  unfold zsubA at h
  have far : zall len (fun j => zsubI (zwd 40 x j) (zwd 40 y j)) = true → zAI len y f := fun h j hj => zsubI_a (zwd_lt _ _ _) (zwd_lt _ _ _) (zall_t h j hj) (hf j hj)
  cases h1 : Nat.beq y (zun 40 len 4294967296)
  · rw [h1, cond_false] at h
    cases h2 : Nat.beq x (zun 40 len (zwd 40 x 0))
    · rw [h2, cond_false] at h
      exact far h
    · rw [h2, cond_true] at h
      cases h3 : Nat.beq y (zun 40 len (zwd 40 y 0))
      · rw [h3, cond_false] at h
        exact far h
      · rw [h3, cond_true] at h
        intro j hj
        have e1 : zwd 40 x j = zwd 40 x 0 := by
          have := congrArg (fun z => zwd 40 z j) (Nat.eq_of_beq_eq_true h2)
          exact this.trans (zun_wd 40 len _ j (by decide) (zwd_lt _ _ _) hj)
        have e2 : zwd 40 y j = zwd 40 y 0 := by
          have := congrArg (fun z => zwd 40 z j) (Nat.eq_of_beq_eq_true h3)
          exact this.trans (zun_wd 40 len _ j (by decide) (zwd_lt _ _ _) hj)
        have := hf j hj
        rw [e1] at this
        rw [e2]
        exact zsubI_a (zwd_lt _ _ _) (zwd_lt _ _ _) h this
  · rw [Nat.eq_of_beq_eq_true h1]
    exact zAI_un len f
/-- words of a place on the tape -/
def zrgn (x : Nat) : Bool := cond (Nat.ble 274877906944 x) (Nat.ble x 549755813887) false
def zsubG (x y : Nat) : Bool := cond (Nat.beq x 274877906945) (Nat.beq y 274877906944) false
noncomputable def zsubW (kd x y j : Nat) : Bool := cond (Nat.beq (zwd 40 x j) (zwd 40 y j)) true (cond (zisR (zfty (Nat.sub kd 16) j)) false (cond (Nat.ble 274877906944 (zwd 40 y j)) (zsubG (zwd 40 x j) (zwd 40 y j)) (cond (Nat.beq (zwd 40 x j) 549755813888) (cond (Nat.beq (zwd 40 y j) 4294968017) true (Nat.beq (zwd 40 y j) 4294967296)) (cond (zrgn (zwd 40 x j)) (cond (Nat.beq (zwd 40 y j) 4294967497) true (Nat.beq (zwd 40 y j) 4294967296)) (zsubI (zwd 40 x j) (zwd 40 y j))))))
noncomputable def zsubX (kd len x y : Nat) : Bool := cond (Nat.ble kd 1) (zsubA len x y) (cond (Nat.beq kd 2) (Nat.beq y (zun 72 len 18446744073709551616)) (cond (Nat.ble 16 kd) (zall (zN (Nat.sub kd 16)) (zsubW kd x y)) (cond (Nat.beq kd 9) (cond (Nat.beq (Nat.mod x 1048576) (Nat.mod y 1048576)) (Nat.ble (Nat.div y 1048576) (Nat.div x 1048576)) false) false)))
noncomputable def zrin (w y : Nat) : Bool := cond (Nat.ble 1 w) (cond (Nat.ble (Nat.mod y 1048576) (Nat.pred w)) (cond (Nat.ble w (Nat.div y 1048576)) (Nat.ble w 549755813887) false) false) false
noncomputable def zsubM (kd kd0 len x y : Nat) : Bool := cond (Nat.beq kd0 0) (cond (Nat.ble 8 kd) (cond (Nat.ble kd 11) (cond (Nat.beq y (zun 40 len 4294967296)) true (cond (Nat.beq kd 10) (Nat.beq y (zun 40 len 4294968017)) (cond (Nat.beq kd 11) (Nat.beq y (zun 40 len 4295013952)) false))) false) false) (cond (Nat.beq kd0 12) (cond (Nat.beq kd 3) (zall len (fun j => zrin (zwd 40 x j) y)) false) false)
noncomputable def zsubC (c c0 : zC) : Bool := Prod.rec (motive := fun _ => Bool) (fun kd v => Prod.rec (motive := fun _ => Bool) (fun len x => Prod.rec (motive := fun _ => Bool) (fun kd0 v0 => Prod.rec (motive := fun _ => Bool) (fun len0 x0 => cond (Nat.beq len len0) (cond (Nat.beq kd kd0) (cond (Nat.beq x x0) true (zsubX kd len x x0)) (zsubM kd kd0 len x x0)) false) v0) c0) v) c
theorem zsubX_ok [zCh] {cA : Nat → ClassId} {ad : zA} {kd len x y : Nat} {e : va_E} (h : zsubX kd len x y = true) (hc : zCell cA ad (kd, len, x) e) : zCell cA ad (kd, len, y) e := by
  unfold zsubX at h
  cases k1 : Nat.ble kd 1
  · rw [k1, cond_false] at h
    cases k2 : Nat.beq kd 2
    · rw [k2, cond_false] at h
      cases k3 : Nat.ble 16 kd
      · rw [k3, cond_false] at h
        cases k4 : Nat.beq kd 9
        · rw [k4] at h; cases h
        rw [k4, cond_true] at h
        have e9 := Nat.eq_of_beq_eq_true k4
        subst e9
        cases k5 : Nat.beq (Nat.mod x 1048576) (Nat.mod y 1048576)
        · rw [k5] at h; cases h
        rw [k5, cond_true] at h
        have e5 : x % 1048576 = y % 1048576 := Nat.eq_of_beq_eq_true k5
        have e6 : y / 1048576 ≤ x / 1048576 := Nat.le_of_ble_eq_true h
        rcases hc with ⟨g, -⟩ | ⟨g, -⟩ | ⟨g1, g2, g3, ⟨g4, f, g5, g6, g7⟩ | ⟨g4, -⟩⟩ | ⟨-, g, -⟩ | ⟨g, -⟩
        · exact absurd (show 9 < 2 from g) (by decide)
        · exact absurd (show 9 = 2 from g) (by decide)
        · refine Or.inr (Or.inr (Or.inl ⟨g1, g2, g3, Or.inl ⟨g4, f, g5, g6, ?_⟩⟩))
          refine ⟨fun q => absurd (show 9 = 8 from q) (by decide), fun _ c h1 h2 => ?_, fun q => absurd (show 9 = 10 from q) (by decide), fun q => absurd (show 9 = 11 from q) (by decide)⟩
          have g8 := g7.2.1 rfl c
          have h1 : c < zpn (y % 1048576) := h1
          have h2 : zps (y % 1048576) c < y / 1048576 := h2
          show zi (zcF 9 (zi (zcF 8 c))) = zrw (y % 1048576) c
          rw [← e5] at h1 h2 ⊢
          exact g8 h1 (Nat.lt_of_lt_of_le h2 e6)
        · exact absurd (show 9 = 12 from g4) (by decide)
        · exact absurd (show 9 < 8 from g) (by decide)
        · exact absurd (show 16 ≤ 9 from g) (by decide)
      · rw [k3, cond_true] at h
        have q3 := Nat.le_of_ble_eq_true k3
        obtain ⟨fs, rfl, hl, hf⟩ := zCell_obj (ci := kd - 16) hc (by omega)
        have hek : kd = 16 + (kd - 16) := by omega
        have hw := zall_t h
        have : zCell cA ad (16 + (kd - 16), len, y) (.inr (kd - 16, fs)) := zCell_ok hl (fun k v hv => by
          have hk : k < zN (kd - 16) := by rw [← hl]; exact (List.getElem?_eq_some_iff.mp hv).1
          have hwk := hw k hk
          have hfk := hf k v hv
          unfold zsubW at hwk
          cases w1 : Nat.beq (zwd 40 x k) (zwd 40 y k)
          · rw [w1, cond_false] at hwk
            cases w2 : zisR (zfty (kd - 16) k)
            · rw [show zisR (zfty (Nat.sub kd 16) k) = false from w2, cond_false] at hwk
              cases w3 : Nat.ble 274877906944 (zwd 40 y k)
              · rw [w3, cond_false] at hwk
                unfold zFl at hfk ⊢
                rw [w2, cond_false] at hfk ⊢
                obtain ⟨i, g1, g2, -, g4⟩ := hfk
                have w38 := zble_f w3
                have w3' : zwd 40 y k < 549755813888 := Nat.lt_trans w38 (by decide)
                refine ⟨i, g1, ⟨?_, fun q => absurd q (Nat.ne_of_lt w3')⟩, fun q => absurd q (Nat.not_lt.mpr (Nat.le_of_lt w3')), fun q => absurd q (Nat.not_le.mpr w38)⟩
                cases w4 : Nat.beq (zwd 40 x k) 549755813888
                · rw [w4, cond_false] at hwk
                  cases w6 : zrgn (zwd 40 x k)
                  · rw [w6, cond_false] at hwk
                    exact zsubI_a (zwd_lt _ _ _) (zwd_lt _ _ _) hwk g2.1
                  · rw [w6, cond_true] at hwk
                    unfold zrgn at w6
                    cases w7 : Nat.ble 274877906944 (zwd 40 x k)
                    · rw [w7] at w6; cases w6
                    rw [w7, cond_true] at w6
                    have u3 := g4 (Nat.le_of_ble_eq_true w7) (Nat.lt_of_le_of_lt (Nat.le_of_ble_eq_true w6) (by decide))
                    cases w5 : Nat.beq (zwd 40 y k) 4294967497
                    · rw [w5, cond_false] at hwk
                      rw [Nat.eq_of_beq_eq_true hwk]
                      exact ⟨fun q => absurd q (Nat.lt_irrefl _), fun q => absurd q (Nat.lt_irrefl _)⟩
                    · rw [Nat.eq_of_beq_eq_true w5]
                      exact ⟨fun q => absurd q (by decide), fun _ _ => by have := u3.1; omega⟩
                · rw [w4, cond_true] at hwk
                  obtain ⟨u1, u2⟩ := g2.2 (Nat.eq_of_beq_eq_true w4)
                  cases w5 : Nat.beq (zwd 40 y k) 4294968017
                  · rw [w5, cond_false] at hwk
                    rw [Nat.eq_of_beq_eq_true hwk]
                    exact ⟨fun q => absurd q (Nat.lt_irrefl _), fun q => absurd q (Nat.lt_irrefl _)⟩
                  · rw [Nat.eq_of_beq_eq_true w5]
                    exact ⟨fun q => absurd q (by decide), fun _ _ => by omega⟩
              · rw [w3, cond_true] at hwk
                unfold zsubG at hwk
                cases w8 : Nat.beq (zwd 40 x k) 274877906945
                · rw [w8] at hwk; cases hwk
                rw [w8, cond_true] at hwk
                unfold zFl at hfk ⊢
                rw [w2, cond_false] at hfk ⊢
                obtain ⟨i, g1, g2, -, g4⟩ := hfk
                have e8 := Nat.eq_of_beq_eq_true w8
                have e9 := Nat.eq_of_beq_eq_true hwk
                rw [e8] at g4
                obtain ⟨u3, u4, -⟩ := g4 (by decide) (by decide)
                rw [e9]
                have hlt := zi_lt i
                exact ⟨i, g1, ⟨⟨fun q => absurd q (by decide), fun _ _ => by omega⟩, fun q => absurd q (by decide)⟩, fun q => absurd q (by decide), fun _ _ => ⟨u3, fun _ => u4 (by decide), fun q => absurd q (by decide), fun q => absurd q (by decide)⟩⟩
            · rw [show zisR (zfty (Nat.sub kd 16) k) = true from w2] at hwk; cases hwk
          · rw [← Nat.eq_of_beq_eq_true w1]
            exact hfk)
        rw [← hek] at this
        exact this
    · rw [k2, cond_true] at h
      have ek := Nat.eq_of_beq_eq_true k2
      subst ek
      obtain ⟨hl, f, rfl, hf⟩ := zCell_j hc
      rw [Nat.eq_of_beq_eq_true h]
      exact zCell_jk hl (zAJ_un len f)
  · rw [k1, cond_true] at h
    have q1 := Nat.le_of_ble_eq_true k1
    obtain ⟨hl, f, rfl, hf⟩ := zCell_i hc (by omega)
    exact zCell_ik (by omega) hl (zsubA_ok h hf)
theorem zAI_below {len w : Nat} {f : Nat → Int32} (hw : w < 1099511627776) (h1 : 4294967296 < w) (hf : ∀ j, j < len → zi (f j) < w - 4294967296) : zAI len (zun 40 len w) f := by
  intro j hj
  rw [zun_wd 40 len w j (by decide) hw hj]
  exact ⟨fun q => absurd q (by omega), fun _ _ => hf j hj⟩
theorem zCell_mk [zCh] {cA : Nat → ClassId} {ad : zA} {kd len x : Nat} {e : va_E} (hc : zCell cA ad (kd, len, x) e) (h8 : 8 ≤ kd) (h11 : kd ≤ 11) : len < 2147483648 ∧ ∃ f : Nat → Int32, e = .inl (cA 0, len, .inl f) ∧ zCK kd len x f := by
  rcases hc with ⟨g, -⟩ | ⟨g, -⟩ | ⟨g1, g2, g3, ⟨g4, f, g5, g6⟩ | ⟨g4, -⟩⟩ | ⟨-, g, -⟩ | ⟨g, -⟩
  · exact absurd (show kd < 2 from g) (by omega)
  · exact absurd (show kd = 2 from g) (by omega)
  · exact ⟨g3, f, g5, g6⟩
  · exact absurd (show kd = 12 from g4) (by omega)
  · exact absurd (show kd < 8 from g) (by omega)
  · exact absurd (show 16 ≤ kd from g) (by omega)
theorem zsubM_ok [zCh] {cA : Nat → ClassId} {ad : zA} {kd kd0 len x y : Nat} {e : va_E} (h : zsubM kd kd0 len x y = true) (hc : zCell cA ad (kd, len, x) e) : zCell cA ad (kd0, len, y) e := by
  unfold zsubM at h
  cases k0 : Nat.beq kd0 0
  · rw [k0, cond_false] at h
    cases k1 : Nat.beq kd0 12
    · rw [k1] at h; cases h
    cases k2 : Nat.beq kd 3
    · rw [k1, k2] at h; cases h
    rw [k1, k2, cond_true, cond_true] at h
    have e1 := Nat.eq_of_beq_eq_true k1
    have e2 := Nat.eq_of_beq_eq_true k2
    subst e1
    subst e2
    obtain ⟨hl, f, rfl, hf⟩ := zCell_r hc (by decide) (by decide)
    refine Or.inr (Or.inr (Or.inl ⟨(by decide : 8 ≤ 12), (by decide : 12 < 16), hl, Or.inr ⟨rfl, f, rfl, fun j hj => ?_⟩⟩))
    have hw := zall_t h j hj
    unfold zrin at hw
    cases w1 : Nat.ble 1 (zwd 40 x j)
    · rw [w1] at hw; cases hw
    cases w2 : Nat.ble (Nat.mod y 1048576) (Nat.pred (zwd 40 x j))
    · rw [w1, w2] at hw; cases hw
    cases w3 : Nat.ble (zwd 40 x j) (Nat.div y 1048576)
    · rw [w1, w2, w3] at hw; cases hw
    rw [w1, w2, w3, cond_true, cond_true, cond_true] at hw
    have v1 := Nat.le_of_ble_eq_true w1
    have v2 : y % 1048576 ≤ zwd 40 x j - 1 := Nat.le_of_ble_eq_true w2
    have v3 : zwd 40 x j ≤ y / 1048576 := Nat.le_of_ble_eq_true w3
    have v4 := Nat.le_of_ble_eq_true hw
    rcases hf j hj with ⟨-, ⟨z, -⟩ | ⟨k, a, z1, z2, z3⟩⟩ | ⟨z, -⟩
    · omega
    · exact ⟨k, a, by show y % 1048576 ≤ k; omega, by show k < y / 1048576; omega, z2, z3⟩
    · omega
  · rw [k0, cond_true] at h
    have e0 := Nat.eq_of_beq_eq_true k0
    subst e0
    cases k1 : Nat.ble 8 kd
    · rw [k1] at h; cases h
    cases k2 : Nat.ble kd 11
    · rw [k1, k2] at h; cases h
    rw [k1, k2, cond_true, cond_true] at h
    obtain ⟨hl, f, rfl, g1, g2⟩ := zCell_mk hc (Nat.le_of_ble_eq_true k1) (Nat.le_of_ble_eq_true k2)
    refine zCell_ik (by decide) hl ?_
    cases k3 : Nat.beq y (zun 40 len 4294967296)
    · rw [k3, cond_false] at h
      cases k4 : Nat.beq kd 10
      · rw [k4, cond_false] at h
        cases k5 : Nat.beq kd 11
        · rw [k5] at h; cases h
        rw [k5, cond_true] at h
        have e5 := Nat.eq_of_beq_eq_true k5
        subst e5
        rw [Nat.eq_of_beq_eq_true h]
        exact zAI_below (by decide) (by decide) (fun j hj => by rw [g1]; exact (g2.2.2.2 rfl).1 j hj)
      · rw [k4, cond_true] at h
        have e4 := Nat.eq_of_beq_eq_true k4
        subst e4
        rw [Nat.eq_of_beq_eq_true h]
        exact zAI_below (by decide) (by decide) (fun j hj => by rw [g1]; have := g2.2.2.1 rfl j hj; omega)
    · rw [Nat.eq_of_beq_eq_true k3]
      exact zAI_un len f
theorem zsubC_ok [zCh] {cA : Nat → ClassId} {ad : zA} {c c0 : zC} {e : va_E} (h : zsubC c c0 = true) (hc : zCell cA ad c e) : zCell cA ad c0 e := by
  obtain ⟨kd, len, x⟩ := c
  obtain ⟨kd0, len0, x0⟩ := c0
  replace h : cond (Nat.beq len len0) (cond (Nat.beq kd kd0) (cond (Nat.beq x x0) true (zsubX kd len x x0)) (zsubM kd kd0 len x x0)) false = true := h
  cases h2 : Nat.beq len len0
  · rw [h2] at h; cases h
  rw [h2, cond_true] at h
  have e2 := Nat.eq_of_beq_eq_true h2
  subst e2
  cases h1 : Nat.beq kd kd0
  · rw [h1, cond_false] at h
    exact zsubM_ok h hc
  · rw [h1, cond_true] at h
    have e1 := Nat.eq_of_beq_eq_true h1
    subst e1
    cases h3 : Nat.beq x x0
    · rw [h3, cond_false] at h
      exact zsubX_ok h hc
    · rw [← Nat.eq_of_beq_eq_true h3]
      exact hc
noncomputable def zsubT (d : Nat) : zT d → zT d → Bool := Nat.rec (motive := fun d => zT d → zT d → Bool) (fun c c0 => zsubC c c0) (fun d r t t0 => Prod.rec (motive := fun _ => Bool) (fun (a b : zT d) => Prod.rec (motive := fun _ => Bool) (fun (a0 b0 : zT d) => cond (r a a0) (r b b0) false) (show zT d × zT d from t0)) (show zT d × zT d from t)) d
theorem zsubT_t (d : Nat) : ∀ (t t0 : zT d), zsubT d t t0 = true → ∀ i, i < 2 ^ d → zsubC (zget d t i) (zget d t0 i) = true := by
  induction d with
  | zero => intro t t0 h i hi; exact h
  | succ d ih =>
    have key : ∀ (t t0 : zT d × zT d), zsubT (d + 1) t t0 = true → ∀ i, i < 2 ^ (d + 1) → zsubC (zget (d + 1) t i) (zget (d + 1) t0 i) = true := by
      intro t t0 h i hi
      obtain ⟨a, b⟩ := t
      obtain ⟨a0, b0⟩ := t0
      have h : cond (zsubT d a a0) (zsubT d b b0) false = true := h
      have h2 : i < 2 ^ d + 2 ^ d := by rw [Nat.pow_succ] at hi; omega
      cases hb : zsubT d a a0
      · rw [hb] at h; cases h
      · rw [hb, cond_true] at h
        show zsubC (cond (Nat.ble (Nat.pow 2 d) i) (zget d b (Nat.sub i (Nat.pow 2 d))) (zget d a i)) (cond (Nat.ble (Nat.pow 2 d) i) (zget d b0 (Nat.sub i (Nat.pow 2 d))) (zget d a0 i)) = true
        cases hc : Nat.ble (Nat.pow 2 d) i
        · exact ih a a0 hb i (zble_f hc)
        · have : 2 ^ d ≤ i := Nat.le_of_ble_eq_true hc
          exact ih b b0 h (i - 2 ^ d) (by omega)
    intro t t0
    exact key t t0
noncomputable def zsubH {d : Nat} (h h0 : zH d) : Bool := Prod.rec (motive := fun _ => Bool) (fun t u => Prod.rec (motive := fun _ => Bool) (fun n w => Prod.rec (motive := fun _ => Bool) (fun bc bs => Prod.rec (motive := fun _ => Bool) (fun t0 u0 => Prod.rec (motive := fun _ => Bool) (fun n0 w0 => Prod.rec (motive := fun _ => Bool) (fun bc0 bs0 => cond (Nat.beq n n0) (cond (Nat.ble bc0 bc) (cond (Nat.ble bs0 bs) (zsubT d t t0) false) false) false) w0) u0) h0) w) u) h
theorem zsubH_t {d : Nat} {h h0 : zH d} (q : zsubH h h0 = true) : h.2.1 = h0.2.1 ∧ h0.2.2.1 ≤ h.2.2.1 ∧ h0.2.2.2 ≤ h.2.2.2 ∧ zsubT d h.1 h0.1 = true := by
  obtain ⟨t, n, bc, bs⟩ := h
  obtain ⟨t0, n0, bc0, bs0⟩ := h0
  have q : cond (Nat.beq n n0) (cond (Nat.ble bc0 bc) (cond (Nat.ble bs0 bs) (zsubT d t t0) false) false) false = true := q
  cases h1 : Nat.beq n n0
  · rw [h1] at q; cases q
  cases h2 : Nat.ble bc0 bc
  · rw [h1, h2] at q; cases q
  cases h3 : Nat.ble bs0 bs
  · rw [h1, h2, h3] at q; cases q
  rw [h1, h2, h3, cond_true, cond_true, cond_true] at q
  exact ⟨Nat.eq_of_beq_eq_true h1, Nat.le_of_ble_eq_true h2, Nat.le_of_ble_eq_true h3, q⟩
theorem zsubH_ok [zCh] {d : Nat} {cA : Nat → ClassId} {h h0 : zH d} {ws : va_W} (q : zsubH h h0 = true) (hH : zHp cA h ws) : zHp cA h0 ws := by
  obtain ⟨q1, -, -, q4⟩ := zsubH_t q
  refine ⟨by rw [← q1]; exact hH.1, by rw [← q1]; exact hH.2.1, fun i x hi => ?_⟩
  have hlt : i < 2 ^ d := Nat.lt_of_lt_of_le (by rw [← hH.1]; exact (List.getElem?_eq_some_iff.mp hi).1) hH.2.1
  exact zsubC_ok (zsubT_t d _ _ q4 i hlt) (hH.2.2 i x hi)
section OPS
variable {d : Nat} {X : zM} {fr : Nat} {P : zP d} {pc : Nat} {k : zK d}
/-- a state that is known to go well -/
noncomputable def xchk (L0 S0 : List zV) (h0 : zH d) : zK d := fun L S h => cond (zsubL true L L0) (cond (zsubL false S S0) (zsubH h h0) false) false
theorem sm_chk [G : zGh] {L0 S0 : List zV} {h0 : zH d} (hs : zSim X fr P pc k) (hk0 : k L0 S0 h0 = true) : zSim X fr P pc (xchk L0 S0 h0) := by
  intro Ch cA D ad0 A MC MS p l e s m args below meth c ls st H locs cells slots L S h Cx hk R0
  obtain ⟨ws, hHp, hpre, hP, hD, hS, hL, hst, hcb, hsb⟩ := R0
  have hk : cond (zsubL true L L0) (cond (zsubL false S S0) (zsubH h h0) false) false = true := hk
  cases h1 : zsubL true L L0
  · rw [h1] at hk; cases hk
  cases h2 : zsubL false S S0
  · rw [h1, h2] at hk; cases hk
  rw [h1, h2, cond_true, cond_true] at hk
  obtain ⟨-, g2, g3, -⟩ := zsubH_t hk
  exact hs Ch cA D ad0 A MC MS p l e s m args below meth c ls st H locs cells slots L0 S0 h0 Cx hk0 ⟨ws, zsubH_ok hk hHp, hpre, hP, hD, hS, zsubL_L h1 hL, zsubL_S h2 hst, by omega, by omega⟩
end OPS
