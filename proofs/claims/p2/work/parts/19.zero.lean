/-! the reference's long loop that lays an array 0, at one stroke -/
/-- the words below n are 0 -/
def zclr (x n : Nat) : Nat := Nat.shiftLeft (Nat.shiftRight x (Nat.mul 40 n)) (Nat.mul 40 n)
theorem zclr_bit (x n t : Nat) : (zclr x n).testBit t = (decide (40 * n ≤ t) && x.testBit t) := by
  show ((x >>> (40 * n)) <<< (40 * n)).testBit t = _
  rw [Nat.testBit_shiftLeft, Nat.testBit_shiftRight]
  by_cases h : 40 * n ≤ t
  · rw [show 40 * n + (t - 40 * n) = t by omega]
  · simp [h]
theorem zclr_zero (x : Nat) : zclr x 0 = x := by
  apply Nat.eq_of_testBit_eq
  intro t
  rw [zclr_bit]
  simp
theorem zclr_succ (x n : Nat) : zup 40 (zclr x n) n 0 = zclr x (n + 1) := by
  apply Nat.eq_of_testBit_eq
  intro t
  rw [zup_bit, zclr_bit, zclr_bit]
  by_cases h1 : 40 * n ≤ t
  · by_cases h2 : 40 * (n + 1) ≤ t
    · rw [Nat.testBit_lt_two_pow (x := zwd 40 (zclr x n) n) (Nat.lt_of_lt_of_le (zwd_lt _ _ _) (Nat.pow_le_pow_right (by decide) (show 40 ≤ t - 40 * n by omega)))]
      simp [h1, h2]
    · rw [zwd_bit _ _ _ _ (show t - 40 * n < 40 by omega), zclr_bit, show 40 * n + (t - 40 * n) = t by omega]
      simp [h1, h2]
  · have h2 : ¬ 40 * (n + 1) ≤ t := by omega
    simp [h1, h2]
theorem zset_set (d : Nat) : ∀ (t : zT d) (i : Nat) (a b : zC), zset d (zset d t i a) i b = zset d t i b := by
  induction d with
  | zero => intro t i a b; rfl
  | succ d ih =>
    intro t i a b
    have key : ∀ t : zT d × zT d, zset (d + 1) (zset (d + 1) t i a) i b = zset (d + 1) t i b := by
      intro t
      cases t with
      | mk u v =>
        show cond (Nat.ble (Nat.pow 2 d) i) (Prod.fst (α := zT d) (β := zT d) (cond (Nat.ble (Nat.pow 2 d) i) (u, zset d v (Nat.sub i (Nat.pow 2 d)) a) (zset d u i a, v)), zset d (Prod.snd (α := zT d) (β := zT d) (cond (Nat.ble (Nat.pow 2 d) i) (u, zset d v (Nat.sub i (Nat.pow 2 d)) a) (zset d u i a, v))) (Nat.sub i (Nat.pow 2 d)) b) (zset d (Prod.fst (α := zT d) (β := zT d) (cond (Nat.ble (Nat.pow 2 d) i) (u, zset d v (Nat.sub i (Nat.pow 2 d)) a) (zset d u i a, v))) i b, Prod.snd (α := zT d) (β := zT d) (cond (Nat.ble (Nat.pow 2 d) i) (u, zset d v (Nat.sub i (Nat.pow 2 d)) a) (zset d u i a, v))) = cond (Nat.ble (Nat.pow 2 d) i) (u, zset d v (Nat.sub i (Nat.pow 2 d)) b) (zset d u i b, v)
        cases Nat.ble (Nat.pow 2 d) i
        · show (zset d (zset d u i a) i b, v) = (zset d u i b, v)
          rw [ih]
        · show (u, zset d (zset d v (Nat.sub i (Nat.pow 2 d)) a) (Nat.sub i (Nat.pow 2 d)) b) = (u, zset d v (Nat.sub i (Nat.pow 2 d)) b)
          rw [ih]
    exact key t
theorem zset_get (d : Nat) : ∀ (t : zT d) (i : Nat), zset d t i (zget d t i) = t := by
  induction d with
  | zero => intro t i; rfl
  | succ d ih =>
    intro t i
    have key : ∀ t : zT d × zT d, zset (d + 1) t i (zget (d + 1) t i) = t := by
      intro t
      cases t with
      | mk u v =>
        show cond (Nat.ble (Nat.pow 2 d) i) (u, zset d v (Nat.sub i (Nat.pow 2 d)) (cond (Nat.ble (Nat.pow 2 d) i) (zget d v (Nat.sub i (Nat.pow 2 d))) (zget d u i))) (zset d u i (cond (Nat.ble (Nat.pow 2 d) i) (zget d v (Nat.sub i (Nat.pow 2 d))) (zget d u i)), v) = (u, v)
        cases Nat.ble (Nat.pow 2 d) i
        · show (zset d u i (zget d u i), v) = (u, v)
          rw [ih]
        · show (u, zset d v (Nat.sub i (Nat.pow 2 d)) (zget d v (Nat.sub i (Nat.pow 2 d)))) = (u, v)
          rw [ih]
    exact key t
theorem zlt_lor {i n : Nat} (h1 : i < 2 ^ 31) (h2 : n < 2 ^ 31) : Nat.ble 4294967296 (Nat.lor i n) = false ∧ Nat.ble 2147483648 (Nat.lor i n) = false := by
  have h : Nat.lor i n < 2 ^ 31 := Nat.or_lt_two_pow h1 h2
  have h' : Nat.lor i n < 2147483648 := h
  constructor
  · cases hb : Nat.ble 4294967296 (Nat.lor i n)
    · rfl
    · have := Nat.le_of_ble_eq_true hb; omega
  · cases hb : Nat.ble 2147483648 (Nat.lor i n)
    · rfl
    · have := Nat.le_of_ble_eq_true hb; omega
theorem zble_lt {a b : Nat} (h : b < a) : Nat.ble a b = false := by
  cases hb : Nat.ble a b
  · rfl
  · have := Nat.le_of_ble_eq_true hb; omega
theorem ztge_lt {i n : Nat} (h : i < n) (hn : n < 2 ^ 31) : tge i n = false := by
  unfold tge zlei
  rw [(zlt_lor (i := n) (n := i) hn (by omega)).2, cond_false]
  exact zble_lt h
theorem ztge_ge {i n : Nat} (h : n ≤ i) (hi : i < 2 ^ 31) : tge i n = true := by
  unfold tge zlei
  rw [(zlt_lor (i := n) (n := i) (by omega) hi).2, cond_false]
  exact Nat.ble_eq_true_of_le h
section ZERO
variable {d : Nat} {P : zP d}
/-- behind the loop -/
noncomputable def ezero (P : zP d) : zK d := (xpI 0 (xist 2 (xloop (fun r21 => (lX9_sumsOf_21 P r21)) 100000)))
theorem zero_step {r2 : zK d} {a w : zV} {j i len x : Nat} {t : zT d} {u : Nat × (Nat × Nat)} (hg : zget d t j = (0, len, x)) (hi : i < 12000) (hl : 12000 ≤ len) : lX9_sumsOf_2 P r2 [a, zR (j + 1), zI i, w] [] (t, u) = r2 [a, zR (j + 1), zI (i + 1), w] [] (zset d t j (0, len, zup 40 x i 0), u) := by
  unfold lX9_sumsOf_2
  show cond (Nat.ble 4294967296 (Nat.lor i 12000)) _ (cond (tge i 12000) _ (zat (t, u) (j + 1) (fun t u j kd len x => cond (Nat.beq kd 0) (cond (Nat.ble len i) false (zF (fun y => zsetK d t j (kd, len, y) (fun t => xinc 2 1 r2 [a, zR (j + 1), zI i, w] [] (t, u))) (zup 40 x i (zcap 0)))) false))) = _
  rw [(zlt_lor (i := i) (n := 12000) (by omega) (by decide)).1, cond_false, ztge_lt hi (by decide), cond_false]
  show Prod.rec (motive := fun _ => Bool) (fun kd v => Prod.rec (motive := fun _ => Bool) (fun len x => cond (Nat.beq kd 0) (cond (Nat.ble len i) false (zF (fun y => zsetK d t j (kd, len, y) (fun t => xinc 2 1 r2 [a, zR (j + 1), zI i, w] [] (t, u))) (zup 40 x i (zcap 0)))) false) v) (zget d t j) = _
  rw [hg]
  show cond (Nat.beq 0 0) (cond (Nat.ble len i) false (zF (fun y => zsetK d t j (0, len, y) (fun t => xinc 2 1 r2 [a, zR (j + 1), zI i, w] [] (t, u))) (zup 40 x i (zcap 0)))) false = _
  rw [show Nat.beq 0 0 = true from rfl, cond_true, zble_lt (show i < len by omega), cond_false, zF_eq, zsetK_eq]
  show zF (fun w' => r2 [a, zR (j + 1), zI w', w] [] (zset d t j (0, len, zup 40 x i (zcap 0)), u)) (zadd i 1) = _
  rw [zF_eq]
  have e1 : zadd i 1 = i + 1 := by
    show zk2 i 1 (Nat.mod (Nat.add i 1) 4294967296) = i + 1
    unfold zk2
    rw [(zlt_lor (i := i) (n := 1) (by omega) (by decide)).1, cond_false]
    exact Nat.mod_eq_of_lt (show i + 1 < 4294967296 by omega)
  rw [e1]
  rfl
theorem zero_end {r2 : zK d} {a w b : zV} {h : zH d} : lX9_sumsOf_2 P r2 [a, b, zI 12000, w] [] h = ezero P [a, b, zI 12000, w] [] h := rfl
theorem zero_loop {a w : zV} {j len x : Nat} {t : zT d} {u : Nat × (Nat × Nat)} (hj : j < 2 ^ d) (hl : 12000 ≤ len) : ∀ (n i fuel : Nat), i + n = 12000 → n < fuel → zget d t j = (0, len, x) → xloop (fun r2 => lX9_sumsOf_2 P r2) fuel [a, zR (j + 1), zI i, w] [] (zset d t j (0, len, zclr x i), u) = ezero P [a, zR (j + 1), zI 12000, w] [] (zset d t j (0, len, zclr x 12000), u)
  | 0, i, 0, h, hf, _ => absurd hf (by omega)
  | 0, i, f + 1, h, hf, hg => by
    have e : i = 12000 := by omega
    subst e
    exact zero_end
  | n + 1, i, 0, h, hf, _ => absurd hf (by omega)
  | n + 1, i, f + 1, h, hf, hg => by
    have s := zero_step (P := P) (r2 := xloop (fun r2 => lX9_sumsOf_2 P r2) f) (a := a) (w := w) (j := j) (i := i) (len := len) (x := zclr x i) (t := zset d t j (0, len, zclr x i)) (u := u) (zget_set_same d t j _ hj) (by omega) hl
    rw [zset_set, zclr_succ] at s
    exact s.trans (zero_loop hj hl n (i + 1) f (by omega) (by omega) hg)
/-- at one stroke -/
noncomputable def bz_sumsOf (P : zP d) : zK d := fun L S h => List.rec (motive := fun _ => Bool) (List.rec (motive := fun _ => Bool) false (fun a L1 _ => List.rec (motive := fun _ => Bool) false (fun b L2 _ => List.rec (motive := fun _ => Bool) false (fun _ L3 _ => List.rec (motive := fun _ => Bool) false (fun w L4 _ => List.rec (motive := fun _ => Bool) (Sum.rec (motive := fun _ => Bool) (fun _ => false) (fun v => Sum.rec (motive := fun _ => Bool) (fun r => zat h r (fun t u j kd len x => cond (Nat.beq kd 0) (cond (Nat.ble 12000 len) (cond (Nat.ble (Nat.pow 2 d) j) false (zF (fun y => zsetK d t j (0, len, y) (fun t => ezero P [a, b, zI 12000, w] [] (t, u))) (zclr x 12000))) false) false)) (fun _ => false) v) b) (fun _ _ _ => false) L4) L3) L2) L1) L) (fun _ _ _ => false) S
theorem bz_t {L : List zV} {h : zH d} (hk : bz_sumsOf P L [] h = true) : b_X9_sumsOf P L [] h = true := by
  match L, hk with
  | [], hk => cases hk
  | [_], hk => cases hk
  | [_, _], hk => cases hk
  | [_, _, _], hk => cases hk
  | _ :: b :: _ :: _ :: _ :: _, hk => cases hk
  | [a, b, c, w], hk =>
    match b, hk with
    | .inl _, hk => cases hk
    | .inr (.inr _), hk => cases hk
    | .inr (.inl r), hk =>
      have hk : zat h r (fun t u j kd len x => cond (Nat.beq kd 0) (cond (Nat.ble 12000 len) (cond (Nat.ble (Nat.pow 2 d) j) false (zF (fun y => zsetK d t j (0, len, y) (fun t => ezero P [a, zR r, zI 12000, w] [] (t, u))) (zclr x 12000))) false) false) = true := hk
      obtain ⟨j, kd, len, x, rfl, hg, hk2⟩ := zat_t hk
      have hk2 : cond (Nat.beq kd 0) (cond (Nat.ble 12000 len) (cond (Nat.ble (Nat.pow 2 d) j) false (zF (fun y => zsetK d h.1 j (0, len, y) (fun t => ezero P [a, zR (j + 1), zI 12000, w] [] (t, h.2))) (zclr x 12000))) false) false = true := hk2
      cases h1 : Nat.beq kd 0
      · rw [h1] at hk2; cases hk2
      · cases h2 : Nat.ble 12000 len
        · rw [h1, h2] at hk2; cases hk2
        · cases h3 : Nat.ble (Nat.pow 2 d) j
          · have e := Nat.eq_of_beq_eq_true h1
            subst e
            rw [h1, h2, h3, cond_true, cond_true, cond_false, zF_eq, zsetK_eq] at hk2
            unfold b_X9_sumsOf
            have key := zero_loop (P := P) (a := a) (w := w) (u := h.2) (t := h.1) (zble_f h3) (Nat.le_of_ble_eq_true h2) 12000 0 100000 rfl (by decide) hg
            rw [zclr_zero, ← hg, zset_get] at key
            have hst : xpI 0 (xist 2 (xloop (fun r2 => lX9_sumsOf_2 P r2) 100000)) [a, zR (j + 1), c, w] [] h = xloop (fun r2 => lX9_sumsOf_2 P r2) 100000 [a, zR (j + 1), zI 0, w] [] (h.1, h.2) := by
              show zfix (zR (j + 1)) (fun w' => xloop (fun r2 => lX9_sumsOf_2 P r2) 100000 [a, w', zI 0, w] [] h) = _
              rfl
            exact hst.trans (key.trans hk2)
          · rw [h1, h2, h3] at hk2; cases hk2
/-- a quicker machine that says yes where this one does -/
theorem zMet_quick {X : zM} {y : MethodName} {fr : Nat} {f g : List zV → zH d → zP d → Bool} (hf : zMet X y fr f) (h : ∀ as h P, g as h P = true → f as h P = true) : zMet X y fr g := fun l cA D ws av as hh P sz hg => hf l cA D ws av as hh P sz (h as hh P hg)
theorem zen_mono : ∀ (as : List zV) (n : Nat) {k k' : List zV → Bool}, (∀ L, k L = true → k' L = true) → zen as n k = true → zen as n k' = true
  | [], n, k, k', hkk, h => by
    have : ∀ (n : Nat) (k k' : List zV → Bool), (∀ L, k L = true → k' L = true) → zpad n k = true → zpad n k' = true := by
      intro n
      induction n with
      | zero => intro k k' hkk h; exact hkk _ h
      | succ n ih => intro k k' hkk h; exact ih (fun t => k (zU :: t)) (fun t => k' (zU :: t)) (fun L hL => hkk _ hL) h
    exact this n k k' hkk h
  | v :: as, 0, k, k', hkk, h => by cases h
  | .inl a :: as, n + 1, k, k', hkk, h => zen_mono as n (k := fun t => k (zI a :: t)) (k' := fun t => k' (zI a :: t)) (fun L hL => hkk _ hL) h
  | .inr (.inl a) :: as, n + 1, k, k', hkk, h => zen_mono as n (k := fun t => k (zR a :: t)) (k' := fun t => k' (zR a :: t)) (fun L hL => hkk _ hL) h
  | .inr (.inr (.inl a)) :: as, 1, k, k', hkk, h => by cases h
  | .inr (.inr (.inl a)) :: as, n + 2, k, k', hkk, h => zen_mono as n (k := fun t => k (zL a :: zU :: t)) (k' := fun t => k' (zL a :: zU :: t)) (fun L hL => hkk _ hL) h
  | .inr (.inr (.inr a)) :: as, n + 1, k, k', hkk, h => zen_mono as n (k := fun t => k (zW a :: t)) (k' := fun t => k' (zW a :: t)) (fun L hL => hkk _ hL) h
noncomputable def g_X9_sumsOf : List zV → zH d → zP d → Bool := zfn 4 bz_sumsOf
theorem mg_X9_sumsOf : zMet (d := d) X_X9_sumsOf yX9_sumsOf 17 g_X9_sumsOf := zMet_quick m_X9_sumsOf (fun as h P hg => zen_mono as 4 (fun L hL => bz_t hL) hg)
end ZERO
