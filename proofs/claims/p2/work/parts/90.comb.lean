/-! ways to lay 1 .. n into rows: a code of such a way is one of zcs; no more of them than 720 -/
theorem zerase_len {a : Nat} : ∀ {l : List Nat}, a ∈ l → (l.erase a).length + 1 = l.length
  | b :: l, h => by
    by_cases e : b = a
    · subst e
      simp
    · have h' : a ∈ l := by
        rcases List.mem_cons.mp h with q | q
        · exact absurd q.symm e
        · exact q
      have := zerase_len h'
      rw [List.erase_cons_tail (by simpa using e)]
      simp only [List.length_cons]
      omega
/-- distinct ones of a list are no more than it has -/
theorem zpig : ∀ (t : Nat) (s : Nat → Nat) (l : List Nat), (∀ i, i < t → s i ∈ l) → (∀ i j, i < t → j < t → s i = s j → i = j) → t ≤ l.length
  | 0, _, _, _, _ => Nat.zero_le _
  | t + 1, s, l, h1, h2 => by
    have hm := h1 t (by omega)
    have := zpig t s (l.erase (s t)) (fun i hi => (List.mem_erase_of_ne (fun e => by
      have := h2 i t (by omega) (by omega) e
      omega)).mpr (h1 i (by omega))) (fun i j hi hj e => h2 i j (by omega) (by omega) e)
    have := zerase_len hm
    omega
theorem zsum_s (n : Nat) (f : Nat → Nat) : zsum (n + 1) f = zsum n f + f n := rfl
theorem zsum_c {n : Nat} {f g : Nat → Nat} (h : ∀ i, i < n → f i = g i) : zsum n f = zsum n g := by
  induction n with
  | zero => rfl
  | succ n ih => rw [zsum_s, zsum_s, ih (fun i hi => h i (by omega)), h n (by omega)]
/-- how many of 1 .. m lie in row r -/
def zct (m : Nat) (f : Nat → Nat) (r : Nat) : Nat := zsum m (fun v => if f (v + 1) = r then 1 else 0)
theorem zct_s (m : Nat) (f : Nat → Nat) (r : Nat) : zct (m + 1) f r = zct m f r + if f (m + 1) = r then 1 else 0 := rfl
/-- the code, from m down -/
def zcf : Nat → (Nat → Nat) → Nat → Nat
  | 0, _, acc => acc
  | m + 1, f, acc => zcf m f (6 * acc + f (m + 1))
theorem zpt_n (lam i : Nat) : zpt lam i = lam / 8 ^ i % 8 := rfl
theorem zpt_sub {c r i : Nat} (hr : r < 6) (hi : i < 6) (h : 1 ≤ zpt c r) : zpt (c - 8 ^ r) i = zpt c i - if r = i then 1 else 0 := by
  rw [zpt_n] at h ⊢
  rw [zpt_n]
  have hr' : r = 0 ∨ r = 1 ∨ r = 2 ∨ r = 3 ∨ r = 4 ∨ r = 5 := by omega
  have hi' : i = 0 ∨ i = 1 ∨ i = 2 ∨ i = 3 ∨ i = 4 ∨ i = 5 := by omega
  rcases hr' with rfl | rfl | rfl | rfl | rfl | rfl <;> rcases hi' with rfl | rfl | rfl | rfl | rfl | rfl <;> first | (rw [if_pos rfl]; simp only [Nat.reducePow] at h ⊢; omega) | (rw [if_neg (by decide)]; simp only [Nat.reducePow] at h ⊢; omega)
theorem zcd_mem : ∀ (m c acc : Nat) (f : Nat → Nat), (∀ v, 1 ≤ v → v ≤ m → f v < 6) → (∀ r, r < 6 → zct m f r = zpt c r) → zcf m f acc ∈ zcd m c acc
  | 0, c, acc, f, _, _ => List.mem_singleton.mpr rfl
  | m + 1, c, acc, f, h1, h2 => by
    have hr := h1 (m + 1) (by omega) (by omega)
    have e := h2 _ hr
    rw [zct_s, if_pos rfl] at e
    show zcf m f (6 * acc + f (m + 1)) ∈ (List.range 6).flatMap (fun r => cond (Nat.beq (zpt c r) 0) [] (zcd m (c - 8 ^ r) (6 * acc + r)))
    refine List.mem_flatMap.mpr ⟨f (m + 1), List.mem_range.mpr hr, ?_⟩
    have hb : Nat.beq (zpt c (f (m + 1))) 0 = false := by
      rw [← e]
      rfl
    rw [hb, cond_false]
    refine zcd_mem m _ _ f (fun v a b => h1 v a (by omega)) (fun r hr' => ?_)
    have e2 := h2 r hr'
    rw [zct_s] at e2
    rw [zpt_sub hr hr' (by omega), ← e2]
    omega
/-- the 29 partitions of 1 .. 6, base 8 -/
def zlams : List Nat := [1, 2, 9, 3, 10, 73, 4, 11, 18, 74, 585, 5, 12, 19, 75, 82, 586, 4681, 6, 13, 20, 76, 27, 83, 587, 146, 594, 4682, 37449]
theorem zcs_len : ∀ lam, lam ∈ zlams → (zcs lam).length ≤ 720 := by decide +kernel
theorem zrw_ct : ∀ lam, lam ∈ zlams → ∀ r, r < 6 → zsum (zpn lam) (fun c => if zrw lam c = r then 1 else 0) = zpt lam r := by decide +kernel
theorem zrw_lt : ∀ lam, lam ∈ zlams → ∀ c, c < zpn lam → zrw lam c < 6 := by decide +kernel
theorem zpn_6 : ∀ lam, lam ∈ zlams → 1 ≤ zpn lam ∧ zpn lam ≤ 6 := by decide +kernel
theorem zsum_in {f : Nat → Nat} {v : Nat} : ∀ (n : Nat), 1 ≤ zsum n (fun i => if f i = v then 1 else 0) → ∃ c, c < n ∧ f c = v
  | 0, h => absurd h (Nat.not_succ_le_zero 0)
  | n + 1, h => by
    rw [zsum_s] at h
    by_cases q : f n = v
    · exact ⟨n, by omega, q⟩
    · rw [if_neg q] at h
      obtain ⟨c, a, b⟩ := zsum_in n (by omega)
      exact ⟨c, by omega, b⟩
theorem zsum_pos {v : Nat} (h1 : 1 ≤ v) : ∀ (n : Nat), v ≤ n → 1 ≤ zsum n (fun i => if i + 1 = v then 1 else 0)
  | 0, h => by omega
  | n + 1, h => by
    rw [zsum_s]
    by_cases q : n + 1 = v
    · rw [if_pos q]; omega
    · rw [if_neg q]
      have := zsum_pos h1 n (by omega)
      omega
theorem zPm_mem {n : Nat} {f : Nat → Nat} (h : zPm n f) {v : Nat} (h1 : 1 ≤ v) (h2 : v ≤ n) : ∃ c, c < n ∧ f c = v := by
  refine zsum_in n ?_
  have e : zsum n (fun i => if f i = v then 1 else 0) = zsum n (fun i => if i + 1 = v then 1 else 0) := h (fun w => if w = v then 1 else 0)
  rw [e]
  exact zsum_pos h1 n h2
/-- the code of a way that lies as the partition says -/
theorem zcode_mem {lam : Nat} (hl : lam ∈ zlams) {h f : Nat → Nat} (hp : zPm (zpn lam) h) (hf : ∀ c, c < zpn lam → f (h c) = zrw lam c) : zcf (zpn lam) f 0 ∈ zcs lam := by
  refine zcd_mem _ _ _ f (fun v a b => ?_) (fun r hr => ?_)
  · obtain ⟨c, c1, c2⟩ := zPm_mem hp a b
    rw [← c2, hf c c1]
    exact zrw_lt lam hl c c1
  · rw [← zrw_ct lam hl r hr]
    have e := hp (fun w => if f w = r then 1 else 0)
    exact (show zct (zpn lam) f r = zsum (zpn lam) (fun i => if f (h i) = r then 1 else 0) from e.symm).trans (zsum_c (fun c hc => by rw [hf c hc]))
/-- one more code that wasn't seen: there are no more than 720 -/
theorem zseen_lt {lam t code : Nat} (hl : lam ∈ zlams) {s pl : Nat → Nat} (h1 : ∀ i, i < t → s i ∈ zcs lam ∧ pl (s i) = i + 1) (h2 : code ∈ zcs lam) (h3 : pl code = 0) : t + 1 ≤ 720 := by
  refine Nat.le_trans (zpig (t + 1) (fun i => if i = t then code else s i) (zcs lam) (fun i hi => ?_) (fun i j hi hj e => ?_)) (zcs_len lam hl)
  · by_cases q : i = t
    · show (if i = t then code else s i) ∈ zcs lam
      rw [if_pos q]; exact h2
    · show (if i = t then code else s i) ∈ zcs lam
      rw [if_neg q]; exact (h1 i (by omega)).1
  · have e : (if i = t then code else s i) = (if j = t then code else s j) := e
    by_cases q1 : i = t
    · by_cases q2 : j = t
      · omega
      · rw [if_pos q1, if_neg q2] at e
        have := (h1 j (by omega)).2
        rw [← e, h3] at this
        omega
    · by_cases q2 : j = t
      · rw [if_neg q1, if_pos q2] at e
        have := (h1 i (by omega)).2
        rw [e, h3] at this
        omega
      · rw [if_neg q1, if_neg q2] at e
        have a := (h1 i (by omega)).2
        have b := (h1 j (by omega)).2
        rw [e, b] at a
        omega
theorem zcs_lt : ∀ lam, lam ∈ zlams → ∀ c, c ∈ zcs lam → c < 46656 := by decide +kernel
theorem zsum_upd {f : Nat → Nat} {a i : Nat} : ∀ (n : Nat), i < n → zsum n (fun k => if k = i then a else f k) + f i = zsum n f + a
  | 0, h => by omega
  | n + 1, h => by
    rw [zsum_s, zsum_s]
    by_cases q : n = i
    · subst q
      have e : zsum n (fun k => if k = n then a else f k) = zsum n f := zsum_c (fun k hk => if_neg (by omega))
      rw [e, if_pos rfl]
      omega
    · rw [if_neg q]
      have := zsum_upd (f := f) (a := a) n (show i < n by omega)
      omega
/-- two swapped -/
theorem zPm_swap {n i j : Nat} {f : Nat → Nat} (h : zPm n f) (hi : i < n) (hj : j < n) : zPm n (fun k => if k = j then f i else if k = i then f j else f k) := fun g => by
  rw [← h g]
  have e1 := zsum_upd (f := fun k => g (f k)) (a := g (f j)) n hi
  have e2 := zsum_upd (f := fun k => if k = i then g (f j) else g (f k)) (a := g (f i)) n hj
  have e3 : (if j = i then g (f j) else g (f j)) = g (f j) := by split <;> rfl
  have e4 : zsum n (fun k => g (if k = j then f i else if k = i then f j else f k)) = zsum n (fun k => if k = j then g (f i) else if k = i then g (f j) else g (f k)) := zsum_c (fun k _ => by
    by_cases q1 : k = j
    · rw [if_pos q1, if_pos q1]
    · rw [if_neg q1, if_neg q1]
      by_cases q2 : k = i
      · rw [if_pos q2, if_pos q2]
      · rw [if_neg q2, if_neg q2])
  refine (show zsum n (fun k => g (if k = j then f i else if k = i then f j else f k)) = zsum n (fun i => g (f i)) from ?_)
  rw [e4]
  have e2 : zsum n (fun k => if k = j then g (f i) else if k = i then g (f j) else g (f k)) + (if j = i then g (f j) else g (f j)) = zsum n (fun k => if k = i then g (f j) else g (f k)) + g (f i) := e2
  have e1 : zsum n (fun k => if k = i then g (f j) else g (f k)) + g (f i) = zsum n (fun k => g (f k)) + g (f j) := e1
  omega
theorem zsum_one {v : Nat} : ∀ (n : Nat), zsum n (fun i => if i + 1 = v then 1 else 0) ≤ if 1 ≤ v ∧ v ≤ n then 1 else 0
  | 0 => Nat.zero_le _
  | n + 1 => by
    have := zsum_one (v := v) n
    rw [zsum_s]
    by_cases q : n + 1 = v
    · rw [if_pos q, if_pos ⟨by omega, by omega⟩]
      rw [if_neg (by omega)] at this
      omega
    · rw [if_neg q]
      by_cases q2 : 1 ≤ v ∧ v ≤ n
      · rw [if_pos q2] at this
        rw [if_pos ⟨q2.1, by omega⟩]
        omega
      · rw [if_neg q2] at this
        rw [if_neg (by omega)]
        omega
theorem zsum_ge1 {f : Nat → Nat} {v c : Nat} (hc : f c = v) : ∀ (n : Nat), c < n → 1 ≤ zsum n (fun i => if f i = v then 1 else 0)
  | 0, h => by omega
  | n + 1, h => by
    rw [zsum_s]
    by_cases q : n = c
    · subst q
      rw [if_pos hc]; omega
    · have := zsum_ge1 hc n (by omega)
      omega
theorem zsum_ge2 {f : Nat → Nat} {v c e : Nat} (hc : f c = v) (he : f e = v) (hn : c < e) : ∀ (n : Nat), e < n → 2 ≤ zsum n (fun i => if f i = v then 1 else 0)
  | 0, h => by omega
  | n + 1, h => by
    rw [zsum_s]
    by_cases q : n = e
    · subst q
      have := zsum_ge1 (f := f) hc n (by omega)
      rw [if_pos he]; omega
    · have := zsum_ge2 hc he hn n (by omega)
      omega
theorem zPm_rg {n c : Nat} {f : Nat → Nat} (h : zPm n f) (hc : c < n) : 1 ≤ f c ∧ f c ≤ n := by
  have e : zsum n (fun i => if f i = f c then 1 else 0) = zsum n (fun i => if i + 1 = f c then 1 else 0) := h (fun w => if w = f c then 1 else 0)
  have a := zsum_ge1 (f := f) (v := f c) (c := c) rfl n hc
  have b := zsum_one (v := f c) n
  by_cases q : 1 ≤ f c ∧ f c ≤ n
  · exact q
  · rw [if_neg q] at b
    omega
theorem zPm_inj {n c e : Nat} {f : Nat → Nat} (h : zPm n f) (hc : c < n) (he : e < n) (q : f c = f e) : c = e := by
  have e0 : zsum n (fun i => if f i = f c then 1 else 0) = zsum n (fun i => if i + 1 = f c then 1 else 0) := h (fun w => if w = f c then 1 else 0)
  have b := zsum_one (v := f c) n
  have b1 : zsum n (fun i => if i + 1 = f c then 1 else 0) ≤ 1 := Nat.le_trans b (by split <;> omega)
  by_cases q1 : c < e
  · have := zsum_ge2 (f := f) (v := f c) rfl q.symm q1 n he
    omega
  · by_cases q2 : e < c
    · have := zsum_ge2 (f := f) (v := f c) q.symm rfl q2 n hc
      omega
    · omega
