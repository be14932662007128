section
/-! ways to lay 1 .. n into rows: a code of such a way is one of zcs; no more of them than 720 -/
theorem zerase_len {a : Nat} : ∀ {l : List Nat}, a ∈ l → (l.erase a).length + 1 = l.length
  | b :: l, h => by
    by_cases e : b = a
    · subst e
      simp
    · have h' : a ∈ l := by
        rcases List.mem_cons.mp h with q | q
        · exact absurd q.symm e
        · exact q
      have := zerase_len h'
      rw [List.erase_cons_tail (by simpa using e)]
      simp only [List.length_cons]
      omega
/-- distinct ones of a list are no more than it has -/
theorem zpig : ∀ (t : Nat) (s : Nat → Nat) (l : List Nat), (∀ i, i < t → s i ∈ l) → (∀ i j, i < t → j < t → s i = s j → i = j) → t ≤ l.length
  | 0, _, _, _, _ => Nat.zero_le _
  | t + 1, s, l, h1, h2 => by
    have hm := h1 t (by omega)
    have := zpig t s (l.erase (s t)) (fun i hi => (List.mem_erase_of_ne (fun e => by
      have := h2 i t (by omega) (by omega) e
      omega)).mpr (h1 i (by omega))) (fun i j hi hj e => h2 i j (by omega) (by omega) e)
    have := zerase_len hm
    omega
theorem zsum_s (n : Nat) (f : Nat → Nat) : zsum (n + 1) f = zsum n f + f n := rfl
theorem zsum_c {n : Nat} {f g : Nat → Nat} (h : ∀ i, i < n → f i = g i) : zsum n f = zsum n g := by
  induction n with
  | zero => rfl
  | succ n ih => rw [zsum_s, zsum_s, ih (fun i hi => h i (by omega)), h n (by omega)]
/-- how many of 1 .. m lie in row r -/
def zct (m : Nat) (f : Nat → Nat) (r : Nat) : Nat := zsum m (fun v => if f (v + 1) = r then 1 else 0)
theorem zct_s (m : Nat) (f : Nat → Nat) (r : Nat) : zct (m + 1) f r = zct m f r + if f (m + 1) = r then 1 else 0 := rfl
/-- the code, from m down -/
def zcf : Nat → (Nat → Nat) → Nat → Nat
  | 0, _, acc => acc
  | m + 1, f, acc => zcf m f (6 * acc + f (m + 1))
theorem zpt_n (lam i : Nat) : zpt lam i = lam / 8 ^ i % 8 := rfl
theorem zpt_sub {c r i : Nat} (hr : r < 6) (hi : i < 6) (h : 1 ≤ zpt c r) : zpt (c - 8 ^ r) i = zpt c i - if r = i then 1 else 0 := by
  rw [zpt_n] at h ⊢
  rw [zpt_n]
  have hr' : r = 0 ∨ r = 1 ∨ r = 2 ∨ r = 3 ∨ r = 4 ∨ r = 5 := by omega
  have hi' : i = 0 ∨ i = 1 ∨ i = 2 ∨ i = 3 ∨ i = 4 ∨ i = 5 := by omega
  rcases hr' with rfl | rfl | rfl | rfl | rfl | rfl <;> rcases hi' with rfl | rfl | rfl | rfl | rfl | rfl <;> first | (rw [if_pos rfl]; simp only [Nat.reducePow] at h ⊢; omega) | (rw [if_neg (by decide)]; simp only [Nat.reducePow] at h ⊢; omega)
theorem zcd_mem : ∀ (m c acc : Nat) (f : Nat → Nat), (∀ v, 1 ≤ v → v ≤ m → f v < 6) → (∀ r, r < 6 → zct m f r = zpt c r) → zcf m f acc ∈ zcd m c acc
  | 0, c, acc, f, _, _ => List.mem_singleton.mpr rfl
  | m + 1, c, acc, f, h1, h2 => by
    have hr := h1 (m + 1) (by omega) (by omega)
    have e := h2 _ hr
    rw [zct_s, if_pos rfl] at e
    show zcf m f (6 * acc + f (m + 1)) ∈ (List.range 6).flatMap (fun r => cond (Nat.beq (zpt c r) 0) [] (zcd m (c - 8 ^ r) (6 * acc + r)))
    refine List.mem_flatMap.mpr ⟨f (m + 1), List.mem_range.mpr hr, ?_⟩
    have hb : Nat.beq (zpt c (f (m + 1))) 0 = false := by
      rw [← e]
      rfl
    rw [hb, cond_false]
    refine zcd_mem m _ _ f (fun v a b => h1 v a (by omega)) (fun r hr' => ?_)
    have e2 := h2 r hr'
    rw [zct_s] at e2
    rw [zpt_sub hr hr' (by omega), ← e2]
    omega
/-- the 29 partitions of 1 .. 6, base 8 -/
def zlams : List Nat := [1, 2, 9, 3, 10, 73, 4, 11, 18, 74, 585, 5, 12, 19, 75, 82, 586, 4681, 6, 13, 20, 76, 27, 83, 587, 146, 594, 4682, 37449]
theorem zcs_len : ∀ lam, lam ∈ zlams → (zcs lam).length ≤ 720 := by decide +kernel
theorem zrw_ct : ∀ lam, lam ∈ zlams → ∀ r, r < 6 → zsum (zpn lam) (fun c => if zrw lam c = r then 1 else 0) = zpt lam r := by decide +kernel
theorem zrw_lt : ∀ lam, lam ∈ zlams → ∀ c, c < zpn lam → zrw lam c < 6 := by decide +kernel
theorem zpn_6 : ∀ lam, lam ∈ zlams → 1 ≤ zpn lam ∧ zpn lam ≤ 6 := by decide +kernel
theorem zsum_in {f : Nat → Nat} {v : Nat} : ∀ (n : Nat), 1 ≤ zsum n (fun i => if f i = v then 1 else 0) → ∃ c, c < n ∧ f c = v
  | 0, h => absurd h (Nat.not_succ_le_zero 0)
  | n + 1, h => by
    rw [zsum_s] at h
    by_cases q : f n = v
    · exact ⟨n, by omega, q⟩
    · rw [if_neg q] at h
      obtain ⟨c, a, b⟩ := zsum_in n (by omega)
      exact ⟨c, by omega, b⟩
theorem zsum_pos {v : Nat} (h1 : 1 ≤ v) : ∀ (n : Nat), v ≤ n → 1 ≤ zsum n (fun i => if i + 1 = v then 1 else 0)
  | 0, h => by omega
  | n + 1, h => by
    rw [zsum_s]
    by_cases q : n + 1 = v
    · rw [if_pos q]; omega
    · rw [if_neg q]
      have := zsum_pos h1 n (by omega)
      omega
theorem zPm_mem {n : Nat} {f : Nat → Nat} (h : zPm n f) {v : Nat} (h1 : 1 ≤ v) (h2 : v ≤ n) : ∃ c, c < n ∧ f c = v := by
  refine zsum_in n ?_
  have e : zsum n (fun i => if f i = v then 1 else 0) = zsum n (fun i => if i + 1 = v then 1 else 0) := h (fun w => if w = v then 1 else 0)
  rw [e]
  exact zsum_pos h1 n h2
/-- the code of a way that lies as the partition says -/
theorem zcode_mem {lam : Nat} (hl : lam ∈ zlams) {h f : Nat → Nat} (hp : zPm (zpn lam) h) (hf : ∀ c, c < zpn lam → f (h c) = zrw lam c) : zcf (zpn lam) f 0 ∈ zcs lam := by
  refine zcd_mem _ _ _ f (fun v a b => ?_) (fun r hr => ?_)
  · obtain ⟨c, c1, c2⟩ := zPm_mem hp a b
    rw [← c2, hf c c1]
    exact zrw_lt lam hl c c1
  · rw [← zrw_ct lam hl r hr]
    have e := hp (fun w => if f w = r then 1 else 0)
    exact (show zct (zpn lam) f r = zsum (zpn lam) (fun i => if f (h i) = r then 1 else 0) from e.symm).trans (zsum_c (fun c hc => by rw [hf c hc]))
/-- one more code that wasn't seen: there are no more than 720 -/
theorem zseen_lt {lam t code : Nat} (hl : lam ∈ zlams) {s pl : Nat → Nat} (h1 : ∀ i, i < t → s i ∈ zcs lam ∧ pl (s i) = i + 1) (h2 : code ∈ zcs lam) (h3 : pl code = 0) : t + 1 ≤ 720 := by
  refine Nat.le_trans (zpig (t + 1) (fun i => if i = t then code else s i) (zcs lam) (fun i hi => ?_) (fun i j hi hj e => ?_)) (zcs_len lam hl)
  · by_cases q : i = t
    · show (if i = t then code else s i) ∈ zcs lam
      rw [if_pos q]; exact h2
    · show (if i = t then code else s i) ∈ zcs lam
      rw [if_neg q]; exact (h1 i (by omega)).1
  · have e : (if i = t then code else s i) = (if j = t then code else s j) := e
    by_cases q1 : i = t
    · by_cases q2 : j = t
      · omega
      · rw [if_pos q1, if_neg q2] at e
        have := (h1 j (by omega)).2
        rw [← e, h3] at this
        omega
    · by_cases q2 : j = t
      · rw [if_neg q1, if_pos q2] at e
        have := (h1 i (by omega)).2
        rw [e, h3] at this
        omega
      · rw [if_neg q1, if_neg q2] at e
        have a := (h1 i (by omega)).2
        have b := (h1 j (by omega)).2
        rw [e, b] at a
        omega
theorem zcs_lt : ∀ lam, lam ∈ zlams → ∀ c, c ∈ zcs lam → c < 46656 := by decide +kernel
theorem zsum_upd {f : Nat → Nat} {a i : Nat} : ∀ (n : Nat), i < n → zsum n (fun k => if k = i then a else f k) + f i = zsum n f + a
  | 0, h => by omega
  | n + 1, h => by
    rw [zsum_s, zsum_s]
    by_cases q : n = i
    · subst q
      have e : zsum n (fun k => if k = n then a else f k) = zsum n f := zsum_c (fun k hk => if_neg (by omega))
      rw [e, if_pos rfl]
      omega
    · rw [if_neg q]
      have := zsum_upd (f := f) (a := a) n (show i < n by omega)
      omega
/-- two swapped -/
theorem zPm_swap {n i j : Nat} {f : Nat → Nat} (h : zPm n f) (hi : i < n) (hj : j < n) : zPm n (fun k => if k = j then f i else if k = i then f j else f k) := fun g => by
  rw [← h g]
  have e1 := zsum_upd (f := fun k => g (f k)) (a := g (f j)) n hi
  have e2 := zsum_upd (f := fun k => if k = i then g (f j) else g (f k)) (a := g (f i)) n hj
  have e3 : (if j = i then g (f j) else g (f j)) = g (f j) := by split <;> rfl
  have e4 : zsum n (fun k => g (if k = j then f i else if k = i then f j else f k)) = zsum n (fun k => if k = j then g (f i) else if k = i then g (f j) else g (f k)) := zsum_c (fun k _ => by
    by_cases q1 : k = j
    · rw [if_pos q1, if_pos q1]
    · rw [if_neg q1, if_neg q1]
      by_cases q2 : k = i
      · rw [if_pos q2, if_pos q2]
      · rw [if_neg q2, if_neg q2])
  refine (show zsum n (fun k => g (if k = j then f i else if k = i then f j else f k)) = zsum n (fun i => g (f i)) from ?_)
  rw [e4]
  have e2 : zsum n (fun k => if k = j then g (f i) else if k = i then g (f j) else g (f k)) + (if j = i then g (f j) else g (f j)) = zsum n (fun k => if k = i then g (f j) else g (f k)) + g (f i) := e2
  have e1 : zsum n (fun k => if k = i then g (f j) else g (f k)) + g (f i) = zsum n (fun k => g (f k)) + g (f j) := e1
  omega
theorem zsum_one {v : Nat} : ∀ (n : Nat), zsum n (fun i => if i + 1 = v then 1 else 0) ≤ if 1 ≤ v ∧ v ≤ n then 1 else 0
  | 0 => Nat.zero_le _
  | n + 1 => by
    have := zsum_one (v := v) n
    rw [zsum_s]
    by_cases q : n + 1 = v
    · rw [if_pos q, if_pos ⟨by omega, by omega⟩]
      rw [if_neg (by omega)] at this
      omega
    · rw [if_neg q]
      by_cases q2 : 1 ≤ v ∧ v ≤ n
      · rw [if_pos q2] at this
        rw [if_pos ⟨q2.1, by omega⟩]
        omega
      · rw [if_neg q2] at this
        rw [if_neg (by omega)]
        omega
theorem zsum_ge1 {f : Nat → Nat} {v c : Nat} (hc : f c = v) : ∀ (n : Nat), c < n → 1 ≤ zsum n (fun i => if f i = v then 1 else 0)
  | 0, h => by omega
  | n + 1, h => by
    rw [zsum_s]
    by_cases q : n = c
    · subst q
      rw [if_pos hc]; omega
    · have := zsum_ge1 hc n (by omega)
      omega
theorem zsum_ge2 {f : Nat → Nat} {v c e : Nat} (hc : f c = v) (he : f e = v) (hn : c < e) : ∀ (n : Nat), e < n → 2 ≤ zsum n (fun i => if f i = v then 1 else 0)
  | 0, h => by omega
  | n + 1, h => by
    rw [zsum_s]
    by_cases q : n = e
    · subst q
      have := zsum_ge1 (f := f) hc n (by omega)
      rw [if_pos he]; omega
    · have := zsum_ge2 hc he hn n (by omega)
      omega
theorem zPm_rg {n c : Nat} {f : Nat → Nat} (h : zPm n f) (hc : c < n) : 1 ≤ f c ∧ f c ≤ n := by
  have e : zsum n (fun i => if f i = f c then 1 else 0) = zsum n (fun i => if i + 1 = f c then 1 else 0) := h (fun w => if w = f c then 1 else 0)
  have a := zsum_ge1 (f := f) (v := f c) (c := c) rfl n hc
  have b := zsum_one (v := f c) n
  by_cases q : 1 ≤ f c ∧ f c ≤ n
  · exact q
  · rw [if_neg q] at b
    omega
theorem zPm_inj {n c e : Nat} {f : Nat → Nat} (h : zPm n f) (hc : c < n) (he : e < n) (q : f c = f e) : c = e := by
  have e0 : zsum n (fun i => if f i = f c then 1 else 0) = zsum n (fun i => if i + 1 = f c then 1 else 0) := h (fun w => if w = f c then 1 else 0)
  have b := zsum_one (v := f c) n
  have b1 : zsum n (fun i => if i + 1 = f c then 1 else 0) ≤ 1 := Nat.le_trans b (by split <;> omega)
  by_cases q1 : c < e
  · have := zsum_ge2 (f := f) (v := f c) rfl q.symm q1 n he
    omega
  · by_cases q2 : e < c
    · have := zsum_ge2 (f := f) (v := f c) q.symm rfl q2 n hc
      omega
    · omega
end
section
/-! cells that are marked from here on: the ghosts are chosen anew -/
theorem zFl_gh {C C' : zCh} {ad : zA} {ci k w : Nat} {v : Value} (hT : @zcT C' = @zcT C) (h : @zFl C ad ci k w v) : @zFl C' ad ci k w v := by
  unfold zFl at h ⊢
  cases hz : zisR (zfty ci k)
  · rw [hz, cond_false] at h
    rw [cond_false]
    obtain ⟨i, h1, ⟨h2, h3⟩, h4⟩ := h
    refine ⟨i, h1, ⟨h2, fun q => ?_⟩, h4⟩
    have h3 : zi i = @zcT C ∧ @zcT C ≤ 720 := h3 q
    show zi i = @zcT C' ∧ @zcT C' ≤ 720
    rw [hT]
    exact h3
  · rw [hz, cond_true] at h
    rw [cond_true]
    exact h
theorem zCell_gh {C C' : zCh} {cA : Nat → ClassId} {ad : zA} {c : zC} {e : va_E} (hT : @zcT C' = @zcT C) (h8 : c.1 = 8 → @zcF C' 8 = @zcF C 8) (h9 : c.1 = 9 → @zcF C' 9 = @zcF C 9 ∧ @zcF C' 8 = @zcF C 8) (h10 : c.1 = 10 → @zcF C' 10 = @zcF C 10) (h11 : c.1 = 11 → @zcF C' 11 = @zcF C 11 ∧ @zcF C' 10 = @zcF C 10) (h : @zCell C cA ad c e) : @zCell C' cA ad c e := by
  rcases h with h | h | ⟨k1, k2, k3, h | h⟩ | h | ⟨k1, fs, k2, k3, k4⟩
  · exact Or.inl h
  · exact Or.inr (Or.inl h)
  · refine Or.inr (Or.inr (Or.inl ⟨k1, k2, k3, Or.inl ?_⟩))
    obtain ⟨g1, f, g2, g3, g4⟩ := h
    obtain ⟨kd, len, x⟩ := c
    have k1 : 8 ≤ kd := k1
    have g1 : kd < 12 := g1
    have hk : kd = 8 ∨ kd = 9 ∨ kd = 10 ∨ kd = 11 := by omega
    have g3 : f = @zcF C kd := g3
    have g4 : zKi (@zcF C) (@zcT C) kd len x := g4
    refine ⟨g1, f, g2, show f = @zcF C' kd from ?_, show zKi (@zcF C') (@zcT C') kd len x from ?_⟩
    · rcases hk with rfl | rfl | rfl | rfl
      · rw [g3, h8 rfl]
      · rw [g3, (h9 rfl).1]
      · rw [g3, h10 rfl]
      · rw [g3, (h11 rfl).1]
    · obtain ⟨a1, a2, a3, a4⟩ := g4
      rw [hT]
      rcases hk with rfl | rfl | rfl | rfl
      · exact ⟨fun _ => by rw [h8 rfl]; exact a1 rfl, fun q => absurd q (by decide), fun q => absurd q (by decide), fun q => absurd q (by decide)⟩
      · exact ⟨fun q => absurd q (by decide), fun _ => by rw [(h9 rfl).1, (h9 rfl).2]; exact a2 rfl, fun q => absurd q (by decide), fun q => absurd q (by decide)⟩
      · exact ⟨fun q => absurd q (by decide), fun q => absurd q (by decide), fun _ => by rw [h10 rfl]; exact a3 rfl, fun q => absurd q (by decide)⟩
      · exact ⟨fun q => absurd q (by decide), fun q => absurd q (by decide), fun q => absurd q (by decide), fun _ => by rw [(h11 rfl).1, (h11 rfl).2]; exact a4 rfl⟩
  · exact Or.inr (Or.inr (Or.inl ⟨k1, k2, k3, Or.inr h⟩))
  · exact Or.inr (Or.inr (Or.inr (Or.inl h)))
  · exact Or.inr (Or.inr (Or.inr (Or.inr ⟨k1, fs, k2, k3, fun k v hv => zFl_gh hT (k4 k v hv)⟩)))
section MARK
variable {d : Nat} {X : zM} {fr : Nat} {P : zP d} {pc : Nat} {k : zK d}
def zMkOK (mk : zWk d) : Prop := ∀ L h K, mk L h K = true → ∃ h' : zH d, K L h' = true ∧ h'.2 = h.2 ∧ ∀ (C : zCh) (cA : Nat → ClassId) (ws : va_W), @zHp C d cA h ws → ∃ C' : zCh, @zHp C' d cA h' ws
noncomputable def xmk (mk : zWk d) (k : zK d) : zK d := fun L S h => mk L h (fun L' h' => k L' S h')
theorem sm_mk [G : zGh] {mk : zWk d} (hm : zMkOK mk) (hs : zSim X fr P pc k) : zSim X fr P pc (xmk mk k) := by
  intro Ch cA D ad0 A MC MS p l e s m args below meth c ls st H locs cells slots L S h Cx hk R0
  obtain ⟨ws, hHp, hpre, hP, hD, hS, hL, hst, hcb, hsb⟩ := R0
  obtain ⟨h', hk1, h2, hh⟩ := hm _ _ _ hk
  obtain ⟨C', hHp'⟩ := hh Ch cA ws hHp
  exact hs C' cA D ad0 A MC MS p l e s m args below meth c ls st H locs cells slots L S h' Cx hk1 ⟨ws, hHp', hpre, hP, hD, hS, hL, hst, by rw [h2]; exact hcb, by rw [h2]; exact hsb⟩
end MARK
end
section
/-! held, inRow, placeOf are marked -/
theorem zsum_list (F : Nat → Nat) : ∀ n, zsum n F = ((List.range n).map F).sum
  | 0 => rfl
  | n + 1 => by
    rw [zsum_s, zsum_list F n, List.range_succ, List.map_append, List.sum_append]
    simp
/-- words 0 .. n - 1 are 1 .. n in some order -/
def zprm (n x : Nat) : Bool := ((List.range n).map (fun i => zwd 40 x i)).isPerm ((List.range n).map (fun i => i + 1))
theorem zprm_t {n len x : Nat} {f : Nat → Int32} (hn : n ≤ len) (h6 : n < 4294967295) (h : zprm n x = true) (hf : zAI len x f) : zPm n (fun i => zi (f i)) := by
  have hp : ((List.range n).map (fun i => zwd 40 x i)).Perm ((List.range n).map (fun i => i + 1)) := List.isPerm_iff.mp h
  have hw : ∀ i, i < n → zi (f i) = zwd 40 x i := fun i hi => by
    have hm : zwd 40 x i ∈ (List.range n).map (fun i => i + 1) := hp.mem_iff.mp (List.mem_map.mpr ⟨i, List.mem_range.mpr hi, rfl⟩)
    obtain ⟨j, hj, e⟩ := List.mem_map.mp hm
    have hj := List.mem_range.mp hj
    exact (hf i (by omega)).1 (by omega)
  intro g
  have e1 : zsum n (fun i => g (zi (f i))) = zsum n (fun i => g (zwd 40 x i)) := zsum_c (fun i hi => by rw [hw i hi])
  refine (show zsum n (fun i => g (zi (f i))) = zsum n (fun i => g (i + 1)) from ?_)
  rw [e1, zsum_list, zsum_list]
  have e2 := (hp.map g).sum_nat
  rw [List.map_map, List.map_map] at e2
  exact e2
section MARKS
variable {d : Nat}
noncomputable def znk (lo hi : Nat) (c : zC) : Bool := Prod.rec (motive := fun _ => Bool) (fun k _ => cond (Nat.ble lo k) (Nat.ble (Nat.succ hi) k) true) c
theorem znk_t {lo hi : Nat} {c : zC} (h : znk lo hi c = true) : c.1 < lo ∨ hi < c.1 := by
  obtain ⟨k, v⟩ := c
  have h : cond (Nat.ble lo k) (Nat.ble (Nat.succ hi) k) true = true := h
  cases q : Nat.ble lo k
  · exact Or.inl (zble_f q)
  · rw [q, cond_true] at h
    exact Or.inr (Nat.le_of_ble_eq_true h)
noncomputable def mkA (i : Nat) (fs : List Nat) (kd lam lo hi : Nat) (chk : Nat → Nat → Bool) : zWk d := fun L h K => zpp i fs L h (fun b => cond (Nat.ble (Nat.succ b) h.2.1) (cond (zall h.2.1 (fun q => znk lo hi (zget d h.1 q))) (Prod.rec (motive := fun _ => Bool) (fun kd0 v => Prod.rec (motive := fun _ => Bool) (fun len x => cond (Nat.beq kd0 0) (cond (chk len x) (zsetK d h.1 b (kd, len, lam) (fun T => K L (T, h.2))) false) false) v) (zget d h.1 b)) false) false)
theorem mkA_ok {i : Nat} {fs : List Nat} {kd lam lo hi : Nat} {chk : Nat → Nat → Bool} (hkd : (kd = 8 ∧ lo = 8 ∧ hi = 9) ∨ (kd = 9 ∧ lo = 9 ∧ hi = 9) ∨ (kd = 10 ∧ lo = 10 ∧ hi = 11)) (hc : ∀ (F : Nat → Nat → Int32) (t len x : Nat), chk len x = true → zAI len x (F kd) → zKi F t kd len lam) : zMkOK (mkA i fs kd lam lo hi chk : zWk d) := fun L h K hk => by
  obtain ⟨b, hk⟩ := zpp_t hk
  generalize hg : zget d h.1 b = e0 at hk
  obtain ⟨kd0, len, x⟩ := e0
  obtain ⟨h1, hk⟩ := zcnd_t hk
  obtain ⟨h2, hk⟩ := zcnd_t hk
  have hk : cond (Nat.beq kd0 0) (cond (chk len x) (zsetK d h.1 b (kd, len, lam) (fun T => K L (T, h.2))) false) false = true := hk
  obtain ⟨h3, hk⟩ := zcnd_t hk
  obtain ⟨h4, hk5⟩ := zcnd_t hk
  rw [zsetK_eq] at hk5
  have hb : b < h.2.1 := Nat.le_of_ble_eq_true h1
  have e3 : kd0 = 0 := Nat.eq_of_beq_eq_true h3
  clear hk
  subst e3
  refine ⟨(zset d h.1 b (kd, len, lam), h.2), hk5, rfl, fun C cA ws hH => ?_⟩
  obtain ⟨g1, g2, g3⟩ := hH
  have hbw : b < ws.length := by omega
  have hcb := g3 b _ (List.getElem?_eq_getElem hbw)
  rw [hg] at hcb
  obtain ⟨hl, f, hf1, hf2⟩ := @zCell_i C cA _ 0 len x _ hcb (by decide)
  let C' : zCh := ⟨((fun q => if q = kd then f else @zcF C q, @zcT C) : (Nat → Nat → Int32) × Nat)⟩
  refine ⟨C', g1, g2, fun j q hj => ?_⟩
  have hjw : j < ws.length := (List.getElem?_eq_some_iff.mp hj).1
  by_cases ej : j = b
  · subst ej
    rw [List.getElem?_eq_getElem hbw] at hj
    cases hj
    show @zCell C' cA _ (zget d (zset d h.1 j (kd, len, lam)) j) _
    rw [zget_set_same d _ _ _ (by omega), hf1]
    refine Or.inr (Or.inr (Or.inl ⟨show 8 ≤ kd by omega, show kd < 16 by omega, hl, Or.inl ⟨show kd < 12 by omega, f, rfl, ?_, ?_⟩⟩))
    · exact (if_pos rfl).symm
    · refine hc _ _ len x h4 ?_
      show zAI len x (if kd = kd then f else @zcF C kd)
      rw [if_pos rfl]
      exact hf2
  · show @zCell C' cA _ (zget d (zset d h.1 b (kd, len, lam)) j) _
    rw [zget_set_ne d _ _ _ _ (by omega) (by omega) (fun q => ej q.symm)]
    have hz := znk_t (zall_t h2 j (by omega))
    refine zCell_gh (C := C) rfl (fun q => ?_) (fun q => ⟨?_, ?_⟩) (fun q => ?_) (fun q => ⟨?_, ?_⟩) (g3 j q hj) <;> exact if_neg (by omega)
end MARKS
end
section
/-! seen and tabloids are marked -/
theorem chk8_ok {lam : Nat} (hl : lam < 1048576) (h6 : zpn lam < 4294967295) (F : Nat → Nat → Int32) (t len x : Nat) (h : (cond (Nat.ble (zpn lam) len) (zprm (zpn lam) x) false) = true) (hf : zAI len x (F 8)) : zKi F t 8 len lam := by
  obtain ⟨h1, h2⟩ := zcnd_t h
  refine ⟨fun _ => ?_, fun q => absurd q (by decide), fun q => absurd q (by decide), fun q => absurd q (by decide)⟩
  rw [Nat.mod_eq_of_lt hl]
  exact zprm_t (Nat.le_of_ble_eq_true h1) h6 h2 hf
theorem chk9_ok {lam : Nat} (hl : lam < 1048576) (F : Nat → Nat → Int32) (t len : Nat) : zKi F t 9 len lam := by
  refine ⟨fun q => absurd q (by decide), fun _ c _ hc => ?_, fun q => absurd q (by decide), fun q => absurd q (by decide)⟩
  rw [Nat.div_eq_of_lt hl] at hc
  exact absurd hc (Nat.not_lt_zero _)
theorem chk10_ok {lam : Nat} (F : Nat → Nat → Int32) (t len x : Nat) (h : Nat.beq x (zun 40 len 4294968017) = true) (hf : zAI len x (F 10)) : zKi F t 10 len lam := by
  refine ⟨fun q => absurd q (by decide), fun q => absurd q (by decide), fun _ j hj => ?_, fun q => absurd q (by decide)⟩
  have e := Nat.eq_of_beq_eq_true h
  have hw := hf j hj
  rw [e, zun_wd 40 len 4294968017 j (by decide) (by decide) hj] at hw
  have := hw.2 (by decide) (by decide)
  omega
theorem zFl_gh2 {C C' : zCh} {ad : zA} {ci k w : Nat} {v : Value} (hw : w ≠ 549755813888) (h : @zFl C ad ci k w v) : @zFl C' ad ci k w v := by
  unfold zFl at h ⊢
  cases hz : zisR (zfty ci k)
  · rw [hz, cond_false] at h
    rw [cond_false]
    obtain ⟨i, h1, ⟨h2, h3⟩, h4⟩ := h
    exact ⟨i, h1, ⟨h2, fun q => absurd q hw⟩, h4⟩
  · rw [hz, cond_true] at h
    rw [cond_true]
    exact h
theorem zCell_gh2 {C C' : zCh} {cA : Nat → ClassId} {ad : zA} {c : zC} {e : va_E} (hT : 16 ≤ c.1 → ∀ k, k < zN (c.1 - 16) → zwd 40 c.2.2 k ≠ 549755813888) (hF : ∀ q, q < 11 → @zcF C' q = @zcF C q) (h11 : c.1 ≠ 11) (h : @zCell C cA ad c e) : @zCell C' cA ad c e := by
  rcases h with h | h | ⟨k1, k2, k3, h | h⟩ | h | ⟨k1, fs, k2, k3, k4⟩
  · exact Or.inl h
  · exact Or.inr (Or.inl h)
  · refine Or.inr (Or.inr (Or.inl ⟨k1, k2, k3, Or.inl ?_⟩))
    obtain ⟨g1, f, g2, g3, g4⟩ := h
    obtain ⟨kd, len, x⟩ := c
    have k1 : 8 ≤ kd := k1
    have g1 : kd < 12 := g1
    have h11 : kd ≠ 11 := h11
    have g3 : f = @zcF C kd := g3
    obtain ⟨a1, a2, a3, -⟩ : zKi (@zcF C) (@zcT C) kd len x := g4
    refine ⟨g1, f, g2, show f = @zcF C' kd by rw [hF kd (by omega)]; exact g3, show zKi (@zcF C') (@zcT C') kd len x from ⟨fun q => ?_, fun q => ?_, fun q => ?_, fun q => absurd q h11⟩⟩
    · rw [hF 8 (by decide)]; exact a1 q
    · rw [hF 8 (by decide), hF 9 (by decide)]; exact a2 q
    · rw [hF 10 (by decide)]; exact a3 q
  · exact Or.inr (Or.inr (Or.inl ⟨k1, k2, k3, Or.inr h⟩))
  · exact Or.inr (Or.inr (Or.inr (Or.inl h)))
  · exact Or.inr (Or.inr (Or.inr (Or.inr ⟨k1, fs, k2, k3, fun k v hv => zFl_gh2 (hT k1 k (by rw [← k3]; exact (List.getElem?_eq_some_iff.mp hv).1)) (k4 k v hv)⟩)))
end
section
/-! seen and the count of tabloids are marked -/
section MARKT
variable {d : Nat}
noncomputable def znt (c : zC) : Bool := Prod.rec (motive := fun _ => Bool) (fun k v => Prod.rec (motive := fun _ => Bool) (fun _ x => cond (Nat.ble 16 k) (zall (zN (Nat.sub k 16)) (fun j => cond (Nat.beq (zwd 40 x j) 549755813888) false true)) (cond (Nat.beq k 11) false true)) v) c
theorem znt_t {c : zC} (h : znt c = true) : (16 ≤ c.1 → ∀ k, k < zN (c.1 - 16) → zwd 40 c.2.2 k ≠ 549755813888) ∧ c.1 ≠ 11 := by
  obtain ⟨k, len, x⟩ := c
  have h : cond (Nat.ble 16 k) (zall (zN (Nat.sub k 16)) (fun j => cond (Nat.beq (zwd 40 x j) 549755813888) false true)) (cond (Nat.beq k 11) false true) = true := h
  cases q : Nat.ble 16 k
  · rw [q, cond_false] at h
    have q := zble_f q
    refine ⟨fun z => absurd (show 16 ≤ k from z) (by omega), fun z => ?_⟩
    have z : k = 11 := z
    rw [z] at h
    cases h
  · rw [q, cond_true] at h
    have q := Nat.le_of_ble_eq_true q
    refine ⟨fun _ j hj e => ?_, fun z => absurd (show k = 11 from z) (by omega)⟩
    have hh := zall_t h j hj
    have e : zwd 40 x j = 549755813888 := e
    have hh : cond (Nat.beq (zwd 40 x j) 549755813888) false true = true := hh
    rw [e] at hh
    cases hh
noncomputable def mkT (i j : Nat) (fs : List Nat) (lam : Nat) : zWk d := fun L h K => zpp i fs L h (fun b => zpp i [] L h (fun o => cond (Nat.ble (Nat.succ b) h.2.1) (cond (Nat.ble (Nat.succ o) h.2.1) (cond (zall h.2.1 (fun q => znt (zget d h.1 q))) (Prod.rec (motive := fun _ => Bool) (fun kd0 v => Prod.rec (motive := fun _ => Bool) (fun len x => Prod.rec (motive := fun _ => Bool) (fun ko w => Prod.rec (motive := fun _ => Bool) (fun lo xo => cond (Nat.beq kd0 0) (cond (Nat.beq x (zun 40 len 4295013952)) (cond (Nat.ble 16 ko) (cond (Nat.ble (Nat.succ j) (zN (Nat.sub ko 16))) (cond (zisR (zfty (Nat.sub ko 16) j)) false (cond (Nat.beq (zwd 40 xo j) 0) (zF (fun y => zsetK d h.1 b (11, len, lam) (fun T => zsetK d T o (ko, lo, y) (fun T => K L (T, h.2)))) (zup 40 xo j 549755813888)) false)) false) false) false) false) w) (zget d h.1 o)) v) (zget d h.1 b)) false) false) false))
theorem mkT_ok {i j : Nat} {fs : List Nat} {lam : Nat} : zMkOK (mkT i j fs lam : zWk d) := fun L h K hk => by
  obtain ⟨b, hk⟩ := zpp_t hk
  obtain ⟨o, hk⟩ := zpp_t hk
  generalize hg : zget d h.1 b = e0 at hk
  generalize hgo : zget d h.1 o = e1 at hk
  obtain ⟨kd0, len, x⟩ := e0
  obtain ⟨ko, lo, xo⟩ := e1
  obtain ⟨h1, hk⟩ := zcnd_t hk
  obtain ⟨h2, hk⟩ := zcnd_t hk
  obtain ⟨h3, hk⟩ := zcnd_t hk
  have hk : cond (Nat.beq kd0 0) (cond (Nat.beq x (zun 40 len 4295013952)) (cond (Nat.ble 16 ko) (cond (Nat.ble (Nat.succ j) (zN (Nat.sub ko 16))) (cond (zisR (zfty (Nat.sub ko 16) j)) false (cond (Nat.beq (zwd 40 xo j) 0) (zF (fun y => zsetK d h.1 b (11, len, lam) (fun T => zsetK d T o (ko, lo, y) (fun T => K L (T, h.2)))) (zup 40 xo j 549755813888)) false)) false) false) false) false = true := hk
  obtain ⟨h4, hk⟩ := zcnd_t hk
  obtain ⟨h5, hk⟩ := zcnd_t hk
  obtain ⟨h6, hk⟩ := zcnd_t hk
  obtain ⟨h7, hk⟩ := zcnd_t hk
  cases h8 : zisR (zfty (Nat.sub ko 16) j)
  case true => rw [h8] at hk; cases hk
  rw [h8, cond_false] at hk
  obtain ⟨h9, hk9⟩ := zcnd_t hk
  rw [zF_eq, zsetK_eq, zsetK_eq] at hk9
  have hb : b < h.2.1 := Nat.le_of_ble_eq_true h1
  have ho : o < h.2.1 := Nat.le_of_ble_eq_true h2
  have e4 : kd0 = 0 := Nat.eq_of_beq_eq_true h4
  have e5 := Nat.eq_of_beq_eq_true h5
  have e6 := Nat.le_of_ble_eq_true h6
  have e7 : j < zN (ko - 16) := Nat.le_of_ble_eq_true h7
  have e9 := Nat.eq_of_beq_eq_true h9
  have hbo : b ≠ o := fun q => by
    rw [q, hgo] at hg
    have : ko = kd0 := congrArg (fun c : zC => c.1) hg
    omega
  clear hk
  subst e4
  refine ⟨_, hk9, rfl, fun C cA ws hH => ?_⟩
  obtain ⟨g1, g2, g3⟩ := hH
  have hbw : b < ws.length := by omega
  have hcb := g3 b _ (List.getElem?_eq_getElem hbw)
  rw [hg] at hcb
  obtain ⟨hl, f, hf1, hf2⟩ := @zCell_i C cA _ 0 len x _ hcb (by decide)
  let C' : zCh := ⟨((fun q => if q = 11 then f else @zcF C q, 0) : (Nat → Nat → Int32) × Nat)⟩
  have hF : ∀ q, q < 11 → @zcF C' q = @zcF C q := fun q hq => if_neg (by omega)
  refine ⟨C', g1, g2, fun p q hp => ?_⟩
  have hpw : p < ws.length := (List.getElem?_eq_some_iff.mp hp).1
  show @zCell C' cA _ (zget d (zset d (zset d h.1 b (11, len, lam)) o (ko, lo, zup 40 xo j 549755813888)) p) _
  have hz := znt_t (zall_t h3 p (by omega))
  by_cases ep : p = o
  · subst ep
    rw [zget_set_same d _ _ _ (by omega)]
    have hc := g3 p q hp
    rw [hgo] at hc hz
    obtain ⟨fs', f1, f2, f3⟩ := @zCell_obj C cA _ ko lo xo (ko - 16) _ hc (by omega)
    rw [f1]
    refine Or.inr (Or.inr (Or.inr (Or.inr ⟨e6, fs', rfl, f2, fun k v hv => ?_⟩)))
    have hk' : k < zN (ko - 16) := by rw [← f2]; exact (List.getElem?_eq_some_iff.mp hv).1
    show @zFl C' _ (ko - 16) k (zwd 40 (zup 40 xo j 549755813888) k) v
    have hfk := f3 k v hv
    by_cases ek : k = j
    · subst ek
      rw [zwd_up_same _ _ _ _ (by decide)]
      unfold zFl at hfk ⊢
      have h8' : zisR (zfty (ko - 16) k) = false := h8
      rw [h8', cond_false] at hfk ⊢
      obtain ⟨iv, v1, v2, -⟩ := hfk
      rw [e9] at v2
      exact ⟨iv, v1, ⟨⟨fun z => absurd z (by decide), fun _ z => absurd z (by decide)⟩, fun _ => ⟨v2.1.1 (by decide), Nat.zero_le _⟩⟩, fun z => absurd z (by decide), fun _ z => absurd z (by decide)⟩
    · rw [zwd_up_ne _ _ _ _ _ (by decide) (fun z => ek z.symm)]
      exact zFl_gh2 (hz.1 e6 k hk') hfk
  · rw [zget_set_ne d _ _ _ _ (by omega) (by omega) (fun z => ep z.symm)]
    by_cases eb : p = b
    · subst eb
      rw [zget_set_same d _ _ _ (by omega)]
      rw [List.getElem?_eq_getElem hbw] at hp
      cases hp
      rw [hf1]
      refine Or.inr (Or.inr (Or.inl ⟨show 8 ≤ 11 by decide, show 11 < 16 by decide, hl, Or.inl ⟨show 11 < 12 by decide, f, rfl, rfl, ?_⟩⟩))
      refine (show zKi (@zcF C') (@zcT C') 11 len lam from ⟨fun z => absurd z (by decide), fun z => absurd z (by decide), fun z => absurd z (by decide), fun _ => ⟨fun y hy => ?_, fun y hy => absurd hy (Nat.not_lt_zero y)⟩⟩)
      have hw := hf2 y hy
      rw [e5, zun_wd 40 len 4295013952 y (by decide) (by decide) hy] at hw
      have := hw.2 (by decide) (by decide)
      show zi (f y) < 46656
      omega
    · rw [zget_set_ne d _ _ _ _ (by omega) (by omega) (fun z => eb z.symm)]
      exact zCell_gh2 hz.1 hF hz.2 (g3 p q hp)
end MARKT
end
section
/-! inRow[held[c]] = r -/
section PLACE
variable {d : Nat} {X : zM} {fr : Nat} {P : zP d} {pc : Nat} {k : zK d}
noncomputable def zo9 (j : Nat) (T : zT d) (q : Nat) : Bool := cond (Nat.beq q j) true (znk 9 9 (zget d T q))
/-- inRow[held[c]] = r, in three instructions -/
noncomputable def xpl (n : Nat) (k : zK d) : zK d := fun L S h => zpI S (fun c S => zpR S (fun rh S => zpR S (fun ri S => znth n L (fun v => Sum.rec (motive := fun _ => Bool) (fun r => zat h rh (fun _ _ _ kd len lam => zat h ri (fun t u j kd2 len2 x2 => cond (Nat.beq kd 8) (cond (Nat.beq kd2 9) (cond (Nat.ble len c) false (cond (Nat.ble (Nat.succ c) (zpn lam)) (cond (Nat.ble (Nat.succ lam) 1048576) (cond (Nat.ble (Nat.succ (zpn lam)) len2) (cond (Nat.beq (Nat.mod x2 1048576) lam) (cond (Nat.ble r 4294967295) (cond (Nat.beq (zrw lam c) r) (cond (zall (zpn lam) (fun q => cond (Nat.beq q c) true (cond (Nat.beq (zps lam q) (Nat.div x2 1048576)) false true))) (cond (zall h.2.1 (zo9 j t)) (zF (fun y => zsetK d t j (9, len2, y) (fun t => k L S (t, u))) (Nat.add lam (Nat.mul 1048576 (Nat.succ (Nat.div x2 1048576))))) false) false) false) false) false) false) false) false)) false) false))) (fun _ => false) v))))
theorem sm_pl [G : zGh] {n : Nat} (d1 : decode X.2.1 pc = .ok (.iaload, 1)) (d2 : decode X.2.1 (pc + 1) = .ok (.iload n, 2)) (d3 : decode X.2.1 (pc + 1 + 2) = .ok (.iastore, 1)) (hs : zSim X fr P (pc + 1 + 2 + 1) k) : zSim X fr P pc (xpl n k) := by
  intro Ch cA D ad0 A MC MS p l e s m args below meth c0 ls st H locs cells slots L S h Cx hk R0
  obtain ⟨ws, hHp, hpre, hP, hD, hS, hL, hst, hcb, hsb⟩ := R0
  obtain ⟨c, S, rfl, hk1⟩ := zpI_t hk
  obtain ⟨rh, S, rfl, hk2⟩ := zpR_t hk1
  obtain ⟨ri, S, rfl, hk3⟩ := zpR_t hk2
  obtain ⟨ci, st, rfl, hci, hst1⟩ := zRepL_I hst
  obtain ⟨oh, st, rfl, hoh, hst2⟩ := zRepL_R hst1
  obtain ⟨oi, st, rfl, hoi, hst3⟩ := zRepL_R hst2
  obtain ⟨v, hv, hk4⟩ := znth_t n hk3
  match v, hv, hk4 with
  | .inl r, hv, hk4 =>
    obtain ⟨xr, hxr, rv, rfl, hrv⟩ := zLoc_at hL hv (by intro q; cases q)
    obtain ⟨jh, kd, len, lam, rfl, hg1, hk5⟩ := zat_t hk4
    obtain ⟨j, kd2, len2, x2, rfl, hg2, hk6⟩ := zat_t hk5
    obtain ⟨ah, eh, rfl, hwh, hch⟩ := zat_w hHp hoh
    obtain ⟨ai, ei, rfl, hwi, hcl⟩ := zat_w hHp hoi
    rw [hg1] at hch
    rw [hg2] at hcl
    obtain ⟨b1, hk7⟩ := zcnd_t hk6
    obtain ⟨b2, hk8⟩ := zcnd_t hk7
    cases b3 : Nat.ble len c
    case true => rw [b3] at hk8; cases hk8
    rw [b3, cond_false] at hk8
    obtain ⟨b4, hk9⟩ := zcnd_t hk8
    obtain ⟨b5, hk10⟩ := zcnd_t hk9
    obtain ⟨b6, hk11⟩ := zcnd_t hk10
    obtain ⟨b7, hk12⟩ := zcnd_t hk11
    obtain ⟨b8, hk13⟩ := zcnd_t hk12
    obtain ⟨b9, hk14⟩ := zcnd_t hk13
    obtain ⟨b10, hk15⟩ := zcnd_t hk14
    obtain ⟨b11, hk16⟩ := zcnd_t hk15
    rw [zF_eq, zsetK_eq] at hk16
    clear hk hk1 hk2 hk3 hk4 hk5 hk6 hk7 hk8 hk9 hk10 hk11 hk12 hk13 hk14 hk15
    have e1 : kd = 8 := Nat.eq_of_beq_eq_true b1
    have e2 : kd2 = 9 := Nat.eq_of_beq_eq_true b2
    subst e1
    subst e2
    have e4 : c < zpn lam := Nat.le_of_ble_eq_true b4
    have e5 : lam < 1048576 := Nat.le_of_ble_eq_true b5
    have e6 : zpn lam < len2 := Nat.le_of_ble_eq_true b6
    have e7 : x2 % 1048576 = lam := Nat.eq_of_beq_eq_true b7
    have e8 : r ≤ 4294967295 := Nat.le_of_ble_eq_true b8
    have e9 : zrw lam c = r := Nat.eq_of_beq_eq_true b9
    have mk : ∀ {kd len x : Nat} {e : va_E}, 8 ≤ kd → kd < 12 → zCell cA (zad cA ws) (kd, len, x) e → len < 2147483648 ∧ e = .inl (cA 0, len, .inl (zcF kd)) ∧ zKi zcF zcT kd len x := by
      intro kd len x e q1 q2 hc
      rcases hc with ⟨g, -⟩ | ⟨g, -⟩ | ⟨-, -, g3, ⟨-, f, g5, g6, g7⟩ | ⟨g4, -⟩⟩ | ⟨-, g, -⟩ | ⟨g, -⟩
      · exact absurd (show kd < 2 from g) (by omega)
      · exact absurd (show kd = 2 from g) (by omega)
      · have g6 : f = zcF kd := g6
        subst g6
        exact ⟨g3, g5, g7⟩
      · exact absurd (show kd = 12 from g4) (by omega)
      · exact absurd (show kd < 8 from g) (by omega)
      · exact absurd (show 16 ≤ kd from g) (by omega)
    obtain ⟨l1, rfl, m1⟩ := mk (by decide) (by decide) hch
    obtain ⟨l2, rfl, m2⟩ := mk (by decide) (by decide) hcl
    have hpm : zPm (zpn lam) (fun i => zi (zcF 8 i)) := by
      have := m1.1 rfl
      rw [Nat.mod_eq_of_lt e5] at this
      exact this
    have h9 := m2.2.1 rfl
    rw [e7] at h9
    obtain ⟨g1, g2, g3⟩ := zi_idx hci.1 l1 b3
    have hrg := zPm_rg hpm e4
    have hbl : Nat.ble len2 (zi (zcF 8 c)) = false := by
      cases q : Nat.ble len2 (zi (zcF 8 c))
      · rfl
      · have := Nat.le_of_ble_eq_true q
        have hr2 : zi (zcF 8 c) ≤ zpn lam := hrg.2
        omega
    obtain ⟨i1, i2, i3⟩ := zi_idx (i := zcF 8 c) (a := zi (zcF 8 c)) (fun _ => rfl) l2 hbl
    have hr0 : zi rv = r := hrv.1 (by omega)
    refine va_iald Cx.1 Cx.2.1 Cx.2.2.2.2.2.1 hP _ 0 hwh rfl g1 d1 ?_
    rw [g2]
    refine lv_iload Cx.1 Cx.2.1 d2 hxr ?_
    refine va_iast Cx.1 Cx.2.1 Cx.2.2.2.2.2.1 hP hD hS _ 0 hwi rfl i1 d3 (fun H1 locs1 hP1 hD1 hS1 => ?_)
    rw [i2] at hP1 hD1
    have hz := zad_set (cA := cA) (e' := .inl (cA 0, len2, .inl (upd (zcF 9) (zi (zcF 8 c)) rv))) hwi
    let C' : zCh := ⟨((fun q => if q = 9 then upd (zcF 9) (zi (zcF 8 c)) rv else zcF q, zcT) : (Nat → Nat → Int32) × Nat)⟩
    obtain ⟨w1, w2, w3⟩ := hHp
    have hjw : j < ws.length := (List.getElem?_eq_some_iff.mp hwi).1
    refine hs C' cA D ad0 A MC MS p l e s m args below meth c0 ls _ H1 locs1 cells slots L _ _ Cx hk16 ⟨_, ⟨by rw [List.length_set]; exact w1, w2, fun q y hq => ?_⟩, by rw [hz]; exact hpre, hP1, hD1, hS1, by rw [hz]; exact hL, by rw [hz]; exact hst3, hcb, hsb⟩
    rw [hz]
    rw [List.getElem?_set] at hq
    by_cases ej : j = q
    · subst ej
      rw [if_pos rfl, if_pos hjw] at hq
      cases hq
      show @zCell C' cA _ (zget d (zset d h.1 j _) j) _
      rw [zget_set_same d _ _ _ (by omega)]
      refine Or.inr (Or.inr (Or.inl ⟨show 8 ≤ 9 by decide, show 9 < 16 by decide, l2, Or.inl ⟨show 9 < 12 by decide, _, rfl, rfl, ?_⟩⟩))
      refine (show zKi (@zcF C') (@zcT C') 9 len2 (lam + 1048576 * (x2 / 1048576 + 1)) from ⟨fun z => absurd z (by decide), fun _ c' hc' hq' => ?_, fun z => absurd z (by decide), fun z => absurd z (by decide)⟩)
      rw [show (lam + 1048576 * (x2 / 1048576 + 1)) % 1048576 = lam by omega] at hc' hq' ⊢
      rw [show (lam + 1048576 * (x2 / 1048576 + 1)) / 1048576 = x2 / 1048576 + 1 by omega] at hq'
      show zi (upd (@zcF Ch 9) (zi (@zcF Ch 8 c)) rv (zi (@zcF Ch 8 c'))) = zrw lam c'
      unfold upd
      by_cases ec : c' = c
      · subst ec
        simp only [if_true]
        rw [hr0, e9]
      · have hne : zi (@zcF Ch 8 c') ≠ zi (@zcF Ch 8 c) := fun z => ec (zPm_inj hpm hc' e4 z)
        simp only [hne, if_false]
        refine h9 c' hc' ?_
        have hb := zall_t b10 c' hc'
        have hb : cond (Nat.beq c' c) true (cond (Nat.beq (zps lam c') (Nat.div x2 1048576)) false true) = true := hb
        have f1 : Nat.beq c' c = false := by
          cases z : Nat.beq c' c
          · rfl
          · exact absurd (Nat.eq_of_beq_eq_true z) ec
        rw [f1, cond_false] at hb
        have f2 : zps lam c' ≠ x2 / 1048576 := fun z => by
          have z : zps lam c' = Nat.div x2 1048576 := z
          rw [z, show Nat.beq (Nat.div x2 1048576) (Nat.div x2 1048576) = true from Nat.beq_refl _] at hb
          cases hb
        omega
    · rw [if_neg ej] at hq
      have hqw : q < ws.length := (List.getElem?_eq_some_iff.mp hq).1
      show @zCell C' cA _ (zget d (zset d h.1 j _) q) _
      rw [zget_set_ne d _ _ _ _ (by omega) (by omega) ej]
      have hb := zall_t b11 q (by omega)
      unfold zo9 at hb
      have f1 : Nat.beq q j = false := by
        cases z : Nat.beq q j
        · rfl
        · exact absurd (Nat.eq_of_beq_eq_true z).symm ej
      rw [f1, cond_false] at hb
      have hn := znk_t hb
      have hF : ∀ z, z ≠ 9 → @zcF C' z = @zcF Ch z := fun z h9' => if_neg h9'
      exact zCell_gh (C := Ch) rfl (fun _ => hF 8 (by decide)) (fun z => absurd z (by omega)) (fun _ => hF 10 (by decide)) (fun _ => ⟨hF 11 (by decide), hF 10 (by decide)⟩) (w3 q y hq)
end PLACE
end
section
/-! by way of exact states -/
section EXACT
variable {d : Nat}
/-- the numbers themselves, packed -/
def zpk (f : Nat → Int32) : Nat → Nat
  | 0 => 0
  | n + 1 => zup 40 (zpk f n) n (zi (f n))
theorem zi_40 (i : Int32) : zi i < 2 ^ 40 := Nat.lt_of_lt_of_le (zi_lt i) (by decide)
theorem zpk_wd (f : Nat → Int32) : ∀ (n i : Nat), i < n → zwd 40 (zpk f n) i = zi (f i)
  | 0, i, h => absurd h (Nat.not_lt_zero i)
  | n + 1, i, h => by
    show zwd 40 (zup 40 (zpk f n) n (zi (f n))) i = zi (f i)
    by_cases q : n = i
    · subst q
      rw [zwd_up_same _ _ _ _ (zi_40 _)]
    · rw [zwd_up_ne _ _ _ _ _ (zi_40 _) q]
      exact zpk_wd f n i (by omega)
theorem zIa_e {w : Nat} {i : Int32} (h : zi i = w) : zIa w i := ⟨fun _ => h, fun q => absurd q (by have := zi_lt i; omega)⟩
theorem zpk_AI (f : Nat → Int32) (n : Nat) : zAI n (zpk f n) f := fun j hj => by
  rw [zpk_wd f n j hj]
  exact zIa_e rfl
theorem zAI_e {len x : Nat} {f : Nat → Int32} (h : zAI len x f) {j : Nat} (hj : j < len) (hx : zwd 40 x j < 4294967296) : zi (f j) = zwd 40 x j := (h j hj).1 hx
theorem zHp_cell {C : zCh} {cA : Nat → ClassId} {h : zH d} {ws : va_W} {b : Nat} {q : Nat × va_E} {c' : zC} (hH : @zHp C d cA h ws) (hq : ws[b]? = some q) (hc : @zCell C cA (zad cA ws) c' q.2) : @zHp C d cA (zset d h.1 b c', h.2) ws := by
  obtain ⟨w1, w2, w3⟩ := hH
  have hb : b < ws.length := (List.getElem?_eq_some_iff.mp hq).1
  refine ⟨w1, w2, fun p y hp => ?_⟩
  have hpw : p < ws.length := (List.getElem?_eq_some_iff.mp hp).1
  show @zCell C cA _ (zget d (zset d h.1 b c') p) _
  by_cases e : b = p
  · subst e
    rw [zget_set_same d _ _ _ (by omega)]
    rw [hq] at hp
    cases hp
    exact hc
  · rw [zget_set_ne d _ _ _ _ (by omega) (by omega) e]
    exact w3 p y hp
theorem zat_eq {h : zH d} {i kd len x : Nat} {K : zT d → (Nat × (Nat × Nat)) → Nat → Nat → Nat → Nat → Bool} (hc : zget d h.1 i = (kd, len, x)) : zat h (i + 1) K = K h.1 h.2 i kd len x := by
  obtain ⟨t, u⟩ := h
  have hc : zget d t i = (kd, len, x) := hc
  show Prod.rec (motive := fun _ => Bool) (fun kd v => Prod.rec (motive := fun _ => Bool) (fun len x => K t u i kd len x) v) (zget d t i) = _
  rw [hc]
/-- a contract by way of other states that stand for the same world -/
theorem zMet_ex {X : zM} {y : MethodName} {fr : Nat} {f g : List zV → zH d → zP d → Bool} (hm : zMet X y fr f) (hg : ∀ (C : zCh) (cA : Nat → ClassId) (ws : va_W) (as : List zV) (h : zH d) (P : zP d), g as h P = true → @zHp C d cA h ws → ∃ (C1 : zCh) (h1 : zH d) (P1 : zP d), h1.2 = h.2 ∧ @zHp C1 d cA h1 ws ∧ f as h1 P1 = true ∧ ∀ (C2 : zCh) (ws2 : va_W) (r : zV) (h2 : zH d), P1 r h2 = true → @zHp C2 d cA h2 ws2 → ∃ (C3 : zCh) (r3 : zV) (h3 : zH d), P r3 h3 = true ∧ @zHp C3 d cA h3 ws2 ∧ (r = zU → r3 = zU) ∧ ∀ x, (∀ (_ : zGh), zRep (zad cA ws2) r x) → ∀ (_ : zGh), zRep (zad cA ws2) r3 x) : zMet X y fr g := by
  intro G C l cA D ws av as h P sz hk has hH hT
  obtain ⟨C1, h1, P1, e1, hH1, hf, hq⟩ := hg C cA ws as h P hk hH
  have M := @hm G C1 l cA D ws av as h1 P1 sz hf has hH1 hT
  rw [e1] at M
  refine Met_mono M (fun _ _ z => z) (fun a s o t _ hQ => ?_) (fun _ z => z)
  obtain ⟨⟨C2, r, h2, ws2, ov, o1, o2, o3, o4, o5, o6, o7⟩, o8⟩ := hQ
  obtain ⟨C3, r3, h3, p1, p2, p3, p4⟩ := hq C2 ws2 r h2 o3 o4
  refine ⟨⟨C3, r3, h3, ws2, ov, o1, ?_, p1, p2, o5, o6, o7⟩, o8⟩
  rcases o2 with ⟨z1, z2⟩ | ⟨x, z1, z2⟩
  · exact Or.inl ⟨z1, p3 z2⟩
  · exact Or.inr ⟨x, z1, p4 x z2⟩
end EXACT
end
section
/-! a summary whose small world holds all that is marked: there the ghosts may change -/
theorem zCell_nm {C C' : zCh} {cA : Nat → ClassId} {ad : zA} {c : zC} {e : va_E} (hT : 16 ≤ c.1 → ∀ k, k < zN (c.1 - 16) → zwd 40 c.2.2 k ≠ 549755813888) (hk : c.1 < 8 ∨ 11 < c.1) (h : @zCell C cA ad c e) : @zCell C' cA ad c e := by
  rcases h with h | h | ⟨k1, k2, k3, ⟨g1, -⟩ | h⟩ | h | ⟨k1, fs, k2, k3, k4⟩
  · exact Or.inl h
  · exact Or.inr (Or.inl h)
  · exact absurd g1 (by omega)
  · exact Or.inr (Or.inr (Or.inl ⟨k1, k2, k3, Or.inr h⟩))
  · exact Or.inr (Or.inr (Or.inr (Or.inl h)))
  · exact Or.inr (Or.inr (Or.inr (Or.inr ⟨k1, fs, k2, k3, fun k v hv => zFl_gh2 (hT k1 k (by rw [← k3]; exact (List.getElem?_eq_some_iff.mp hv).1)) (k4 k v hv)⟩)))
noncomputable def znm (c : zC) : Bool := Prod.rec (motive := fun _ => Bool) (fun k v => Prod.rec (motive := fun _ => Bool) (fun _ x => cond (Nat.ble 16 k) (zall (zN (Nat.sub k 16)) (fun j => cond (Nat.beq (zwd 40 x j) 549755813888) false true)) (cond (Nat.ble 8 k) (Nat.ble 12 k) true)) v) c
theorem znm_t {c : zC} (h : znm c = true) : (16 ≤ c.1 → ∀ k, k < zN (c.1 - 16) → zwd 40 c.2.2 k ≠ 549755813888) ∧ (c.1 < 8 ∨ 11 < c.1) := by
  obtain ⟨k, len, x⟩ := c
  have h : cond (Nat.ble 16 k) (zall (zN (Nat.sub k 16)) (fun j => cond (Nat.beq (zwd 40 x j) 549755813888) false true)) (cond (Nat.ble 8 k) (Nat.ble 12 k) true) = true := h
  cases q : Nat.ble 16 k
  · rw [q, cond_false] at h
    have q := zble_f q
    refine ⟨fun z => absurd (show 16 ≤ k from z) (by omega), ?_⟩
    show k < 8 ∨ 11 < k
    cases q8 : Nat.ble 8 k
    · exact Or.inl (zble_f q8)
    · rw [q8, cond_true] at h
      exact Or.inr (Nat.le_of_ble_eq_true h)
  · rw [q, cond_true] at h
    have q := Nat.le_of_ble_eq_true q
    refine ⟨fun _ j hj e => ?_, Or.inr (show 11 < k by omega)⟩
    have hh := zall_t h j hj
    have e : zwd 40 x j = 549755813888 := e
    have hh : cond (Nat.beq (zwd 40 x j) 549755813888) false true = true := hh
    rw [e] at hh
    cases hh
noncomputable def zmwM (φ : List Nat) (t : Nat) (isR : Bool) (x x0 j : Nat) : Bool := cond isR (zmw φ t true x x0 j) (cond (Nat.beq (zwd 40 x0 j) 549755813888) (Nat.beq (zwd 40 x j) 549755813888) (zmw φ t false x x0 j))
noncomputable def zmtM (φ : List Nat) (t : Nat) (c c0 : zC) : Bool := Prod.rec (motive := fun _ => Bool) (fun kd v => Prod.rec (motive := fun _ => Bool) (fun len x => Prod.rec (motive := fun _ => Bool) (fun kd0 v0 => Prod.rec (motive := fun _ => Bool) (fun len0 x0 => cond (Nat.ble kd 7) (zmt φ t (kd, len, x) (kd0, len0, x0)) (cond (Nat.ble 16 kd) (cond (Nat.beq kd kd0) (cond (Nat.beq len len0) (zall (zN (Nat.sub kd 16)) (fun j => zmwM φ t (zisR (zfty (Nat.sub kd 16) j)) x x0 j)) false) false) (cond (Nat.ble kd 11) (cond (Nat.beq kd kd0) (cond (Nat.beq len len0) (Nat.beq x x0) false) false) (zmt φ t (kd, len, x) (kd0, len0, x0))))) v0) c0) v) c
section WORLD
variable {cA : Nat → ClassId} {ws wss : va_W} {φ : List Nat}
theorem zmtM_ok [zCh] {t a : Nat} {c c0 : zC} {e : va_E} (hφ : ∀ (p b : Nat), φ[p]? = some b → b < 549755813887 ∧ p < 549755813887 ∧ ∃ q, ws[b]? = some q ∧ wss[p]? = some q) (hq : wss[t]? = some (a, e)) (hc : zCell cA (zad cA ws) c e) (hm : zmtM φ t c c0 = true) : zCell (zcg cA wss) (zad (zcg cA wss) wss) c0 e := by
  obtain ⟨kd, len, x⟩ := c
  obtain ⟨kd0, len0, x0⟩ := c0
  replace hm : cond (Nat.ble kd 7) (zmt φ t (kd, len, x) (kd0, len0, x0)) (cond (Nat.ble 16 kd) (cond (Nat.beq kd kd0) (cond (Nat.beq len len0) (zall (zN (Nat.sub kd 16)) (fun j => zmwM φ t (zisR (zfty (Nat.sub kd 16) j)) x x0 j)) false) false) (cond (Nat.ble kd 11) (cond (Nat.beq kd kd0) (cond (Nat.beq len len0) (Nat.beq x x0) false) false) (zmt φ t (kd, len, x) (kd0, len0, x0)))) = true := hm
  cases h7 : Nat.ble kd 7
  case true =>
    rw [h7, cond_true] at hm
    exact zmt_ok hφ hq hc hm
  rw [h7, cond_false] at hm
  have q7 := zble_f h7
  cases h16 : Nat.ble 16 kd
  case false =>
    rw [h16, cond_false] at hm
    cases h11 : Nat.ble kd 11
    case false =>
      rw [h11, cond_false] at hm
      exact zmt_ok hφ hq hc hm
    rw [h11, cond_true] at hm
    have q11 := Nat.le_of_ble_eq_true h11
    obtain ⟨h1, hm⟩ := zcnd_t hm
    obtain ⟨h2, hm⟩ := zcnd_t hm
    have e1 := Nat.eq_of_beq_eq_true h1
    have e2 := Nat.eq_of_beq_eq_true h2
    have e3 := Nat.eq_of_beq_eq_true hm
    subst e1
    subst e2
    subst e3
    rcases hc with ⟨g, -⟩ | ⟨g, -⟩ | ⟨g1, g2, g3, ⟨g4, f, g5, g6⟩ | ⟨g4, -⟩⟩ | ⟨-, g, -⟩ | ⟨g, -⟩
    · exact absurd (show kd < 2 from g) (by omega)
    · exact absurd (show kd = 2 from g) (by omega)
    · exact Or.inr (Or.inr (Or.inl ⟨g1, g2, g3, Or.inl ⟨g4, f, by rw [zcg_lo (by decide)]; exact g5, g6⟩⟩))
    · exact absurd (show kd = 12 from g4) (by omega)
    · exact absurd (show kd < 8 from g) (by omega)
    · have h16' := zble_f h16
      exact absurd (show 16 ≤ kd from g) (by omega)
  rw [h16, cond_true] at hm
  have q5 := Nat.le_of_ble_eq_true h16
  obtain ⟨h1, hm1⟩ := zcnd_t hm
  obtain ⟨h2, hm2⟩ := zcnd_t hm1
  have e1 := Nat.eq_of_beq_eq_true h1
  have e2 := Nat.eq_of_beq_eq_true h2
  clear hm hm1
  subst e1
  subst e2
  obtain ⟨fs, rfl, hl, hf⟩ := zCell_obj (ci := kd - 16) hc (by omega)
  have hek : kd = 16 + (kd - 16) := by omega
  have hw := zall_t hm2
  have key : zCell (zcg cA wss) (zad (zcg cA wss) wss) (16 + (kd - 16), len, x0) (.inr (kd - 16, fs)) := zCell_ok hl (fun j v hv => by
    have hj : j < zN (kd - 16) := by rw [← hl]; exact (List.getElem?_eq_some_iff.mp hv).1
    have hwj : zmwM φ t (zisR (zfty (kd - 16) j)) x x0 j = true := hw j hj
    have hfj := hf j v hv
    unfold zFl at hfj ⊢
    cases hz : zisR (zfty (kd - 16) j)
    · rw [hz] at hwj
      rw [hz, cond_false] at hfj
      rw [cond_false]
      have hwj : cond (Nat.beq (zwd 40 x0 j) 549755813888) (Nat.beq (zwd 40 x j) 549755813888) (zmw φ t false x x0 j) = true := hwj
      cases h39 : Nat.beq (zwd 40 x0 j) 549755813888
      · rw [h39, cond_false] at hwj
        exact zmw_I hq (by show (match fs[j]? with | some v => zcv v | none => 0) = zcv v; rw [hv]) hwj hfj
      · rw [h39, cond_true] at hwj
        rw [Nat.eq_of_beq_eq_true h39]
        rw [Nat.eq_of_beq_eq_true hwj] at hfj
        obtain ⟨i, r1, r2, r3⟩ := hfj
        exact ⟨i, r1, r2, fun z => absurd z (Nat.lt_irrefl _), fun _ z => absurd z (Nat.lt_irrefl _)⟩
    · rw [hz] at hwj
      rw [hz, cond_true] at hfj
      rw [cond_true]
      obtain ⟨o, rfl, ho⟩ := hfj
      exact ⟨o, rfl, zmw_R hφ hq (by show (match fs[j]? with | some v => zcv v | none => 0) = zcv (va_rf o); rw [hv]) hwj ho⟩)
  rw [← hek] at key
  exact key
end WORLD
noncomputable def zwbM {d : Nat} (φ ρ : List Nat) (t : zT d) (isR : Bool) (w : Nat) (K : Nat → Bool) : Bool := cond isR (zwb φ ρ t true w K) (cond (Nat.beq w 549755813888) (K w) (zwb φ ρ t false w (fun w' => cond (Nat.beq w' 549755813888) false (K w'))))
def zWBM {d : Nat} (φ ρ : List Nat) (t : zT d) (isR : Bool) (w w' : Nat) : Prop := (zWB φ ρ t isR w w' ∧ (isR = false → w' ≠ 549755813888)) ∨ (w = 549755813888 ∧ isR = false ∧ w' = 549755813888)
theorem zwbM_t {d : Nat} {φ ρ : List Nat} {t : zT d} {isR : Bool} {w : Nat} {K : Nat → Bool} (h : zwbM φ ρ t isR w K = true) : ∃ w', K w' = true ∧ zWBM φ ρ t isR w w' := by
  unfold zwbM at h
  cases isR
  · rw [cond_false] at h
    cases h1 : Nat.beq w 549755813888
    · rw [h1, cond_false] at h
      obtain ⟨w', g1, g2⟩ := zwb_t h
      cases h2 : Nat.beq w' 549755813888
      · rw [h2, cond_false] at g1
        exact ⟨w', g1, Or.inl ⟨g2, fun _ e => by rw [e] at h2; exact absurd h2 (by decide)⟩⟩
      · rw [h2] at g1; cases g1
    · rw [h1, cond_true] at h
      have e := Nat.eq_of_beq_eq_true h1
      exact ⟨w, h, Or.inr ⟨e, rfl, e⟩⟩
  · rw [cond_true] at h
    obtain ⟨w', g1, g2⟩ := zwb_t h
    exact ⟨w', g1, Or.inl ⟨g2, fun e => by cases e⟩⟩
theorem zWBM_lt {d : Nat} {φ ρ : List Nat} {t : zT d} {isR : Bool} {w w' : Nat} (hρ : ∀ (p b : Nat), ρ[p]? = some b → b < 549755813887) (h : zWBM φ ρ t isR w w') : w' < 2 ^ 40 := by
  rcases h with ⟨h, -⟩ | ⟨-, -, h⟩
  · exact zWB_lt hρ h
  · rw [h]; decide
noncomputable def zrnWM {d : Nat} (φ ρ : List Nat) (t : zT d) (isR : Nat → Bool) (x n : Nat) : Nat → (Nat → Bool) → Bool := Nat.rec (motive := fun _ => Nat → (Nat → Bool) → Bool) (fun acc K => K acc) (fun j r acc K => zwbM φ ρ t (isR j) (zwd 40 x j) (fun w => zF (fun acc => r acc K) (zup 40 acc j w))) n
theorem zrnWM_t {d : Nat} {φ ρ : List Nat} {t : zT d} {isR : Nat → Bool} {x : Nat} (hρ : ∀ (p b : Nat), ρ[p]? = some b → b < 549755813887) : ∀ (n acc : Nat) {K : Nat → Bool}, zrnWM φ ρ t isR x n acc K = true → ∃ y, K y = true ∧ (∀ j, j < n → zWBM φ ρ t (isR j) (zwd 40 x j) (zwd 40 y j)) ∧ ∀ j, n ≤ j → zwd 40 y j = zwd 40 acc j
  | 0, acc, K, h => ⟨acc, h, fun j hj => absurd hj (Nat.not_lt_zero j), fun _ _ => rfl⟩
  | n + 1, acc, K, h => by
    have h : zwbM φ ρ t (isR n) (zwd 40 x n) (fun w => zF (fun acc => zrnWM φ ρ t isR x n acc K) (zup 40 acc n w)) = true := h
    obtain ⟨w, hw, hb⟩ := zwbM_t h
    rw [zF_eq] at hw
    obtain ⟨y, h1, h2, h3⟩ := zrnWM_t hρ n _ hw
    have hlt := zWBM_lt hρ hb
    refine ⟨y, h1, fun j hj => ?_, fun j hj => ?_⟩
    · rcases Nat.lt_succ_iff_lt_or_eq.mp hj with q | rfl
      · exact h2 j q
      · rw [h3 j (Nat.le_refl j), zwd_up_same _ _ _ _ hlt]
        exact hb
    · rw [h3 j (by omega), zwd_up_ne _ _ _ _ _ hlt (by omega)]
noncomputable def zrenM {d : Nat} (φ ρ : List Nat) (t : zT d) (c : zC) (K : zC → Bool) : Bool := Prod.rec (motive := fun _ => Bool) (fun kd v => Prod.rec (motive := fun _ => Bool) (fun len x => cond (Nat.ble 16 kd) (zrnWM φ ρ t (fun j => zisR (zfty (Nat.sub kd 16) j)) x (zN (Nat.sub kd 16)) 0 (fun y => K (kd, len, y))) (cond (Nat.ble 8 kd) (cond (Nat.ble kd 11) (K (kd, len, x)) (zren φ ρ t (kd, len, x) K)) (zren φ ρ t (kd, len, x) K))) v) c
def zRNM {d : Nat} (φ ρ : List Nat) (t : zT d) (c c' : zC) : Prop := (zRN φ ρ t c c' ∧ c.1 < 16 ∧ (c.1 < 8 ∨ 11 < c.1)) ∨ (8 ≤ c.1 ∧ c.1 < 12 ∧ c' = c) ∨ ∃ kd len x y : Nat, c = (kd, len, x) ∧ c' = (kd, len, y) ∧ 16 ≤ kd ∧ ∀ j, j < zN (kd - 16) → zWBM φ ρ t (zisR (zfty (kd - 16) j)) (zwd 40 x j) (zwd 40 y j)
theorem zrenM_t {d : Nat} {φ ρ : List Nat} {t : zT d} {c : zC} {K : zC → Bool} (hρ : ∀ (p b : Nat), ρ[p]? = some b → b < 549755813887) (h : zrenM φ ρ t c K = true) : ∃ c', K c' = true ∧ zRNM φ ρ t c c' := by
  obtain ⟨kd, len, x⟩ := c
  replace h : cond (Nat.ble 16 kd) (zrnWM φ ρ t (fun j => zisR (zfty (Nat.sub kd 16) j)) x (zN (Nat.sub kd 16)) 0 (fun y => K (kd, len, y))) (cond (Nat.ble 8 kd) (cond (Nat.ble kd 11) (K (kd, len, x)) (zren φ ρ t (kd, len, x) K)) (zren φ ρ t (kd, len, x) K)) = true := h
  cases h16 : Nat.ble 16 kd
  · rw [h16, cond_false] at h
    have q16 := zble_f h16
    cases h8 : Nat.ble 8 kd
    · rw [h8, cond_false] at h
      obtain ⟨c', g1, g2⟩ := zren_t hρ h
      exact ⟨c', g1, Or.inl ⟨g2, q16, Or.inl (zble_f h8)⟩⟩
    · rw [h8, cond_true] at h
      cases h11 : Nat.ble kd 11
      · rw [h11, cond_false] at h
        obtain ⟨c', g1, g2⟩ := zren_t hρ h
        exact ⟨c', g1, Or.inl ⟨g2, q16, Or.inr (zble_f h11)⟩⟩
      · rw [h11, cond_true] at h
        have q11 := Nat.le_of_ble_eq_true h11
        exact ⟨_, h, Or.inr (Or.inl ⟨Nat.le_of_ble_eq_true h8, show kd < 12 by omega, rfl⟩)⟩
  · rw [h16, cond_true] at h
    obtain ⟨y, g1, g2, -⟩ := zrnWM_t hρ _ _ h
    exact ⟨_, g1, Or.inr (Or.inr ⟨kd, len, x, y, rfl, rfl, Nat.le_of_ble_eq_true h16, g2⟩)⟩
section BACK
variable {d : Nat} {cA cB : Nat → ClassId} {ws ws' wss' : va_W} {φ ρ : List Nat} {T : zT d}
theorem zRepC_nm {C C' : zCh} {ad : zA} {w : Nat} {v : Value} (hw : w ≠ 549755813888) (h : @zRepC C ad (zI w) v) : @zRepC C' ad (zI w) v := by
  obtain ⟨i, h1, ⟨h2, h3⟩, h4⟩ := h
  exact ⟨i, h1, ⟨h2, fun q => absurd q hw⟩, h4⟩
theorem zRNM_ok {C1 C2 : zCh} {c c' : zC} {e : va_E} (hB : ∀ i, i < 8 → cB i = cA i) (hop : @zOp d C2 cA cB ws φ T) (hpre : zPre (zad cA ws) (zad cA ws')) (hρ : ∀ (p b : Nat), ρ[p]? = some b → b < 549755813887) (hρa : ∀ (p b a : Nat), ρ[p]? = some b → (zad cB wss').1[p]? = some a → (zad cA ws').1[b]? = some a) (hc : @zCell C1 cB (zad cB wss') c e) (hn : zRNM φ ρ T c c') : @zCell C1 cA (zad cA ws') c' e := by
  rcases hn with ⟨h1, h2, h3⟩ | ⟨h1, h2, rfl⟩ | ⟨kd, len, x, y, rfl, rfl, h1, h2⟩
  · have key := @zRN_ok d cA cB ws ws' wss' φ ρ T C1 C2 c c' e hB hop hpre hρ hρa hc h1
    have hk : c'.1 = c.1 := by
      obtain ⟨kd, len, x, y, rfl, rfl, -⟩ := h1
      rfl
    exact zCell_nm (fun q => absurd q (by omega)) (by omega) key
  · rcases hc with ⟨g, -⟩ | ⟨g, -⟩ | ⟨g1, g2, g3, ⟨g4, f, g5, g6⟩ | ⟨g4, -⟩⟩ | ⟨-, g, -⟩ | ⟨g, -⟩
    · exact absurd g (by omega)
    · exact absurd g (by omega)
    · exact Or.inr (Or.inr (Or.inl ⟨g1, g2, g3, Or.inl ⟨g4, f, by rw [← hB 0 (by decide)]; exact g5, g6⟩⟩))
    · exact absurd g4 (by omega)
    · exact absurd g (by omega)
    · exact absurd g (by omega)
  · obtain ⟨fs, rfl, hl, hf⟩ := @zCell_obj C1 cB _ kd len x (kd - 16) e hc (by omega)
    have hek : kd = 16 + (kd - 16) := by omega
    have key : @zCell C1 cA (zad cA ws') (16 + (kd - 16), len, y) (.inr (kd - 16, fs)) := @zCell_ok C1 cA _ (kd - 16) len y fs hl (fun j v hv => by
      have hj : j < zN (kd - 16) := by rw [← hl]; exact (List.getElem?_eq_some_iff.mp hv).1
      have hwj := h2 j hj
      have hfj := hf j v hv
      unfold zFl at hfj ⊢
      cases hz : zisR (zfty (kd - 16) j)
      · rw [hz] at hwj
        rw [hz, cond_false] at hfj
        rw [cond_false]
        rcases hwj with ⟨w1, w2⟩ | ⟨w1, -, w2⟩
        · exact zRepC_nm (w2 rfl) (zWB_I (C1 := C1) (C2 := C2) hop hpre w1 hfj)
        · rw [w1] at hfj
          rw [w2]
          obtain ⟨i, r1, r2, r3⟩ := hfj
          exact ⟨i, r1, r2, fun z => absurd z (Nat.lt_irrefl _), fun _ z => absurd z (Nat.lt_irrefl _)⟩
      · rw [hz] at hwj
        rw [hz, cond_true] at hfj
        rw [cond_true]
        obtain ⟨o, rfl, ho⟩ := hfj
        rcases hwj with ⟨w1, -⟩ | ⟨-, w1, -⟩
        · exact ⟨o, rfl, @zWB_R d cA cB ws ws' wss' φ ρ T C2 _ _ _ hop hpre hρ hρa w1 ho⟩
        · cases w1)
    rw [← hek] at key
    exact key
end BACK
noncomputable def zstsM {d ds : Nat} (φ ρ : List Nat) (T0 : zT d) (hs : zT ds) (l : List Nat) : Nat → zT d → (zT d → Bool) → Bool := List.rec (motive := fun _ => Nat → zT d → (zT d → Bool) → Bool) (fun _ T K => K T) (fun b _ r t T K => zrenM φ ρ T0 (zget ds hs t) (fun c => zsetK d T b c (fun T => r (Nat.succ t) T K))) l
theorem zstsM_t {d ds : Nat} {φ ρ : List Nat} {T0 : zT d} {hs : zT ds} (hρ : ∀ (p b : Nat), ρ[p]? = some b → b < 549755813887) : ∀ (l : List Nat) (t : Nat) (T : zT d) {K : zT d → Bool}, (∀ i ∈ l, i < 2 ^ d) → zstsM φ ρ T0 hs l t T K = true → ∃ T' : zT d, K T' = true ∧ (∀ i, i < 2 ^ d → i ∉ l → zget d T' i = zget d T i) ∧ ((∀ (u v i : Nat), l[u]? = some i → l[v]? = some i → u = v) → ∀ (u i : Nat), l[u]? = some i → zRNM φ ρ T0 (zget ds hs (t + u)) (zget d T' i))
  | [], t, T, K, _, h => ⟨T, h, fun _ _ _ => rfl, fun _ u i hu => by simp at hu⟩
  | b :: l, t, T, K, hl, h => by
    have h : zrenM φ ρ T0 (zget ds hs t) (fun c => zsetK d T b c (fun T => zstsM φ ρ T0 hs l (Nat.succ t) T K)) = true := h
    obtain ⟨c, hc, hn⟩ := zrenM_t hρ h
    rw [zsetK_eq] at hc
    obtain ⟨T', h1, h2, h3⟩ := zstsM_t hρ l (t + 1) (zset d T b c) (fun i hi => hl i (List.mem_cons_of_mem _ hi)) hc
    have hb : b < 2 ^ d := hl b List.mem_cons_self
    refine ⟨T', h1, fun i hi hni => ?_, fun hinj u i hu => ?_⟩
    · rw [h2 i hi (fun q => hni (List.mem_cons_of_mem _ q)), zget_set_ne d _ _ _ _ hb hi (fun q => hni (by rw [q]; exact List.mem_cons_self))]
    · cases u with
      | zero =>
        have e : b = i := by simpa using hu
        subst e
        have hni : b ∉ l := fun q => by
          obtain ⟨v, hv⟩ := List.getElem?_of_mem q
          have := hinj 0 (v + 1) b rfl (by simpa using hv)
          omega
        rw [h2 b hb hni, zget_set_same d _ _ _ hb]
        exact hn
      | succ u =>
        have key := h3 (fun u v i hu hv => by have := hinj (u + 1) (v + 1) i (by simpa using hu) (by simpa using hv); omega) u i (by simpa using hu)
        rw [show t + (u + 1) = t + 1 + u by omega]
        exact key
noncomputable def zmtLM {d ds : Nat} (φ : List Nat) (T : zT d) (hs : zT ds) (l : List Nat) : Nat → Bool := List.rec (motive := fun _ => Nat → Bool) (fun _ => true) (fun b _ r t => cond (zmtM φ t (zget d T b) (zget ds hs t)) (r (Nat.succ t)) false) l
theorem zmtLM_t {d ds : Nat} {φ : List Nat} {T : zT d} {hs : zT ds} : ∀ (l : List Nat) (t : Nat), zmtLM φ T hs l t = true → ∀ (u b : Nat), l[u]? = some b → zmtM φ (t + u) (zget d T b) (zget ds hs (t + u)) = true
  | [], t, _, u, b, hu => by simp at hu
  | c :: l, t, h, u, b, hu => by
    have h : cond (zmtM φ t (zget d T c) (zget ds hs t)) (zmtLM φ T hs l (Nat.succ t)) false = true := h
    cases h1 : zmtM φ t (zget d T c) (zget ds hs t)
    · rw [h1] at h; cases h
    rw [h1, cond_true] at h
    cases u with
    | zero =>
      have e : c = b := by simpa using hu
      subst e
      exact h1
    | succ u =>
      have key := zmtLM_t l (t + 1) h u b (by simpa using hu)
      rw [show t + (u + 1) = t + 1 + u by omega]
      exact key
/-- a call by its summary; what is marked lies in the small world -/
noncomputable def zsmyM {d ds : Nat} (fp : List (Nat × Nat)) (as0 : List zV) (hs0 : zH ds) (r1 : zV) (hs1 : zH ds) : List zV → zH d → zP d → Bool := fun as h P => zfp fp as h.1 [] (fun φ => cond (Nat.ble hs0.2.1 (Nat.pow 2 ds)) (cond (Nat.beq (zlen φ) hs0.2.1) (cond (Nat.ble hs0.2.1 hs1.2.1) (cond (Nat.ble (Nat.add h.2.1 (Nat.sub hs1.2.1 hs0.2.1)) (Nat.pow 2 d)) (cond (Nat.ble (Nat.add h.2.1 (Nat.add hs0.2.1 (Nat.sub hs1.2.1 hs0.2.1))) 1000000) (cond (Nat.beq hs0.2.2.1 h.2.2.1) (cond (Nat.beq hs0.2.2.2 h.2.2.2) (cond (znd h.2.1 φ) (cond (zma φ as as0) (cond (zmtLM φ h.1 hs0.1 φ 0) (cond (zall h.2.1 (fun q => cond (zmmb q φ) true (znm (zget d h.1 q)))) (zsqK (Nat.sub hs1.2.1 hs0.2.1) h.2.1 (fun l => zapL φ l (fun ρ => zrv φ ρ h.1 r1 (fun r' => zstsM φ ρ h.1 hs1.1 ρ 0 h.1 (fun T => zF (fun N => P r' (T, (N, hs1.2.2))) (Nat.add h.2.1 (Nat.sub hs1.2.1 hs0.2.1))))))) false) false) false) false) false) false) false) false) false) false) false)
theorem zmmb_inS {b : Nat} : ∀ {l : List Nat}, zmmbS b l = true → ∃ p, p < l.length ∧ l[p]? = some b
  | [], h => by cases h
  | c :: l, h => by
    have h : cond (Nat.beq b c) true (zmmbS b l) = true := h
    cases hb : Nat.beq b c
    · rw [hb, cond_false] at h
      obtain ⟨p, g1, g2⟩ := zmmb_inS h
      exact ⟨p + 1, by simp; omega, by simpa using g2⟩
    · have e := Nat.eq_of_beq_eq_true hb
      exact ⟨0, by simp, by simp [e]⟩
theorem zmmb_in {b : Nat} {l : List Nat} (h : zmmb b l = true) : ∃ p, p < l.length ∧ l[p]? = some b := zmmb_inS (by rw [← zmmb_eq]; exact h)
theorem zMet_smM {d ds : Nat} {X : zM} {y : MethodName} {fr : Nat} {f : List zV → zH ds → zP ds → Bool} (hM : zMet X y fr f) {fp : List (Nat × Nat)} {as0 : List zV} {hs0 : zH ds} {r1 : zV} {hs1 : zH ds} (hev : f as0 hs0 (zrk r1 hs1) = true) : zMet (d := d) X y fr (zsmyM fp as0 hs0 r1 hs1) := by
  intro G Ch l cA D ws av as h P sz hg has hH hT
  obtain ⟨φ, hg⟩ := zfp_t fp [] hg
  obtain ⟨c0, hg⟩ := zcnd_t hg
  obtain ⟨c1, hg⟩ := zcnd_t hg
  obtain ⟨c2, hg⟩ := zcnd_t hg
  obtain ⟨c3, hg⟩ := zcnd_t hg
  obtain ⟨c4, hg⟩ := zcnd_t hg
  obtain ⟨c5, hg⟩ := zcnd_t hg
  obtain ⟨c6, hg⟩ := zcnd_t hg
  obtain ⟨c7, hg⟩ := zcnd_t hg
  obtain ⟨c8, hg⟩ := zcnd_t hg
  obtain ⟨c9, hg⟩ := zcnd_t hg
  obtain ⟨c10, hg⟩ := zcnd_t hg
  have hg := zapL_t φ _ (zsqK_t _ _ hg)
  simp only [zsub_n, zadd_n] at hg
  have m0 : hs0.2.1 ≤ 2 ^ ds := Nat.le_of_ble_eq_true c0
  have m1 : φ.length = hs0.2.1 := by rw [← zlen_eq]; exact Nat.eq_of_beq_eq_true c1
  have m2 : hs0.2.1 ≤ hs1.2.1 := Nat.le_of_ble_eq_true c2
  have m3 : h.2.1 + (hs1.2.1 - hs0.2.1) ≤ 2 ^ d := Nat.le_of_ble_eq_true c3
  have m4 : h.2.1 + (hs0.2.1 + (hs1.2.1 - hs0.2.1)) ≤ 1000000 := Nat.le_of_ble_eq_true c4
  have m5 : hs0.2.2.1 = h.2.2.1 := Nat.eq_of_beq_eq_true c5
  have m6 : hs0.2.2.2 = h.2.2.2 := Nat.eq_of_beq_eq_true c6
  obtain ⟨n1, n2⟩ := znd_t c7
  have hN : ws.length = h.2.1 := hH.1
  generalize hk : hs1.2.1 - hs0.2.1 = k at *
  have hρ0 : ∀ (p i : Nat), (φ ++ List.range' h.2.1 k)[p]? = some i ↔ (p < φ.length ∧ φ[p]? = some i) ∨ (φ.length ≤ p ∧ p < φ.length + k ∧ i = h.2.1 + (p - φ.length)) := by
    intro p i
    by_cases hp : p < φ.length
    · rw [List.getElem?_append_left hp]
      exact ⟨fun z => Or.inl ⟨hp, z⟩, fun z => z.elim (fun z => z.2) (fun z => absurd z.1 (by omega))⟩
    · rw [List.getElem?_append_right (by omega)]
      constructor
      · intro z
        obtain ⟨z1, z2⟩ := List.getElem?_eq_some_iff.mp z
        rw [List.length_range'] at z1
        rw [List.getElem_range'] at z2
        exact Or.inr ⟨by omega, by omega, by omega⟩
      · rintro (z | ⟨z1, z2, z3⟩)
        · exact absurd z.1 hp
        · rw [List.getElem?_eq_getElem (by rw [List.length_range']; omega), List.getElem_range', z3]
          simp
  generalize hρe : φ ++ List.range' h.2.1 k = ρ at hg hρ0
  obtain ⟨r', hg, hr'⟩ := zrv_t hg
  have hρ : ∀ (p b : Nat), ρ[p]? = some b → b < 549755813887 := by
    intro p b hp
    rcases (hρ0 p b).mp hp with ⟨-, z⟩ | ⟨z1, z2, z3⟩
    · have := n1 p b z
      omega
    · omega
  have hρN : ∀ (p b : Nat), ρ[p]? = some b → b < h.2.1 + k := by
    intro p b hp
    rcases (hρ0 p b).mp hp with ⟨-, z⟩ | ⟨z1, z2, z3⟩
    · have := n1 p b z
      omega
    · omega
  obtain ⟨T', hg, hT1, hT2⟩ := zstsM_t hρ ρ 0 h.1 (fun i hi => by
    obtain ⟨p, hp⟩ := List.getElem?_of_mem hi
    have := hρN p i hp
    omega) hg
  have hρi : ∀ (u v i : Nat), ρ[u]? = some i → ρ[v]? = some i → u = v := by
    intro u v i hu hv
    rcases (hρ0 u i).mp hu with ⟨a1, a2⟩ | ⟨a1, a2, a3⟩ <;> rcases (hρ0 v i).mp hv with ⟨b1, b2⟩ | ⟨b1, b2, b3⟩
    · exact n2 u v i a2 b2
    · have := n1 u i a2
      omega
    · have := n1 v i b2
      omega
    · omega
  have hT2 := hT2 hρi
  rw [zF_eq] at hg
  have hwl : (φ.map (fun b => (ws[b]?).getD ((0, .inr (0, [])) : Nat × va_E))).length = φ.length := List.length_map ..
  have hφ : ∀ (p b : Nat), φ[p]? = some b → b < 549755813887 ∧ p < 549755813887 ∧ ∃ q, ws[b]? = some q ∧ (φ.map (fun b => (ws[b]?).getD ((0, .inr (0, [])) : Nat × va_E)))[p]? = some q := by
    intro p b hp
    have hb := n1 p b hp
    have hpl := (List.getElem?_eq_some_iff.mp hp).1
    have e : ws[b]? = some ws[b] := List.getElem?_eq_getElem (by omega)
    refine ⟨by omega, by omega, ws[b], e, ?_⟩
    rw [List.getElem?_map, hp]
    simp [e]
  generalize φ.map (fun b => (ws[b]?).getD ((0, .inr (0, [])) : Nat × va_E)) = wss at hwl hφ
  have hφr : ∀ (p : Nat) (q : Nat × va_E), wss[p]? = some q → ∃ b, φ[p]? = some b ∧ ws[b]? = some q := by
    intro p q hp
    have hpl := (List.getElem?_eq_some_iff.mp hp).1
    have e : φ[p]? = some φ[p] := List.getElem?_eq_getElem (by omega)
    obtain ⟨-, -, q', g1, g2⟩ := hφ p _ e
    rw [hp] at g2
    cases g2
    exact ⟨_, e, g1⟩
  have hsub : ∀ q, va_A wss sz q → va_A ws sz q := by
    rintro q (⟨k', e, hk'⟩ | z)
    · obtain ⟨b, -, hb⟩ := hφr k' _ hk'
      exact Or.inl ⟨b, e, hb⟩
    · exact Or.inr z
  have hHs : zHp (zcg cA wss) hs0 wss := by
    refine ⟨by omega, m0, fun i q hi => ?_⟩
    obtain ⟨b, hb, hq⟩ := hφr i q hi
    have hm := zmtLM_t φ 0 c9 i b hb
    rw [Nat.zero_add] at hm
    obtain ⟨qa, qe⟩ := q
    exact zmtM_ok hφ hi (hH.2.2 b _ hq) hm
  have hm := hM l (zcg cA wss) D wss av as0 hs0 (zrk r1 hs1) sz hev (zma_ok hφ c8 has) hHs (by rw [zcg_lo (by decide)]; exact hT)
  rw [m5, m6] at hm
  refine Met_mono hm ?_ ?_ hsub
  · rintro a s ⟨rfl, e1, hP, hK, hD, hst, hex⟩
    refine ⟨rfl, e1, fun k' q hk' => ?_, by rw [zcg_ty]; exact hK, ⟨fun i j p q hi hj hpq => ?_, fun _ _ _ => trivial⟩, zStat_to hst va_S.rf hsub rfl (Vm.Alike.refl s.vm), hex⟩
    · obtain ⟨b, -, hq⟩ := hφr k' q hk'
      exact hP b q hq
    · obtain ⟨b1, g1, g2⟩ := hφr i p hi
      obtain ⟨b2, g3, g4⟩ := hφr j q hj
      have e := hD.1 b1 b2 p q g2 g4 hpq
      subst e
      exact n2 i j b1 g1 g3
  · rintro a st o t ⟨rfl, e1, hP, hK, hD, hst, hex⟩ ⟨⟨Ch', r, hh, wss', ov, rfl, hov, hk2, hHp', hpre', hP', hD'⟩, hF⟩
    obtain ⟨hsb, hrr⟩ := zrk_t hk2
    have hH1 : @zHp Ch' ds (zcg cA wss) hs1 wss' := zsubH_ok hsb hHp'
    have hl1 : wss'.length = hs1.2.1 := hH1.1
    obtain ⟨⟨tt, htt⟩, -⟩ := hpre'
    have htt : wss'.map (fun q => q.1) = wss.map (fun q => q.1) ++ tt := htt
    have hadr : ∀ (p : Nat) (q q' : Nat × va_E), wss[p]? = some q → wss'[p]? = some q' → q'.1 = q.1 := by
      intro p q q' h1 h2
      have e := congrArg (fun z => z[p]?) htt
      have e : (wss'.map (fun q => q.1))[p]? = (wss.map (fun q => q.1) ++ tt)[p]? := e
      rw [List.getElem?_append_left (by rw [List.length_map]; exact (List.getElem?_eq_some_iff.mp h1).1), List.getElem?_map, List.getElem?_map, h1, h2] at e
      exact Option.some.inj e
    have hρl : ∀ (p i : Nat), ρ[p]? = some i → ∃ q, wss'[p]? = some q := by
      intro p i hp
      have hpl : p < wss'.length := by
        rcases (hρ0 p i).mp hp with ⟨z, -⟩ | ⟨z1, z2, z3⟩ <;> omega
      exact ⟨_, List.getElem?_eq_getElem hpl⟩
    obtain ⟨ws', hwl', hin, hout⟩ : ∃ ws' : va_W, ws'.length = h.2.1 + k ∧ (∀ (p i : Nat) (q : Nat × va_E), ρ[p]? = some i → wss'[p]? = some q → ws'[i]? = some q) ∧ ∀ (i : Nat) (q : Nat × va_E), i ∉ ρ → ws[i]? = some q → ws'[i]? = some q := by
      refine ⟨(List.range (h.2.1 + k)).map (fun i => @dite _ (∃ q : Nat × va_E, ∃ p : Nat, ρ[p]? = some i ∧ wss'[p]? = some q) (Classical.propDecidable _) (fun hx => Classical.choose hx) (fun _ => (ws[i]?).getD (0, .inr (0, [])))), by rw [List.length_map, List.length_range], fun p i q hp hq => ?_, fun i q hi hq => ?_⟩
      · have hx : ∃ q : Nat × va_E, ∃ p : Nat, ρ[p]? = some i ∧ wss'[p]? = some q := ⟨q, p, hp, hq⟩
        rw [List.getElem?_map, List.getElem?_range (hρN p i hp)]
        show some (@dite _ _ (Classical.propDecidable _) _ _) = some q
        rw [dif_pos hx]
        obtain ⟨p', z1, z2⟩ := Classical.choose_spec hx
        have e := hρi p' p i z1 hp
        subst e
        rw [z2] at hq
        exact hq
      · have hx : ¬ ∃ q : Nat × va_E, ∃ p : Nat, ρ[p]? = some i ∧ wss'[p]? = some q := fun ⟨_, p, hp, _⟩ => hi (List.mem_of_getElem? hp)
        have hil := (List.getElem?_eq_some_iff.mp hq).1
        rw [List.getElem?_map, List.getElem?_range (by omega)]
        show some (@dite _ _ (Classical.propDecidable _) _ _) = some q
        rw [dif_neg hx, hq]
        rfl
    have hrev : ∀ (i : Nat) (q : Nat × va_E), ws'[i]? = some q → (∃ p : Nat, ρ[p]? = some i ∧ wss'[p]? = some q) ∨ (i ∉ ρ ∧ ws[i]? = some q) := by
      intro i q hi
      by_cases hm : i ∈ ρ
      · obtain ⟨p, hp⟩ := List.getElem?_of_mem hm
        obtain ⟨q', hq'⟩ := hρl p i hp
        have := hin p i q' hp hq'
        rw [hi] at this
        cases this
        exact Or.inl ⟨p, hp, hq'⟩
      · have hil := (List.getElem?_eq_some_iff.mp hi).1
        have hiN : i < h.2.1 := by
          rcases Nat.lt_or_ge i h.2.1 with z | z
          · exact z
          · exact absurd (List.mem_of_getElem? ((hρ0 (φ.length + (i - h.2.1)) i).mpr (Or.inr ⟨by omega, by omega, by omega⟩))) hm
        have e : ws[i]? = some ws[i] := List.getElem?_eq_getElem (by omega)
        have := hout i _ hm e
        rw [hi] at this
        cases this
        exact Or.inr ⟨hm, e⟩
    have hfst : ∀ (i : Nat) (q : Nat × va_E), ws[i]? = some q → ∃ q', ws'[i]? = some q' ∧ q'.1 = q.1 := by
      intro i q hi
      by_cases hm : i ∈ ρ
      · obtain ⟨p, hp⟩ := List.getElem?_of_mem hm
        obtain ⟨q', hq'⟩ := hρl p i hp
        have hil := (List.getElem?_eq_some_iff.mp hi).1
        rcases (hρ0 p i).mp hp with ⟨z1, z2⟩ | ⟨z1, z2, z3⟩
        · obtain ⟨-, -, q2, g1, g2⟩ := hφ p i z2
          rw [hi] at g1
          cases g1
          exact ⟨q', hin p i q' hp hq', hadr p _ _ g2 hq'⟩
        · omega
      · exact ⟨q, hout i q hm hi, rfl⟩
    have hpreB : zPre (zad cA ws) (zad cA ws') := by
      refine ⟨⟨(ws'.map (fun q => q.1)).drop ws.length, ?_⟩, rfl⟩
      show ws'.map (fun q => q.1) = ws.map (fun q => q.1) ++ (ws'.map (fun q => q.1)).drop ws.length
      have key : (ws'.map (fun q => q.1)).take ws.length = ws.map (fun q => q.1) := by
        apply List.ext_getElem?
        intro i
        rw [List.getElem?_take]
        by_cases hi : i < ws.length
        · rw [if_pos hi]
          obtain ⟨q', g1, g2⟩ := hfst i _ (List.getElem?_eq_getElem hi)
          rw [List.getElem?_map, List.getElem?_map, g1, List.getElem?_eq_getElem hi]
          show some q'.1 = some _
          rw [g2]
        · rw [if_neg hi, List.getElem?_eq_none (by rw [List.length_map]; omega)]
      rw [← key]
      exact (List.take_append_drop _ _).symm
    have hρa : ∀ (p b a : Nat), ρ[p]? = some b → (zad (zcg cA wss) wss').1[p]? = some a → (zad cA ws').1[b]? = some a := by
      intro p b a hp ha
      have ha : (wss'.map (fun q => q.1))[p]? = some a := ha
      show (ws'.map (fun q => q.1))[b]? = some a
      rw [List.getElem?_map] at ha ⊢
      obtain ⟨q, hq, hqa⟩ := Option.map_eq_some_iff.mp ha
      rw [hin p b q hp hq]
      exact congrArg some hqa
    have hop := @zOp_of Ch d cA h ws wss φ hH hφ
    have hB : ∀ i, i < 8 → zcg cA wss i = cA i := fun i hi => zcg_lo (by omega)
    refine ⟨⟨Ch', r', (T', (h.2.1 + k, hs1.2.2)), ws', ov, rfl, ?_, hg, ⟨hwl', m3, fun i q hi => ?_⟩, hpreB, fun i q hi => ?_, ⟨fun i j p q hi hj hpq => ?_, fun i q hi => ?_⟩⟩, hF.1, fun q hq hnq => hF.2 q hq (fun z => hnq (hsub q z))⟩
    · rcases hrr with ⟨g1, g2⟩ | ⟨g1, g2⟩
      · subst g2
        rcases hov with ⟨z, -⟩ | ⟨x, z1, z2⟩
        · refine Or.inl ⟨z, ?_⟩
          rw [g1] at hr'
          rcases hr' with ⟨n, -, e, -⟩ | ⟨w, w', -, -, e, -⟩ | ⟨n, e, -⟩ | ⟨-, e⟩
          · cases e
          · cases e
          · cases e
          · exact e
        · exact absurd (z2 G) (fun q => @zRep_U G _ _ q)
      · rcases hov with ⟨-, z⟩ | ⟨x, z1, z2⟩
        · rw [z] at g2
          exact absurd g2 (fun q => zsubV_nU q)
        · refine Or.inr ⟨x, z1, fun G' => ?_⟩
          have hx : @zRep G' (zad (zcg cA wss) wss') r1 x := by
            rcases @zsubV_ok G' false _ _ _ _ g2 (z2 G') with ⟨q, -⟩ | q
            · cases q
            · exact q
          rcases hr' with ⟨n, -, e, e'⟩ | ⟨w, w', w1, w2, e, e', hb⟩ | ⟨n, e, e'⟩ | ⟨e, -⟩
          · rw [e] at hx
            rw [e']
            exact hx
          · rw [e] at hx
            rw [e']
            obtain ⟨ox, ho, hrf⟩ := hx
            refine ⟨ox, ho, ?_⟩
            rcases @zWB_R d cA (zcg cA wss) ws ws' wss' φ ρ h.1 Ch w w' ox hop hpreB hρ hρa hb (Or.inl ⟨w1, hrf⟩) with ⟨-, q⟩ | ⟨q, -⟩
            · exact q
            · omega
          · rw [e] at hx
            rw [e']
            exact hx
          · rw [e, zisU_f] at g1
            cases g1
    · rcases hrev i q hi with ⟨p, hp, hq⟩ | ⟨hm, hq⟩
      · have hn := hT2 p i hp
        rw [Nat.zero_add] at hn
        exact zRNM_ok hB hop hpreB hρ hρa (hH1.2.2 p q hq) hn
      · have hil := (List.getElem?_eq_some_iff.mp hq).1
        show @zCell Ch' cA (zad cA ws') (zget d T' i) q.2
        rw [hT1 i (by omega) hm]
        have hz : cond (zmmb i φ) true (znm (zget d h.1 i)) = true := zall_t c10 i (by omega)
        have hnφ : zmmb i φ = false := by
          cases hb : zmmb i φ
          · rfl
          · exact absurd (List.mem_of_getElem? ((hρ0 _ i).mpr (Or.inl (zmmb_in hb).choose_spec))) hm
        rw [hnφ, cond_false] at hz
        obtain ⟨z1, z2⟩ := znm_t hz
        exact zCell_nm z1 z2 (@zCell_mono Ch cA _ _ hpreB _ _ (hH.2.2 i q hq))
    · rcases hrev i q hi with ⟨p, hp, hq⟩ | ⟨hm, hq⟩
      · exact hP' p q hq
      · have hlt := (hP i q hq).lt
        refine (hP i q hq).kept (hF.2 q.1 hlt ?_)
        rintro (⟨k', e, hk'⟩ | z)
        · obtain ⟨b, hb, hq2⟩ := hφr k' _ hk'
          have e := hD.1 b i _ q hq2 hq rfl
          subst e
          exact hm (List.mem_of_getElem? ((hρ0 k' b).mpr (Or.inl ⟨(List.getElem?_eq_some_iff.mp hb).1, hb⟩)))
        · omega
    · have mixed : ∀ (i j : Nat) (p q : Nat × va_E) (u : Nat), ρ[u]? = some i → wss'[u]? = some p → j ∉ ρ → ws[j]? = some q → p.1 = q.1 → False := by
        intro i j p q u hu hp hjm hq hpq
        have hlt := (hP j q hq).lt
        rcases hD'.2 u p hp with ⟨k', e, hk'⟩ | z
        · obtain ⟨b, hb, hq2⟩ := hφr k' _ hk'
          have e2 := hD.1 b j _ q hq2 hq hpq
          subst e2
          exact hjm (List.mem_of_getElem? ((hρ0 k' b).mpr (Or.inl ⟨(List.getElem?_eq_some_iff.mp hb).1, hb⟩)))
        · omega
      rcases hrev i p hi with ⟨u, hu, hp⟩ | ⟨hm, hp⟩ <;> rcases hrev j q hj with ⟨v, hv, hq⟩ | ⟨hm2, hq⟩
      · have e := hD'.1 u v p q hp hq hpq
        subst e
        rw [hu] at hv
        cases hv
        rfl
      · exact absurd (mixed i j p q u hu hp hm2 hq hpq) id
      · exact absurd (mixed j i q p v hv hq hm hp hpq.symm) id
      · exact hD.1 i j p q hp hq hpq
    · rcases hrev i q hi with ⟨p, hp, hq⟩ | ⟨hm, hq⟩
      · exact hsub _ (hD'.2 p q hq)
      · exact Or.inl ⟨i, q.2, hq⟩
end
section
/-! a run with numbers that aren't written out: a row an instruction -/
theorem znth_e : ∀ (n : Nat) {L : List zV} {v : zV} {K : zV → Bool}, L[n]? = some v → znth n L K = K v
  | _, [], _, _, h => by simp at h
  | 0, w :: L, v, K, h => by
    have e : w = v := by simpa using h
    subst e
    rfl
  | n + 1, w :: L, v, K, h => znth_e n (L := L) (v := v) (K := K) (by simpa using h)
theorem zk2_e {a b v : Nat} (ha : a < 4294967296) (hb : b < 4294967296) : zk2 a b v = v := by
  have h : Nat.lor a b < 2 ^ 32 := Nat.or_lt_two_pow (n := 32) ha hb
  have hq : Nat.ble 4294967296 (Nat.lor a b) = false := by
    cases q : Nat.ble 4294967296 (Nat.lor a b)
    · rfl
    · exact absurd (Nat.le_of_ble_eq_true q) (Nat.not_le.mpr h)
  unfold zk2
  rw [hq]
  rfl
theorem zble_n {a b : Nat} (h : b < a) : Nat.ble a b = false := by
  cases q : Nat.ble a b
  · rfl
  · exact absurd (Nat.le_of_ble_eq_true q) (by omega)
theorem zcap_e {v : Nat} (h : v < 4294967296) : zcap v = v := by
  unfold zcap
  rw [zble_n h]
  rfl
theorem zT_ext : ∀ (d : Nat) (t t' : zT d), (∀ i, i < 2 ^ d → zget d t i = zget d t' i) → t = t'
  | 0, _, _, h => h 0 (by decide)
  | d + 1, t, t', h => by
    have key : ∀ (t t' : zT d × zT d), (∀ i, i < 2 ^ (d + 1) → zget (d + 1) t i = zget (d + 1) t' i) → t = t' := by
      intro ⟨a, b⟩ ⟨a', b'⟩ h
      have h1 : a = a' := zT_ext d a a' (fun i hi => by
        have hz : cond (Nat.ble (Nat.pow 2 d) i) (zget d b (Nat.sub i (Nat.pow 2 d))) (zget d a i) = cond (Nat.ble (Nat.pow 2 d) i) (zget d b' (Nat.sub i (Nat.pow 2 d))) (zget d a' i) := h i (by rw [Nat.pow_succ]; omega)
        have e : Nat.ble (Nat.pow 2 d) i = false := zble_n hi
        rw [e] at hz
        exact hz)
      have h2 : b = b' := zT_ext d b b' (fun i hi => by
        have hz : cond (Nat.ble (Nat.pow 2 d) (i + 2 ^ d)) (zget d b (Nat.sub (i + 2 ^ d) (Nat.pow 2 d))) (zget d a (i + 2 ^ d)) = cond (Nat.ble (Nat.pow 2 d) (i + 2 ^ d)) (zget d b' (Nat.sub (i + 2 ^ d) (Nat.pow 2 d))) (zget d a' (i + 2 ^ d)) := h (i + 2 ^ d) (by rw [Nat.pow_succ]; omega)
        have e : Nat.ble (Nat.pow 2 d) (i + 2 ^ d) = true := Nat.ble_eq_true_of_le (Nat.le_add_left _ _)
        have e2 : Nat.sub (i + 2 ^ d) (Nat.pow 2 d) = i := Nat.add_sub_cancel i (2 ^ d)
        rw [e, e2] at hz
        exact hz)
      rw [h1, h2]
    exact key t t' h
section STEP
variable {d : Nat} {L S : List zV} {h : zH d} {k : zK d}
theorem go_ald {n a : Nat} (hL : L[n]? = some (zR a)) (hk : k L (zR a :: S) h = true) : xald n k L S h = true := by
  show znth n L _ = true
  rw [znth_e n hL]
  exact hk
theorem go_ild {n a : Nat} (hL : L[n]? = some (zI a)) (hk : k L (zI a :: S) h = true) : xild n k L S h = true := by
  show znth n L _ = true
  rw [znth_e n hL]
  exact hk
theorem go_ist {n a : Nat} {L' : List zV} (hL : ∀ K : List zV → Bool, zst n (zI a) L K = K L') (hk : k L' S h = true) : xist n k L (zI a :: S) h = true := by
  show zst n (zI a) L (fun L => k L S h) = true
  rw [hL]
  exact hk
theorem go_gfR {kc n i len x v : Nat} (hc : zget d h.1 i = (kc, len, x)) (hw : zwd 40 x n = v) (hv : v < 549755813888) (hk : k L (zR v :: S) h = true) : xgfR kc n k L (zR (i + 1) :: S) h = true := by
  show zat h (i + 1) (fun _ _ _ kd _ x => cond (Nat.beq kd kc) (zF (fun v => cond (Nat.ble 549755813888 v) (k L (zW (Nat.add 1152921504606846976 v) :: S) h) (k L (zR v :: S) h)) (zwd 40 x n)) false) = true
  rw [zat_eq hc]
  show cond (Nat.beq kc kc) (zF (fun v => cond (Nat.ble 549755813888 v) (k L (zW (Nat.add 1152921504606846976 v) :: S) h) (k L (zR v :: S) h)) (zwd 40 x n)) false = true
  rw [show Nat.beq kc kc = true from Nat.beq_refl kc, cond_true, zF_eq, hw, zble_n hv]
  exact hk
theorem go_gfI {kc n i len x v : Nat} (hc : zget d h.1 i = (kc, len, x)) (hw : zwd 40 x n = v) (hk : k L (zI v :: S) h = true) : xgfI kc n k L (zR (i + 1) :: S) h = true := by
  show zat h (i + 1) (fun _ _ _ kd _ x => cond (Nat.beq kd kc) (zF (fun v => k L (zI v :: S) h) (zwd 40 x n)) false) = true
  rw [zat_eq hc]
  show cond (Nat.beq kc kc) (zF (fun v => k L (zI v :: S) h) (zwd 40 x n)) false = true
  rw [show Nat.beq kc kc = true from Nat.beq_refl kc, cond_true, zF_eq, hw]
  exact hk
theorem go_al1 {i len x j v : Nat} (hc : zget d h.1 i = (0, len, x)) (hj : j < len) (hw : zwd 40 x j = v) (hk : k L (zI v :: S) h = true) : xald1 0 k L (zI j :: zR (i + 1) :: S) h = true := by
  show zat h (i + 1) (fun _ _ _ kd len x => cond (Nat.beq kd 0) (cond (Nat.ble len j) false (zF (fun v => k L (zI v :: S) h) (zwd 40 x j))) false) = true
  rw [zat_eq hc]
  show cond (Nat.ble len j) false (zF (fun v => k L (zI v :: S) h) (zwd 40 x j)) = true
  rw [zble_n hj, cond_false, zF_eq, hw]
  exact hk
theorem go_as1 {i len x j v : Nat} (hc : zget d h.1 i = (0, len, x)) (hj : j < len) (hv : v < 4294967296) (hk : k L S (zset d h.1 i (0, len, zup 40 x j v), h.2) = true) : xast1 0 (fun v => v) k L (zI v :: zI j :: zR (i + 1) :: S) h = true := by
  show zat h (i + 1) (fun t u q kd len x => cond (Nat.beq kd 0) (cond (Nat.ble len j) false (zF (fun y => zsetK d t q (kd, len, y) (fun t => k L S (t, u))) (zup 40 x j (zcap v)))) false) = true
  rw [zat_eq hc]
  show cond (Nat.ble len j) false (zF (fun y => zsetK d h.1 i (0, len, y) (fun t => k L S (t, h.2))) (zup 40 x j (zcap v))) = true
  rw [zble_n hj, cond_false, zF_eq, zsetK_eq, zcap_e hv]
  exact hk
theorem go_pfI {kc n i len x v : Nat} (hc : zget d h.1 i = (kc, len, x)) (hv : v < 4294967296) (hk : k L S (zset d h.1 i (kc, len, zup 40 x n v), h.2) = true) : xpfI kc n k L (zI v :: zR (i + 1) :: S) h = true := by
  show zat h (i + 1) (fun t u q kd len x => cond (Nat.beq kd kc) (zF (fun y => zsetK d t q (kd, len, y) (fun t => k L S (t, u))) (zup 40 x n (zcap v))) false) = true
  rw [zat_eq hc]
  show cond (Nat.beq kc kc) (zF (fun y => zsetK d h.1 i (kc, len, y) (fun t => k L S (t, h.2))) (zup 40 x n (zcap v))) false = true
  rw [show Nat.beq kc kc = true from Nat.beq_refl kc, cond_true, zF_eq, zsetK_eq, zcap_e hv]
  exact hk
theorem go_bin {z : Nat → Nat → Nat} {a b v : Nat} (hz : z a b = v) (hk : k L (zI v :: S) h = true) : xbin z k L (zI b :: zI a :: S) h = true := by
  show zF (fun v => k L (zI v :: S) h) (z a b) = true
  rw [zF_eq, hz]
  exact hk
theorem go_ift {t : Nat → Bool} {a : Nat} {kt kf : zK d} (ha : a < 4294967296) (ht : t a = true) (hk : kt L S h = true) : xif0 t kt kf L (zI a :: S) h = true := by
  show cond (Nat.ble 4294967296 a) (and (kt L S h) (kf L S h)) (cond (t a) (kt L S h) (kf L S h)) = true
  rw [zble_n ha, cond_false, ht]
  exact hk
theorem go_iff {t : Nat → Bool} {a : Nat} {kt kf : zK d} (ha : a < 4294967296) (ht : t a = false) (hk : kf L S h = true) : xif0 t kt kf L (zI a :: S) h = true := by
  show cond (Nat.ble 4294967296 a) (and (kt L S h) (kf L S h)) (cond (t a) (kt L S h) (kf L S h)) = true
  rw [zble_n ha, cond_false, ht]
  exact hk
theorem go_inc {n a v w : Nat} {L' : List zV} (hL : L[n]? = some (zI a)) (hz : zadd a v = w) (hL' : ∀ K : List zV → Bool, zst n (zI w) L K = K L') (hk : k L' S h = true) : xinc n v k L S h = true := by
  show znth n L _ = true
  rw [znth_e n hL]
  show zF (fun w => zst n (zI w) L (fun L => k L S h)) (zadd a v) = true
  rw [zF_eq, hz, hL']
  exact hk
theorem go_iret {P : zP d} {a : Nat} (ha : a < 1099511627776) (hk : P (zI a) h = true) : xiret P L [zI a] h = true := by
  show cond (Nat.ble 1099511627776 a) false (P (zI a) h) = true
  rw [zble_n ha]
  exact hk
end STEP
/-! marked cells, there and back -/
theorem zCell_mkd [zCh] {cA : Nat → ClassId} {ad : zA} {kd len x : Nat} {e : va_E} (q1 : 8 ≤ kd) (q2 : kd < 12) (hc : zCell cA ad (kd, len, x) e) : len < 2147483648 ∧ e = .inl (cA 0, len, .inl (zcF kd)) ∧ zKi zcF zcT kd len x := by
  rcases hc with ⟨g, -⟩ | ⟨g, -⟩ | ⟨-, -, g3, ⟨-, f, g5, g6, g7⟩ | ⟨g4, -⟩⟩ | ⟨-, g, -⟩ | ⟨g, -⟩
  · exact absurd (show kd < 2 from g) (by omega)
  · exact absurd (show kd = 2 from g) (by omega)
  · have g6 : f = zcF kd := g6
    subst g6
    exact ⟨g3, g5, g7⟩
  · exact absurd (show kd = 12 from g4) (by omega)
  · exact absurd (show kd < 8 from g) (by omega)
  · exact absurd (show 16 ≤ kd from g) (by omega)
theorem zCell_km [zCh] {cA : Nat → ClassId} {ad : zA} {kd len x : Nat} {f : Nat → Int32} (q1 : 8 ≤ kd) (q2 : kd < 12) (hl : len < 2147483648) (hf : f = zcF kd) (hk : zKi zcF zcT kd len x) : zCell cA ad (kd, len, x) (.inl (cA 0, len, .inl f)) :=
  Or.inr (Or.inr (Or.inl ⟨q1, show kd < 16 by omega, hl, Or.inl ⟨q2, f, rfl, hf, hk⟩⟩))
theorem zPm_c {n : Nat} {f g : Nat → Nat} (h : ∀ c, c < n → f c = g c) (hp : zPm n f) : zPm n g := fun G => by
  have e : zsum n (fun i => G (f i)) = zsum n (fun i => G (g i)) := zsum_c (fun i hi => by rw [h i hi])
  rw [← e]
  exact hp G
noncomputable def zands (l : List Bool) : Bool := List.rec (motive := fun _ => Bool) true (fun b _ r => cond b r false) l
theorem zands_c {b : Bool} {l : List Bool} (h : zands (b :: l) = true) : b = true ∧ zands l = true := zcnd_t (show cond b (zands l) false = true from h)
end
section
/-! swaps, where held and inRow are marked -/
section SWAPS
variable {d : Nat}
noncomputable def gM_X9_swaps : List zV → zH d → zP d → Bool := fun as h P => zpR as (fun r as => zpI as (fun a as => zpI as (fun b as => List.rec (motive := fun _ => Bool) (zat h r (fun _ _ i0 kd _ x => cond (Nat.beq kd 25) (zat h (zwd 40 x 31) (fun _ _ bh k8 l8 lam => zat h (zwd 40 x 32) (fun _ _ bi k9 l9 x9 => cond (zands [Nat.ble (Nat.succ i0) h.2.1, Nat.beq k8 8, Nat.beq k9 9, Nat.ble (Nat.succ bh) h.2.1, Nat.ble (Nat.succ bi) h.2.1, Nat.ble bh 1000000, Nat.ble bi 1000000, Nat.ble (Nat.succ a) (zpn lam), Nat.ble (Nat.succ b) (zpn lam), Nat.ble (zpn lam) l8, Nat.ble (Nat.succ lam) 1048576, Nat.beq (Nat.mod x9 1048576) lam, Nat.ble (Nat.succ (zpn lam)) l9, Nat.ble (Nat.div x9 1048576) (zps lam a), Nat.ble (Nat.div x9 1048576) (zps lam b), zall h.2.1 (fun q => cond (Nat.beq q bh) true (cond (Nat.beq q bi) true (znk 8 9 (zget d h.1 q))))]) (P zU h) false))) false)) (fun _ _ _ => false) as)))
set_option maxRecDepth 100000 in
set_option maxHeartbeats 4000000 in
theorem mM_X9_swaps : zMet (d := d) X_X9_swaps yX9_swaps 1 gM_X9_swaps := zMet_ex m_X9_swaps (fun C cA ws as h P hg hH => by
  classical
  obtain ⟨r, as1, rfl, hg1⟩ := zpR_t hg
  clear hg
  obtain ⟨a, as2, rfl, hg2⟩ := zpI_t hg1
  clear hg1
  obtain ⟨b, as3, rfl, hg3⟩ := zpI_t hg2
  clear hg2
  match as3, hg3 with
  | _ :: _, hg3 => cases hg3
  | [], hg3 =>
    obtain ⟨i, kd, len, x, rfl, gi, hg4⟩ := zat_t hg3
    clear hg3
    obtain ⟨c1, hg5⟩ := zcnd_t hg4
    obtain ⟨bh, k8, l8, lam, x31, g8, hg6⟩ := zat_t hg5
    obtain ⟨bi, k9, l9, x9, x32, g9, hg7⟩ := zat_t hg6
    obtain ⟨hA, hg⟩ := zcnd_t hg7
    clear hg4 hg5 hg6 hg7
    obtain ⟨c0, hA⟩ := zands_c hA
    obtain ⟨c2, hA⟩ := zands_c hA
    obtain ⟨c3, hA⟩ := zands_c hA
    obtain ⟨c4, hA⟩ := zands_c hA
    obtain ⟨c5, hA⟩ := zands_c hA
    obtain ⟨c6, hA⟩ := zands_c hA
    obtain ⟨c7, hA⟩ := zands_c hA
    obtain ⟨c8, hA⟩ := zands_c hA
    obtain ⟨c9, hA⟩ := zands_c hA
    obtain ⟨c10, hA⟩ := zands_c hA
    obtain ⟨c11, hA⟩ := zands_c hA
    obtain ⟨c12, hA⟩ := zands_c hA
    obtain ⟨c13, hA⟩ := zands_c hA
    obtain ⟨c14, hA⟩ := zands_c hA
    obtain ⟨c15, hA⟩ := zands_c hA
    obtain ⟨c16, hA⟩ := zands_c hA
    have e0 : i < h.2.1 := Nat.le_of_ble_eq_true c0
    have e1 := Nat.eq_of_beq_eq_true c1
    have e2 := Nat.eq_of_beq_eq_true c2
    have e3 := Nat.eq_of_beq_eq_true c3
    subst e1
    subst e2
    subst e3
    have e4 : bh < h.2.1 := Nat.le_of_ble_eq_true c4
    have e5 : bi < h.2.1 := Nat.le_of_ble_eq_true c5
    have e6 := Nat.le_of_ble_eq_true c6
    have e7 := Nat.le_of_ble_eq_true c7
    have e8 : a < zpn lam := Nat.le_of_ble_eq_true c8
    have e9 : b < zpn lam := Nat.le_of_ble_eq_true c9
    have e10 := Nat.le_of_ble_eq_true c10
    have e11 : lam < 1048576 := Nat.le_of_ble_eq_true c11
    have e12 : x9 % 1048576 = lam := Nat.eq_of_beq_eq_true c12
    have e13 : zpn lam < l9 := Nat.le_of_ble_eq_true c13
    have e14 : x9 / 1048576 ≤ zps lam a := Nat.le_of_ble_eq_true c14
    have e15 : x9 / 1048576 ≤ zps lam b := Nat.le_of_ble_eq_true c15
    have n89 : bh ≠ bi := fun q => by
      rw [q, g9] at g8
      exact absurd (show (9 : Nat) = 8 from congrArg (fun c : zC => c.1) g8) (by decide)
    have ni8 : bh ≠ i := fun q => by
      rw [q, gi] at g8
      exact absurd (show (25 : Nat) = 8 from congrArg (fun c : zC => c.1) g8) (by decide)
    have ni9 : bi ≠ i := fun q => by
      rw [q, gi] at g9
      exact absurd (show (25 : Nat) = 9 from congrArg (fun c : zC => c.1) g9) (by decide)
    obtain ⟨w1, w2, w3⟩ := hH
    have q8 := w3 bh _ (List.getElem?_eq_getElem (by omega))
    rw [g8] at q8
    obtain ⟨L8, E8, M8⟩ := @zCell_mkd C cA _ 8 l8 lam _ (by decide) (by decide) q8
    have q9 := w3 bi _ (List.getElem?_eq_getElem (by omega))
    rw [g9] at q9
    obtain ⟨L9, E9, M9⟩ := @zCell_mkd C cA _ 9 l9 x9 _ (by decide) (by decide) q9
    have hpm : zPm (zpn lam) (fun i => zi (@zcF C 8 i)) := by
      have := M8.1 rfl
      rw [Nat.mod_eq_of_lt e11] at this
      exact this
    have h9 := M9.2.1 rfl
    rw [e12] at h9
    generalize hw8 : zpk (@zcF C 8) l8 = W8
    generalize hw9 : zpk (@zcF C 9) l9 = W9
    have A8 : ∀ j, j < l8 → zwd 40 W8 j = zi (@zcF C 8 j) := fun j hj => by rw [← hw8]; exact zpk_wd _ _ _ hj
    have A9 : ∀ j, j < l9 → zwd 40 W9 j = zi (@zcF C 9 j) := fun j hj => by rw [← hw9]; exact zpk_wd _ _ _ hj
    have hH1 : @zHp C d cA (zset d h.1 bh (0, l8, W8), h.2) ws := zHp_cell ⟨w1, w2, w3⟩ (List.getElem?_eq_getElem (show bh < ws.length by omega)) (by rw [E8]; exact @zCell_ik C cA _ 0 l8 W8 _ (by decide) L8 (by rw [← hw8]; exact zpk_AI _ _))
    have hH2 : @zHp C d cA (zset d (zset d h.1 bh (0, l8, W8)) bi (0, l9, W9), h.2) ws := zHp_cell (h := (zset d h.1 bh (0, l8, W8), h.2)) hH1 (List.getElem?_eq_getElem (show bi < ws.length by omega)) (by rw [E9]; exact @zCell_ik C cA _ 0 l9 W9 _ (by decide) L9 (by rw [← hw9]; exact zpk_AI _ _))
    have hT : ∃ T1 : zT d, T1 = zset d (zset d h.1 bh (0, l8, W8)) bi (0, l9, W9) := ⟨_, rfl⟩
    obtain ⟨T1, hT1⟩ := hT
    rw [← hT1] at hH2
    have k8 : zget d T1 bh = (0, l8, W8) := by rw [hT1, zget_set_ne d _ _ _ _ (by omega) (by omega) n89.symm, zget_set_same d _ _ _ (by omega)]
    have k9 : zget d T1 bi = (0, l9, W9) := by rw [hT1, zget_set_same d _ _ _ (by omega)]
    have ko : ∀ p, p < h.2.1 → p ≠ bh → p ≠ bi → zget d T1 p = zget d h.1 p := fun p hp n1 n2 => by rw [hT1, zget_set_ne d _ _ _ _ (by omega) (by omega) n2.symm, zget_set_ne d _ _ _ _ (by omega) (by omega) n1.symm]
    have ki : zget d T1 i = (25, len, x) := by rw [ko i e0 ni8.symm ni9.symm, gi]
    generalize hva : zi (@zcF C 8 a) = va
    generalize hvb : zi (@zcF C 8 b) = vb
    have lva : va < 4294967296 := by rw [← hva]; exact zi_lt _
    have lvb : vb < 4294967296 := by rw [← hvb]; exact zi_lt _
    obtain ⟨hX, hXe⟩ : ∃ hX : zH d, hX = (zset d (zset d T1 bh (0, l8, zup 40 W8 a vb)) bh (0, l8, zup 40 (zup 40 W8 a vb) b va), h.2) := ⟨_, rfl⟩
    refine ⟨C, (T1, h.2), fun r h2 => decide (r = zU ∧ h2 = hX), rfl, hH2, ?_, ?_⟩
    · show b_X9_swaps (fun r h2 => decide (r = zU ∧ h2 = hX)) [zR (i + 1), zI a, zI b, zU] [] (T1, h.2) = true
      unfold b_X9_swaps
      refine go_ald rfl ?_
      refine go_gfR ki x31 (by omega) ?_
      refine go_ild rfl ?_
      refine go_al1 k8 (by omega) ((A8 a (by omega)).trans hva) ?_
      refine go_ist (L' := [zR (i + 1), zI a, zI b, zI va]) (fun _ => rfl) ?_
      refine go_ald rfl ?_
      refine go_gfR ki x31 (by omega) ?_
      refine go_ild rfl ?_
      refine go_ald rfl ?_
      refine go_gfR ki x31 (by omega) ?_
      refine go_ild rfl ?_
      refine go_al1 k8 (by omega) ((A8 b (by omega)).trans hvb) ?_
      refine go_as1 k8 (by omega) lvb ?_
      refine go_ald rfl ?_
      refine go_gfR (show zget d (zset d T1 bh (0, l8, zup 40 W8 a vb)) i = (25, len, x) by rw [zget_set_ne d _ _ _ _ (by omega) (by omega) ni8]; exact ki) x31 (by omega) ?_
      refine go_ild rfl ?_
      refine go_ild rfl ?_
      refine go_as1 (show zget d (zset d T1 bh (0, l8, zup 40 W8 a vb)) bh = (0, l8, zup 40 W8 a vb) from zget_set_same d _ _ _ (by omega)) (by omega) lva ?_
      exact decide_eq_true ⟨rfl, hXe.symm⟩
    · intro C2 ws2 r h2 hp hH3
      obtain ⟨hr, hh⟩ := of_decide_eq_true hp
      subst hh
      subst hr
      have kX8 : zget d h2.1 bh = (0, l8, zup 40 (zup 40 W8 a vb) b va) := by rw [hXe]; exact zget_set_same d _ _ _ (by omega)
      have kX9 : zget d h2.1 bi = (0, l9, W9) := by rw [hXe]; show zget d (zset d (zset d T1 bh _) bh _) bi = _; rw [zget_set_ne d _ _ _ _ (by omega) (by omega) n89, zget_set_ne d _ _ _ _ (by omega) (by omega) n89]; exact k9
      have kXo : ∀ p, p < h.2.1 → p ≠ bh → p ≠ bi → zget d h2.1 p = zget d h.1 p := fun p hp n1 n2 => by rw [hXe]; show zget d (zset d (zset d T1 bh _) bh _) p = _; rw [zget_set_ne d _ _ _ _ (by omega) (by omega) n1.symm, zget_set_ne d _ _ _ _ (by omega) (by omega) n1.symm]; exact ko p hp n1 n2
      have hn2 : h2.2 = h.2 := by rw [hXe]
      have yw : ∀ j, j < l8 → zwd 40 (zup 40 (zup 40 W8 a vb) b va) j = if j = b then va else if j = a then vb else zi (@zcF C 8 j) := fun j hj => by
        have l40a : va < 2 ^ 40 := Nat.lt_of_lt_of_le lva (by decide)
        have l40b : vb < 2 ^ 40 := Nat.lt_of_lt_of_le lvb (by decide)
        by_cases q1 : j = b
        · rw [if_pos q1, q1, zwd_up_same _ _ _ _ l40a]
        · rw [if_neg q1, zwd_up_ne _ _ _ _ _ l40a (fun z => q1 z.symm)]
          by_cases q2 : j = a
          · rw [if_pos q2, q2, zwd_up_same _ _ _ _ l40b]
          · rw [if_neg q2, zwd_up_ne _ _ _ _ _ l40b (fun z => q2 z.symm)]
            exact A8 j hj
      obtain ⟨u1, u2, u3⟩ := hH3
      have hlen : ws2.length = h.2.1 := by rw [u1, hn2]
      have p8 := u3 bh _ (List.getElem?_eq_getElem (by omega))
      rw [kX8] at p8
      obtain ⟨-, f8, F8, R8⟩ := @zCell_i C2 cA _ 0 l8 _ _ p8 (by decide)
      have p9 := u3 bi _ (List.getElem?_eq_getElem (by omega))
      rw [kX9] at p9
      obtain ⟨-, f9, F9, R9⟩ := @zCell_i C2 cA _ 0 l9 _ _ p9 (by decide)
      have V8 : ∀ j, j < l8 → zi (f8 j) = if j = b then va else if j = a then vb else zi (@zcF C 8 j) := fun j hj => by
        rw [← yw j hj]
        refine zAI_e R8 hj ?_
        rw [yw j hj]
        split
        · exact lva
        · split
          · exact lvb
          · exact zi_lt _
      have V9 : ∀ j, j < l9 → zi (f9 j) = zi (@zcF C 9 j) := fun j hj => by
        rw [← A9 j hj]
        refine zAI_e R9 hj ?_
        rw [A9 j hj]
        exact zi_lt _
      obtain ⟨C3, hC3⟩ : ∃ C3 : zCh, C3 = ⟨((fun q => if q = 8 then f8 else if q = 9 then f9 else @zcF C2 q, @zcT C2) : (Nat → Nat → Int32) × Nat)⟩ := ⟨_, rfl⟩
      have d8 : @zcF C3 8 = f8 := by rw [hC3]; rfl
      have d9 : @zcF C3 9 = f9 := by rw [hC3]; rfl
      have d10 : @zcF C3 10 = @zcF C2 10 := by rw [hC3]; rfl
      have d11 : @zcF C3 11 = @zcF C2 11 := by rw [hC3]; rfl
      have dT : @zcT C3 = @zcT C2 := by rw [hC3]; rfl
      clear hC3
      refine ⟨C3, zU, h, hg, ⟨hlen, w2, fun p y hp' => ?_⟩, fun _ => rfl, fun x hx G' => absurd (hx G') (fun q => @zRep_U G' _ _ q)⟩
      have hpl : p < ws2.length := (List.getElem?_eq_some_iff.mp hp').1
      by_cases ep8 : p = bh
      · subst ep8
        rw [List.getElem?_eq_getElem hpl] at hp'
        cases hp'
        rw [g8, F8]
        refine @zCell_km C3 cA _ 8 l8 lam f8 (by decide) (by decide) L8 d8.symm ⟨fun _ => ?_, fun q => absurd q (by decide), fun q => absurd q (by decide), fun q => absurd q (by decide)⟩
        rw [Nat.mod_eq_of_lt e11]
        refine zPm_c (fun c hc => ?_) (zPm_swap hpm e8 e9)
        show _ = zi (@zcF C3 8 c)
        rw [d8, V8 c (by omega), hva, hvb]
      · by_cases ep9 : p = bi
        · subst ep9
          rw [List.getElem?_eq_getElem hpl] at hp'
          cases hp'
          rw [g9, F9]
          refine @zCell_km C3 cA _ 9 l9 x9 f9 (by decide) (by decide) L9 d9.symm ⟨fun q => absurd q (by decide), fun _ => ?_, fun q => absurd q (by decide), fun q => absurd q (by decide)⟩
          rw [e12]
          intro c hc hq
          show zi (@zcF C3 9 (zi (@zcF C3 8 c))) = zrw lam c
          rw [d8, d9]
          have nb : c ≠ b := fun z => by rw [z] at hq; omega
          have na : c ≠ a := fun z => by rw [z] at hq; omega
          have hv := V8 c (by omega)
          rw [if_neg nb, if_neg na] at hv
          have hrg := (zPm_rg hpm hc).2
          have hrg : zi (@zcF C 8 c) ≤ zpn lam := hrg
          rw [hv, V9 _ (by omega)]
          exact h9 c hc hq
        · have hz := zall_t c16 p (by omega)
          have hz : cond (Nat.beq p bh) true (cond (Nat.beq p bi) true (znk 8 9 (zget d h.1 p))) = true := hz
          have f1 : Nat.beq p bh = false := by
            cases z : Nat.beq p bh
            · rfl
            · exact absurd (Nat.eq_of_beq_eq_true z) ep8
          have f2 : Nat.beq p bi = false := by
            cases z : Nat.beq p bi
            · rfl
            · exact absurd (Nat.eq_of_beq_eq_true z) ep9
          rw [f1, f2] at hz
          have hz : znk 8 9 (zget d h.1 p) = true := hz
          have hn := znk_t hz
          have hc := u3 p y hp'
          rw [kXo p (by omega) ep8 ep9] at hc
          generalize zget d h.1 p = cc at hn hc ⊢
          exact zCell_gh (C := C2) dT (fun z => absurd z (by omega)) (fun z => absurd z (by omega)) (fun _ => d10) (fun _ => ⟨d11, d10⟩) hc)
end SWAPS
end
section
/-! placeNow, where all of it is marked -/
section MARK5
variable {d : Nat}
theorem zmark5 {C2 : zCh} {cA : Nat → ClassId} {hX h : zH d} {ws2 : va_W} {i bh bi bp bs len x y t l8 w8 l9 w9 lp wp xp ls wsn lam x9 : Nat}
  (hH : @zHp C2 d cA hX ws2) (h2 : hX.2 = h.2) (hd : h.2.1 ≤ 2 ^ d) (ii : i < h.2.1) (i8 : bh < h.2.1) (i9 : bi < h.2.1) (ip : bp < h.2.1) (is : bs < h.2.1)
  (gi : zget d h.1 i = (25, len, x)) (g8 : zget d h.1 bh = (8, l8, lam)) (g9 : zget d h.1 bi = (9, l9, x9)) (gp : zget d h.1 bp = (10, lp, xp)) (gs : zget d h.1 bs = (11, ls, lam))
  (ki : zget d hX.1 i = (25, len, y)) (hy : ∀ j, j ≠ 28 → zwd 40 y j = zwd 40 x j) (hy28 : zwd 40 y 28 = t) (k8 : zget d hX.1 bh = (0, l8, w8)) (k9 : zget d hX.1 bi = (0, l9, w9)) (kp : zget d hX.1 bp = (0, lp, wp)) (ks : zget d hX.1 bs = (0, ls, wsn))
  (ko : ∀ p, p < h.2.1 → p ≠ i → p ≠ bh → p ≠ bi → p ≠ bp → p ≠ bs → zget d hX.1 p = zget d h.1 p ∧ znm (zget d h.1 p) = true)
  (hx : ∀ j, j < 63 → j ≠ 28 → zwd 40 x j ≠ 549755813888) (hx28 : zwd 40 x 28 = 549755813888) (ht : t ≤ 720)
  (e8 : ∀ j, j < l8 → zwd 40 w8 j < 4294967296) (e9 : ∀ j, j < l9 → zwd 40 w9 j < 4294967296) (es : ∀ j, j < ls → zwd 40 wsn j < 46656)
  (m8 : zPm (zpn (lam % 1048576)) (fun c => zwd 40 w8 c)) (n8 : zpn (lam % 1048576) ≤ l8)
  (m9 : ∀ c, c < zpn (x9 % 1048576) → zps (x9 % 1048576) c < x9 / 1048576 → c < l8 ∧ zwd 40 w8 c < l9 ∧ zwd 40 w9 (zwd 40 w8 c) = zrw (x9 % 1048576) c)
  (mp : ∀ j, j < lp → zwd 40 wp j ≤ 720)
  (ms : ∀ j, j < t → j < ls ∧ zwd 40 wsn j < lp ∧ zwd 40 wsn j ∈ zcs (lam % 1048576) ∧ zwd 40 wp (zwd 40 wsn j) = j + 1) :
  ∃ C3 : zCh, @zHp C3 d cA h ws2 := by
  obtain ⟨u1, u2, u3⟩ := hH
  have hlen : ws2.length = h.2.1 := by rw [u1, h2]
  have p8 := u3 bh _ (List.getElem?_eq_getElem (by omega))
  rw [k8] at p8
  obtain ⟨L8, f8, F8, R8⟩ := @zCell_i C2 cA _ 0 l8 _ _ p8 (by decide)
  have p9 := u3 bi _ (List.getElem?_eq_getElem (by omega))
  rw [k9] at p9
  obtain ⟨L9, f9, F9, R9⟩ := @zCell_i C2 cA _ 0 l9 _ _ p9 (by decide)
  have pp := u3 bp _ (List.getElem?_eq_getElem (by omega))
  rw [kp] at pp
  obtain ⟨Lp, fp, Fp, Rp⟩ := @zCell_i C2 cA _ 0 lp _ _ pp (by decide)
  have ps := u3 bs _ (List.getElem?_eq_getElem (by omega))
  rw [ks] at ps
  obtain ⟨Ls, fs, Fs, Rs⟩ := @zCell_i C2 cA _ 0 ls _ _ ps (by decide)
  have pi := u3 i _ (List.getElem?_eq_getElem (by omega))
  rw [ki] at pi
  obtain ⟨fv, Fi, Li, Ri⟩ := @zCell_obj C2 cA _ 25 len _ 9 _ pi rfl
  have V8 : ∀ j, j < l8 → zi (f8 j) = zwd 40 w8 j := fun j hj => zAI_e R8 hj (e8 j hj)
  have V9 : ∀ j, j < l9 → zi (f9 j) = zwd 40 w9 j := fun j hj => zAI_e R9 hj (e9 j hj)
  have Vp : ∀ j, j < lp → zi (fp j) = zwd 40 wp j := fun j hj => zAI_e Rp hj (by have := mp j hj; omega)
  have Vs : ∀ j, j < ls → zi (fs j) = zwd 40 wsn j := fun j hj => zAI_e Rs hj (by have := es j hj; omega)
  obtain ⟨C3, hC3⟩ : ∃ C3 : zCh, C3 = ⟨((fun q => if q = 8 then f8 else if q = 9 then f9 else if q = 10 then fp else fs, t) : (Nat → Nat → Int32) × Nat)⟩ := ⟨_, rfl⟩
  have d8 : @zcF C3 8 = f8 := by rw [hC3]; rfl
  have d9 : @zcF C3 9 = f9 := by rw [hC3]; rfl
  have d10 : @zcF C3 10 = fp := by rw [hC3]; rfl
  have d11 : @zcF C3 11 = fs := by rw [hC3]; rfl
  have dT : @zcT C3 = t := by rw [hC3]; rfl
  clear hC3
  refine ⟨C3, hlen, hd, fun p yy hp' => ?_⟩
  have hpl : p < ws2.length := (List.getElem?_eq_some_iff.mp hp').1
  by_cases ep8 : p = bh
  · subst ep8
    rw [List.getElem?_eq_getElem hpl] at hp'
    cases hp'
    rw [g8, F8]
    refine @zCell_km C3 cA _ 8 l8 lam f8 (by decide) (by decide) L8 d8.symm ⟨fun _ => ?_, fun q => absurd q (by decide), fun q => absurd q (by decide), fun q => absurd q (by decide)⟩
    refine zPm_c (fun c hc => ?_) m8
    show _ = zi (@zcF C3 8 c)
    rw [d8, V8 c (by omega)]
  by_cases ep9 : p = bi
  · subst ep9
    rw [List.getElem?_eq_getElem hpl] at hp'
    cases hp'
    rw [g9, F9]
    refine @zCell_km C3 cA _ 9 l9 x9 f9 (by decide) (by decide) L9 d9.symm ⟨fun q => absurd q (by decide), fun _ => ?_, fun q => absurd q (by decide), fun q => absurd q (by decide)⟩
    intro c hc hq
    show zi (@zcF C3 9 (zi (@zcF C3 8 c))) = _
    rw [d8, d9]
    obtain ⟨z1, z2, z3⟩ := m9 c hc hq
    rw [V8 c z1, V9 _ z2, z3]
  by_cases epp : p = bp
  · subst epp
    rw [List.getElem?_eq_getElem hpl] at hp'
    cases hp'
    rw [gp, Fp]
    refine @zCell_km C3 cA _ 10 lp xp fp (by decide) (by decide) Lp d10.symm ⟨fun q => absurd q (by decide), fun q => absurd q (by decide), fun _ j hj => ?_, fun q => absurd q (by decide)⟩
    show zi (@zcF C3 10 j) ≤ 720
    rw [d10]
    rw [Vp j hj]
    exact mp j hj
  by_cases eps : p = bs
  · subst eps
    rw [List.getElem?_eq_getElem hpl] at hp'
    cases hp'
    rw [gs, Fs]
    refine @zCell_km C3 cA _ 11 ls lam fs (by decide) (by decide) Ls d11.symm ⟨fun q => absurd q (by decide), fun q => absurd q (by decide), fun q => absurd q (by decide), fun _ => ⟨fun j hj => ?_, fun j hj => ?_⟩⟩
    · show zi (@zcF C3 11 j) < 46656
      rw [d11]
      rw [Vs j hj]
      exact es j hj
    · rw [dT] at hj
      obtain ⟨z1, z2, z3, z4⟩ := ms j hj
      show zi (@zcF C3 11 j) ∈ _ ∧ zi (@zcF C3 10 (zi (@zcF C3 11 j))) = j + 1
      rw [d10, d11]
      rw [Vs j z1, Vp _ z2]
      exact ⟨z3, z4⟩
  by_cases epi : p = i
  · subst epi
    rw [List.getElem?_eq_getElem hpl] at hp'
    cases hp'
    rw [gi, Fi]
    refine @zCell_ok C3 cA _ 9 len x fv Li (fun k v hv => ?_)
    have hk : k < 63 := by have := (List.getElem?_eq_some_iff.mp hv).1; rw [Li] at this; exact this
    have hf := Ri k v hv
    by_cases ek : k = 28
    · subst ek
      rw [hy28] at hf
      rw [hx28]
      unfold zFl at hf ⊢
      rw [show zisR (zfty 9 28) = false from rfl, cond_false] at hf ⊢
      obtain ⟨iv, v1, v2, -⟩ := hf
      exact ⟨iv, v1, ⟨⟨fun z => absurd z (by decide), fun _ z => absurd z (by decide)⟩, fun _ => show zi iv = @zcT C3 ∧ @zcT C3 ≤ 720 from dT ▸ ⟨v2.1.1 (by omega), ht⟩⟩, fun z => absurd z (Nat.lt_irrefl _), fun _ z => absurd z (Nat.lt_irrefl _)⟩
    · rw [hy k ek] at hf
      exact zFl_gh2 (hx k hk ek) hf
  obtain ⟨o1, o2⟩ := ko p (by omega) epi ep8 ep9 epp eps
  obtain ⟨z1, z2⟩ := znm_t o2
  have hc := u3 p yy hp'
  rw [o1] at hc
  exact zCell_nm z1 z2 hc
end MARK5
end
section
/-! placeNow's contract -/
theorem go_pI {d : Nat} {L S : List zV} {h : zH d} {k : zK d} {v : Nat} (hk : k L (zI v :: S) h = true) : xpI v k L S h = true := hk
theorem zps_lt : ∀ lam, lam ∈ zlams → ∀ c, c < zpn lam → zps lam c < zpn lam := by decide +kernel
section PLACENOW
variable {d : Nat}
noncomputable def pnEnd (P : zP d) : zK d := (xald 0 (xgfR 25 26 (xild 1 (xald1 0 (xjoin (bX9_placeNow_68 P) (fun j68 => (xif0 t0eq (xald 0 (xgfR 25 27 (xald 0 (xgfI 25 28 (xild 1 (xast1 0 (fun v => v) (xald 0 (xdup (xgfI 25 28 (xpI 1 (xbin zadd (xpfI 25 28 (xald 0 (xgfR 25 26 (xild 1 (xald 0 (xgfI 25 28 (cX9_placeNow_67 P j68)))))))))))))))))) j68)))))))
noncomputable def pnNew (P : zP d) : zK d := (xald 0 (xgfR 25 27 (xald 0 (xgfI 25 28 (xild 1 (xast1 0 (fun v => v) (xald 0 (xdup (xgfI 25 28 (xpI 1 (xbin zadd (xpfI 25 28 (xald 0 (xgfR 25 26 (xild 1 (xald 0 (xgfI 25 28 (cX9_placeNow_67 P (bX9_placeNow_68 P)))))))))))))))))))
noncomputable def pnBody (r7 : zK d) : zK d := (xpI 6 (xild 1 (xbin zmul (xald 0 (xgfR 25 32 (xild 2 (xald1 0 (xbin zadd (xist 1 (xinc 2 4294967295 r7))))))))))
theorem pn_b68 {P : zP d} {h : zH d} {i len x bp lp Wp code v : Nat} {w : zV} (ki : zget d h.1 i = (25, len, x)) (x26 : zwd 40 x 26 = bp + 1) (hb : bp ≤ 1000000) (kp : zget d h.1 bp = (0, lp, Wp)) (hc : code < lp) (hw : zwd 40 Wp code = v + 1) (hv : v < 720) (hP : P (zI v) h = true) : bX9_placeNow_68 P [zR (i + 1), zI code, w] [] h = true := by
  unfold bX9_placeNow_68
  refine go_ald rfl ?_
  refine go_gfR ki x26 (by omega) ?_
  refine go_ild rfl ?_
  refine go_al1 kp hc hw ?_
  refine go_pI ?_
  refine go_bin (v := v) ?_ ?_
  · show zk2 (v + 1) 1 (Nat.mod (Nat.add (v + 1) (Nat.sub 4294967296 1)) 4294967296) = v
    rw [zk2_e (by omega) (by decide)]
    show (v + 1 + (4294967296 - 1)) % 4294967296 = v
    omega
  · exact go_iret (by omega) hP
theorem pn_loop {P : zP d} {h : zH d} {i len x bi l9 W9 : Nat} {f : Nat → Nat} (ki : zget d h.1 i = (25, len, x)) (x32 : zwd 40 x 32 = bi + 1) (hb : bi ≤ 1000000) (k9 : zget d h.1 bi = (0, l9, W9)) : ∀ (v fuel code : Nat), v < fuel → v ≤ 6 → v < l9 → (∀ u, 1 ≤ u → u ≤ v → zwd 40 W9 u = f u ∧ f u < 6) → (code + 1) * 6 ^ v ≤ 46656 → pnEnd P [zR (i + 1), zI (zcf v f code), zI 0] [] h = true → xloop (fun r7 => lX9_placeNow_7 P r7) fuel [zR (i + 1), zI code, zI v] [] h = true
  | 0, fuel, code, h1, _, _, _, _, hE => by
    obtain ⟨m, rfl⟩ : ∃ m, fuel = m + 1 := ⟨fuel - 1, by omega⟩
    show xild 2 (xif0 t0le (pnEnd P) (pnBody (xloop (fun r7 => lX9_placeNow_7 P r7) m))) [zR (i + 1), zI code, zI 0] [] h = true
    refine go_ild rfl ?_
    exact go_ift (by decide) rfl hE
  | v + 1, fuel, code, h1, h6, h9, hf, hc, hE => by
    obtain ⟨m, rfl⟩ : ∃ m, fuel = m + 1 := ⟨fuel - 1, by omega⟩
    obtain ⟨f1, f2⟩ := hf (v + 1) (by omega) (by omega)
    have hp : 0 < 6 ^ v := Nat.pow_pos (by decide)
    have hc2 : (code + 1) * 6 * 6 ^ v ≤ 46656 := by
      rw [Nat.mul_assoc, Nat.mul_comm 6]
      exact hc
    have hc3 : (code + 1) * 6 ≤ 46656 := Nat.le_trans (Nat.le_mul_of_pos_right _ hp) hc2
    show xild 2 (xif0 t0le (pnEnd P) (pnBody (xloop (fun r7 => lX9_placeNow_7 P r7) m))) [zR (i + 1), zI code, zI (v + 1)] [] h = true
    refine go_ild rfl ?_
    refine go_iff (by omega) (show cond (Nat.beq (v + 1) 0) true (Nat.ble 2147483648 (v + 1)) = false from zble_n (by omega)) ?_
    unfold pnBody
    refine go_pI ?_
    refine go_ild rfl ?_
    refine go_bin (v := 6 * code) ?_ ?_
    · show zk2 6 code (Nat.mod (Nat.mul 6 code) 4294967296) = 6 * code
      rw [zk2_e (by decide) (by omega)]
      show 6 * code % 4294967296 = 6 * code
      omega
    refine go_ald rfl ?_
    refine go_gfR ki x32 (by omega) ?_
    refine go_ild rfl ?_
    refine go_al1 k9 h9 f1 ?_
    refine go_bin (v := 6 * code + f (v + 1)) ?_ ?_
    · show zk2 (6 * code) (f (v + 1)) (Nat.mod (Nat.add (6 * code) (f (v + 1))) 4294967296) = 6 * code + f (v + 1)
      rw [zk2_e (by omega) (by omega)]
      show (6 * code + f (v + 1)) % 4294967296 = 6 * code + f (v + 1)
      omega
    refine go_ist (L' := [zR (i + 1), zI (6 * code + f (v + 1)), zI (v + 1)]) (fun _ => rfl) ?_
    refine go_inc (a := v + 1) (w := v) (L' := [zR (i + 1), zI (6 * code + f (v + 1)), zI v]) rfl ?_ (fun _ => rfl) ?_
    · show zk2 (v + 1) 4294967295 (Nat.mod (Nat.add (v + 1) 4294967295) 4294967296) = v
      rw [zk2_e (by omega) (by decide)]
      show (v + 1 + 4294967295) % 4294967296 = v
      omega
    · refine pn_loop ki x32 hb k9 v m (6 * code + f (v + 1)) (by omega) (by omega) (by omega) (fun u a b => hf u a (by omega)) ?_ hE
      exact Nat.le_trans (Nat.mul_le_mul_right _ (by omega)) hc2
noncomputable def gM_X9_placeNow : List zV → zH d → zP d → Bool := fun as h P => zpR as (fun r as => List.rec (motive := fun _ => Bool) (zat h r (fun _ _ i0 kd _ x => cond (Nat.beq kd 25) (zat h (zwd 40 x 31) (fun _ _ bh k8 l8 lam => zat h (zwd 40 x 32) (fun _ _ bi k9 l9 x9 => zat h (zwd 40 x 26) (fun _ _ bp kp lp _ => zat h (zwd 40 x 27) (fun _ _ bs ks ls lam2 => cond (zands [Nat.beq k8 8, Nat.beq k9 9, Nat.beq kp 10, Nat.beq ks 11, Nat.ble (Nat.succ i0) h.2.1, Nat.ble (Nat.succ bh) h.2.1, Nat.ble (Nat.succ bi) h.2.1, Nat.ble (Nat.succ bp) h.2.1, Nat.ble (Nat.succ bs) h.2.1, Nat.ble bh 1000000, Nat.ble bi 1000000, Nat.ble bp 1000000, Nat.ble bs 1000000, Nat.beq lam2 lam, Nat.ble (Nat.succ lam) 1048576, zmmb lam zlams, Nat.beq (zwd 40 x 0) (zpn lam), Nat.ble (zpn lam) l8, Nat.beq (Nat.mod x9 1048576) lam, Nat.ble (zpn lam) (Nat.div x9 1048576), Nat.ble (Nat.succ (zpn lam)) l9, Nat.ble 46656 lp, Nat.ble 720 ls, Nat.beq (zwd 40 x 28) 549755813888, zall 63 (fun j => cond (Nat.beq j 28) true (cond (Nat.beq (zwd 40 x j) 549755813888) false true)), zall h.2.1 (fun q => cond (Nat.beq q i0) true (cond (Nat.beq q bh) true (cond (Nat.beq q bi) true (cond (Nat.beq q bp) true (cond (Nat.beq q bs) true (znm (zget d h.1 q)))))))]) (P (zI 4294968016) h) false))))) false)) (fun _ _ _ => false) as)
theorem zbeq_n {a b : Nat} (h : a ≠ b) : Nat.beq a b = false := by
  cases z : Nat.beq a b
  · rfl
  · exact absurd (Nat.eq_of_beq_eq_true z) h
set_option maxRecDepth 100000 in
set_option maxHeartbeats 8000000 in
theorem mM_X9_placeNow : zMet (d := d) X_X9_placeNow yX9_placeNow 1 gM_X9_placeNow := zMet_ex m_X9_placeNow (fun C cA ws as h P hg hH => by
  classical
  obtain ⟨r, as1, rfl, hg1⟩ := zpR_t hg
  clear hg
  match as1, hg1 with
  | _ :: _, hg1 => cases hg1
  | [], hg1 =>
    obtain ⟨i, kd, len, x, rfl, gi, hg2⟩ := zat_t hg1
    clear hg1
    obtain ⟨c0, hg3⟩ := zcnd_t hg2
    obtain ⟨bh, k8, l8, lam, x31, g8, hg4⟩ := zat_t hg3
    obtain ⟨bi, k9, l9, x9, x32, g9, hg5⟩ := zat_t hg4
    obtain ⟨bp, kp, lp, xp, x26, gp, hg6⟩ := zat_t hg5
    obtain ⟨bs, ks, ls, lam2, x27, gs, hg7⟩ := zat_t hg6
    obtain ⟨hA, hg⟩ := zcnd_t hg7
    clear hg2 hg3 hg4 hg5 hg6 hg7
    obtain ⟨c1, hA⟩ := zands_c hA
    obtain ⟨c2, hA⟩ := zands_c hA
    obtain ⟨c3, hA⟩ := zands_c hA
    obtain ⟨c4, hA⟩ := zands_c hA
    obtain ⟨c5, hA⟩ := zands_c hA
    obtain ⟨c6, hA⟩ := zands_c hA
    obtain ⟨c7, hA⟩ := zands_c hA
    obtain ⟨c8, hA⟩ := zands_c hA
    obtain ⟨c9, hA⟩ := zands_c hA
    obtain ⟨c10, hA⟩ := zands_c hA
    obtain ⟨c11, hA⟩ := zands_c hA
    obtain ⟨c12, hA⟩ := zands_c hA
    obtain ⟨c13, hA⟩ := zands_c hA
    obtain ⟨c14, hA⟩ := zands_c hA
    obtain ⟨c15, hA⟩ := zands_c hA
    obtain ⟨c16, hA⟩ := zands_c hA
    obtain ⟨c17, hA⟩ := zands_c hA
    obtain ⟨c18, hA⟩ := zands_c hA
    obtain ⟨c19, hA⟩ := zands_c hA
    obtain ⟨c20, hA⟩ := zands_c hA
    obtain ⟨c21, hA⟩ := zands_c hA
    obtain ⟨c22, hA⟩ := zands_c hA
    obtain ⟨c23, hA⟩ := zands_c hA
    obtain ⟨c24, hA⟩ := zands_c hA
    obtain ⟨c25, hA⟩ := zands_c hA
    obtain ⟨c26, hA⟩ := zands_c hA
    have e0 := Nat.eq_of_beq_eq_true c0
    have e1 := Nat.eq_of_beq_eq_true c1
    have e2 := Nat.eq_of_beq_eq_true c2
    have e3 := Nat.eq_of_beq_eq_true c3
    have e4 := Nat.eq_of_beq_eq_true c4
    have e14 := Nat.eq_of_beq_eq_true c14
    subst e0
    subst e1
    subst e2
    subst e3
    subst e4
    subst e14
    have ii : i < h.2.1 := Nat.le_of_ble_eq_true c5
    have i8 : bh < h.2.1 := Nat.le_of_ble_eq_true c6
    have i9 : bi < h.2.1 := Nat.le_of_ble_eq_true c7
    have ip : bp < h.2.1 := Nat.le_of_ble_eq_true c8
    have is : bs < h.2.1 := Nat.le_of_ble_eq_true c9
    have b8 := Nat.le_of_ble_eq_true c10
    have b9 := Nat.le_of_ble_eq_true c11
    have bbp := Nat.le_of_ble_eq_true c12
    have bbs := Nat.le_of_ble_eq_true c13
    have hl20 : lam2 < 1048576 := Nat.le_of_ble_eq_true c15
    have hl : lam2 ∈ zlams := by
      obtain ⟨p, -, hp⟩ := zmmb_in c16
      exact List.mem_of_getElem? hp
    have x0 : zwd 40 x 0 = zpn lam2 := Nat.eq_of_beq_eq_true c17
    have n8 := Nat.le_of_ble_eq_true c18
    have x9m : x9 % 1048576 = lam2 := Nat.eq_of_beq_eq_true c19
    have x9d : zpn lam2 ≤ x9 / 1048576 := Nat.le_of_ble_eq_true c20
    have n9 : zpn lam2 < l9 := Nat.le_of_ble_eq_true c21
    have np := Nat.le_of_ble_eq_true c22
    have ns := Nat.le_of_ble_eq_true c23
    have hx28 : zwd 40 x 28 = 549755813888 := Nat.eq_of_beq_eq_true c24
    have hx : ∀ j, j < 63 → j ≠ 28 → zwd 40 x j ≠ 549755813888 := fun j hj n e => by
      have hz := zall_t c25 j hj
      have hz : cond (Nat.beq j 28) true (cond (Nat.beq (zwd 40 x j) 549755813888) false true) = true := hz
      rw [zbeq_n n, e] at hz
      cases hz
    have hoth : ∀ p, p < h.2.1 → p ≠ i → p ≠ bh → p ≠ bi → p ≠ bp → p ≠ bs → znm (zget d h.1 p) = true := fun p hp n1 n2 n3 n4 n5 => by
      have hz := zall_t c26 p hp
      have hz : cond (Nat.beq p i) true (cond (Nat.beq p bh) true (cond (Nat.beq p bi) true (cond (Nat.beq p bp) true (cond (Nat.beq p bs) true (znm (zget d h.1 p)))))) = true := hz
      rw [zbeq_n n1, zbeq_n n2, zbeq_n n3, zbeq_n n4, zbeq_n n5] at hz
      exact hz
    have hn6 := zpn_6 lam2 hl
    have kne : ∀ {p q : Nat} {a b c a' b' c' : Nat}, zget d h.1 p = (a, b, c) → zget d h.1 q = (a', b', c') → a ≠ a' → p ≠ q := fun h1 h2 hn e => by
      rw [e, h2] at h1
      exact hn (congrArg (fun c : zC => c.1) h1).symm
    have d1 : i ≠ bh := kne gi g8 (by decide)
    have d2 : i ≠ bi := kne gi g9 (by decide)
    have d3 : i ≠ bp := kne gi gp (by decide)
    have d4 : i ≠ bs := kne gi gs (by decide)
    have d5 : bh ≠ bi := kne g8 g9 (by decide)
    have d6 : bh ≠ bp := kne g8 gp (by decide)
    have d7 : bh ≠ bs := kne g8 gs (by decide)
    have d8 : bi ≠ bp := kne g9 gp (by decide)
    have d9 : bi ≠ bs := kne g9 gs (by decide)
    have d10 : bp ≠ bs := kne gp gs (by decide)
    have hwl : ws.length = h.2.1 := hH.1
    have hd : h.2.1 ≤ 2 ^ d := hH.2.1
    have q8 := hH.2.2 bh _ (List.getElem?_eq_getElem (by omega))
    rw [g8] at q8
    obtain ⟨L8, E8, M8⟩ := @zCell_mkd C cA _ 8 l8 lam2 _ (by decide) (by decide) q8
    have q9 := hH.2.2 bi _ (List.getElem?_eq_getElem (by omega))
    rw [g9] at q9
    obtain ⟨L9, E9, M9⟩ := @zCell_mkd C cA _ 9 l9 x9 _ (by decide) (by decide) q9
    have qp := hH.2.2 bp _ (List.getElem?_eq_getElem (by omega))
    rw [gp] at qp
    obtain ⟨Lp, Ep, Mp⟩ := @zCell_mkd C cA _ 10 lp xp _ (by decide) (by decide) qp
    have qs := hH.2.2 bs _ (List.getElem?_eq_getElem (by omega))
    rw [gs] at qs
    obtain ⟨Ls, Es, Ms⟩ := @zCell_mkd C cA _ 11 ls lam2 _ (by decide) (by decide) qs
    have qi := hH.2.2 i _ (List.getElem?_eq_getElem (by omega))
    rw [gi] at qi
    obtain ⟨fv, Ei, Li, Ri⟩ := @zCell_obj C cA _ 25 len x 9 _ qi rfl
    have hpm : zPm (zpn lam2) (fun i => zi (@zcF C 8 i)) := by
      have := M8.1 rfl
      rw [Nat.mod_eq_of_lt hl20] at this
      exact this
    have h9 : ∀ c, c < zpn lam2 → zi (@zcF C 9 (zi (@zcF C 8 c))) = zrw lam2 c := fun c hc => by
      have := M9.2.1 rfl c
      rw [x9m] at this
      exact this hc (Nat.lt_of_lt_of_le (zps_lt lam2 hl c hc) x9d)
    have h10 := Mp.2.2.1 rfl
    have h11 := Ms.2.2.2 rfl
    rw [Nat.mod_eq_of_lt hl20] at h11
    obtain ⟨t, ht⟩ : ∃ t, t = @zcT C := ⟨_, rfl⟩
    rw [← ht] at h11
    obtain ⟨iv, hiv, hti, ht720⟩ : ∃ iv : Int32, fv[28]? = some (.int iv) ∧ zi iv = t ∧ t ≤ 720 := by
      have hl28 : 28 < fv.length := by rw [Li]; decide
      have hf := Ri 28 _ (List.getElem?_eq_getElem hl28)
      rw [hx28] at hf
      unfold zFl at hf
      rw [show zisR (zfty 9 28) = false from rfl, cond_false] at hf
      obtain ⟨iv, v1, ⟨-, v2⟩, -⟩ := hf
      have v2 : zi iv = @zcT C ∧ @zcT C ≤ 720 := v2 rfl
      exact ⟨iv, by rw [List.getElem?_eq_getElem hl28, v1], by rw [ht]; exact v2.1, by rw [ht]; exact v2.2⟩
    have t40 : t < 2 ^ 40 := Nat.lt_of_le_of_lt ht720 (by decide)
    generalize hw8 : zpk (@zcF C 8) l8 = W8
    generalize hw9 : zpk (@zcF C 9) l9 = W9
    generalize hwp : zpk (@zcF C 10) lp = Wp
    generalize hws : zpk (@zcF C 11) ls = Ws
    have A8 : ∀ j, j < l8 → zwd 40 W8 j = zi (@zcF C 8 j) := fun j hj => by rw [← hw8]; exact zpk_wd _ _ _ hj
    have A9 : ∀ j, j < l9 → zwd 40 W9 j = zi (@zcF C 9 j) := fun j hj => by rw [← hw9]; exact zpk_wd _ _ _ hj
    have Ap : ∀ j, j < lp → zwd 40 Wp j = zi (@zcF C 10 j) := fun j hj => by rw [← hwp]; exact zpk_wd _ _ _ hj
    have As : ∀ j, j < ls → zwd 40 Ws j = zi (@zcF C 11 j) := fun j hj => by rw [← hws]; exact zpk_wd _ _ _ hj
    have I8 : zAI l8 W8 (@zcF C 8) := by rw [← hw8]; exact zpk_AI _ _
    have I9 : zAI l9 W9 (@zcF C 9) := by rw [← hw9]; exact zpk_AI _ _
    have Ip : zAI lp Wp (@zcF C 10) := by rw [← hwp]; exact zpk_AI _ _
    have Is : zAI ls Ws (@zcF C 11) := by rw [← hws]; exact zpk_AI _ _
    clear hw8 hw9 hwp hws
    obtain ⟨y, hye⟩ : ∃ y, y = zup 40 x 28 t := ⟨_, rfl⟩
    have hy : ∀ j, j ≠ 28 → zwd 40 y j = zwd 40 x j := fun j hj => by rw [hye, zwd_up_ne _ _ _ _ _ t40 (fun z => hj z.symm)]
    have hy28 : zwd 40 y 28 = t := by rw [hye, zwd_up_same _ _ _ _ t40]
    clear hye
    have H1 := zHp_cell hH (List.getElem?_eq_getElem (show bh < ws.length by omega)) (c' := (0, l8, W8)) (by rw [E8]; exact @zCell_ik C cA _ 0 l8 W8 _ (by decide) L8 I8)
    have H2 := zHp_cell H1 (List.getElem?_eq_getElem (show bi < ws.length by omega)) (c' := (0, l9, W9)) (by rw [E9]; exact @zCell_ik C cA _ 0 l9 W9 _ (by decide) L9 I9)
    have H3 := zHp_cell H2 (List.getElem?_eq_getElem (show bp < ws.length by omega)) (c' := (0, lp, Wp)) (by rw [Ep]; exact @zCell_ik C cA _ 0 lp Wp _ (by decide) Lp Ip)
    have H4 := zHp_cell H3 (List.getElem?_eq_getElem (show bs < ws.length by omega)) (c' := (0, ls, Ws)) (by rw [Es]; exact @zCell_ik C cA _ 0 ls Ws _ (by decide) Ls Is)
    have H5 := zHp_cell H4 (List.getElem?_eq_getElem (show i < ws.length by omega)) (c' := (25, len, y)) (by
      rw [Ei]
      refine @zCell_ok C cA _ 9 len y fv Li (fun k v hv => ?_)
      by_cases ek : k = 28
      · subst ek
        rw [hiv] at hv
        cases hv
        rw [hy28]
        unfold zFl
        rw [show zisR (zfty 9 28) = false from rfl, cond_false]
        exact ⟨iv, rfl, ⟨zIa_e hti, fun q => absurd q (by omega)⟩, fun q => absurd q (by omega), fun q => absurd q (by omega)⟩
      · rw [hy k ek]
        exact Ri k v hv)
    obtain ⟨T1, hT1⟩ : ∃ T1 : zT d, T1 = zset d (zset d (zset d (zset d (zset d h.1 bh (0, l8, W8)) bi (0, l9, W9)) bp (0, lp, Wp)) bs (0, ls, Ws)) i (25, len, y) := ⟨_, rfl⟩
    have H6 : @zHp C d cA (T1, h.2) ws := by rw [hT1]; exact H5
    clear H1 H2 H3 H4 H5
    have ki : zget d T1 i = (25, len, y) := by rw [hT1, zget_set_same d _ _ _ (by omega)]
    have ks : zget d T1 bs = (0, ls, Ws) := by rw [hT1, zget_set_ne d _ _ _ _ (by omega) (by omega) d4, zget_set_same d _ _ _ (by omega)]
    have kp : zget d T1 bp = (0, lp, Wp) := by rw [hT1, zget_set_ne d _ _ _ _ (by omega) (by omega) d3, zget_set_ne d _ _ _ _ (by omega) (by omega) d10.symm, zget_set_same d _ _ _ (by omega)]
    have k9 : zget d T1 bi = (0, l9, W9) := by rw [hT1, zget_set_ne d _ _ _ _ (by omega) (by omega) d2, zget_set_ne d _ _ _ _ (by omega) (by omega) d9.symm, zget_set_ne d _ _ _ _ (by omega) (by omega) d8.symm, zget_set_same d _ _ _ (by omega)]
    have k8 : zget d T1 bh = (0, l8, W8) := by rw [hT1, zget_set_ne d _ _ _ _ (by omega) (by omega) d1, zget_set_ne d _ _ _ _ (by omega) (by omega) d7.symm, zget_set_ne d _ _ _ _ (by omega) (by omega) d6.symm, zget_set_ne d _ _ _ _ (by omega) (by omega) d5.symm, zget_set_same d _ _ _ (by omega)]
    have ko : ∀ p, p < h.2.1 → p ≠ i → p ≠ bh → p ≠ bi → p ≠ bp → p ≠ bs → zget d T1 p = zget d h.1 p := fun p hp n1 n2 n3 n4 n5 => by rw [hT1, zget_set_ne d _ _ _ _ (by omega) (by omega) n1.symm, zget_set_ne d _ _ _ _ (by omega) (by omega) n5.symm, zget_set_ne d _ _ _ _ (by omega) (by omega) n4.symm, zget_set_ne d _ _ _ _ (by omega) (by omega) n3.symm, zget_set_ne d _ _ _ _ (by omega) (by omega) n2.symm]
    have y0 : zwd 40 y 0 = zpn lam2 := by rw [hy 0 (by decide)]; exact x0
    have y26 : zwd 40 y 26 = bp + 1 := by rw [hy 26 (by decide)]; exact x26
    have y27 : zwd 40 y 27 = bs + 1 := by rw [hy 27 (by decide)]; exact x27
    have y32 : zwd 40 y 32 = bi + 1 := by rw [hy 32 (by decide)]; exact x32
    obtain ⟨f, hfe⟩ : ∃ f : Nat → Nat, f = fun v => zi (@zcF C 9 v) := ⟨_, rfl⟩
    have hf1 : ∀ v, f v = zi (@zcF C 9 v) := fun v => by rw [hfe]
    have hcode : zcf (zpn lam2) f 0 ∈ zcs lam2 := zcode_mem hl hpm (fun c hc => by rw [hf1]; exact h9 c hc)
    have hf6 : ∀ v, 1 ≤ v → v ≤ zpn lam2 → f v < 6 := fun v a b => by
      obtain ⟨c, c1, c2⟩ := zPm_mem hpm a b
      have c2 : zi (@zcF C 8 c) = v := c2
      rw [hf1, ← c2, h9 c c1]
      exact zrw_lt lam2 hl c c1
    obtain ⟨code, hce⟩ : ∃ code, code = zcf (zpn lam2) f 0 := ⟨_, rfl⟩
    rw [← hce] at hcode
    have hc46 : code < 46656 := zcs_lt lam2 hl code hcode
    have M8' : zPm (zpn (lam2 % 1048576)) (fun c => zwd 40 W8 c) := by
      rw [Nat.mod_eq_of_lt hl20]
      exact zPm_c (fun c hc => (A8 c (by omega)).symm) hpm
    have M9' : ∀ c, c < zpn (x9 % 1048576) → zps (x9 % 1048576) c < x9 / 1048576 → c < l8 ∧ zwd 40 W8 c < l9 ∧ zwd 40 W9 (zwd 40 W8 c) = zrw (x9 % 1048576) c := by
      rw [x9m]
      intro c hc _
      have hr : zi (@zcF C 8 c) ≤ zpn lam2 := (zPm_rg hpm hc).2
      have hc8 : c < l8 := by omega
      rw [A8 c hc8]
      refine ⟨hc8, by omega, ?_⟩
      rw [A9 _ (by omega)]
      exact h9 c hc
    have X8 : ∀ j, j < l8 → zwd 40 W8 j < 4294967296 := fun j hj => by rw [A8 j hj]; exact zi_lt _
    have X9 : ∀ j, j < l9 → zwd 40 W9 j < 4294967296 := fun j hj => by rw [A9 j hj]; exact zi_lt _
    have Xs : ∀ j, j < ls → zwd 40 Ws j < 46656 := fun j hj => by rw [As j hj]; exact h11.1 j hj
    have Xp : ∀ j, j < lp → zwd 40 Wp j ≤ 720 := fun j hj => by rw [Ap j hj]; exact h10 j hj
    have Ms' : ∀ j, j < t → j < ls ∧ zwd 40 Ws j < lp ∧ zwd 40 Ws j ∈ zcs lam2 ∧ zwd 40 Wp (zwd 40 Ws j) = j + 1 := fun j hj => by
      obtain ⟨z1, z2⟩ := h11.2 j hj
      have hjl : j < ls := by omega
      rw [As j hjl]
      have z3 := zcs_lt lam2 hl _ z1
      refine ⟨hjl, by omega, z1, ?_⟩
      rw [Ap _ (by omega)]
      exact z2
    obtain ⟨hN, hNe⟩ : ∃ hN : zH d, hN = (zset d (zset d (zset d T1 bs (0, ls, zup 40 Ws t code)) i (25, len, zup 40 y 28 (t + 1))) bp (0, lp, zup 40 Wp code (t + 1)), h.2) := ⟨_, rfl⟩
    refine ⟨C, (T1, h.2), fun r h2 => @decide (∃ v, v < 720 ∧ r = zI v ∧ (h2 = (T1, h.2) ∨ (zwd 40 Wp code = 0 ∧ t + 1 ≤ 720 ∧ h2 = hN))) (Classical.propDecidable _), rfl, H6, ?_, ?_⟩
    · generalize hP1 : (fun r h2 => @decide (∃ v, v < 720 ∧ r = zI v ∧ (h2 = (T1, h.2) ∨ (zwd 40 Wp code = 0 ∧ t + 1 ≤ 720 ∧ h2 = hN))) (Classical.propDecidable _) : zP d) = P1
      show b_X9_placeNow P1 [zR (i + 1), zU, zU] [] (T1, h.2) = true
      unfold b_X9_placeNow
      refine go_pI ?_
      refine go_ist (L' := [zR (i + 1), zI 0, zU]) (fun _ => rfl) ?_
      refine go_ald rfl ?_
      refine go_gfI ki y0 ?_
      refine go_ist (L' := [zR (i + 1), zI 0, zI (zpn lam2)]) (fun _ => rfl) ?_
      refine pn_loop (f := f) ki y32 b9 k9 (zpn lam2) 100000 0 (by omega) hn6.2 n9 (fun u a b => ⟨by rw [hf1, A9 u (by omega)], hf6 u a b⟩) ?_ ?_
      · rw [Nat.zero_add, Nat.one_mul]
        exact Nat.le_trans (Nat.pow_le_pow_right (by decide) hn6.2) (by decide)
      rw [← hce]
      unfold pnEnd
      refine go_ald rfl ?_
      refine go_gfR ki y26 (by omega) ?_
      refine go_ild rfl ?_
      refine go_al1 kp (by omega) rfl ?_
      have hpl : zwd 40 Wp code ≤ 720 := Xp code (by omega)
      by_cases hz : zwd 40 Wp code = 0
      · have ht1 : t + 1 ≤ 720 := zseen_lt (s := fun j => zwd 40 Ws j) (pl := fun j => zwd 40 Wp j) hl (fun j hj => ⟨(Ms' j hj).2.2.1, (Ms' j hj).2.2.2⟩) hcode hz
        have t41 : t + 1 < 2 ^ 40 := Nat.lt_of_le_of_lt ht1 (by decide)
        show xif0 t0eq (pnNew P1) (bX9_placeNow_68 P1) [zR (i + 1), zI code, zI 0] [zI (zwd 40 Wp code)] (T1, h.2) = true
        refine go_ift (by omega) (by rw [hz]; rfl) ?_
        unfold pnNew
        refine go_ald rfl ?_
        refine go_gfR ki y27 (by omega) ?_
        refine go_ald rfl ?_
        refine go_gfI ki hy28 ?_
        refine go_ild rfl ?_
        refine go_as1 ks (by omega) (by omega) ?_
        have ki2 : zget d (zset d T1 bs (0, ls, zup 40 Ws t code)) i = (25, len, y) := by rw [zget_set_ne d _ _ _ _ (by omega) (by omega) d4.symm]; exact ki
        refine go_ald rfl ?_
        refine (show xgfI 25 28 _ [zR (i + 1), zI code, zI 0] [zR (i + 1), zR (i + 1)] (zset d T1 bs (0, ls, zup 40 Ws t code), h.2) = true from ?_)
        refine go_gfI ki2 hy28 ?_
        refine go_pI ?_
        refine go_bin (v := t + 1) ?_ ?_
        · show zk2 t 1 (Nat.mod (Nat.add t 1) 4294967296) = t + 1
          rw [zk2_e (by omega) (by decide)]
          show (t + 1) % 4294967296 = t + 1
          omega
        refine go_pfI ki2 (by omega) ?_
        have ki3 : zget d (zset d (zset d T1 bs (0, ls, zup 40 Ws t code)) i (25, len, zup 40 y 28 (t + 1))) i = (25, len, zup 40 y 28 (t + 1)) := zget_set_same d _ _ _ (by omega)
        have kp3 : zget d (zset d (zset d T1 bs (0, ls, zup 40 Ws t code)) i (25, len, zup 40 y 28 (t + 1))) bp = (0, lp, Wp) := by rw [zget_set_ne d _ _ _ _ (by omega) (by omega) d3, zget_set_ne d _ _ _ _ (by omega) (by omega) d10.symm]; exact kp
        have z26 : zwd 40 (zup 40 y 28 (t + 1)) 26 = bp + 1 := by rw [zwd_up_ne _ _ _ _ _ t41 (by decide)]; exact y26
        refine go_ald rfl ?_
        refine go_gfR ki3 z26 (by omega) ?_
        refine go_ild rfl ?_
        refine go_ald rfl ?_
        refine go_gfI (v := t + 1) ki3 (by rw [zwd_up_same _ _ _ _ t41]) ?_
        unfold cX9_placeNow_67
        refine go_as1 kp3 (by omega) (by omega) ?_
        refine pn_b68 (i := i) (len := len) (x := zup 40 y 28 (t + 1)) (bp := bp) (lp := lp) (Wp := zup 40 Wp code (t + 1)) (v := t) ?_ z26 bbp (zget_set_same d _ _ _ (by omega)) (by omega) (zwd_up_same _ _ _ _ t41) (by omega) ?_
        · show zget d (zset d _ bp _) i = _
          rw [zget_set_ne d _ _ _ _ (by omega) (by omega) d3.symm]
          exact ki3
        · rw [← hP1]
          exact @decide_eq_true _ (Classical.propDecidable _) ⟨t, by omega, rfl, Or.inr ⟨hz, ht1, hNe.symm⟩⟩
      · show xif0 t0eq (pnNew P1) (bX9_placeNow_68 P1) [zR (i + 1), zI code, zI 0] [zI (zwd 40 Wp code)] (T1, h.2) = true
        refine go_iff (by omega) (zbeq_n hz) ?_
        refine pn_b68 (v := zwd 40 Wp code - 1) ki y26 bbp kp (by omega) (by omega) (by omega) ?_
        rw [← hP1]
        exact @decide_eq_true _ (Classical.propDecidable _) ⟨zwd 40 Wp code - 1, by omega, rfl, Or.inl rfl⟩
    · intro C2 ws2 r h2 hp hH3
      obtain ⟨v, hv, hr, hcase⟩ := @of_decide_eq_true _ (Classical.propDecidable _) hp
      subst hr
      have hC3 : ∃ C3 : zCh, @zHp C3 d cA h ws2 := by
        rcases hcase with hcase | ⟨hz, ht1, hcase⟩
        · subst hcase
          exact zmark5 (lam := lam2) (x9 := x9) hH3 rfl hd ii i8 i9 ip is gi g8 g9 gp gs ki hy hy28 k8 k9 kp ks (fun p a b c d e f => ⟨ko p a b c d e f, hoth p a b c d e f⟩) hx hx28 ht720 X8 X9 Xs M8' (by rw [Nat.mod_eq_of_lt hl20]; exact n8) M9' Xp (by rw [Nat.mod_eq_of_lt hl20]; exact Ms')
        · subst hcase
          have t41 : t + 1 < 2 ^ 40 := Nat.lt_of_le_of_lt ht1 (by decide)
          have c40 : code < 2 ^ 40 := Nat.lt_of_lt_of_le hc46 (by decide)
          have gg : ∀ p, zget d h2.1 p = zget d (zset d (zset d (zset d T1 bs (0, ls, zup 40 Ws t code)) i (25, len, zup 40 y 28 (t + 1))) bp (0, lp, zup 40 Wp code (t + 1))) p := fun p => by rw [hNe]
          refine zmark5 (lam := lam2) (x9 := x9) (y := zup 40 y 28 (t + 1)) (t := t + 1) (w8 := W8) (w9 := W9) (wp := zup 40 Wp code (t + 1)) (wsn := zup 40 Ws t code) hH3 (by rw [hNe]) hd ii i8 i9 ip is gi g8 g9 gp gs ?_ (fun j hj => by rw [zwd_up_ne _ _ _ _ _ t41 (fun z => hj z.symm)]; exact hy j hj) (zwd_up_same _ _ _ _ t41) ?_ ?_ ?_ ?_ (fun p a b c d e f => ⟨?_, hoth p a b c d e f⟩) hx hx28 ht1 X8 X9 ?_ M8' (by rw [Nat.mod_eq_of_lt hl20]; exact n8) M9' ?_ ?_
          · rw [gg, zget_set_ne d _ _ _ _ (by omega) (by omega) d3.symm, zget_set_same d _ _ _ (by omega)]
          · rw [gg, zget_set_ne d _ _ _ _ (by omega) (by omega) d6.symm, zget_set_ne d _ _ _ _ (by omega) (by omega) d1, zget_set_ne d _ _ _ _ (by omega) (by omega) d7.symm]
            exact k8
          · rw [gg, zget_set_ne d _ _ _ _ (by omega) (by omega) d8.symm, zget_set_ne d _ _ _ _ (by omega) (by omega) d2, zget_set_ne d _ _ _ _ (by omega) (by omega) d9.symm]
            exact k9
          · rw [gg, zget_set_same d _ _ _ (by omega)]
          · rw [gg, zget_set_ne d _ _ _ _ (by omega) (by omega) d10, zget_set_ne d _ _ _ _ (by omega) (by omega) d4, zget_set_same d _ _ _ (by omega)]
          · rw [gg, zget_set_ne _ _ _ _ _ (by omega) (by omega) e.symm, zget_set_ne _ _ _ _ _ (by omega) (by omega) b.symm, zget_set_ne _ _ _ _ _ (by omega) (by omega) f.symm]
            exact ko p a b c d e f
          · intro j hj
            by_cases q : j = t
            · rw [q, zwd_up_same _ _ _ _ c40]; exact hc46
            · rw [zwd_up_ne _ _ _ _ _ c40 (fun z => q z.symm)]; exact Xs j hj
          · intro j hj
            by_cases q : j = code
            · rw [q, zwd_up_same _ _ _ _ t41]; exact ht1
            · rw [zwd_up_ne _ _ _ _ _ t41 (fun z => q z.symm)]; exact Xp j hj
          · rw [Nat.mod_eq_of_lt hl20]
            intro j hj
            by_cases q : j = t
            · rw [q, zwd_up_same _ _ _ _ c40, zwd_up_same _ _ _ _ t41]
              exact ⟨by omega, by omega, hcode, rfl⟩
            · rw [zwd_up_ne _ _ _ _ _ c40 (fun z => q z.symm)]
              obtain ⟨z1, z2, z3, z4⟩ := Ms' j (by omega)
              have hne : code ≠ zwd 40 Ws j := fun e => by rw [← e, hz] at z4; omega
              rw [zwd_up_ne _ _ _ _ _ t41 hne]
              exact ⟨z1, z2, z3, z4⟩
      obtain ⟨C3, hC3⟩ := hC3
      refine ⟨C3, zI 4294968016, h, hg, hC3, (fun q => by cases q), fun xx hxx G' => ?_⟩
      obtain ⟨iv', v1, v2⟩ := hxx G'
      have v3 := v2.1 (by omega)
      exact ⟨iv', v1, fun q => absurd q (by decide), fun _ _ => by show zi iv' < 4294968016 % 1099511627776 - 4294967296; omega, by show 4294968016 / 1099511627776 % 4294967296 ≤ zi iv'; omega, fun q => absurd q (by decide)⟩)
end PLACENOW
end
section
/-! marks by the shape that the object has now -/
section MK
variable {d : Nat}
/-- the partition of the shape, base 8, out of the parts' array and the object -/
def zlm (c c0 : zC) : Nat := zsum 6 (fun i => Nat.mul (zwd 40 c.2.2 (Nat.add (Nat.mul 6 (zwd 40 c0.2.2 25)) i)) (Nat.pow 8 i))
noncomputable def zlmK (L : List zV) (h : zH d) (K : Nat → Bool) : Bool := zpp 0 [] L h (fun o => zpp 0 [3] L h (fun b => zF (fun lam => cond (Nat.ble (Nat.succ lam) 1048576) (cond (Nat.ble (zpn lam) 6) (K lam) false) false) (zlm (zget d h.1 b) (zget d h.1 o))))
theorem zlmK_t {L : List zV} {h : zH d} {K : Nat → Bool} (hk : zlmK L h K = true) : ∃ lam, lam < 1048576 ∧ zpn lam ≤ 6 ∧ K lam = true := by
  obtain ⟨o, hk⟩ := zpp_t hk
  obtain ⟨b, hk⟩ := zpp_t hk
  rw [zF_eq] at hk
  obtain ⟨h1, hk⟩ := zcnd_t hk
  obtain ⟨h2, hk⟩ := zcnd_t hk
  exact ⟨_, Nat.le_of_ble_eq_true h1, Nat.le_of_ble_eq_true h2, hk⟩
noncomputable def mk8 : zWk d := fun L h K => zlmK L h (fun lam => mkA 0 [31] 8 lam 8 9 (fun len x => cond (Nat.ble (zpn lam) len) (zprm (zpn lam) x) false) L h K)
theorem mk8_ok : zMkOK (mk8 : zWk d) := fun L h K hk => by
  obtain ⟨lam, h1, h2, hk⟩ := zlmK_t hk
  exact mkA_ok (Or.inl ⟨rfl, rfl, rfl⟩) (fun F t len x a b => chk8_ok h1 (by omega) F t len x a b) L h K hk
noncomputable def mk9 : zWk d := fun L h K => zlmK L h (fun lam => mkA 0 [32] 9 lam 9 9 (fun _ _ => true) L h K)
theorem mk9_ok : zMkOK (mk9 : zWk d) := fun L h K hk => by
  obtain ⟨lam, h1, h2, hk⟩ := zlmK_t hk
  exact mkA_ok (Or.inr (Or.inl ⟨rfl, rfl, rfl⟩)) (fun F t len x a b => chk9_ok h1 F t len) L h K hk
noncomputable def mk10 : zWk d := fun L h K => zlmK L h (fun lam => mkA 0 [26] 10 lam 10 11 (fun len x => Nat.beq x (zun 40 len 4294968017)) L h K)
theorem mk10_ok : zMkOK (mk10 : zWk d) := fun L h K hk => by
  obtain ⟨lam, h1, h2, hk⟩ := zlmK_t hk
  exact mkA_ok (Or.inr (Or.inr ⟨rfl, rfl, rfl⟩)) (fun F t len x a b => chk10_ok F t len x a b) L h K hk
noncomputable def mk11 : zWk d := fun L h K => zlmK L h (fun lam => mkT 0 28 [27] lam L h K)
theorem mk11_ok : zMkOK (mk11 : zWk d) := fun L h K hk => by
  obtain ⟨lam, h1, h2, hk⟩ := zlmK_t hk
  exact mkT_ok L h K hk
/-- one less is placed -/
noncomputable def wkQ (i : Nat) (fs : List Nat) (w : zWk d) : zWk d := fun L h K => zpp i fs L h (fun b => Prod.rec (motive := fun _ => Bool) (fun kd v => Prod.rec (motive := fun _ => Bool) (fun len x => zF (fun y => zsetK d h.1 b (kd, len, y) (fun t => w L (t, h.2) K)) (Nat.sub x 1048576)) v) (zget d h.1 b))
theorem wkQ_ok {i : Nat} {fs : List Nat} {w : zWk d} (hw : zWkOK w) : zWkOK (wkQ i fs w) := fun L h K hk => by
  obtain ⟨b, hk⟩ := zpp_t hk
  generalize zget d h.1 b = e at hk
  obtain ⟨kd, len, x⟩ := e
  have hk : zF (fun y => zsetK d h.1 b (kd, len, y) (fun t => w L (t, h.2) K)) (Nat.sub x 1048576) = true := hk
  rw [zF_eq, zsetK_eq] at hk
  exact hw _ _ _ hk
end MK
theorem gfM_X9_220 [zGh] {d : Nat} {X : zM} {fr : Nat} {P : zP d} {pc : Nat} {k : zK d} (h1 : X.1 = RX9) (dg : decode X.2.1 pc = .ok (.getfield 220, 3)) (hs : zSim X fr P (pc + 3) k) : zSim X fr P pc (xgfM 25 28 k) := sm_getfieldM (ci := 9) (n := 28) (C := RX9) (T := TX9) (N := 63) rfl rfl inz9 rfl (by decide) rfl (by rw [h1]; exact wd_1046) rfl dg hs
end
section
/-! the reference to be called with any numbers, by program -/
noncomputable def bX9_isIna_18 {d : Nat} (P : zP d) : zK d := (xzret P)
set_option maxRecDepth 100000 in
set_option maxHeartbeats 4000000 in
theorem sbX9_isIna_18 {d : Nat} [zGh] (P : zP d) : zSim X_X9_isIn 1 P 18 (bX9_isIna_18 P) := by
  unfold bX9_isIna_18
  exact sm_zreturn (pc := 18) dX9_isIn_18 rfl
noncomputable def bX9_isIna_17 {d : Nat} (P : zP d) (j18 : zK d) : zK d := (xpI 0 j18)
set_option maxRecDepth 100000 in
set_option maxHeartbeats 4000000 in
theorem sbX9_isIna_17 {d : Nat} [zGh] (P : zP d) (j18 : zK d) (hj18 : zSimJ 1 X_X9_isIn 1 P 18 j18) : zSim X_X9_isIn 1 P 17 (bX9_isIna_17 P j18) := by
  unfold bX9_isIna_17
  refine sm_iconst (pc := 17) dX9_isIn_17 zc_i_0 ?_
  exact hj18.use
noncomputable def b_X9_isIna {d : Nat} (P : zP d) : zK d := (xlld 0 (xlld 2 (xlcmpR (xjoin (bX9_isIna_18 P) (fun j18 => (xjoin (bX9_isIna_17 P j18) (fun j17 => (xif0S tgeR rlGe rhS rlS rhLt (xlld 0 (xlld 4 (xlcmpR (xif0S tleR rlS rhLe rlGt rhS (xpI 1 j18) j17)))) j17))))))))
set_option maxRecDepth 100000 in
set_option maxHeartbeats 4000000 in
theorem s_X9_isIna {d : Nat} [zGh] (P : zP d) : zSim X_X9_isIn 1 P 0 (b_X9_isIna P) := by
  unfold b_X9_isIna
  refine sm_lload_n (pc := 0) (n := 0) dX9_isIn_0 rfl ?_
  refine sm_lload_n (pc := 1) (n := 2) dX9_isIn_1 rfl ?_
  refine sm_lcmpR (pc := 2) dX9_isIn_2 ?_
  refine sm_joinJ (pc := 3) (pc' := 18) (j := 1) (fun G0 hG0 => @sbX9_isIna_18 d G0 P) (fun j18 hj18 => ?_)
  refine sm_joinJ (pc := 3) (pc' := 17) (j := 1) (fun G0 hG0 => @sbX9_isIna_17 d G0 P j18 (hj18.mv hG0 (by decide))) (fun j17 hj17 => ?_)
  refine sm_ifS_lt (pc := 3) (tgt := 17) dX9_isIn_3 (by decide) ?_ ?_
  · skip
    exact hj17.use
  · skip
    refine sm_lload_n (pc := 6) (n := 0) dX9_isIn_6 rfl ?_
    refine sm_lload (pc := 7) (n := 4) dX9_isIn_7 ?_
    refine sm_lcmpR (pc := 9) dX9_isIn_9 ?_
    refine sm_ifS_gt (pc := 10) (tgt := 17) dX9_isIn_10 (by decide) ?_ ?_
    · skip
      exact hj17.use
    · skip
      refine sm_iconst (pc := 13) dX9_isIn_13 zc_i_1 ?_
      refine sm_goto (pc := 14) (tgt := 18) dX9_isIn_14 (by decide) ?_
      exact hj18.use
noncomputable def f_X9_isIna {d : Nat} : List zV → zH d → zP d → Bool := zfn 6 b_X9_isIna
theorem m_X9_isIna {d : Nat} : zMet (d := d) X_X9_isIn yX9_isIn 1 f_X9_isIna := zmet_mk (X := X_X9_isIn) (by decide) rfl rfl s_X9_isIna

noncomputable def b_X9_isParta {d : Nat} (P : zP d) : zK d := (xild 1 (xi2lR (xpL 0 (xald 0 (xgfI 25 2 (xpI 1 (xbin zsubR (xi2lR (xcS 3 0 0 (zstr f_X9_isIna) (xzret P))))))))))
set_option maxRecDepth 100000 in
set_option maxHeartbeats 4000000 in
theorem s_X9_isParta {d : Nat} [zGh] (P : zP d) : zSim X_X9_isPart 2 P 0 (b_X9_isParta P) := by
  unfold b_X9_isParta
  refine sm_iload_n (pc := 0) (n := 1) dX9_isPart_0 rfl ?_
  refine sm_i2lR (pc := 1) dX9_isPart_1 ?_
  refine sm_lconst (pc := 2) dX9_isPart_2 zc_l_0 ?_
  refine sm_aload_n (pc := 3) (n := 0) dX9_isPart_3 rfl ?_
  refine gf_X9_153 (pc := 4) rfl dX9_isPart_4 ?_
  refine sm_iconst (pc := 7) dX9_isPart_7 zc_i_1 ?_
  refine sm_isubR (pc := 8) dX9_isPart_8 ?_
  refine sm_i2lR (pc := 9) dX9_isPart_9 ?_
  refine sm_cS (pc := 10) (n := 3) (mc := 0) (ms := 0) (zMet_str m_X9_isIna) (cr_X9_283 (X := X_X9_isPart) (fr := 2) (frc := 1) (pc := 10) (mc := 0) (ms := 0) rfl (by decide) dX9_isPart_10) ?_
  exact sm_zreturn (pc := 13) dX9_isPart_13 rfl
noncomputable def f_X9_isParta {d : Nat} : List zV → zH d → zP d → Bool := zfn 2 b_X9_isParta
theorem m_X9_isParta {d : Nat} : zMet (d := d) X_X9_isPart yX9_isPart 2 f_X9_isParta := zmet_mk (X := X_X9_isPart) (by decide) rfl rfl s_X9_isParta

noncomputable def b_X9_isSlota {d : Nat} (P : zP d) : zK d := (xild 0 (xi2lR (xpL 0 (xpL 5 (xcS 3 0 0 (zstr f_X9_isIna) (xzret P))))))
set_option maxRecDepth 100000 in
set_option maxHeartbeats 4000000 in
theorem s_X9_isSlota {d : Nat} [zGh] (P : zP d) : zSim X_X9_isSlot 2 P 0 (b_X9_isSlota P) := by
  unfold b_X9_isSlota
  refine sm_iload_n (pc := 0) (n := 0) dX9_isSlot_0 rfl ?_
  refine sm_i2lR (pc := 1) dX9_isSlot_1 ?_
  refine sm_lconst (pc := 2) dX9_isSlot_2 zc_l_0 ?_
  refine sm_ldc2 (pc := 3) dX9_isSlot_3 wd_1247 zc_cl_5 ?_
  refine sm_cS (pc := 6) (n := 3) (mc := 0) (ms := 0) (zMet_str m_X9_isIna) (cr_X9_283 (X := X_X9_isSlot) (fr := 2) (frc := 1) (pc := 6) (mc := 0) (ms := 0) rfl (by decide) dX9_isSlot_6) ?_
  exact sm_zreturn (pc := 9) dX9_isSlot_9 rfl
noncomputable def f_X9_isSlota {d : Nat} : List zV → zH d → zP d → Bool := zfn 1 b_X9_isSlota
theorem m_X9_isSlota {d : Nat} : zMet (d := d) X_X9_isSlot yX9_isSlot 2 f_X9_isSlota := zmet_mk (X := X_X9_isSlot) (by decide) rfl rfl s_X9_isSlota

noncomputable def bX9_partOfa_21 {d : Nat} (P : zP d) : zK d := (xiret P)
set_option maxRecDepth 100000 in
set_option maxHeartbeats 4000000 in
theorem sbX9_partOfa_21 {d : Nat} [zGh] (P : zP d) : zSim X_X9_partOf 1 P 21 (bX9_partOfa_21 P) := by
  unfold bX9_partOfa_21
  exact sm_ireturn (pc := 21) dX9_partOf_21 rfl
noncomputable def b_X9_partOfa {d : Nat} (P : zP d) : zK d := (xild 2 (xpI 6 (xjoin (bX9_partOfa_21 P) (fun j21 => (xcmpS tgeR rlGe rhS rlS rhLt (xpI 0 j21) (xald 0 (xgfR 25 3 (xpI 6 (xild 1 (xbin zmulR (xild 2 (xbin zaddR (xalQ 0 j21)))))))))))))
set_option maxRecDepth 100000 in
set_option maxHeartbeats 4000000 in
theorem s_X9_partOfa {d : Nat} [zGh] (P : zP d) : zSim X_X9_partOf 1 P 0 (b_X9_partOfa P) := by
  unfold b_X9_partOfa
  refine sm_iload_n (pc := 0) (n := 2) dX9_partOf_0 rfl ?_
  refine sm_bipush (pc := 1) dX9_partOf_1 zc_b_6 ?_
  refine sm_joinJ (pc := 3) (pc' := 21) (j := 1) (fun G0 hG0 => @sbX9_partOfa_21 d G0 P) (fun j21 hj21 => ?_)
  refine sm_icmpS_ge (pc := 3) (tgt := 20) dX9_partOf_3 (by decide) ?_ ?_
  · skip
    refine sm_iconst (pc := 20) dX9_partOf_20 zc_i_0 ?_
    exact hj21.use
  · skip
    refine sm_aload_n (pc := 6) (n := 0) dX9_partOf_6 rfl ?_
    refine gf_X9_7 (pc := 7) rfl dX9_partOf_7 ?_
    refine sm_bipush (pc := 10) dX9_partOf_10 zc_b_6 ?_
    refine sm_iload_n (pc := 12) (n := 1) dX9_partOf_12 rfl ?_
    refine sm_imulR (pc := 13) dX9_partOf_13 ?_
    refine sm_iload_n (pc := 14) (n := 2) dX9_partOf_14 rfl ?_
    refine sm_iaddR (pc := 15) dX9_partOf_15 ?_
    refine sm_ialoadQ (pc := 16) dX9_partOf_16 ?_
    refine sm_goto (pc := 17) (tgt := 21) dX9_partOf_17 (by decide) ?_
    exact hj21.use
noncomputable def f_X9_partOfa {d : Nat} : List zV → zH d → zP d → Bool := zfn 3 b_X9_partOfa
theorem m_X9_partOfa {d : Nat} : zMet (d := d) X_X9_partOf yX9_partOf 1 f_X9_partOfa := zmet_mk (X := X_X9_partOf) (by decide) rfl rfl s_X9_partOfa

noncomputable def bX9_isRegularOnea_22 {d : Nat} (P : zP d) : zK d := (xzret P)
set_option maxRecDepth 100000 in
set_option maxHeartbeats 4000000 in
theorem sbX9_isRegularOnea_22 {d : Nat} [zGh] (P : zP d) : zSim X_X9_isRegularOne 3 P 22 (bX9_isRegularOnea_22 P) := by
  unfold bX9_isRegularOnea_22
  exact sm_zreturn (pc := 22) dX9_isRegularOne_22 rfl
noncomputable def bX9_isRegularOnea_21 {d : Nat} (P : zP d) (j22 : zK d) : zK d := (xpI 0 j22)
set_option maxRecDepth 100000 in
set_option maxHeartbeats 4000000 in
theorem sbX9_isRegularOnea_21 {d : Nat} [zGh] (P : zP d) (j22 : zK d) (hj22 : zSimJ 1 X_X9_isRegularOne 3 P 22 j22) : zSim X_X9_isRegularOne 3 P 21 (bX9_isRegularOnea_21 P j22) := by
  unfold bX9_isRegularOnea_21
  refine sm_iconst (pc := 21) dX9_isRegularOne_21 zc_i_0 ?_
  exact hj22.use
noncomputable def b_X9_isRegularOnea {d : Nat} (P : zP d) : zK d := (xald 0 (xild 1 (xcV 25 2 0 0 (zstr f_X9_isParta) (xjoin (bX9_isRegularOnea_22 P) (fun j22 => (xjoin (bX9_isRegularOnea_21 P j22) (fun j21 => (xif0S teqR rlEq rhEq rlNe rhNe j21 (xald 0 (xgfR 25 7 (xild 1 (xalQ 1 (xif0S teqR rlEq rhEq rlNe rhNe j21 (xpI 1 j22))))))))))))))
set_option maxRecDepth 100000 in
set_option maxHeartbeats 4000000 in
theorem s_X9_isRegularOnea {d : Nat} [zGh] (P : zP d) : zSim X_X9_isRegularOne 3 P 0 (b_X9_isRegularOnea P) := by
  unfold b_X9_isRegularOnea
  refine sm_aload_n (pc := 0) (n := 0) dX9_isRegularOne_0 rfl ?_
  refine sm_iload_n (pc := 1) (n := 1) dX9_isRegularOne_1 rfl ?_
  refine sm_cV (pc := 2) (ci := 9) (n := 2) (mc := 0) (ms := 0) rfl (zMet_str m_X9_isParta) (cr_X9_287 (X := X_X9_isRegularOne) (fr := 3) (frc := 2) (pc := 2) (mc := 0) (ms := 0) rfl (by decide) dX9_isRegularOne_2) ?_
  refine sm_joinJ (pc := 5) (pc' := 22) (j := 1) (fun G0 hG0 => @sbX9_isRegularOnea_22 d G0 P) (fun j22 hj22 => ?_)
  refine sm_joinJ (pc := 5) (pc' := 21) (j := 1) (fun G0 hG0 => @sbX9_isRegularOnea_21 d G0 P j22 (hj22.mv hG0 (by decide))) (fun j21 hj21 => ?_)
  refine sm_ifS_eq (pc := 5) (tgt := 21) dX9_isRegularOne_5 (by decide) ?_ ?_
  · skip
    exact hj21.use
  · skip
    refine sm_aload_n (pc := 8) (n := 0) dX9_isRegularOne_8 rfl ?_
    refine gf_X9_22 (pc := 9) rfl dX9_isRegularOne_9 ?_
    refine sm_iload_n (pc := 12) (n := 1) dX9_isRegularOne_12 rfl ?_
    refine sm_baloadQ (pc := 13) dX9_isRegularOne_13 ?_
    refine sm_ifS_eq (pc := 14) (tgt := 21) dX9_isRegularOne_14 (by decide) ?_ ?_
    · skip
      exact hj21.use
    · skip
      refine sm_iconst (pc := 17) dX9_isRegularOne_17 zc_i_1 ?_
      refine sm_goto (pc := 18) (tgt := 22) dX9_isRegularOne_18 (by decide) ?_
      exact hj22.use
noncomputable def f_X9_isRegularOnea {d : Nat} : List zV → zH d → zP d → Bool := zfn 2 b_X9_isRegularOnea
theorem m_X9_isRegularOnea {d : Nat} : zMet (d := d) X_X9_isRegularOne yX9_isRegularOne 3 f_X9_isRegularOnea := zmet_mk (X := X_X9_isRegularOne) (by decide) rfl rfl s_X9_isRegularOnea

noncomputable def lX9_foura_3 {d : Nat} (P : zP d) (r3 : zK d) : zK d := (xild 2 (xif0S tgeR rlGe rhS rlS rhLt (xald 0 (xgfR 25 45 (xald 0 (xgfI 25 46 (xild 1 (xild 2 (xbin zshr (xpI 255 (xbin zandR (xasQ 0 (fun v => v) (xald 0 (xdup (xgfI 25 46 (xpI 1 (xbin zaddR (xpfI 25 46 (xincR 2 4294967288 r3))))))))))))))))) (xvret P)))
set_option maxRecDepth 100000 in
set_option maxHeartbeats 4000000 in
theorem slX9_foura_3 {d : Nat} [zGh] (P : zP d) (r3 : zK d) (hr3 : zSimJ 1 X_X9_four 1 P 3 r3) : zSim X_X9_four 1 P 3 (lX9_foura_3 P r3) := by
  unfold lX9_foura_3
  refine sm_iload_n (pc := 3) (n := 2) dX9_four_3 rfl ?_
  refine sm_ifS_lt (pc := 4) (tgt := 39) dX9_four_4 (by decide) ?_ ?_
  · skip
    exact sm_vreturn (pc := 39) dX9_four_39 rfl
  · skip
    refine sm_aload_n (pc := 7) (n := 0) dX9_four_7 rfl ?_
    refine gf_X9_121 (pc := 8) rfl dX9_four_8 ?_
    refine sm_aload_n (pc := 11) (n := 0) dX9_four_11 rfl ?_
    refine gf_X9_347 (pc := 12) rfl dX9_four_12 ?_
    refine sm_iload_n (pc := 15) (n := 1) dX9_four_15 rfl ?_
    refine sm_iload_n (pc := 16) (n := 2) dX9_four_16 rfl ?_
    refine sm_ishr (pc := 17) dX9_four_17 ?_
    refine sm_sipush (pc := 18) dX9_four_18 zc_s_255 ?_
    refine sm_iandR (pc := 21) dX9_four_21 ?_
    refine sm_iastoreQ (pc := 22) dX9_four_22 ?_
    refine sm_aload_n (pc := 23) (n := 0) dX9_four_23 rfl ?_
    refine sm_dup (pc := 24) dX9_four_24 ?_
    refine gf_X9_347 (pc := 25) rfl dX9_four_25 ?_
    refine sm_iconst (pc := 28) dX9_four_28 zc_i_1 ?_
    refine sm_iaddR (pc := 29) dX9_four_29 ?_
    refine pf_X9_347 (pc := 30) rfl dX9_four_30 ?_
    refine sm_iincR (pc := 33) (n := 2) dX9_four_33 zc_i_m8 ?_
    refine sm_goto (pc := 36) (tgt := 3) dX9_four_36 (by decide) ?_
    exact hr3.use
noncomputable def b_X9_foura {d : Nat} (P : zP d) : zK d := (xpI 24 (xist 2 (xloop (fun r3 => (lX9_foura_3 P r3)) 100000)))
set_option maxRecDepth 100000 in
set_option maxHeartbeats 4000000 in
theorem s_X9_foura {d : Nat} [zGh] (P : zP d) : zSim X_X9_four 1 P 0 (b_X9_foura P) := by
  unfold b_X9_foura
  refine sm_bipush (pc := 0) dX9_four_0 zc_b_24 ?_
  refine sm_istore_n (pc := 2) (n := 2) dX9_four_2 rfl ?_
  exact (sm_loopJ (j := 1) (fun G1 hG1 r3 hr3 => @slX9_foura_3 d G1 P r3 hr3) _).use
noncomputable def f_X9_foura {d : Nat} : List zV → zH d → zP d → Bool := zfn 3 b_X9_foura
theorem m_X9_foura {d : Nat} : zMet (d := d) X_X9_four yX9_four 1 f_X9_foura := zmet_mk (X := X_X9_four) (by decide) rfl rfl s_X9_foura

noncomputable def b_X9_feeda {d : Nat} (P : zP d) : zK d := (xald 0 (xgfI 25 46 (xpI 20 (xbin zaddR (xpI 200 (xcmpS tleR rlS rhLe rlGt rhS (xald 0 (xild 1 (xcV 25 2 0 0 (zstr f_X9_foura) (xald 0 (xild 2 (xcV 25 2 0 0 (zstr f_X9_foura) (xald 0 (xild 3 (xcV 25 2 0 0 (zstr f_X9_foura) (xald 0 (xild 4 (xcV 25 2 0 0 (zstr f_X9_foura) (xald 0 (xild 5 (xcV 25 2 0 0 (zstr f_X9_foura) (xald 0 (xgfI 25 46 (xiret P)))))))))))))))))) (xpI 4294967295 (xiret P))))))))
set_option maxRecDepth 100000 in
set_option maxHeartbeats 4000000 in
theorem s_X9_feeda {d : Nat} [zGh] (P : zP d) : zSim X_X9_feed 2 P 0 (b_X9_feeda P) := by
  unfold b_X9_feeda
  refine sm_aload_n (pc := 0) (n := 0) dX9_feed_0 rfl ?_
  refine gf_X9_347 (pc := 1) rfl dX9_feed_1 ?_
  refine sm_bipush (pc := 4) dX9_feed_4 zc_b_20 ?_
  refine sm_iaddR (pc := 6) dX9_feed_6 ?_
  refine sm_sipush (pc := 7) dX9_feed_7 zc_s_200 ?_
  refine sm_icmpS_le (pc := 10) (tgt := 15) dX9_feed_10 (by decide) ?_ ?_
  · skip
    refine sm_aload_n (pc := 15) (n := 0) dX9_feed_15 rfl ?_
    refine sm_iload_n (pc := 16) (n := 1) dX9_feed_16 rfl ?_
    refine sm_cV (pc := 17) (ci := 9) (n := 2) (mc := 0) (ms := 0) rfl (zMet_str m_X9_foura) (cr_X9_350 (X := X_X9_feed) (fr := 2) (frc := 1) (pc := 17) (mc := 0) (ms := 0) rfl (by decide) dX9_feed_17) ?_
    refine sm_aload_n (pc := 20) (n := 0) dX9_feed_20 rfl ?_
    refine sm_iload_n (pc := 21) (n := 2) dX9_feed_21 rfl ?_
    refine sm_cV (pc := 22) (ci := 9) (n := 2) (mc := 0) (ms := 0) rfl (zMet_str m_X9_foura) (cr_X9_350 (X := X_X9_feed) (fr := 2) (frc := 1) (pc := 22) (mc := 0) (ms := 0) rfl (by decide) dX9_feed_22) ?_
    refine sm_aload_n (pc := 25) (n := 0) dX9_feed_25 rfl ?_
    refine sm_iload_n (pc := 26) (n := 3) dX9_feed_26 rfl ?_
    refine sm_cV (pc := 27) (ci := 9) (n := 2) (mc := 0) (ms := 0) rfl (zMet_str m_X9_foura) (cr_X9_350 (X := X_X9_feed) (fr := 2) (frc := 1) (pc := 27) (mc := 0) (ms := 0) rfl (by decide) dX9_feed_27) ?_
    refine sm_aload_n (pc := 30) (n := 0) dX9_feed_30 rfl ?_
    refine sm_iload (pc := 31) (n := 4) dX9_feed_31 ?_
    refine sm_cV (pc := 33) (ci := 9) (n := 2) (mc := 0) (ms := 0) rfl (zMet_str m_X9_foura) (cr_X9_350 (X := X_X9_feed) (fr := 2) (frc := 1) (pc := 33) (mc := 0) (ms := 0) rfl (by decide) dX9_feed_33) ?_
    refine sm_aload_n (pc := 36) (n := 0) dX9_feed_36 rfl ?_
    refine sm_iload (pc := 37) (n := 5) dX9_feed_37 ?_
    refine sm_cV (pc := 39) (ci := 9) (n := 2) (mc := 0) (ms := 0) rfl (zMet_str m_X9_foura) (cr_X9_350 (X := X_X9_feed) (fr := 2) (frc := 1) (pc := 39) (mc := 0) (ms := 0) rfl (by decide) dX9_feed_39) ?_
    refine sm_aload_n (pc := 42) (n := 0) dX9_feed_42 rfl ?_
    refine gf_X9_347 (pc := 43) rfl dX9_feed_43 ?_
    exact sm_ireturn (pc := 46) dX9_feed_46 rfl
  · skip
    refine sm_iconst (pc := 13) dX9_feed_13 zc_i_m1 ?_
    exact sm_ireturn (pc := 14) dX9_feed_14 rfl
noncomputable def f_X9_feeda {d : Nat} : List zV → zH d → zP d → Bool := zfn 6 b_X9_feeda
theorem m_X9_feeda {d : Nat} : zMet (d := d) X_X9_feed yX9_feed 2 f_X9_feeda := zmet_mk (X := X_X9_feed) (by decide) rfl rfl s_X9_feeda

noncomputable def b_X9_enda {d : Nat} (P : zP d) : zK d := (xild 1 (xi2lR (xpL 0 (xald 0 (xgfI 25 46 (xi2lR (xcS 3 0 0 (zstr f_X9_isIna) (xif0S teqR rlEq rhEq rlNe rhNe (xpI 0 (xzret P)) (xald 0 (xild 1 (xpfI 25 46 (xpI 1 (xzret P)))))))))))))
set_option maxRecDepth 100000 in
set_option maxHeartbeats 4000000 in
theorem s_X9_enda {d : Nat} [zGh] (P : zP d) : zSim X_X9_end 2 P 0 (b_X9_enda P) := by
  unfold b_X9_enda
  refine sm_iload_n (pc := 0) (n := 1) dX9_end_0 rfl ?_
  refine sm_i2lR (pc := 1) dX9_end_1 ?_
  refine sm_lconst (pc := 2) dX9_end_2 zc_l_0 ?_
  refine sm_aload_n (pc := 3) (n := 0) dX9_end_3 rfl ?_
  refine gf_X9_347 (pc := 4) rfl dX9_end_4 ?_
  refine sm_i2lR (pc := 7) dX9_end_7 ?_
  refine sm_cS (pc := 8) (n := 3) (mc := 0) (ms := 0) (zMet_str m_X9_isIna) (cr_X9_283 (X := X_X9_end) (fr := 2) (frc := 1) (pc := 8) (mc := 0) (ms := 0) rfl (by decide) dX9_end_8) ?_
  refine sm_ifS_ne (pc := 11) (tgt := 16) dX9_end_11 (by decide) ?_ ?_
  · skip
    refine sm_aload_n (pc := 16) (n := 0) dX9_end_16 rfl ?_
    refine sm_iload_n (pc := 17) (n := 1) dX9_end_17 rfl ?_
    refine pf_X9_347 (pc := 18) rfl dX9_end_18 ?_
    refine sm_iconst (pc := 21) dX9_end_21 zc_i_1 ?_
    exact sm_zreturn (pc := 22) dX9_end_22 rfl
  · skip
    refine sm_iconst (pc := 14) dX9_end_14 zc_i_0 ?_
    exact sm_zreturn (pc := 15) dX9_end_15 rfl
noncomputable def f_X9_enda {d : Nat} : List zV → zH d → zP d → Bool := zfn 2 b_X9_enda
theorem m_X9_enda {d : Nat} : zMet (d := d) X_X9_end yX9_end 2 f_X9_enda := zmet_mk (X := X_X9_end) (by decide) rfl rfl s_X9_enda

noncomputable def lX9_texta_95 {d : Nat} (P : zP d) (r95 : zK d) : zK d := (xild 3 (xald 0 (xgfI 25 2 (xcmpS tgeR rlGe rhS rlS rhLt (xpI 0 (xiret P)) (xald 0 (xgfR 25 43 (xpI 11 (xild 1 (xbin zmulR (xild 3 (xbin zaddR (xald 0 (xgfR 25 56 (xild 3 (xlal (xlas (xincR 3 1 r95)))))))))))))))))
set_option maxRecDepth 100000 in
set_option maxHeartbeats 4000000 in
theorem slX9_texta_95 {d : Nat} [zGh] (P : zP d) (r95 : zK d) (hr95 : zSimJ 1 X_X9_text 36 P 95 r95) : zSim X_X9_text 36 P 95 (lX9_texta_95 P r95) := by
  unfold lX9_texta_95
  refine sm_iload_n (pc := 95) (n := 3) dX9_text_95 rfl ?_
  refine sm_aload_n (pc := 96) (n := 0) dX9_text_96 rfl ?_
  refine gf_X9_153 (pc := 97) rfl dX9_text_97 ?_
  refine sm_icmpS_ge (pc := 100) (tgt := 126) dX9_text_100 (by decide) ?_ ?_
  · skip
    refine sm_iconst (pc := 126) dX9_text_126 zc_i_0 ?_
    exact sm_ireturn (pc := 127) dX9_text_127 rfl
  · skip
    refine sm_aload_n (pc := 103) (n := 0) dX9_text_103 rfl ?_
    refine gf_X9_115 (pc := 104) rfl dX9_text_104 ?_
    refine sm_bipush (pc := 107) dX9_text_107 zc_b_11 ?_
    refine sm_iload_n (pc := 109) (n := 1) dX9_text_109 rfl ?_
    refine sm_imulR (pc := 110) dX9_text_110 ?_
    refine sm_iload_n (pc := 111) (n := 3) dX9_text_111 rfl ?_
    refine sm_iaddR (pc := 112) dX9_text_112 ?_
    refine sm_aload_n (pc := 113) (n := 0) dX9_text_113 rfl ?_
    refine gf_X9_134 (pc := 114) rfl dX9_text_114 ?_
    refine sm_iload_n (pc := 117) (n := 3) dX9_text_117 rfl ?_
    refine sm_laload (pc := 118) dX9_text_118 ?_
    refine sm_lastore (pc := 119) dX9_text_119 ?_
    refine sm_iincR (pc := 120) (n := 3) dX9_text_120 zc_i_1 ?_
    refine sm_goto (pc := 123) (tgt := 95) dX9_text_123 (by decide) ?_
    exact hr95.use
noncomputable def bX9_texta_72 {d : Nat} (P : zP d) : zK d := (xald 0 (xpI 0 (xpfI 25 46 (xild 1 (xcS 1 0 0 (zstr f_X9_isSlota) (xif0S teqR rlEq rhEq rlNe rhNe (xpI 4294967294 (xiret P)) (xild 2 (xif0S teqR rlEq rhEq rlNe rhNe (xpI 4294967295 (xiret P)) (xpI 0 (xist 3 (xloop (fun r95 => (lX9_texta_95 P r95)) 100000)))))))))))
set_option maxRecDepth 100000 in
set_option maxHeartbeats 4000000 in
theorem sbX9_texta_72 {d : Nat} [zGh] (P : zP d) : zSim X_X9_text 36 P 72 (bX9_texta_72 P) := by
  unfold bX9_texta_72
  refine sm_aload_n (pc := 72) (n := 0) dX9_text_72 rfl ?_
  refine sm_iconst (pc := 73) dX9_text_73 zc_i_0 ?_
  refine pf_X9_347 (pc := 74) rfl dX9_text_74 ?_
  refine sm_iload_n (pc := 77) (n := 1) dX9_text_77 rfl ?_
  refine sm_cS (pc := 78) (n := 1) (mc := 0) (ms := 0) (zMet_str m_X9_isSlota) (cr_X9_319 (X := X_X9_text) (fr := 36) (frc := 2) (pc := 78) (mc := 0) (ms := 0) rfl (by decide) dX9_text_78) ?_
  refine sm_ifS_ne (pc := 81) (tgt := 87) dX9_text_81 (by decide) ?_ ?_
  · skip
    refine sm_iload_n (pc := 87) (n := 2) dX9_text_87 rfl ?_
    refine sm_ifS_ne (pc := 88) (tgt := 93) dX9_text_88 (by decide) ?_ ?_
    · skip
      refine sm_iconst (pc := 93) dX9_text_93 zc_i_0 ?_
      refine sm_istore_n (pc := 94) (n := 3) dX9_text_94 rfl ?_
      exact (sm_loopJ (j := 1) (fun G1 hG1 r95 hr95 => @slX9_texta_95 d G1 P r95 hr95) _).use
    · skip
      refine sm_iconst (pc := 91) dX9_text_91 zc_i_m1 ?_
      exact sm_ireturn (pc := 92) dX9_text_92 rfl
  · skip
    refine sm_bipush (pc := 84) dX9_text_84 zc_b_m2 ?_
    exact sm_ireturn (pc := 86) dX9_text_86 rfl
noncomputable def bX9_texta_49 {d : Nat} (P : zP d) : zK d := (xist 2 (xild 2 (xjoin (bX9_texta_72 P) (fun j72 => (xif0S teqR rlEq rhEq rlNe rhNe j72 (xald 0 (xcV 25 1 0 0 (zstr f_X9_see) (xpI 4294967295 (xcmpS teqR rlEq rhEq rlNe rhNe j72 (xald 0 (xpI 1 (xald 0 (xgfI 25 47 (xcV 25 3 0 0 (zstr f_X9_fails) (xist 2 j72)))))))))))))))
set_option maxRecDepth 100000 in
set_option maxHeartbeats 4000000 in
theorem sbX9_texta_49 {d : Nat} [zGh] (P : zP d) : zSim X_X9_text 36 P 49 (bX9_texta_49 P) := by
  unfold bX9_texta_49
  refine sm_istore_n (pc := 49) (n := 2) dX9_text_49 rfl ?_
  refine sm_iload_n (pc := 50) (n := 2) dX9_text_50 rfl ?_
  refine sm_joinJ (pc := 51) (pc' := 72) (j := 1) (fun G0 hG0 => @sbX9_texta_72 d G0 P) (fun j72 hj72 => ?_)
  refine sm_ifS_eq (pc := 51) (tgt := 72) dX9_text_51 (by decide) ?_ ?_
  · skip
    exact hj72.use
  · skip
    refine sm_aload_n (pc := 54) (n := 0) dX9_text_54 rfl ?_
    refine sm_cV (pc := 55) (ci := 9) (n := 1) (mc := 0) (ms := 0) rfl (zMet_str m_X9_see) (cr_X9_364 (X := X_X9_text) (fr := 36) (frc := 1) (pc := 55) (mc := 0) (ms := 0) rfl (by decide) dX9_text_55) ?_
    refine sm_iconst (pc := 58) dX9_text_58 zc_i_m1 ?_
    refine sm_icmpS_eq (pc := 59) (tgt := 72) dX9_text_59 (by decide) ?_ ?_
    · skip
      exact hj72.use
    · skip
      refine sm_aload_n (pc := 62) (n := 0) dX9_text_62 rfl ?_
      refine sm_iconst (pc := 63) dX9_text_63 zc_i_1 ?_
      refine sm_aload_n (pc := 64) (n := 0) dX9_text_64 rfl ?_
      refine gf_X9_353 (pc := 65) rfl dX9_text_65 ?_
      refine sm_cV (pc := 68) (ci := 9) (n := 3) (mc := 0) (ms := 0) rfl (zMet_str m_X9_fails) (cr_X9_377 (X := X_X9_text) (fr := 36) (frc := 1) (pc := 68) (mc := 0) (ms := 0) rfl (by decide) dX9_text_68) ?_
      refine sm_istore_n (pc := 71) (n := 2) dX9_text_71 rfl ?_
      exact hj72.use
noncomputable def bX9_texta_48 {d : Nat} (P : zP d) (j49 : zK d) : zK d := (xpI 0 j49)
set_option maxRecDepth 100000 in
set_option maxHeartbeats 4000000 in
theorem sbX9_texta_48 {d : Nat} [zGh] (P : zP d) (j49 : zK d) (hj49 : zSimJ 1 X_X9_text 36 P 49 j49) : zSim X_X9_text 36 P 48 (bX9_texta_48 P j49) := by
  unfold bX9_texta_48
  refine sm_iconst (pc := 48) dX9_text_48 zc_i_0 ?_
  exact hj49.use
noncomputable def cX9_texta_44 {d : Nat} (P : zP d) (j49 : zK d) : zK d := (xpI 1 j49)
set_option maxRecDepth 100000 in
set_option maxHeartbeats 4000000 in
theorem scX9_texta_44 {d : Nat} [zGh] (P : zP d) (j49 : zK d) (hj49 : zSimJ 1 X_X9_text 36 P 49 j49) : zSim X_X9_text 36 P 44 (cX9_texta_44 P j49) := by
  unfold cX9_texta_44
  refine sm_iconst (pc := 44) dX9_text_44 zc_i_1 ?_
  refine sm_goto (pc := 45) (tgt := 49) dX9_text_45 (by decide) ?_
  exact hj49.use
noncomputable def b_X9_texta {d : Nat} (P : zP d) : zK d := (xald 0 (xpI 0 (xpfI 25 48 (xald 0 (xpI 4294967295 (xpfI 25 49 (xald 0 (xpI 0 (xpfI 25 50 (xald 0 (xpI 0 (xpfI 25 53 (xald 0 (xpI 0 (xpfI 25 59 (xald 0 (xpI 0 (xpfI 25 47 (xild 1 (xcS 1 0 0 (zstr f_X9_isSlota) (xjoin (bX9_texta_49 P) (fun j49 => (xjoin (bX9_texta_48 P j49) (fun j48 => (xif0S teqR rlEq rhEq rlNe rhNe j48 (xald 0 (xcV 25 1 0 0 (zstr f_X9_readsSum) (xif0S teqR rlEq rhEq rlNe rhNe j48 (cX9_texta_44 P j49)))))))))))))))))))))))))))))
set_option maxRecDepth 100000 in
set_option maxHeartbeats 4000000 in
theorem s_X9_texta {d : Nat} [zGh] (P : zP d) : zSim X_X9_text 36 P 0 (b_X9_texta P) := by
  unfold b_X9_texta
  refine sm_aload_n (pc := 0) (n := 0) dX9_text_0 rfl ?_
  refine sm_iconst (pc := 1) dX9_text_1 zc_i_0 ?_
  refine pf_X9_356 (pc := 2) rfl dX9_text_2 ?_
  refine sm_aload_n (pc := 5) (n := 0) dX9_text_5 rfl ?_
  refine sm_iconst (pc := 6) dX9_text_6 zc_i_m1 ?_
  refine pf_X9_124 (pc := 7) rfl dX9_text_7 ?_
  refine sm_aload_n (pc := 10) (n := 0) dX9_text_10 rfl ?_
  refine sm_iconst (pc := 11) dX9_text_11 zc_i_0 ?_
  refine pf_X9_361 (pc := 12) rfl dX9_text_12 ?_
  refine sm_aload_n (pc := 15) (n := 0) dX9_text_15 rfl ?_
  refine sm_iconst (pc := 16) dX9_text_16 zc_i_0 ?_
  refine pf_X9_359 (pc := 17) rfl dX9_text_17 ?_
  refine sm_aload_n (pc := 20) (n := 0) dX9_text_20 rfl ?_
  refine sm_iconst (pc := 21) dX9_text_21 zc_i_0 ?_
  refine pf_X9_396 (pc := 22) rfl dX9_text_22 ?_
  refine sm_aload_n (pc := 25) (n := 0) dX9_text_25 rfl ?_
  refine sm_iconst (pc := 26) dX9_text_26 zc_i_0 ?_
  refine pf_X9_353 (pc := 27) rfl dX9_text_27 ?_
  refine sm_iload_n (pc := 30) (n := 1) dX9_text_30 rfl ?_
  refine sm_cS (pc := 31) (n := 1) (mc := 0) (ms := 0) (zMet_str m_X9_isSlota) (cr_X9_319 (X := X_X9_text) (fr := 36) (frc := 2) (pc := 31) (mc := 0) (ms := 0) rfl (by decide) dX9_text_31) ?_
  refine sm_joinJ (pc := 34) (pc' := 49) (j := 1) (fun G0 hG0 => @sbX9_texta_49 d G0 P) (fun j49 hj49 => ?_)
  refine sm_joinJ (pc := 34) (pc' := 48) (j := 1) (fun G0 hG0 => @sbX9_texta_48 d G0 P j49 (hj49.mv hG0 (by decide))) (fun j48 hj48 => ?_)
  refine sm_ifS_eq (pc := 34) (tgt := 48) dX9_text_34 (by decide) ?_ ?_
  · skip
    exact hj48.use
  · skip
    refine sm_aload_n (pc := 37) (n := 0) dX9_text_37 rfl ?_
    refine sm_cV (pc := 38) (ci := 9) (n := 1) (mc := 0) (ms := 0) rfl (zMet_str m_X9_readsSum) (cr_X9_399 (X := X_X9_text) (fr := 36) (frc := 35) (pc := 38) (mc := 0) (ms := 0) rfl (by decide) dX9_text_38) ?_
    refine sm_ifS_eq (pc := 41) (tgt := 48) dX9_text_41 (by decide) ?_ ?_
    · skip
      exact hj48.use
    · skip
      exact scX9_texta_44 P j49 hj49
noncomputable def f_X9_texta {d : Nat} : List zV → zH d → zP d → Bool := zfn 4 b_X9_texta
theorem m_X9_texta {d : Nat} : zMet (d := d) X_X9_text yX9_text 36 f_X9_texta := zmet_mk (X := X_X9_text) (by decide) rfl rfl s_X9_texta

noncomputable def bX9_faulta_61 {d : Nat} (P : zP d) : zK d := (xiret P)
set_option maxRecDepth 100000 in
set_option maxHeartbeats 4000000 in
theorem sbX9_faulta_61 {d : Nat} [zGh] (P : zP d) : zSim X_X9_fault 2 P 61 (bX9_faulta_61 P) := by
  unfold bX9_faulta_61
  exact sm_ireturn (pc := 61) dX9_fault_61 rfl
noncomputable def cX9_faulta_57 {d : Nat} (P : zP d) (j61 : zK d) : zK d := j61
set_option maxRecDepth 100000 in
set_option maxHeartbeats 4000000 in
theorem scX9_faulta_57 {d : Nat} [zGh] (P : zP d) (j61 : zK d) (hj61 : zSimJ 1 X_X9_fault 2 P 61 j61) : zSim X_X9_fault 2 P 57 (cX9_faulta_57 P j61) := by
  unfold cX9_faulta_57
  refine sm_goto (pc := 57) (tgt := 61) dX9_fault_57 (by decide) ?_
  exact hj61.use
noncomputable def b_X9_faulta {d : Nat} (P : zP d) : zK d := (xild 1 (xif0S teqR rlEq rhEq rlNe rhNe (xald 0 (xgfI 25 48 (xiret P))) (xild 1 (xpI 1 (xcmpS teqR rlEq rhEq rlNe rhNe (xald 0 (xgfI 25 49 (xiret P))) (xild 1 (xpI 2 (xcmpS teqR rlEq rhEq rlNe rhNe (xald 0 (xgfI 25 50 (xiret P))) (xild 1 (xi2lR (xpL 10 (xpI 9 (xald 0 (xgfI 25 50 (xbin zaddR (xi2lR (xcS 3 0 0 (zstr f_X9_isIna) (xjoin (bX9_faulta_61 P) (fun j61 => (xif0S teqR rlEq rhEq rlNe rhNe (xpI 4294967295 j61) (xald 0 (xgfR 25 51 (xild 1 (xpI 10 (xbin zsubR (xalQ 0 (cX9_faulta_57 P j61)))))))))))))))))))))))))))
set_option maxRecDepth 100000 in
set_option maxHeartbeats 4000000 in
theorem s_X9_faulta {d : Nat} [zGh] (P : zP d) : zSim X_X9_fault 2 P 0 (b_X9_faulta P) := by
  unfold b_X9_faulta
  refine sm_iload_n (pc := 0) (n := 1) dX9_fault_0 rfl ?_
  refine sm_ifS_ne (pc := 1) (tgt := 9) dX9_fault_1 (by decide) ?_ ?_
  · skip
    refine sm_iload_n (pc := 9) (n := 1) dX9_fault_9 rfl ?_
    refine sm_iconst (pc := 10) dX9_fault_10 zc_i_1 ?_
    refine sm_icmpS_ne (pc := 11) (tgt := 19) dX9_fault_11 (by decide) ?_ ?_
    · skip
      refine sm_iload_n (pc := 19) (n := 1) dX9_fault_19 rfl ?_
      refine sm_iconst (pc := 20) dX9_fault_20 zc_i_2 ?_
      refine sm_icmpS_ne (pc := 21) (tgt := 29) dX9_fault_21 (by decide) ?_ ?_
      · skip
        refine sm_iload_n (pc := 29) (n := 1) dX9_fault_29 rfl ?_
        refine sm_i2lR (pc := 30) dX9_fault_30 ?_
        refine sm_ldc2 (pc := 31) dX9_fault_31 wd_1427 zc_cl_10 ?_
        refine sm_bipush (pc := 34) dX9_fault_34 zc_b_9 ?_
        refine sm_aload_n (pc := 36) (n := 0) dX9_fault_36 rfl ?_
        refine gf_X9_361 (pc := 37) rfl dX9_fault_37 ?_
        refine sm_iaddR (pc := 40) dX9_fault_40 ?_
        refine sm_i2lR (pc := 41) dX9_fault_41 ?_
        refine sm_cS (pc := 42) (n := 3) (mc := 0) (ms := 0) (zMet_str m_X9_isIna) (cr_X9_283 (X := X_X9_fault) (fr := 2) (frc := 1) (pc := 42) (mc := 0) (ms := 0) rfl (by decide) dX9_fault_42) ?_
        refine sm_joinJ (pc := 45) (pc' := 61) (j := 1) (fun G0 hG0 => @sbX9_faulta_61 d G0 P) (fun j61 hj61 => ?_)
        refine sm_ifS_eq (pc := 45) (tgt := 60) dX9_fault_45 (by decide) ?_ ?_
        · skip
          refine sm_iconst (pc := 60) dX9_fault_60 zc_i_m1 ?_
          exact hj61.use
        · skip
          refine sm_aload_n (pc := 48) (n := 0) dX9_fault_48 rfl ?_
          refine gf_X9_128 (pc := 49) rfl dX9_fault_49 ?_
          refine sm_iload_n (pc := 52) (n := 1) dX9_fault_52 rfl ?_
          refine sm_bipush (pc := 53) dX9_fault_53 zc_b_10 ?_
          refine sm_isubR (pc := 55) dX9_fault_55 ?_
          refine sm_ialoadQ (pc := 56) dX9_fault_56 ?_
          exact scX9_faulta_57 P j61 hj61
      · skip
        refine sm_aload_n (pc := 24) (n := 0) dX9_fault_24 rfl ?_
        refine gf_X9_361 (pc := 25) rfl dX9_fault_25 ?_
        exact sm_ireturn (pc := 28) dX9_fault_28 rfl
    · skip
      refine sm_aload_n (pc := 14) (n := 0) dX9_fault_14 rfl ?_
      refine gf_X9_124 (pc := 15) rfl dX9_fault_15 ?_
      exact sm_ireturn (pc := 18) dX9_fault_18 rfl
  · skip
    refine sm_aload_n (pc := 4) (n := 0) dX9_fault_4 rfl ?_
    refine gf_X9_356 (pc := 5) rfl dX9_fault_5 ?_
    exact sm_ireturn (pc := 8) dX9_fault_8 rfl
noncomputable def f_X9_faulta {d : Nat} : List zV → zH d → zP d → Bool := zfn 2 b_X9_faulta
theorem m_X9_faulta {d : Nat} : zMet (d := d) X_X9_fault yX9_fault 2 f_X9_faulta := zmet_mk (X := X_X9_fault) (by decide) rfl rfl s_X9_faulta

noncomputable def bX9_partitiona_13 {d : Nat} (P : zP d) : zK d := (xpI 4294967295 (xiret P))
set_option maxRecDepth 100000 in
set_option maxHeartbeats 4000000 in
theorem sbX9_partitiona_13 {d : Nat} [zGh] (P : zP d) : zSim X_X9_partition 3 P 13 (bX9_partitiona_13 P) := by
  unfold bX9_partitiona_13
  refine sm_iconst (pc := 13) dX9_partition_13 zc_i_m1 ?_
  exact sm_ireturn (pc := 14) dX9_partition_14 rfl
noncomputable def bX9_partitiona_35 {d : Nat} (P : zP d) : zK d := (xiret P)
set_option maxRecDepth 100000 in
set_option maxHeartbeats 4000000 in
theorem sbX9_partitiona_35 {d : Nat} [zGh] (P : zP d) : zSim X_X9_partition 3 P 35 (bX9_partitiona_35 P) := by
  unfold bX9_partitiona_35
  exact sm_ireturn (pc := 35) dX9_partition_35 rfl
noncomputable def b_X9_partitiona {d : Nat} (P : zP d) : zK d := (xald 0 (xild 1 (xcV 25 2 0 0 (zstr f_X9_isParta) (xjoin (bX9_partitiona_13 P) (fun j13 => (xif0S teqR rlEq rhEq rlNe rhNe j13 (xild 2 (xpI 4294967295 (xcmpS tgeR rlGe rhS rlS rhLt (xild 2 (xpI 4294967295 (xjoin (bX9_partitiona_35 P) (fun j35 => (xcmpS teqR rlEq rhEq rlNe rhNe (xald 0 (xgfR 25 4 (xild 1 (xalQ 0 j35)))) (xald 0 (xild 1 (xild 2 (xcV 25 3 0 0 (zstr f_X9_partOfa) j35))))))))) j13)))))))))
set_option maxRecDepth 100000 in
set_option maxHeartbeats 4000000 in
theorem s_X9_partitiona {d : Nat} [zGh] (P : zP d) : zSim X_X9_partition 3 P 0 (b_X9_partitiona P) := by
  unfold b_X9_partitiona
  refine sm_aload_n (pc := 0) (n := 0) dX9_partition_0 rfl ?_
  refine sm_iload_n (pc := 1) (n := 1) dX9_partition_1 rfl ?_
  refine sm_cV (pc := 2) (ci := 9) (n := 2) (mc := 0) (ms := 0) rfl (zMet_str m_X9_isParta) (cr_X9_287 (X := X_X9_partition) (fr := 3) (frc := 2) (pc := 2) (mc := 0) (ms := 0) rfl (by decide) dX9_partition_2) ?_
  refine sm_joinJ (pc := 5) (pc' := 13) (j := 1) (fun G0 hG0 => @sbX9_partitiona_13 d G0 P) (fun j13 hj13 => ?_)
  refine sm_ifS_eq (pc := 5) (tgt := 13) dX9_partition_5 (by decide) ?_ ?_
  · skip
    exact hj13.use
  · skip
    refine sm_iload_n (pc := 8) (n := 2) dX9_partition_8 rfl ?_
    refine sm_iconst (pc := 9) dX9_partition_9 zc_i_m1 ?_
    refine sm_icmpS_ge (pc := 10) (tgt := 15) dX9_partition_10 (by decide) ?_ ?_
    · skip
      refine sm_iload_n (pc := 15) (n := 2) dX9_partition_15 rfl ?_
      refine sm_iconst (pc := 16) dX9_partition_16 zc_i_m1 ?_
      refine sm_joinJ (pc := 17) (pc' := 35) (j := 1) (fun G0 hG0 => @sbX9_partitiona_35 d G0 P) (fun j35 hj35 => ?_)
      refine sm_icmpS_ne (pc := 17) (tgt := 29) dX9_partition_17 (by decide) ?_ ?_
      · skip
        refine sm_aload_n (pc := 29) (n := 0) dX9_partition_29 rfl ?_
        refine sm_iload_n (pc := 30) (n := 1) dX9_partition_30 rfl ?_
        refine sm_iload_n (pc := 31) (n := 2) dX9_partition_31 rfl ?_
        refine sm_cV (pc := 32) (ci := 9) (n := 3) (mc := 0) (ms := 0) rfl (zMet_str m_X9_partOfa) (cr_X9_175 (X := X_X9_partition) (fr := 3) (frc := 1) (pc := 32) (mc := 0) (ms := 0) rfl (by decide) dX9_partition_32) ?_
        exact hj35.use
      · skip
        refine sm_aload_n (pc := 20) (n := 0) dX9_partition_20 rfl ?_
        refine gf_X9_13 (pc := 21) rfl dX9_partition_21 ?_
        refine sm_iload_n (pc := 24) (n := 1) dX9_partition_24 rfl ?_
        refine sm_ialoadQ (pc := 25) dX9_partition_25 ?_
        refine sm_goto (pc := 26) (tgt := 35) dX9_partition_26 (by decide) ?_
        exact hj35.use
    · skip
      exact hj13.use
noncomputable def f_X9_partitiona {d : Nat} : List zV → zH d → zP d → Bool := zfn 3 b_X9_partitiona
theorem m_X9_partitiona {d : Nat} : zMet (d := d) X_X9_partition yX9_partition 3 f_X9_partitiona := zmet_mk (X := X_X9_partition) (by decide) rfl rfl s_X9_partitiona

noncomputable def bX9_ofa_125 {d : Nat} (P : zP d) : zK d := (xpI 4294967295 (xiret P))
set_option maxRecDepth 100000 in
set_option maxHeartbeats 4000000 in
theorem sbX9_ofa_125 {d : Nat} [zGh] (P : zP d) : zSim X_X9_of 4 P 125 (bX9_ofa_125 P) := by
  unfold bX9_ofa_125
  refine sm_iconst (pc := 125) dX9_of_125 zc_i_m1 ?_
  exact sm_ireturn (pc := 126) dX9_of_126 rfl
noncomputable def bX9_ofa_56 {d : Nat} (P : zP d) : zK d := (xald 0 (xgfR 25 7 (xild 1 (xalQ 1 (xcS 1 0 0 (zstr f_X9_one) (xiret P))))))
set_option maxRecDepth 100000 in
set_option maxHeartbeats 4000000 in
theorem sbX9_ofa_56 {d : Nat} [zGh] (P : zP d) : zSim X_X9_of 4 P 56 (bX9_ofa_56 P) := by
  unfold bX9_ofa_56
  refine sm_aload_n (pc := 56) (n := 0) dX9_of_56 rfl ?_
  refine gf_X9_22 (pc := 57) rfl dX9_of_57 ?_
  refine sm_iload_n (pc := 60) (n := 1) dX9_of_60 rfl ?_
  refine sm_baloadQ (pc := 61) dX9_of_61 ?_
  refine sm_cS (pc := 62) (n := 1) (mc := 0) (ms := 0) (zMet_str m_X9_one) (cr_X9_187 (X := X_X9_of) (fr := 4) (frc := 1) (pc := 62) (mc := 0) (ms := 0) rfl (by decide) dX9_of_62) ?_
  exact sm_ireturn (pc := 65) dX9_of_65 rfl
noncomputable def bX9_ofa_66 {d : Nat} (P : zP d) : zK d := (xald 0 (xgfR 25 15 (xild 1 (xalQ 0 (xiret P)))))
set_option maxRecDepth 100000 in
set_option maxHeartbeats 4000000 in
theorem sbX9_ofa_66 {d : Nat} [zGh] (P : zP d) : zSim X_X9_of 4 P 66 (bX9_ofa_66 P) := by
  unfold bX9_ofa_66
  refine sm_aload_n (pc := 66) (n := 0) dX9_of_66 rfl ?_
  refine gf_X9_41 (pc := 67) rfl dX9_of_67 ?_
  refine sm_iload_n (pc := 70) (n := 1) dX9_of_70 rfl ?_
  refine sm_ialoadQ (pc := 71) dX9_of_71 ?_
  exact sm_ireturn (pc := 72) dX9_of_72 rfl
noncomputable def bX9_ofa_73 {d : Nat} (P : zP d) : zK d := (xald 0 (xgfR 25 17 (xild 1 (xalQ 0 (xiret P)))))
set_option maxRecDepth 100000 in
set_option maxHeartbeats 4000000 in
theorem sbX9_ofa_73 {d : Nat} [zGh] (P : zP d) : zSim X_X9_of 4 P 73 (bX9_ofa_73 P) := by
  unfold bX9_ofa_73
  refine sm_aload_n (pc := 73) (n := 0) dX9_of_73 rfl ?_
  refine gf_X9_47 (pc := 74) rfl dX9_of_74 ?_
  refine sm_iload_n (pc := 77) (n := 1) dX9_of_77 rfl ?_
  refine sm_ialoadQ (pc := 78) dX9_of_78 ?_
  exact sm_ireturn (pc := 79) dX9_of_79 rfl
noncomputable def bX9_ofa_80 {d : Nat} (P : zP d) : zK d := (xald 0 (xgfR 25 21 (xild 1 (xalQ 0 (xiret P)))))
set_option maxRecDepth 100000 in
set_option maxHeartbeats 4000000 in
theorem sbX9_ofa_80 {d : Nat} [zGh] (P : zP d) : zSim X_X9_of 4 P 80 (bX9_ofa_80 P) := by
  unfold bX9_ofa_80
  refine sm_aload_n (pc := 80) (n := 0) dX9_of_80 rfl ?_
  refine gf_X9_56 (pc := 81) rfl dX9_of_81 ?_
  refine sm_iload_n (pc := 84) (n := 1) dX9_of_84 rfl ?_
  refine sm_ialoadQ (pc := 85) dX9_of_85 ?_
  exact sm_ireturn (pc := 86) dX9_of_86 rfl
noncomputable def bX9_ofa_87 {d : Nat} (P : zP d) : zK d := (xald 0 (xgfR 25 36 (xild 1 (xalQ 0 (xiret P)))))
set_option maxRecDepth 100000 in
set_option maxHeartbeats 4000000 in
theorem sbX9_ofa_87 {d : Nat} [zGh] (P : zP d) : zSim X_X9_of 4 P 87 (bX9_ofa_87 P) := by
  unfold bX9_ofa_87
  refine sm_aload_n (pc := 87) (n := 0) dX9_of_87 rfl ?_
  refine gf_X9_93 (pc := 88) rfl dX9_of_88 ?_
  refine sm_iload_n (pc := 91) (n := 1) dX9_of_91 rfl ?_
  refine sm_ialoadQ (pc := 92) dX9_of_92 ?_
  exact sm_ireturn (pc := 93) dX9_of_93 rfl
noncomputable def bX9_ofa_94 {d : Nat} (P : zP d) : zK d := (xald 0 (xild 1 (xcV 25 2 0 0 (zstr f_X9_turned) (xiret P))))
set_option maxRecDepth 100000 in
set_option maxHeartbeats 4000000 in
theorem sbX9_ofa_94 {d : Nat} [zGh] (P : zP d) : zSim X_X9_of 4 P 94 (bX9_ofa_94 P) := by
  unfold bX9_ofa_94
  refine sm_aload_n (pc := 94) (n := 0) dX9_of_94 rfl ?_
  refine sm_iload_n (pc := 95) (n := 1) dX9_of_95 rfl ?_
  refine sm_cV (pc := 96) (ci := 9) (n := 2) (mc := 0) (ms := 0) rfl (zMet_str m_X9_turned) (cr_X9_295 (X := X_X9_of) (fr := 4) (frc := 3) (pc := 96) (mc := 0) (ms := 0) rfl (by decide) dX9_of_96) ?_
  exact sm_ireturn (pc := 99) dX9_of_99 rfl
noncomputable def bX9_ofa_114 {d : Nat} (P : zP d) : zK d := (xcS 1 0 0 (zstr f_X9_one) (xiret P))
set_option maxRecDepth 100000 in
set_option maxHeartbeats 4000000 in
theorem sbX9_ofa_114 {d : Nat} [zGh] (P : zP d) : zSim X_X9_of 4 P 114 (bX9_ofa_114 P) := by
  unfold bX9_ofa_114
  refine sm_cS (pc := 114) (n := 1) (mc := 0) (ms := 0) (zMet_str m_X9_one) (cr_X9_187 (X := X_X9_of) (fr := 4) (frc := 1) (pc := 114) (mc := 0) (ms := 0) rfl (by decide) dX9_of_114) ?_
  exact sm_ireturn (pc := 117) dX9_of_117 rfl
noncomputable def bX9_ofa_100 {d : Nat} (P : zP d) : zK d := (xald 0 (xild 1 (xcV 25 2 0 0 (zstr f_X9_turned) (xild 1 (xjoin (bX9_ofa_114 P) (fun j114 => (xcmpS teqR rlEq rhEq rlNe rhNe (xpI 1 j114) (xpI 0 j114))))))))
set_option maxRecDepth 100000 in
set_option maxHeartbeats 4000000 in
theorem sbX9_ofa_100 {d : Nat} [zGh] (P : zP d) : zSim X_X9_of 4 P 100 (bX9_ofa_100 P) := by
  unfold bX9_ofa_100
  refine sm_aload_n (pc := 100) (n := 0) dX9_of_100 rfl ?_
  refine sm_iload_n (pc := 101) (n := 1) dX9_of_101 rfl ?_
  refine sm_cV (pc := 102) (ci := 9) (n := 2) (mc := 0) (ms := 0) rfl (zMet_str m_X9_turned) (cr_X9_295 (X := X_X9_of) (fr := 4) (frc := 3) (pc := 102) (mc := 0) (ms := 0) rfl (by decide) dX9_of_102) ?_
  refine sm_iload_n (pc := 105) (n := 1) dX9_of_105 rfl ?_
  refine sm_joinJ (pc := 106) (pc' := 114) (j := 1) (fun G0 hG0 => @sbX9_ofa_114 d G0 P) (fun j114 hj114 => ?_)
  refine sm_icmpS_ne (pc := 106) (tgt := 113) dX9_of_106 (by decide) ?_ ?_
  · skip
    refine sm_iconst (pc := 113) dX9_of_113 zc_i_0 ?_
    exact hj114.use
  · skip
    refine sm_iconst (pc := 109) dX9_of_109 zc_i_1 ?_
    refine sm_goto (pc := 110) (tgt := 114) dX9_of_110 (by decide) ?_
    exact hj114.use
noncomputable def bX9_ofa_118 {d : Nat} (P : zP d) : zK d := (xald 0 (xgfR 25 10 (xild 1 (xalQ 0 (xiret P)))))
set_option maxRecDepth 100000 in
set_option maxHeartbeats 4000000 in
theorem sbX9_ofa_118 {d : Nat} [zGh] (P : zP d) : zSim X_X9_of 4 P 118 (bX9_ofa_118 P) := by
  unfold bX9_ofa_118
  refine sm_aload_n (pc := 118) (n := 0) dX9_of_118 rfl ?_
  refine gf_X9_32 (pc := 119) rfl dX9_of_119 ?_
  refine sm_iload_n (pc := 122) (n := 1) dX9_of_122 rfl ?_
  refine sm_ialoadQ (pc := 123) dX9_of_123 ?_
  exact sm_ireturn (pc := 124) dX9_of_124 rfl
noncomputable def b_X9_ofa {d : Nat} (P : zP d) : zK d := (xald 0 (xild 1 (xcV 25 2 0 0 (zstr f_X9_isParta) (xif0S teqR rlEq rhEq rlNe rhNe (xpI 4294967295 (xiret P)) (xild 2 (xtswR 7 [(bX9_ofa_56 P), (bX9_ofa_66 P), (bX9_ofa_73 P), (bX9_ofa_80 P), (bX9_ofa_87 P), (bX9_ofa_94 P), (bX9_ofa_100 P), (bX9_ofa_118 P)] (bX9_ofa_125 P)))))))
set_option maxRecDepth 100000 in
set_option maxHeartbeats 4000000 in
theorem s_X9_ofa {d : Nat} [zGh] (P : zP d) : zSim X_X9_of 4 P 0 (b_X9_ofa P) := by
  unfold b_X9_ofa
  refine sm_aload_n (pc := 0) (n := 0) dX9_of_0 rfl ?_
  refine sm_iload_n (pc := 1) (n := 1) dX9_of_1 rfl ?_
  refine sm_cV (pc := 2) (ci := 9) (n := 2) (mc := 0) (ms := 0) rfl (zMet_str m_X9_isParta) (cr_X9_287 (X := X_X9_of) (fr := 4) (frc := 2) (pc := 2) (mc := 0) (ms := 0) rfl (by decide) dX9_of_2) ?_
  refine sm_ifS_ne (pc := 5) (tgt := 10) dX9_of_5 (by decide) ?_ ?_
  · skip
    refine sm_iload_n (pc := 10) (n := 2) dX9_of_10 rfl ?_
    exact sm_tswR (pc := 11) (n := 7) (tdf := 125) [56, 66, 73, 80, 87, 94, 100, 118] rfl (by decide) dX9_of_11 rfl (by decide +kernel) (by decide) (sbX9_ofa_125 P) ⟨sbX9_ofa_56 P, sbX9_ofa_66 P, sbX9_ofa_73 P, sbX9_ofa_80 P, sbX9_ofa_87 P, sbX9_ofa_94 P, sbX9_ofa_100 P, sbX9_ofa_118 P, trivial⟩
  · skip
    refine sm_iconst (pc := 8) dX9_of_8 zc_i_m1 ?_
    exact sm_ireturn (pc := 9) dX9_of_9 rfl
noncomputable def f_X9_ofa {d : Nat} : List zV → zH d → zP d → Bool := zfn 3 b_X9_ofa
theorem m_X9_ofa {d : Nat} : zMet (d := d) X_X9_of yX9_of 4 f_X9_ofa := zmet_mk (X := X_X9_of) (by decide) rfl rfl s_X9_ofa

noncomputable def bX9_corea_13 {d : Nat} (P : zP d) : zK d := (xpI 4294967295 (xiret P))
set_option maxRecDepth 100000 in
set_option maxHeartbeats 4000000 in
theorem sbX9_corea_13 {d : Nat} [zGh] (P : zP d) : zSim X_X9_core 3 P 13 (bX9_corea_13 P) := by
  unfold bX9_corea_13
  refine sm_iconst (pc := 13) dX9_core_13 zc_i_m1 ?_
  exact sm_ireturn (pc := 14) dX9_core_14 rfl
noncomputable def bX9_corea_57 {d : Nat} (P : zP d) : zK d := (xiret P)
set_option maxRecDepth 100000 in
set_option maxHeartbeats 4000000 in
theorem sbX9_corea_57 {d : Nat} [zGh] (P : zP d) : zSim X_X9_core 3 P 57 (bX9_corea_57 P) := by
  unfold bX9_corea_57
  exact sm_ireturn (pc := 57) dX9_core_57 rfl
noncomputable def b_X9_corea {d : Nat} (P : zP d) : zK d := (xald 0 (xild 1 (xcV 25 2 0 0 (zstr f_X9_isParta) (xjoin (bX9_corea_13 P) (fun j13 => (xif0S teqR rlEq rhEq rlNe rhNe j13 (xild 2 (xpI 4294967295 (xcmpS tgeR rlGe rhS rlS rhLt (xild 2 (xpI 4294967295 (xcmpS teqR rlEq rhEq rlNe rhNe (xald 0 (xgfI 25 0 (xald 0 (xgfI 25 1 (xald 0 (xgfR 25 15 (xild 1 (xalQ 0 (xbin zmulR (xbin zsubR (xiret P))))))))))) (xild 2 (xpI 6 (xjoin (bX9_corea_57 P) (fun j57 => (xcmpS tgeR rlGe rhS rlS rhLt (xpI 0 j57) (xald 0 (xgfR 25 16 (xild 1 (xalQ 0 (xild 2 (xcS 2 0 0 (zstr f_X9_partBy) j57)))))))))))))) j13)))))))))
set_option maxRecDepth 100000 in
set_option maxHeartbeats 4000000 in
theorem s_X9_corea {d : Nat} [zGh] (P : zP d) : zSim X_X9_core 3 P 0 (b_X9_corea P) := by
  unfold b_X9_corea
  refine sm_aload_n (pc := 0) (n := 0) dX9_core_0 rfl ?_
  refine sm_iload_n (pc := 1) (n := 1) dX9_core_1 rfl ?_
  refine sm_cV (pc := 2) (ci := 9) (n := 2) (mc := 0) (ms := 0) rfl (zMet_str m_X9_isParta) (cr_X9_287 (X := X_X9_core) (fr := 3) (frc := 2) (pc := 2) (mc := 0) (ms := 0) rfl (by decide) dX9_core_2) ?_
  refine sm_joinJ (pc := 5) (pc' := 13) (j := 1) (fun G0 hG0 => @sbX9_corea_13 d G0 P) (fun j13 hj13 => ?_)
  refine sm_ifS_eq (pc := 5) (tgt := 13) dX9_core_5 (by decide) ?_ ?_
  · skip
    exact hj13.use
  · skip
    refine sm_iload_n (pc := 8) (n := 2) dX9_core_8 rfl ?_
    refine sm_iconst (pc := 9) dX9_core_9 zc_i_m1 ?_
    refine sm_icmpS_ge (pc := 10) (tgt := 15) dX9_core_10 (by decide) ?_ ?_
    · skip
      refine sm_iload_n (pc := 15) (n := 2) dX9_core_15 rfl ?_
      refine sm_iconst (pc := 16) dX9_core_16 zc_i_m1 ?_
      refine sm_icmpS_ne (pc := 17) (tgt := 37) dX9_core_17 (by decide) ?_ ?_
      · skip
        refine sm_iload_n (pc := 37) (n := 2) dX9_core_37 rfl ?_
        refine sm_bipush (pc := 38) dX9_core_38 zc_b_6 ?_
        refine sm_joinJ (pc := 40) (pc' := 57) (j := 1) (fun G0 hG0 => @sbX9_corea_57 d G0 P) (fun j57 hj57 => ?_)
        refine sm_icmpS_ge (pc := 40) (tgt := 56) dX9_core_40 (by decide) ?_ ?_
        · skip
          refine sm_iconst (pc := 56) dX9_core_56 zc_i_0 ?_
          exact hj57.use
        · skip
          refine sm_aload_n (pc := 43) (n := 0) dX9_core_43 rfl ?_
          refine gf_X9_44 (pc := 44) rfl dX9_core_44 ?_
          refine sm_iload_n (pc := 47) (n := 1) dX9_core_47 rfl ?_
          refine sm_ialoadQ (pc := 48) dX9_core_48 ?_
          refine sm_iload_n (pc := 49) (n := 2) dX9_core_49 rfl ?_
          refine sm_cS (pc := 50) (n := 2) (mc := 0) (ms := 0) (zMet_str m_X9_partBy) (cr_X9_298 (X := X_X9_core) (fr := 3) (frc := 1) (pc := 50) (mc := 0) (ms := 0) rfl (by decide) dX9_core_50) ?_
          refine sm_goto (pc := 53) (tgt := 57) dX9_core_53 (by decide) ?_
          exact hj57.use
      · skip
        refine sm_aload_n (pc := 20) (n := 0) dX9_core_20 rfl ?_
        refine gf_X9_169 (pc := 21) rfl dX9_core_21 ?_
        refine sm_aload_n (pc := 24) (n := 0) dX9_core_24 rfl ?_
        refine gf_X9_184 (pc := 25) rfl dX9_core_25 ?_
        refine sm_aload_n (pc := 28) (n := 0) dX9_core_28 rfl ?_
        refine gf_X9_41 (pc := 29) rfl dX9_core_29 ?_
        refine sm_iload_n (pc := 32) (n := 1) dX9_core_32 rfl ?_
        refine sm_ialoadQ (pc := 33) dX9_core_33 ?_
        refine sm_imulR (pc := 34) dX9_core_34 ?_
        refine sm_isubR (pc := 35) dX9_core_35 ?_
        exact sm_ireturn (pc := 36) dX9_core_36 rfl
    · skip
      exact hj13.use
noncomputable def f_X9_corea {d : Nat} : List zV → zH d → zP d → Bool := zfn 3 b_X9_corea
theorem m_X9_corea {d : Nat} : zMet (d := d) X_X9_core yX9_core 3 f_X9_corea := zmet_mk (X := X_X9_core) (by decide) rfl rfl s_X9_corea

noncomputable def bX9_hooka_38 {d : Nat} (P : zP d) : zK d := (xpI 4294967295 (xiret P))
set_option maxRecDepth 100000 in
set_option maxHeartbeats 4000000 in
theorem sbX9_hooka_38 {d : Nat} [zGh] (P : zP d) : zSim X_X9_hook 3 P 38 (bX9_hooka_38 P) := by
  unfold bX9_hooka_38
  refine sm_iconst (pc := 38) dX9_hook_38 zc_i_m1 ?_
  exact sm_ireturn (pc := 39) dX9_hook_39 rfl
noncomputable def bX9_hooka_80 {d : Nat} (P : zP d) (r55 : zK d) : zK d := (xcS 1 0 0 (zstr f_X9_one) (xbin zaddR (xist 4 (xincR 5 1 r55))))
set_option maxRecDepth 100000 in
set_option maxHeartbeats 4000000 in
theorem sbX9_hooka_80 {d : Nat} [zGh] (P : zP d) (r55 : zK d) (hr55 : zSimJ 1 X_X9_hook 3 P 55 r55) : zSim X_X9_hook 3 P 80 (bX9_hooka_80 P r55) := by
  unfold bX9_hooka_80
  refine sm_cS (pc := 80) (n := 1) (mc := 0) (ms := 0) (zMet_str m_X9_one) (cr_X9_187 (X := X_X9_hook) (fr := 3) (frc := 1) (pc := 80) (mc := 0) (ms := 0) rfl (by decide) dX9_hook_80) ?_
  refine sm_iaddR (pc := 83) dX9_hook_83 ?_
  refine sm_istore (pc := 84) (n := 4) dX9_hook_84 ?_
  refine sm_iincR (pc := 86) (n := 5) dX9_hook_86 zc_i_1 ?_
  refine sm_goto (pc := 89) (tgt := 55) dX9_hook_89 (by decide) ?_
  exact hr55.use
noncomputable def lX9_hooka_55 {d : Nat} (P : zP d) (r55 : zK d) : zK d := (xild 5 (xpI 6 (xcmpS tgeR rlGe rhS rlS rhLt (xild 4 (xiret P)) (xild 4 (xald 0 (xild 1 (xild 5 (xcV 25 3 0 0 (zstr f_X9_partOfa) (xild 3 (xjoin (bX9_hooka_80 P r55) (fun j80 => (xcmpS tleR rlS rhLe rlGt rhS (xpI 0 j80) (xpI 1 j80)))))))))))))
set_option maxRecDepth 100000 in
set_option maxHeartbeats 4000000 in
theorem slX9_hooka_55 {d : Nat} [zGh] (P : zP d) (r55 : zK d) (hr55 : zSimJ 1 X_X9_hook 3 P 55 r55) : zSim X_X9_hook 3 P 55 (lX9_hooka_55 P r55) := by
  unfold lX9_hooka_55
  refine sm_iload (pc := 55) (n := 5) dX9_hook_55 ?_
  refine sm_bipush (pc := 57) dX9_hook_57 zc_b_6 ?_
  refine sm_icmpS_ge (pc := 59) (tgt := 92) dX9_hook_59 (by decide) ?_ ?_
  · skip
    refine sm_iload (pc := 92) (n := 4) dX9_hook_92 ?_
    exact sm_ireturn (pc := 94) dX9_hook_94 rfl
  · skip
    refine sm_iload (pc := 62) (n := 4) dX9_hook_62 ?_
    refine sm_aload_n (pc := 64) (n := 0) dX9_hook_64 rfl ?_
    refine sm_iload_n (pc := 65) (n := 1) dX9_hook_65 rfl ?_
    refine sm_iload (pc := 66) (n := 5) dX9_hook_66 ?_
    refine sm_cV (pc := 68) (ci := 9) (n := 3) (mc := 0) (ms := 0) rfl (zMet_str m_X9_partOfa) (cr_X9_175 (X := X_X9_hook) (fr := 3) (frc := 1) (pc := 68) (mc := 0) (ms := 0) rfl (by decide) dX9_hook_68) ?_
    refine sm_iload_n (pc := 71) (n := 3) dX9_hook_71 rfl ?_
    refine sm_joinJ (pc := 72) (pc' := 80) (j := 1) (fun G0 hG0 => @sbX9_hooka_80 d G0 P r55 (hr55.mv hG0 (by decide))) (fun j80 hj80 => ?_)
    refine sm_icmpS_le (pc := 72) (tgt := 79) dX9_hook_72 (by decide) ?_ ?_
    · skip
      refine sm_iconst (pc := 79) dX9_hook_79 zc_i_0 ?_
      exact hj80.use
    · skip
      refine sm_iconst (pc := 75) dX9_hook_75 zc_i_1 ?_
      refine sm_goto (pc := 76) (tgt := 80) dX9_hook_76 (by decide) ?_
      exact hj80.use
noncomputable def cX9_hooka_42 {d : Nat} (P : zP d) : zK d := (xild 2 (xcV 25 3 0 0 (zstr f_X9_partOfa) (xild 3 (xbin zsubR (xist 4 (xild 2 (xpI 1 (xbin zaddR (xist 5 (xloop (fun r55 => (lX9_hooka_55 P r55)) 100000))))))))))
set_option maxRecDepth 100000 in
set_option maxHeartbeats 4000000 in
theorem scX9_hooka_42 {d : Nat} [zGh] (P : zP d) : zSim X_X9_hook 3 P 42 (cX9_hooka_42 P) := by
  unfold cX9_hooka_42
  refine sm_iload_n (pc := 42) (n := 2) dX9_hook_42 rfl ?_
  refine sm_cV (pc := 43) (ci := 9) (n := 3) (mc := 0) (ms := 0) rfl (zMet_str m_X9_partOfa) (cr_X9_175 (X := X_X9_hook) (fr := 3) (frc := 1) (pc := 43) (mc := 0) (ms := 0) rfl (by decide) dX9_hook_43) ?_
  refine sm_iload_n (pc := 46) (n := 3) dX9_hook_46 rfl ?_
  refine sm_isubR (pc := 47) dX9_hook_47 ?_
  refine sm_istore (pc := 48) (n := 4) dX9_hook_48 ?_
  refine sm_iload_n (pc := 50) (n := 2) dX9_hook_50 rfl ?_
  refine sm_iconst (pc := 51) dX9_hook_51 zc_i_1 ?_
  refine sm_iaddR (pc := 52) dX9_hook_52 ?_
  refine sm_istore (pc := 53) (n := 5) dX9_hook_53 ?_
  exact (sm_loopJ (j := 1) (fun G1 hG1 r55 hr55 => @slX9_hooka_55 d G1 P r55 hr55) _).use
noncomputable def b_X9_hooka {d : Nat} (P : zP d) : zK d := (xald 0 (xild 1 (xcV 25 2 0 0 (zstr f_X9_isParta) (xjoin (bX9_hooka_38 P) (fun j38 => (xif0S teqR rlEq rhEq rlNe rhNe j38 (xild 2 (xi2lR (xpL 0 (xpL 5 (xcS 3 0 0 (zstr f_X9_isIna) (xif0S teqR rlEq rhEq rlNe rhNe j38 (xild 3 (xi2lR (xpL 0 (xald 0 (xild 1 (xild 2 (xcV 25 3 0 0 (zstr f_X9_partOfa) (xpI 1 (xbin zsubR (xi2lR (xcS 3 0 0 (zstr f_X9_isIna) (xif0S teqR rlEq rhEq rlNe rhNe j38 (xald 0 (xild 1 (cX9_hooka_42 P)))))))))))))))))))))))))))
set_option maxRecDepth 100000 in
set_option maxHeartbeats 4000000 in
theorem s_X9_hooka {d : Nat} [zGh] (P : zP d) : zSim X_X9_hook 3 P 0 (b_X9_hooka P) := by
  unfold b_X9_hooka
  refine sm_aload_n (pc := 0) (n := 0) dX9_hook_0 rfl ?_
  refine sm_iload_n (pc := 1) (n := 1) dX9_hook_1 rfl ?_
  refine sm_cV (pc := 2) (ci := 9) (n := 2) (mc := 0) (ms := 0) rfl (zMet_str m_X9_isParta) (cr_X9_287 (X := X_X9_hook) (fr := 3) (frc := 2) (pc := 2) (mc := 0) (ms := 0) rfl (by decide) dX9_hook_2) ?_
  refine sm_joinJ (pc := 5) (pc' := 38) (j := 1) (fun G0 hG0 => @sbX9_hooka_38 d G0 P) (fun j38 hj38 => ?_)
  refine sm_ifS_eq (pc := 5) (tgt := 38) dX9_hook_5 (by decide) ?_ ?_
  · skip
    exact hj38.use
  · skip
    refine sm_iload_n (pc := 8) (n := 2) dX9_hook_8 rfl ?_
    refine sm_i2lR (pc := 9) dX9_hook_9 ?_
    refine sm_lconst (pc := 10) dX9_hook_10 zc_l_0 ?_
    refine sm_ldc2 (pc := 11) dX9_hook_11 wd_1247 zc_cl_5 ?_
    refine sm_cS (pc := 14) (n := 3) (mc := 0) (ms := 0) (zMet_str m_X9_isIna) (cr_X9_283 (X := X_X9_hook) (fr := 3) (frc := 1) (pc := 14) (mc := 0) (ms := 0) rfl (by decide) dX9_hook_14) ?_
    refine sm_ifS_eq (pc := 17) (tgt := 38) dX9_hook_17 (by decide) ?_ ?_
    · skip
      exact hj38.use
    · skip
      refine sm_iload_n (pc := 20) (n := 3) dX9_hook_20 rfl ?_
      refine sm_i2lR (pc := 21) dX9_hook_21 ?_
      refine sm_lconst (pc := 22) dX9_hook_22 zc_l_0 ?_
      refine sm_aload_n (pc := 23) (n := 0) dX9_hook_23 rfl ?_
      refine sm_iload_n (pc := 24) (n := 1) dX9_hook_24 rfl ?_
      refine sm_iload_n (pc := 25) (n := 2) dX9_hook_25 rfl ?_
      refine sm_cV (pc := 26) (ci := 9) (n := 3) (mc := 0) (ms := 0) rfl (zMet_str m_X9_partOfa) (cr_X9_175 (X := X_X9_hook) (fr := 3) (frc := 1) (pc := 26) (mc := 0) (ms := 0) rfl (by decide) dX9_hook_26) ?_
      refine sm_iconst (pc := 29) dX9_hook_29 zc_i_1 ?_
      refine sm_isubR (pc := 30) dX9_hook_30 ?_
      refine sm_i2lR (pc := 31) dX9_hook_31 ?_
      refine sm_cS (pc := 32) (n := 3) (mc := 0) (ms := 0) (zMet_str m_X9_isIna) (cr_X9_283 (X := X_X9_hook) (fr := 3) (frc := 1) (pc := 32) (mc := 0) (ms := 0) rfl (by decide) dX9_hook_32) ?_
      refine sm_ifS_ne (pc := 35) (tgt := 40) dX9_hook_35 (by decide) ?_ ?_
      · skip
        refine sm_aload_n (pc := 40) (n := 0) dX9_hook_40 rfl ?_
        refine sm_iload_n (pc := 41) (n := 1) dX9_hook_41 rfl ?_
        exact scX9_hooka_42 P
      · skip
        exact hj38.use
noncomputable def f_X9_hooka {d : Nat} : List zV → zH d → zP d → Bool := zfn 6 b_X9_hooka
theorem m_X9_hooka {d : Nat} : zMet (d := d) X_X9_hook yX9_hook 3 f_X9_hooka := zmet_mk (X := X_X9_hook) (by decide) rfl rfl s_X9_hooka

noncomputable def bX9_classOfa_91 {d : Nat} (P : zP d) : zK d := (xpI 4294967294 (xiret P))
set_option maxRecDepth 100000 in
set_option maxHeartbeats 4000000 in
theorem sbX9_classOfa_91 {d : Nat} [zGh] (P : zP d) : zSim X_X9_classOf 3 P 91 (bX9_classOfa_91 P) := by
  unfold bX9_classOfa_91
  refine sm_bipush (pc := 91) dX9_classOf_91 zc_b_m2 ?_
  exact sm_ireturn (pc := 93) dX9_classOf_93 rfl
noncomputable def bX9_classOfa_48 {d : Nat} (P : zP d) : zK d := (xald 0 (xgfR 25 5 (xild 1 (xalQ 0 (xiret P)))))
set_option maxRecDepth 100000 in
set_option maxHeartbeats 4000000 in
theorem sbX9_classOfa_48 {d : Nat} [zGh] (P : zP d) : zSim X_X9_classOf 3 P 48 (bX9_classOfa_48 P) := by
  unfold bX9_classOfa_48
  refine sm_aload_n (pc := 48) (n := 0) dX9_classOf_48 rfl ?_
  refine gf_X9_16 (pc := 49) rfl dX9_classOf_49 ?_
  refine sm_iload_n (pc := 52) (n := 1) dX9_classOf_52 rfl ?_
  refine sm_ialoadQ (pc := 53) dX9_classOf_53 ?_
  exact sm_ireturn (pc := 54) dX9_classOf_54 rfl
noncomputable def bX9_classOfa_55 {d : Nat} (P : zP d) : zK d := (xald 0 (xgfR 25 6 (xild 1 (xalQ 0 (xiret P)))))
set_option maxRecDepth 100000 in
set_option maxHeartbeats 4000000 in
theorem sbX9_classOfa_55 {d : Nat} [zGh] (P : zP d) : zSim X_X9_classOf 3 P 55 (bX9_classOfa_55 P) := by
  unfold bX9_classOfa_55
  refine sm_aload_n (pc := 55) (n := 0) dX9_classOf_55 rfl ?_
  refine gf_X9_19 (pc := 56) rfl dX9_classOf_56 ?_
  refine sm_iload_n (pc := 59) (n := 1) dX9_classOf_59 rfl ?_
  refine sm_ialoadQ (pc := 60) dX9_classOf_60 ?_
  exact sm_ireturn (pc := 61) dX9_classOf_61 rfl
noncomputable def bX9_classOfa_62 {d : Nat} (P : zP d) : zK d := (xald 0 (xgfR 25 8 (xild 1 (xalQ 1 (xcS 1 0 0 (zstr f_X9_one) (xiret P))))))
set_option maxRecDepth 100000 in
set_option maxHeartbeats 4000000 in
theorem sbX9_classOfa_62 {d : Nat} [zGh] (P : zP d) : zSim X_X9_classOf 3 P 62 (bX9_classOfa_62 P) := by
  unfold bX9_classOfa_62
  refine sm_aload_n (pc := 62) (n := 0) dX9_classOf_62 rfl ?_
  refine gf_X9_26 (pc := 63) rfl dX9_classOf_63 ?_
  refine sm_iload_n (pc := 66) (n := 1) dX9_classOf_66 rfl ?_
  refine sm_baloadQ (pc := 67) dX9_classOf_67 ?_
  refine sm_cS (pc := 68) (n := 1) (mc := 0) (ms := 0) (zMet_str m_X9_one) (cr_X9_187 (X := X_X9_classOf) (fr := 3) (frc := 1) (pc := 68) (mc := 0) (ms := 0) rfl (by decide) dX9_classOf_68) ?_
  exact sm_ireturn (pc := 71) dX9_classOf_71 rfl
noncomputable def bX9_classOfa_72 {d : Nat} (P : zP d) : zK d := (xald 0 (xgfR 25 9 (xild 1 (xalQ 0 (xiret P)))))
set_option maxRecDepth 100000 in
set_option maxHeartbeats 4000000 in
theorem sbX9_classOfa_72 {d : Nat} [zGh] (P : zP d) : zSim X_X9_classOf 3 P 72 (bX9_classOfa_72 P) := by
  unfold bX9_classOfa_72
  refine sm_aload_n (pc := 72) (n := 0) dX9_classOf_72 rfl ?_
  refine gf_X9_29 (pc := 73) rfl dX9_classOf_73 ?_
  refine sm_iload_n (pc := 76) (n := 1) dX9_classOf_76 rfl ?_
  refine sm_ialoadQ (pc := 77) dX9_classOf_77 ?_
  exact sm_ireturn (pc := 78) dX9_classOf_78 rfl
noncomputable def bX9_classOfa_79 {d : Nat} (P : zP d) : zK d := (xald 0 (xgfI 25 12 (xald 0 (xgfR 25 5 (xild 1 (xalQ 0 (xbinN zdivR (xiret P))))))))
set_option maxRecDepth 100000 in
set_option maxHeartbeats 4000000 in
theorem sbX9_classOfa_79 {d : Nat} [zGh] (P : zP d) : zSim X_X9_classOf 3 P 79 (bX9_classOfa_79 P) := by
  unfold bX9_classOfa_79
  refine sm_aload_n (pc := 79) (n := 0) dX9_classOf_79 rfl ?_
  refine gf_X9_166 (pc := 80) rfl dX9_classOf_80 ?_
  refine sm_aload_n (pc := 83) (n := 0) dX9_classOf_83 rfl ?_
  refine gf_X9_16 (pc := 84) rfl dX9_classOf_84 ?_
  refine sm_iload_n (pc := 87) (n := 1) dX9_classOf_87 rfl ?_
  refine sm_ialoadQ (pc := 88) dX9_classOf_88 ?_
  refine sm_idivR (pc := 89) dX9_classOf_89 ?_
  exact sm_ireturn (pc := 90) dX9_classOf_90 rfl
noncomputable def b_X9_classOfa {d : Nat} (P : zP d) : zK d := (xald 0 (xild 1 (xcV 25 2 0 0 (zstr f_X9_isParta) (xif0S teqR rlEq rhEq rlNe rhNe (xpI 4294967294 (xiret P)) (xild 2 (xtswR 4 [(bX9_classOfa_48 P), (bX9_classOfa_55 P), (bX9_classOfa_62 P), (bX9_classOfa_72 P), (bX9_classOfa_79 P)] (bX9_classOfa_91 P)))))))
set_option maxRecDepth 100000 in
set_option maxHeartbeats 4000000 in
theorem s_X9_classOfa {d : Nat} [zGh] (P : zP d) : zSim X_X9_classOf 3 P 0 (b_X9_classOfa P) := by
  unfold b_X9_classOfa
  refine sm_aload_n (pc := 0) (n := 0) dX9_classOf_0 rfl ?_
  refine sm_iload_n (pc := 1) (n := 1) dX9_classOf_1 rfl ?_
  refine sm_cV (pc := 2) (ci := 9) (n := 2) (mc := 0) (ms := 0) rfl (zMet_str m_X9_isParta) (cr_X9_287 (X := X_X9_classOf) (fr := 3) (frc := 2) (pc := 2) (mc := 0) (ms := 0) rfl (by decide) dX9_classOf_2) ?_
  refine sm_ifS_ne (pc := 5) (tgt := 11) dX9_classOf_5 (by decide) ?_ ?_
  · skip
    refine sm_iload_n (pc := 11) (n := 2) dX9_classOf_11 rfl ?_
    exact sm_tswR (pc := 12) (n := 4) (tdf := 91) [48, 55, 62, 72, 79] rfl (by decide) dX9_classOf_12 rfl (by decide +kernel) (by decide) (sbX9_classOfa_91 P) ⟨sbX9_classOfa_48 P, sbX9_classOfa_55 P, sbX9_classOfa_62 P, sbX9_classOfa_72 P, sbX9_classOfa_79 P, trivial⟩
  · skip
    refine sm_bipush (pc := 8) dX9_classOf_8 zc_b_m2 ?_
    exact sm_ireturn (pc := 10) dX9_classOf_10 rfl
noncomputable def f_X9_classOfa {d : Nat} : List zV → zH d → zP d → Bool := zfn 3 b_X9_classOfa
theorem m_X9_classOfa {d : Nat} : zMet (d := d) X_X9_classOf yX9_classOf 3 f_X9_classOfa := zmet_mk (X := X_X9_classOf) (by decide) rfl rfl s_X9_classOfa

noncomputable def bX9_charactera_33 {d : Nat} (P : zP d) : zK d := (xiret P)
set_option maxRecDepth 100000 in
set_option maxHeartbeats 4000000 in
theorem sbX9_charactera_33 {d : Nat} [zGh] (P : zP d) : zSim X_X9_character 3 P 33 (bX9_charactera_33 P) := by
  unfold bX9_charactera_33
  exact sm_ireturn (pc := 33) dX9_character_33 rfl
noncomputable def bX9_charactera_30 {d : Nat} (P : zP d) (j33 : zK d) : zK d := (xpI 4294966295 j33)
set_option maxRecDepth 100000 in
set_option maxHeartbeats 4000000 in
theorem sbX9_charactera_30 {d : Nat} [zGh] (P : zP d) (j33 : zK d) (hj33 : zSimJ 1 X_X9_character 3 P 33 j33) : zSim X_X9_character 3 P 30 (bX9_charactera_30 P j33) := by
  unfold bX9_charactera_30
  refine sm_sipush (pc := 30) dX9_character_30 zc_s_m1001 ?_
  exact hj33.use
noncomputable def b_X9_charactera {d : Nat} (P : zP d) : zK d := (xald 0 (xild 1 (xcV 25 2 0 0 (zstr f_X9_isParta) (xjoin (bX9_charactera_33 P) (fun j33 => (xjoin (bX9_charactera_30 P j33) (fun j30 => (xif0S teqR rlEq rhEq rlNe rhNe j30 (xald 0 (xild 2 (xcV 25 2 0 0 (zstr f_X9_isParta) (xif0S teqR rlEq rhEq rlNe rhNe j30 (xald 0 (xgfR 25 14 (xpI 11 (xild 1 (xbin zmulR (xild 2 (xbin zaddR (xalQ 0 j33))))))))))))))))))))
set_option maxRecDepth 100000 in
set_option maxHeartbeats 4000000 in
theorem s_X9_charactera {d : Nat} [zGh] (P : zP d) : zSim X_X9_character 3 P 0 (b_X9_charactera P) := by
  unfold b_X9_charactera
  refine sm_aload_n (pc := 0) (n := 0) dX9_character_0 rfl ?_
  refine sm_iload_n (pc := 1) (n := 1) dX9_character_1 rfl ?_
  refine sm_cV (pc := 2) (ci := 9) (n := 2) (mc := 0) (ms := 0) rfl (zMet_str m_X9_isParta) (cr_X9_287 (X := X_X9_character) (fr := 3) (frc := 2) (pc := 2) (mc := 0) (ms := 0) rfl (by decide) dX9_character_2) ?_
  refine sm_joinJ (pc := 5) (pc' := 33) (j := 1) (fun G0 hG0 => @sbX9_charactera_33 d G0 P) (fun j33 hj33 => ?_)
  refine sm_joinJ (pc := 5) (pc' := 30) (j := 1) (fun G0 hG0 => @sbX9_charactera_30 d G0 P j33 (hj33.mv hG0 (by decide))) (fun j30 hj30 => ?_)
  refine sm_ifS_eq (pc := 5) (tgt := 30) dX9_character_5 (by decide) ?_ ?_
  · skip
    exact hj30.use
  · skip
    refine sm_aload_n (pc := 8) (n := 0) dX9_character_8 rfl ?_
    refine sm_iload_n (pc := 9) (n := 2) dX9_character_9 rfl ?_
    refine sm_cV (pc := 10) (ci := 9) (n := 2) (mc := 0) (ms := 0) rfl (zMet_str m_X9_isParta) (cr_X9_287 (X := X_X9_character) (fr := 3) (frc := 2) (pc := 10) (mc := 0) (ms := 0) rfl (by decide) dX9_character_10) ?_
    refine sm_ifS_eq (pc := 13) (tgt := 30) dX9_character_13 (by decide) ?_ ?_
    · skip
      exact hj30.use
    · skip
      refine sm_aload_n (pc := 16) (n := 0) dX9_character_16 rfl ?_
      refine gf_X9_38 (pc := 17) rfl dX9_character_17 ?_
      refine sm_bipush (pc := 20) dX9_character_20 zc_b_11 ?_
      refine sm_iload_n (pc := 22) (n := 1) dX9_character_22 rfl ?_
      refine sm_imulR (pc := 23) dX9_character_23 ?_
      refine sm_iload_n (pc := 24) (n := 2) dX9_character_24 rfl ?_
      refine sm_iaddR (pc := 25) dX9_character_25 ?_
      refine sm_ialoadQ (pc := 26) dX9_character_26 ?_
      refine sm_goto (pc := 27) (tgt := 33) dX9_character_27 (by decide) ?_
      exact hj33.use
noncomputable def f_X9_charactera {d : Nat} : List zV → zH d → zP d → Bool := zfn 3 b_X9_charactera
theorem m_X9_charactera {d : Nat} : zMet (d := d) X_X9_character yX9_character 3 f_X9_charactera := zmet_mk (X := X_X9_character) (by decide) rfl rfl s_X9_charactera

noncomputable def bX9_modulara_51 {d : Nat} (P : zP d) : zK d := (xiret P)
set_option maxRecDepth 100000 in
set_option maxHeartbeats 4000000 in
theorem sbX9_modulara_51 {d : Nat} [zGh] (P : zP d) : zSim X_X9_modular 3 P 51 (bX9_modulara_51 P) := by
  unfold bX9_modulara_51
  exact sm_ireturn (pc := 51) dX9_modular_51 rfl
noncomputable def bX9_modulara_48 {d : Nat} (P : zP d) (j51 : zK d) : zK d := (xpI 4294966295 j51)
set_option maxRecDepth 100000 in
set_option maxHeartbeats 4000000 in
theorem sbX9_modulara_48 {d : Nat} [zGh] (P : zP d) (j51 : zK d) (hj51 : zSimJ 1 X_X9_modular 3 P 51 j51) : zSim X_X9_modular 3 P 48 (bX9_modulara_48 P j51) := by
  unfold bX9_modulara_48
  refine sm_sipush (pc := 48) dX9_modular_48 zc_s_m1001 ?_
  exact hj51.use
noncomputable def cX9_modulara_43 {d : Nat} (P : zP d) (j51 : zK d) : zK d := (xbin zaddR (xalQ 0 j51))
set_option maxRecDepth 100000 in
set_option maxHeartbeats 4000000 in
theorem scX9_modulara_43 {d : Nat} [zGh] (P : zP d) (j51 : zK d) (hj51 : zSimJ 1 X_X9_modular 3 P 51 j51) : zSim X_X9_modular 3 P 43 (cX9_modulara_43 P j51) := by
  unfold cX9_modulara_43
  refine sm_iaddR (pc := 43) dX9_modular_43 ?_
  refine sm_ialoadQ (pc := 44) dX9_modular_44 ?_
  refine sm_goto (pc := 45) (tgt := 51) dX9_modular_45 (by decide) ?_
  exact hj51.use
noncomputable def b_X9_modulara {d : Nat} (P : zP d) : zK d := (xald 0 (xild 1 (xcV 25 2 0 0 (zstr f_X9_isParta) (xjoin (bX9_modulara_51 P) (fun j51 => (xjoin (bX9_modulara_48 P j51) (fun j48 => (xif0S teqR rlEq rhEq rlNe rhNe j48 (xald 0 (xild 2 (xcV 25 2 0 0 (zstr f_X9_isParta) (xif0S teqR rlEq rhEq rlNe rhNe j48 (xald 0 (xgfR 25 7 (xild 1 (xalQ 1 (xif0S teqR rlEq rhEq rlNe rhNe j48 (xald 0 (xgfR 25 8 (xild 2 (xalQ 1 (xif0S teqR rlEq rhEq rlNe rhNe j48 (xald 0 (xgfR 25 37 (xpI 11 (xild 1 (xbin zmulR (xild 2 (cX9_modulara_43 P j51)))))))))))))))))))))))))))))
set_option maxRecDepth 100000 in
set_option maxHeartbeats 4000000 in
theorem s_X9_modulara {d : Nat} [zGh] (P : zP d) : zSim X_X9_modular 3 P 0 (b_X9_modulara P) := by
  unfold b_X9_modulara
  refine sm_aload_n (pc := 0) (n := 0) dX9_modular_0 rfl ?_
  refine sm_iload_n (pc := 1) (n := 1) dX9_modular_1 rfl ?_
  refine sm_cV (pc := 2) (ci := 9) (n := 2) (mc := 0) (ms := 0) rfl (zMet_str m_X9_isParta) (cr_X9_287 (X := X_X9_modular) (fr := 3) (frc := 2) (pc := 2) (mc := 0) (ms := 0) rfl (by decide) dX9_modular_2) ?_
  refine sm_joinJ (pc := 5) (pc' := 51) (j := 1) (fun G0 hG0 => @sbX9_modulara_51 d G0 P) (fun j51 hj51 => ?_)
  refine sm_joinJ (pc := 5) (pc' := 48) (j := 1) (fun G0 hG0 => @sbX9_modulara_48 d G0 P j51 (hj51.mv hG0 (by decide))) (fun j48 hj48 => ?_)
  refine sm_ifS_eq (pc := 5) (tgt := 48) dX9_modular_5 (by decide) ?_ ?_
  · skip
    exact hj48.use
  · skip
    refine sm_aload_n (pc := 8) (n := 0) dX9_modular_8 rfl ?_
    refine sm_iload_n (pc := 9) (n := 2) dX9_modular_9 rfl ?_
    refine sm_cV (pc := 10) (ci := 9) (n := 2) (mc := 0) (ms := 0) rfl (zMet_str m_X9_isParta) (cr_X9_287 (X := X_X9_modular) (fr := 3) (frc := 2) (pc := 10) (mc := 0) (ms := 0) rfl (by decide) dX9_modular_10) ?_
    refine sm_ifS_eq (pc := 13) (tgt := 48) dX9_modular_13 (by decide) ?_ ?_
    · skip
      exact hj48.use
    · skip
      refine sm_aload_n (pc := 16) (n := 0) dX9_modular_16 rfl ?_
      refine gf_X9_22 (pc := 17) rfl dX9_modular_17 ?_
      refine sm_iload_n (pc := 20) (n := 1) dX9_modular_20 rfl ?_
      refine sm_baloadQ (pc := 21) dX9_modular_21 ?_
      refine sm_ifS_eq (pc := 22) (tgt := 48) dX9_modular_22 (by decide) ?_ ?_
      · skip
        exact hj48.use
      · skip
        refine sm_aload_n (pc := 25) (n := 0) dX9_modular_25 rfl ?_
        refine gf_X9_26 (pc := 26) rfl dX9_modular_26 ?_
        refine sm_iload_n (pc := 29) (n := 2) dX9_modular_29 rfl ?_
        refine sm_baloadQ (pc := 30) dX9_modular_30 ?_
        refine sm_ifS_eq (pc := 31) (tgt := 48) dX9_modular_31 (by decide) ?_ ?_
        · skip
          exact hj48.use
        · skip
          refine sm_aload_n (pc := 34) (n := 0) dX9_modular_34 rfl ?_
          refine gf_X9_96 (pc := 35) rfl dX9_modular_35 ?_
          refine sm_bipush (pc := 38) dX9_modular_38 zc_b_11 ?_
          refine sm_iload_n (pc := 40) (n := 1) dX9_modular_40 rfl ?_
          refine sm_imulR (pc := 41) dX9_modular_41 ?_
          refine sm_iload_n (pc := 42) (n := 2) dX9_modular_42 rfl ?_
          exact scX9_modulara_43 P j51 hj51
noncomputable def f_X9_modulara {d : Nat} : List zV → zH d → zP d → Bool := zfn 3 b_X9_modulara
theorem m_X9_modulara {d : Nat} : zMet (d := d) X_X9_modular yX9_modular 3 f_X9_modulara := zmet_mk (X := X_X9_modular) (by decide) rfl rfl s_X9_modulara

noncomputable def bX9_projectivea_42 {d : Nat} (P : zP d) : zK d := (xiret P)
set_option maxRecDepth 100000 in
set_option maxHeartbeats 4000000 in
theorem sbX9_projectivea_42 {d : Nat} [zGh] (P : zP d) : zSim X_X9_projective 3 P 42 (bX9_projectivea_42 P) := by
  unfold bX9_projectivea_42
  exact sm_ireturn (pc := 42) dX9_projective_42 rfl
noncomputable def bX9_projectivea_39 {d : Nat} (P : zP d) (j42 : zK d) : zK d := (xpI 4294966295 j42)
set_option maxRecDepth 100000 in
set_option maxHeartbeats 4000000 in
theorem sbX9_projectivea_39 {d : Nat} [zGh] (P : zP d) (j42 : zK d) (hj42 : zSimJ 1 X_X9_projective 3 P 42 j42) : zSim X_X9_projective 3 P 39 (bX9_projectivea_39 P j42) := by
  unfold bX9_projectivea_39
  refine sm_sipush (pc := 39) dX9_projective_39 zc_s_m1001 ?_
  exact hj42.use
noncomputable def b_X9_projectivea {d : Nat} (P : zP d) : zK d := (xald 0 (xild 1 (xcV 25 2 0 0 (zstr f_X9_isParta) (xjoin (bX9_projectivea_42 P) (fun j42 => (xjoin (bX9_projectivea_39 P j42) (fun j39 => (xif0S teqR rlEq rhEq rlNe rhNe j39 (xald 0 (xild 2 (xcV 25 2 0 0 (zstr f_X9_isParta) (xif0S teqR rlEq rhEq rlNe rhNe j39 (xald 0 (xgfR 25 7 (xild 1 (xalQ 1 (xif0S teqR rlEq rhEq rlNe rhNe j39 (xald 0 (xgfR 25 40 (xpI 11 (xild 1 (xbin zmulR (xild 2 (xbin zaddR (xalQ 0 j42)))))))))))))))))))))))))
set_option maxRecDepth 100000 in
set_option maxHeartbeats 4000000 in
theorem s_X9_projectivea {d : Nat} [zGh] (P : zP d) : zSim X_X9_projective 3 P 0 (b_X9_projectivea P) := by
  unfold b_X9_projectivea
  refine sm_aload_n (pc := 0) (n := 0) dX9_projective_0 rfl ?_
  refine sm_iload_n (pc := 1) (n := 1) dX9_projective_1 rfl ?_
  refine sm_cV (pc := 2) (ci := 9) (n := 2) (mc := 0) (ms := 0) rfl (zMet_str m_X9_isParta) (cr_X9_287 (X := X_X9_projective) (fr := 3) (frc := 2) (pc := 2) (mc := 0) (ms := 0) rfl (by decide) dX9_projective_2) ?_
  refine sm_joinJ (pc := 5) (pc' := 42) (j := 1) (fun G0 hG0 => @sbX9_projectivea_42 d G0 P) (fun j42 hj42 => ?_)
  refine sm_joinJ (pc := 5) (pc' := 39) (j := 1) (fun G0 hG0 => @sbX9_projectivea_39 d G0 P j42 (hj42.mv hG0 (by decide))) (fun j39 hj39 => ?_)
  refine sm_ifS_eq (pc := 5) (tgt := 39) dX9_projective_5 (by decide) ?_ ?_
  · skip
    exact hj39.use
  · skip
    refine sm_aload_n (pc := 8) (n := 0) dX9_projective_8 rfl ?_
    refine sm_iload_n (pc := 9) (n := 2) dX9_projective_9 rfl ?_
    refine sm_cV (pc := 10) (ci := 9) (n := 2) (mc := 0) (ms := 0) rfl (zMet_str m_X9_isParta) (cr_X9_287 (X := X_X9_projective) (fr := 3) (frc := 2) (pc := 10) (mc := 0) (ms := 0) rfl (by decide) dX9_projective_10) ?_
    refine sm_ifS_eq (pc := 13) (tgt := 39) dX9_projective_13 (by decide) ?_ ?_
    · skip
      exact hj39.use
    · skip
      refine sm_aload_n (pc := 16) (n := 0) dX9_projective_16 rfl ?_
      refine gf_X9_22 (pc := 17) rfl dX9_projective_17 ?_
      refine sm_iload_n (pc := 20) (n := 1) dX9_projective_20 rfl ?_
      refine sm_baloadQ (pc := 21) dX9_projective_21 ?_
      refine sm_ifS_eq (pc := 22) (tgt := 39) dX9_projective_22 (by decide) ?_ ?_
      · skip
        exact hj39.use
      · skip
        refine sm_aload_n (pc := 25) (n := 0) dX9_projective_25 rfl ?_
        refine gf_X9_105 (pc := 26) rfl dX9_projective_26 ?_
        refine sm_bipush (pc := 29) dX9_projective_29 zc_b_11 ?_
        refine sm_iload_n (pc := 31) (n := 1) dX9_projective_31 rfl ?_
        refine sm_imulR (pc := 32) dX9_projective_32 ?_
        refine sm_iload_n (pc := 33) (n := 2) dX9_projective_33 rfl ?_
        refine sm_iaddR (pc := 34) dX9_projective_34 ?_
        refine sm_ialoadQ (pc := 35) dX9_projective_35 ?_
        refine sm_goto (pc := 36) (tgt := 42) dX9_projective_36 (by decide) ?_
        exact hj42.use
noncomputable def f_X9_projectivea {d : Nat} : List zV → zH d → zP d → Bool := zfn 3 b_X9_projectivea
theorem m_X9_projectivea {d : Nat} : zMet (d := d) X_X9_projective yX9_projective 3 f_X9_projectivea := zmet_mk (X := X_X9_projective) (by decide) rfl rfl s_X9_projectivea

noncomputable def bX9_decompositiona_36 {d : Nat} (P : zP d) : zK d := (xiret P)
set_option maxRecDepth 100000 in
set_option maxHeartbeats 4000000 in
theorem sbX9_decompositiona_36 {d : Nat} [zGh] (P : zP d) : zSim X_X9_decomposition 4 P 36 (bX9_decompositiona_36 P) := by
  unfold bX9_decompositiona_36
  exact sm_ireturn (pc := 36) dX9_decomposition_36 rfl
noncomputable def bX9_decompositiona_35 {d : Nat} (P : zP d) (j36 : zK d) : zK d := (xpI 4294967295 j36)
set_option maxRecDepth 100000 in
set_option maxHeartbeats 4000000 in
theorem sbX9_decompositiona_35 {d : Nat} [zGh] (P : zP d) (j36 : zK d) (hj36 : zSimJ 1 X_X9_decomposition 4 P 36 j36) : zSim X_X9_decomposition 4 P 35 (bX9_decompositiona_35 P j36) := by
  unfold bX9_decompositiona_35
  refine sm_iconst (pc := 35) dX9_decomposition_35 zc_i_m1 ?_
  exact hj36.use
noncomputable def b_X9_decompositiona {d : Nat} (P : zP d) : zK d := (xald 0 (xild 1 (xcV 25 2 0 0 (zstr f_X9_isParta) (xjoin (bX9_decompositiona_36 P) (fun j36 => (xjoin (bX9_decompositiona_35 P j36) (fun j35 => (xif0S teqR rlEq rhEq rlNe rhNe j35 (xald 0 (xild 2 (xcV 25 2 0 0 (zstr f_X9_isRegularOnea) (xif0S teqR rlEq rhEq rlNe rhNe j35 (xald 0 (xgfR 25 38 (xpI 11 (xild 1 (xbin zmulR (xald 0 (xgfR 25 10 (xild 2 (xalQ 0 (xbin zaddR (xalQ 0 j36)))))))))))))))))))))))
set_option maxRecDepth 100000 in
set_option maxHeartbeats 4000000 in
theorem s_X9_decompositiona {d : Nat} [zGh] (P : zP d) : zSim X_X9_decomposition 4 P 0 (b_X9_decompositiona P) := by
  unfold b_X9_decompositiona
  refine sm_aload_n (pc := 0) (n := 0) dX9_decomposition_0 rfl ?_
  refine sm_iload_n (pc := 1) (n := 1) dX9_decomposition_1 rfl ?_
  refine sm_cV (pc := 2) (ci := 9) (n := 2) (mc := 0) (ms := 0) rfl (zMet_str m_X9_isParta) (cr_X9_287 (X := X_X9_decomposition) (fr := 4) (frc := 2) (pc := 2) (mc := 0) (ms := 0) rfl (by decide) dX9_decomposition_2) ?_
  refine sm_joinJ (pc := 5) (pc' := 36) (j := 1) (fun G0 hG0 => @sbX9_decompositiona_36 d G0 P) (fun j36 hj36 => ?_)
  refine sm_joinJ (pc := 5) (pc' := 35) (j := 1) (fun G0 hG0 => @sbX9_decompositiona_35 d G0 P j36 (hj36.mv hG0 (by decide))) (fun j35 hj35 => ?_)
  refine sm_ifS_eq (pc := 5) (tgt := 35) dX9_decomposition_5 (by decide) ?_ ?_
  · skip
    exact hj35.use
  · skip
    refine sm_aload_n (pc := 8) (n := 0) dX9_decomposition_8 rfl ?_
    refine sm_iload_n (pc := 9) (n := 2) dX9_decomposition_9 rfl ?_
    refine sm_cV (pc := 10) (ci := 9) (n := 2) (mc := 0) (ms := 0) rfl (zMet_str m_X9_isRegularOnea) (cr_X9_303 (X := X_X9_decomposition) (fr := 4) (frc := 3) (pc := 10) (mc := 0) (ms := 0) rfl (by decide) dX9_decomposition_10) ?_
    refine sm_ifS_eq (pc := 13) (tgt := 35) dX9_decomposition_13 (by decide) ?_ ?_
    · skip
      exact hj35.use
    · skip
      refine sm_aload_n (pc := 16) (n := 0) dX9_decomposition_16 rfl ?_
      refine gf_X9_99 (pc := 17) rfl dX9_decomposition_17 ?_
      refine sm_bipush (pc := 20) dX9_decomposition_20 zc_b_11 ?_
      refine sm_iload_n (pc := 22) (n := 1) dX9_decomposition_22 rfl ?_
      refine sm_imulR (pc := 23) dX9_decomposition_23 ?_
      refine sm_aload_n (pc := 24) (n := 0) dX9_decomposition_24 rfl ?_
      refine gf_X9_32 (pc := 25) rfl dX9_decomposition_25 ?_
      refine sm_iload_n (pc := 28) (n := 2) dX9_decomposition_28 rfl ?_
      refine sm_ialoadQ (pc := 29) dX9_decomposition_29 ?_
      refine sm_iaddR (pc := 30) dX9_decomposition_30 ?_
      refine sm_ialoadQ (pc := 31) dX9_decomposition_31 ?_
      refine sm_goto (pc := 32) (tgt := 36) dX9_decomposition_32 (by decide) ?_
      exact hj36.use
noncomputable def f_X9_decompositiona {d : Nat} : List zV → zH d → zP d → Bool := zfn 3 b_X9_decompositiona
theorem m_X9_decompositiona {d : Nat} : zMet (d := d) X_X9_decomposition yX9_decomposition 4 f_X9_decompositiona := zmet_mk (X := X_X9_decomposition) (by decide) rfl rfl s_X9_decompositiona

noncomputable def bX9_cartana_26 {d : Nat} (P : zP d) : zK d := (xiret P)
set_option maxRecDepth 100000 in
set_option maxHeartbeats 4000000 in
theorem sbX9_cartana_26 {d : Nat} [zGh] (P : zP d) : zSim X_X9_cartan 4 P 26 (bX9_cartana_26 P) := by
  unfold bX9_cartana_26
  exact sm_ireturn (pc := 26) dX9_cartan_26 rfl
noncomputable def bX9_cartana_25 {d : Nat} (P : zP d) (j26 : zK d) : zK d := (xpI 4294967295 j26)
set_option maxRecDepth 100000 in
set_option maxHeartbeats 4000000 in
theorem sbX9_cartana_25 {d : Nat} [zGh] (P : zP d) (j26 : zK d) (hj26 : zSimJ 1 X_X9_cartan 4 P 26 j26) : zSim X_X9_cartan 4 P 25 (bX9_cartana_25 P j26) := by
  unfold bX9_cartana_25
  refine sm_iconst (pc := 25) dX9_cartan_25 zc_i_m1 ?_
  exact hj26.use
noncomputable def b_X9_cartana {d : Nat} (P : zP d) : zK d := (xald 0 (xild 1 (xcV 25 2 0 0 (zstr f_X9_isRegularOnea) (xjoin (bX9_cartana_26 P) (fun j26 => (xjoin (bX9_cartana_25 P j26) (fun j25 => (xif0S teqR rlEq rhEq rlNe rhNe j25 (xald 0 (xild 2 (xcV 25 2 0 0 (zstr f_X9_isRegularOnea) (xif0S teqR rlEq rhEq rlNe rhNe j25 (xald 0 (xild 1 (xild 2 (xcV 25 3 0 0 (zstr f_X9_cartanOf) j26))))))))))))))))
set_option maxRecDepth 100000 in
set_option maxHeartbeats 4000000 in
theorem s_X9_cartana {d : Nat} [zGh] (P : zP d) : zSim X_X9_cartan 4 P 0 (b_X9_cartana P) := by
  unfold b_X9_cartana
  refine sm_aload_n (pc := 0) (n := 0) dX9_cartan_0 rfl ?_
  refine sm_iload_n (pc := 1) (n := 1) dX9_cartan_1 rfl ?_
  refine sm_cV (pc := 2) (ci := 9) (n := 2) (mc := 0) (ms := 0) rfl (zMet_str m_X9_isRegularOnea) (cr_X9_303 (X := X_X9_cartan) (fr := 4) (frc := 3) (pc := 2) (mc := 0) (ms := 0) rfl (by decide) dX9_cartan_2) ?_
  refine sm_joinJ (pc := 5) (pc' := 26) (j := 1) (fun G0 hG0 => @sbX9_cartana_26 d G0 P) (fun j26 hj26 => ?_)
  refine sm_joinJ (pc := 5) (pc' := 25) (j := 1) (fun G0 hG0 => @sbX9_cartana_25 d G0 P j26 (hj26.mv hG0 (by decide))) (fun j25 hj25 => ?_)
  refine sm_ifS_eq (pc := 5) (tgt := 25) dX9_cartan_5 (by decide) ?_ ?_
  · skip
    exact hj25.use
  · skip
    refine sm_aload_n (pc := 8) (n := 0) dX9_cartan_8 rfl ?_
    refine sm_iload_n (pc := 9) (n := 2) dX9_cartan_9 rfl ?_
    refine sm_cV (pc := 10) (ci := 9) (n := 2) (mc := 0) (ms := 0) rfl (zMet_str m_X9_isRegularOnea) (cr_X9_303 (X := X_X9_cartan) (fr := 4) (frc := 3) (pc := 10) (mc := 0) (ms := 0) rfl (by decide) dX9_cartan_10) ?_
    refine sm_ifS_eq (pc := 13) (tgt := 25) dX9_cartan_13 (by decide) ?_ ?_
    · skip
      exact hj25.use
    · skip
      refine sm_aload_n (pc := 16) (n := 0) dX9_cartan_16 rfl ?_
      refine sm_iload_n (pc := 17) (n := 1) dX9_cartan_17 rfl ?_
      refine sm_iload_n (pc := 18) (n := 2) dX9_cartan_18 rfl ?_
      refine sm_cV (pc := 19) (ci := 9) (n := 3) (mc := 0) (ms := 0) rfl (zMet_str m_X9_cartanOf) (cr_X9_306 (X := X_X9_cartan) (fr := 4) (frc := 1) (pc := 19) (mc := 0) (ms := 0) rfl (by decide) dX9_cartan_19) ?_
      refine sm_goto (pc := 22) (tgt := 26) dX9_cartan_22 (by decide) ?_
      exact hj26.use
noncomputable def f_X9_cartana {d : Nat} : List zV → zH d → zP d → Bool := zfn 3 b_X9_cartana
theorem m_X9_cartana {d : Nat} : zMet (d := d) X_X9_cartan yX9_cartan 4 f_X9_cartana := zmet_mk (X := X_X9_cartan) (by decide) rfl rfl s_X9_cartana

noncomputable def bX9_tableaua_71 {d : Nat} (P : zP d) : zK d := (xpI 4294967295 (xiret P))
set_option maxRecDepth 100000 in
set_option maxHeartbeats 4000000 in
theorem sbX9_tableaua_71 {d : Nat} [zGh] (P : zP d) : zSim X_X9_tableau 3 P 71 (bX9_tableaua_71 P) := by
  unfold bX9_tableaua_71
  refine sm_iconst (pc := 71) dX9_tableau_71 zc_i_m1 ?_
  exact sm_ireturn (pc := 72) dX9_tableau_72 rfl
noncomputable def cX9_tableaua_91 {d : Nat} (P : zP d) : zK d := (xbin zaddR (xbin zmulR (xald 0 (xild 3 (xild 4 (xcV 25 3 0 0 (zstr f_X9_cellAt) (xbin zaddR (xalQ 0 (xiret P)))))))))
set_option maxRecDepth 100000 in
set_option maxHeartbeats 4000000 in
theorem scX9_tableaua_91 {d : Nat} [zGh] (P : zP d) : zSim X_X9_tableau 3 P 91 (cX9_tableaua_91 P) := by
  unfold cX9_tableaua_91
  refine sm_iaddR (pc := 91) dX9_tableau_91 ?_
  refine sm_imulR (pc := 92) dX9_tableau_92 ?_
  refine sm_aload_n (pc := 93) (n := 0) dX9_tableau_93 rfl ?_
  refine sm_iload_n (pc := 94) (n := 3) dX9_tableau_94 rfl ?_
  refine sm_iload (pc := 95) (n := 4) dX9_tableau_95 ?_
  refine sm_cV (pc := 97) (ci := 9) (n := 3) (mc := 0) (ms := 0) rfl (zMet_str m_X9_cellAt) (cr_X9_214 (X := X_X9_tableau) (fr := 3) (frc := 2) (pc := 97) (mc := 0) (ms := 0) rfl (by decide) dX9_tableau_97) ?_
  refine sm_iaddR (pc := 100) dX9_tableau_100 ?_
  refine sm_ialoadQ (pc := 101) dX9_tableau_101 ?_
  exact sm_ireturn (pc := 102) dX9_tableau_102 rfl
noncomputable def cX9_tableaua_49 {d : Nat} (P : zP d) (j71 : zK d) : zK d := (xif0S teqR rlEq rhEq rlNe rhNe j71 (xild 4 (xi2lR (xpL 0 (xald 0 (xild 1 (xild 3 (xcV 25 3 0 0 (zstr f_X9_partOfa) (xpI 1 (xbin zsubR (xi2lR (xcS 3 0 0 (zstr f_X9_isIna) (xif0S teqR rlEq rhEq rlNe rhNe j71 (xald 0 (xild 1 (xpfI 25 25 (xald 0 (xgfR 25 22 (xpI 6 (xald 0 (xgfR 25 20 (xild 1 (xalQ 0 (xild 2 (cX9_tableaua_91 P)))))))))))))))))))))))))
set_option maxRecDepth 100000 in
set_option maxHeartbeats 4000000 in
theorem scX9_tableaua_49 {d : Nat} [zGh] (P : zP d) (j71 : zK d) (hj71 : zSimJ 1 X_X9_tableau 3 P 71 j71) : zSim X_X9_tableau 3 P 49 (cX9_tableaua_49 P j71) := by
  unfold cX9_tableaua_49
  refine sm_ifS_eq (pc := 49) (tgt := 71) dX9_tableau_49 (by decide) ?_ ?_
  · skip
    exact hj71.use
  · skip
    refine sm_iload (pc := 52) (n := 4) dX9_tableau_52 ?_
    refine sm_i2lR (pc := 54) dX9_tableau_54 ?_
    refine sm_lconst (pc := 55) dX9_tableau_55 zc_l_0 ?_
    refine sm_aload_n (pc := 56) (n := 0) dX9_tableau_56 rfl ?_
    refine sm_iload_n (pc := 57) (n := 1) dX9_tableau_57 rfl ?_
    refine sm_iload_n (pc := 58) (n := 3) dX9_tableau_58 rfl ?_
    refine sm_cV (pc := 59) (ci := 9) (n := 3) (mc := 0) (ms := 0) rfl (zMet_str m_X9_partOfa) (cr_X9_175 (X := X_X9_tableau) (fr := 3) (frc := 1) (pc := 59) (mc := 0) (ms := 0) rfl (by decide) dX9_tableau_59) ?_
    refine sm_iconst (pc := 62) dX9_tableau_62 zc_i_1 ?_
    refine sm_isubR (pc := 63) dX9_tableau_63 ?_
    refine sm_i2lR (pc := 64) dX9_tableau_64 ?_
    refine sm_cS (pc := 65) (n := 3) (mc := 0) (ms := 0) (zMet_str m_X9_isIna) (cr_X9_283 (X := X_X9_tableau) (fr := 3) (frc := 1) (pc := 65) (mc := 0) (ms := 0) rfl (by decide) dX9_tableau_65) ?_
    refine sm_ifS_ne (pc := 68) (tgt := 73) dX9_tableau_68 (by decide) ?_ ?_
    · skip
      refine sm_aload_n (pc := 73) (n := 0) dX9_tableau_73 rfl ?_
      refine sm_iload_n (pc := 74) (n := 1) dX9_tableau_74 rfl ?_
      refine pf_X9_205 (pc := 75) rfl dX9_tableau_75 ?_
      refine sm_aload_n (pc := 78) (n := 0) dX9_tableau_78 rfl ?_
      refine gf_X9_59 (pc := 79) rfl dX9_tableau_79 ?_
      refine sm_bipush (pc := 82) dX9_tableau_82 zc_b_6 ?_
      refine sm_aload_n (pc := 84) (n := 0) dX9_tableau_84 rfl ?_
      refine gf_X9_53 (pc := 85) rfl dX9_tableau_85 ?_
      refine sm_iload_n (pc := 88) (n := 1) dX9_tableau_88 rfl ?_
      refine sm_ialoadQ (pc := 89) dX9_tableau_89 ?_
      refine sm_iload_n (pc := 90) (n := 2) dX9_tableau_90 rfl ?_
      exact scX9_tableaua_91 P
    · skip
      exact hj71.use
noncomputable def b_X9_tableaua {d : Nat} (P : zP d) : zK d := (xald 0 (xild 1 (xcV 25 2 0 0 (zstr f_X9_isParta) (xif0S teqR rlEq rhEq rlNe rhNe (xpI 4294967295 (xiret P)) (xild 3 (xpI 4294967295 (xcmpS teqR rlEq rhEq rlNe rhNe (xald 0 (xgfR 25 21 (xild 1 (xalQ 0 (xiret P))))) (xild 2 (xi2lR (xpL 0 (xald 0 (xgfR 25 21 (xild 1 (xalQ 0 (xpI 1 (xbin zsubR (xi2lR (xcS 3 0 0 (zstr f_X9_isIna) (xjoin (bX9_tableaua_71 P) (fun j71 => (xif0S teqR rlEq rhEq rlNe rhNe j71 (xild 3 (xi2lR (xpL 0 (xpL 5 (xcS 3 0 0 (zstr f_X9_isIna) (cX9_tableaua_49 P j71)))))))))))))))))))))))))))
set_option maxRecDepth 100000 in
set_option maxHeartbeats 4000000 in
theorem s_X9_tableaua {d : Nat} [zGh] (P : zP d) : zSim X_X9_tableau 3 P 0 (b_X9_tableaua P) := by
  unfold b_X9_tableaua
  refine sm_aload_n (pc := 0) (n := 0) dX9_tableau_0 rfl ?_
  refine sm_iload_n (pc := 1) (n := 1) dX9_tableau_1 rfl ?_
  refine sm_cV (pc := 2) (ci := 9) (n := 2) (mc := 0) (ms := 0) rfl (zMet_str m_X9_isParta) (cr_X9_287 (X := X_X9_tableau) (fr := 3) (frc := 2) (pc := 2) (mc := 0) (ms := 0) rfl (by decide) dX9_tableau_2) ?_
  refine sm_ifS_ne (pc := 5) (tgt := 10) dX9_tableau_5 (by decide) ?_ ?_
  · skip
    refine sm_iload_n (pc := 10) (n := 3) dX9_tableau_10 rfl ?_
    refine sm_iconst (pc := 11) dX9_tableau_11 zc_i_m1 ?_
    refine sm_icmpS_ne (pc := 12) (tgt := 22) dX9_tableau_12 (by decide) ?_ ?_
    · skip
      refine sm_iload_n (pc := 22) (n := 2) dX9_tableau_22 rfl ?_
      refine sm_i2lR (pc := 23) dX9_tableau_23 ?_
      refine sm_lconst (pc := 24) dX9_tableau_24 zc_l_0 ?_
      refine sm_aload_n (pc := 25) (n := 0) dX9_tableau_25 rfl ?_
      refine gf_X9_56 (pc := 26) rfl dX9_tableau_26 ?_
      refine sm_iload_n (pc := 29) (n := 1) dX9_tableau_29 rfl ?_
      refine sm_ialoadQ (pc := 30) dX9_tableau_30 ?_
      refine sm_iconst (pc := 31) dX9_tableau_31 zc_i_1 ?_
      refine sm_isubR (pc := 32) dX9_tableau_32 ?_
      refine sm_i2lR (pc := 33) dX9_tableau_33 ?_
      refine sm_cS (pc := 34) (n := 3) (mc := 0) (ms := 0) (zMet_str m_X9_isIna) (cr_X9_283 (X := X_X9_tableau) (fr := 3) (frc := 1) (pc := 34) (mc := 0) (ms := 0) rfl (by decide) dX9_tableau_34) ?_
      refine sm_joinJ (pc := 37) (pc' := 71) (j := 1) (fun G0 hG0 => @sbX9_tableaua_71 d G0 P) (fun j71 hj71 => ?_)
      refine sm_ifS_eq (pc := 37) (tgt := 71) dX9_tableau_37 (by decide) ?_ ?_
      · skip
        exact hj71.use
      · skip
        refine sm_iload_n (pc := 40) (n := 3) dX9_tableau_40 rfl ?_
        refine sm_i2lR (pc := 41) dX9_tableau_41 ?_
        refine sm_lconst (pc := 42) dX9_tableau_42 zc_l_0 ?_
        refine sm_ldc2 (pc := 43) dX9_tableau_43 wd_1247 zc_cl_5 ?_
        refine sm_cS (pc := 46) (n := 3) (mc := 0) (ms := 0) (zMet_str m_X9_isIna) (cr_X9_283 (X := X_X9_tableau) (fr := 3) (frc := 1) (pc := 46) (mc := 0) (ms := 0) rfl (by decide) dX9_tableau_46) ?_
        exact scX9_tableaua_49 P j71 hj71
    · skip
      refine sm_aload_n (pc := 15) (n := 0) dX9_tableau_15 rfl ?_
      refine gf_X9_56 (pc := 16) rfl dX9_tableau_16 ?_
      refine sm_iload_n (pc := 19) (n := 1) dX9_tableau_19 rfl ?_
      refine sm_ialoadQ (pc := 20) dX9_tableau_20 ?_
      exact sm_ireturn (pc := 21) dX9_tableau_21 rfl
  · skip
    refine sm_iconst (pc := 8) dX9_tableau_8 zc_i_m1 ?_
    exact sm_ireturn (pc := 9) dX9_tableau_9 rfl
noncomputable def f_X9_tableaua {d : Nat} : List zV → zH d → zP d → Bool := zfn 5 b_X9_tableaua
theorem m_X9_tableaua {d : Nat} : zMet (d := d) X_X9_tableau yX9_tableau 3 f_X9_tableaua := zmet_mk (X := X_X9_tableau) (by decide) rfl rfl s_X9_tableaua

noncomputable def bX9_grama_67 {d : Nat} (P : zP d) : zK d := (xiret P)
set_option maxRecDepth 100000 in
set_option maxHeartbeats 4000000 in
theorem sbX9_grama_67 {d : Nat} [zGh] (P : zP d) : zSim X_X9_gram 3 P 67 (bX9_grama_67 P) := by
  unfold bX9_grama_67
  exact sm_ireturn (pc := 67) dX9_gram_67 rfl
noncomputable def bX9_grama_64 {d : Nat} (P : zP d) (j67 : zK d) : zK d := (xpI 4294966295 j67)
set_option maxRecDepth 100000 in
set_option maxHeartbeats 4000000 in
theorem sbX9_grama_64 {d : Nat} [zGh] (P : zP d) (j67 : zK d) (hj67 : zSimJ 1 X_X9_gram 3 P 67 j67) : zSim X_X9_gram 3 P 64 (bX9_grama_64 P j67) := by
  unfold bX9_grama_64
  refine sm_sipush (pc := 64) dX9_gram_64 zc_s_m1001 ?_
  exact hj67.use
noncomputable def cX9_grama_36 {d : Nat} (P : zP d) (j64 : zK d) (j67 : zK d) : zK d := (xbin zsubR (xi2lR (xcS 3 0 0 (zstr f_X9_isIna) (xif0S teqR rlEq rhEq rlNe rhNe j64 (xald 0 (xgfR 25 35 (xpI 256 (xild 1 (xbin zmulR (xpI 16 (xild 2 (xbin zmulR (xbin zaddR (xild 3 (xbin zaddR (xalQ 0 j67))))))))))))))))
set_option maxRecDepth 100000 in
set_option maxHeartbeats 4000000 in
theorem scX9_grama_36 {d : Nat} [zGh] (P : zP d) (j64 : zK d) (j67 : zK d) (hj64 : zSimJ 1 X_X9_gram 3 P 64 j64) (hj67 : zSimJ 1 X_X9_gram 3 P 67 j67) : zSim X_X9_gram 3 P 36 (cX9_grama_36 P j64 j67) := by
  unfold cX9_grama_36
  refine sm_isubR (pc := 36) dX9_gram_36 ?_
  refine sm_i2lR (pc := 37) dX9_gram_37 ?_
  refine sm_cS (pc := 38) (n := 3) (mc := 0) (ms := 0) (zMet_str m_X9_isIna) (cr_X9_283 (X := X_X9_gram) (fr := 3) (frc := 1) (pc := 38) (mc := 0) (ms := 0) rfl (by decide) dX9_gram_38) ?_
  refine sm_ifS_eq (pc := 41) (tgt := 64) dX9_gram_41 (by decide) ?_ ?_
  · skip
    exact hj64.use
  · skip
    refine sm_aload_n (pc := 44) (n := 0) dX9_gram_44 rfl ?_
    refine gf_X9_90 (pc := 45) rfl dX9_gram_45 ?_
    refine sm_sipush (pc := 48) dX9_gram_48 zc_s_256 ?_
    refine sm_iload_n (pc := 51) (n := 1) dX9_gram_51 rfl ?_
    refine sm_imulR (pc := 52) dX9_gram_52 ?_
    refine sm_bipush (pc := 53) dX9_gram_53 zc_b_16 ?_
    refine sm_iload_n (pc := 55) (n := 2) dX9_gram_55 rfl ?_
    refine sm_imulR (pc := 56) dX9_gram_56 ?_
    refine sm_iaddR (pc := 57) dX9_gram_57 ?_
    refine sm_iload_n (pc := 58) (n := 3) dX9_gram_58 rfl ?_
    refine sm_iaddR (pc := 59) dX9_gram_59 ?_
    refine sm_ialoadQ (pc := 60) dX9_gram_60 ?_
    refine sm_goto (pc := 61) (tgt := 67) dX9_gram_61 (by decide) ?_
    exact hj67.use
noncomputable def b_X9_grama {d : Nat} (P : zP d) : zK d := (xald 0 (xild 1 (xcV 25 2 0 0 (zstr f_X9_isParta) (xjoin (bX9_grama_67 P) (fun j67 => (xjoin (bX9_grama_64 P j67) (fun j64 => (xif0S teqR rlEq rhEq rlNe rhNe j64 (xild 2 (xi2lR (xpL 0 (xald 0 (xgfR 25 21 (xild 1 (xalQ 0 (xpI 1 (xbin zsubR (xi2lR (xcS 3 0 0 (zstr f_X9_isIna) (xif0S teqR rlEq rhEq rlNe rhNe j64 (xild 3 (xi2lR (xpL 0 (xald 0 (xgfR 25 21 (xild 1 (xalQ 0 (xpI 1 (cX9_grama_36 P j64 j67)))))))))))))))))))))))))))))
set_option maxRecDepth 100000 in
set_option maxHeartbeats 4000000 in
theorem s_X9_grama {d : Nat} [zGh] (P : zP d) : zSim X_X9_gram 3 P 0 (b_X9_grama P) := by
  unfold b_X9_grama
  refine sm_aload_n (pc := 0) (n := 0) dX9_gram_0 rfl ?_
  refine sm_iload_n (pc := 1) (n := 1) dX9_gram_1 rfl ?_
  refine sm_cV (pc := 2) (ci := 9) (n := 2) (mc := 0) (ms := 0) rfl (zMet_str m_X9_isParta) (cr_X9_287 (X := X_X9_gram) (fr := 3) (frc := 2) (pc := 2) (mc := 0) (ms := 0) rfl (by decide) dX9_gram_2) ?_
  refine sm_joinJ (pc := 5) (pc' := 67) (j := 1) (fun G0 hG0 => @sbX9_grama_67 d G0 P) (fun j67 hj67 => ?_)
  refine sm_joinJ (pc := 5) (pc' := 64) (j := 1) (fun G0 hG0 => @sbX9_grama_64 d G0 P j67 (hj67.mv hG0 (by decide))) (fun j64 hj64 => ?_)
  refine sm_ifS_eq (pc := 5) (tgt := 64) dX9_gram_5 (by decide) ?_ ?_
  · skip
    exact hj64.use
  · skip
    refine sm_iload_n (pc := 8) (n := 2) dX9_gram_8 rfl ?_
    refine sm_i2lR (pc := 9) dX9_gram_9 ?_
    refine sm_lconst (pc := 10) dX9_gram_10 zc_l_0 ?_
    refine sm_aload_n (pc := 11) (n := 0) dX9_gram_11 rfl ?_
    refine gf_X9_56 (pc := 12) rfl dX9_gram_12 ?_
    refine sm_iload_n (pc := 15) (n := 1) dX9_gram_15 rfl ?_
    refine sm_ialoadQ (pc := 16) dX9_gram_16 ?_
    refine sm_iconst (pc := 17) dX9_gram_17 zc_i_1 ?_
    refine sm_isubR (pc := 18) dX9_gram_18 ?_
    refine sm_i2lR (pc := 19) dX9_gram_19 ?_
    refine sm_cS (pc := 20) (n := 3) (mc := 0) (ms := 0) (zMet_str m_X9_isIna) (cr_X9_283 (X := X_X9_gram) (fr := 3) (frc := 1) (pc := 20) (mc := 0) (ms := 0) rfl (by decide) dX9_gram_20) ?_
    refine sm_ifS_eq (pc := 23) (tgt := 64) dX9_gram_23 (by decide) ?_ ?_
    · skip
      exact hj64.use
    · skip
      refine sm_iload_n (pc := 26) (n := 3) dX9_gram_26 rfl ?_
      refine sm_i2lR (pc := 27) dX9_gram_27 ?_
      refine sm_lconst (pc := 28) dX9_gram_28 zc_l_0 ?_
      refine sm_aload_n (pc := 29) (n := 0) dX9_gram_29 rfl ?_
      refine gf_X9_56 (pc := 30) rfl dX9_gram_30 ?_
      refine sm_iload_n (pc := 33) (n := 1) dX9_gram_33 rfl ?_
      refine sm_ialoadQ (pc := 34) dX9_gram_34 ?_
      refine sm_iconst (pc := 35) dX9_gram_35 zc_i_1 ?_
      exact scX9_grama_36 P j64 j67 hj64 hj67
noncomputable def f_X9_grama {d : Nat} : List zV → zH d → zP d → Bool := zfn 4 b_X9_grama
theorem m_X9_grama {d : Nat} : zMet (d := d) X_X9_gram yX9_gram 3 f_X9_grama := zmet_mk (X := X_X9_gram) (by decide) rfl rfl s_X9_grama

noncomputable def bX9_blocka_229 {d : Nat} (P : zP d) : zK d := (xpI 4294967295 (xiret P))
set_option maxRecDepth 100000 in
set_option maxHeartbeats 4000000 in
theorem sbX9_blocka_229 {d : Nat} [zGh] (P : zP d) : zSim X_X9_block 2 P 229 (bX9_blocka_229 P) := by
  unfold bX9_blocka_229
  refine sm_iconst (pc := 229) dX9_block_229 zc_i_m1 ?_
  exact sm_ireturn (pc := 230) dX9_block_230 rfl
noncomputable def bX9_blocka_120 {d : Nat} (P : zP d) : zK d := (xild 4 (xiret P))
set_option maxRecDepth 100000 in
set_option maxHeartbeats 4000000 in
theorem sbX9_blocka_120 {d : Nat} [zGh] (P : zP d) : zSim X_X9_block 2 P 120 (bX9_blocka_120 P) := by
  unfold bX9_blocka_120
  refine sm_iload (pc := 120) (n := 4) dX9_block_120 ?_
  exact sm_ireturn (pc := 122) dX9_block_122 rfl
noncomputable def bX9_blocka_123 {d : Nat} (P : zP d) : zK d := (xild 3 (xiret P))
set_option maxRecDepth 100000 in
set_option maxHeartbeats 4000000 in
theorem sbX9_blocka_123 {d : Nat} [zGh] (P : zP d) : zSim X_X9_block 2 P 123 (bX9_blocka_123 P) := by
  unfold bX9_blocka_123
  refine sm_iload_n (pc := 123) (n := 3) dX9_block_123 rfl ?_
  exact sm_ireturn (pc := 124) dX9_block_124 rfl
noncomputable def bX9_blocka_125 {d : Nat} (P : zP d) : zK d := (xald 0 (xgfR 25 15 (xald 0 (xgfR 25 19 (xild 1 (xalQ 0 (xalQ 0 (xiret P))))))))
set_option maxRecDepth 100000 in
set_option maxHeartbeats 4000000 in
theorem sbX9_blocka_125 {d : Nat} [zGh] (P : zP d) : zSim X_X9_block 2 P 125 (bX9_blocka_125 P) := by
  unfold bX9_blocka_125
  refine sm_aload_n (pc := 125) (n := 0) dX9_block_125 rfl ?_
  refine gf_X9_41 (pc := 126) rfl dX9_block_126 ?_
  refine sm_aload_n (pc := 129) (n := 0) dX9_block_129 rfl ?_
  refine gf_X9_50 (pc := 130) rfl dX9_block_130 ?_
  refine sm_iload_n (pc := 133) (n := 1) dX9_block_133 rfl ?_
  refine sm_ialoadQ (pc := 134) dX9_block_134 ?_
  refine sm_ialoadQ (pc := 135) dX9_block_135 ?_
  exact sm_ireturn (pc := 136) dX9_block_136 rfl
noncomputable def bX9_blocka_137 {d : Nat} (P : zP d) : zK d := (xald 0 (xald 0 (xgfR 25 15 (xald 0 (xgfR 25 19 (xild 1 (xalQ 0 (xalQ 0 (xcV 25 2 0 0 (zstr f_X9_defect) (xiret P))))))))))
set_option maxRecDepth 100000 in
set_option maxHeartbeats 4000000 in
theorem sbX9_blocka_137 {d : Nat} [zGh] (P : zP d) : zSim X_X9_block 2 P 137 (bX9_blocka_137 P) := by
  unfold bX9_blocka_137
  refine sm_aload_n (pc := 137) (n := 0) dX9_block_137 rfl ?_
  refine sm_aload_n (pc := 138) (n := 0) dX9_block_138 rfl ?_
  refine gf_X9_41 (pc := 139) rfl dX9_block_139 ?_
  refine sm_aload_n (pc := 142) (n := 0) dX9_block_142 rfl ?_
  refine gf_X9_50 (pc := 143) rfl dX9_block_143 ?_
  refine sm_iload_n (pc := 146) (n := 1) dX9_block_146 rfl ?_
  refine sm_ialoadQ (pc := 147) dX9_block_147 ?_
  refine sm_ialoadQ (pc := 148) dX9_block_148 ?_
  refine sm_cV (pc := 149) (ci := 9) (n := 2) (mc := 0) (ms := 0) rfl (zMet_str m_X9_defect) (cr_X9_312 (X := X_X9_block) (fr := 2) (frc := 1) (pc := 149) (mc := 0) (ms := 0) rfl (by decide) dX9_block_149) ?_
  exact sm_ireturn (pc := 152) dX9_block_152 rfl
noncomputable def bX9_blocka_153 {d : Nat} (P : zP d) : zK d := (xald 0 (xgfR 25 19 (xild 1 (xalQ 0 (xiret P)))))
set_option maxRecDepth 100000 in
set_option maxHeartbeats 4000000 in
theorem sbX9_blocka_153 {d : Nat} [zGh] (P : zP d) : zSim X_X9_block 2 P 153 (bX9_blocka_153 P) := by
  unfold bX9_blocka_153
  refine sm_aload_n (pc := 153) (n := 0) dX9_block_153 rfl ?_
  refine gf_X9_50 (pc := 154) rfl dX9_block_154 ?_
  refine sm_iload_n (pc := 157) (n := 1) dX9_block_157 rfl ?_
  refine sm_ialoadQ (pc := 158) dX9_block_158 ?_
  exact sm_ireturn (pc := 159) dX9_block_159 rfl
noncomputable def lX9_blocka_172 {d : Nat} (P : zP d) (r163 : zK d) (r172 : zK d) : zK d := (xild 6 (xild 3 (xcmpS tgeR rlGe rhS rlS rhLt (xincR 5 1 r163) (xald 0 (xgfR 25 41 (xpI 11 (xild 5 (xbin zmulR (xild 6 (xbin zaddR (xald 0 (xald 0 (xgfR 25 42 (xild 5 (xalQ 0 (xald 0 (xgfR 25 42 (xild 6 (xalQ 0 (xcV 25 3 0 0 (zstr f_X9_cartanOf) (xi2lR (xlas (xincR 6 1 r172)))))))))))))))))))))))
set_option maxRecDepth 100000 in
set_option maxHeartbeats 4000000 in
theorem slX9_blocka_172 {d : Nat} [zGh] (P : zP d) (r163 : zK d) (r172 : zK d) (hr163 : zSimJ 1 X_X9_block 2 P 163 r163) (hr172 : zSimJ 1 X_X9_block 2 P 172 r172) : zSim X_X9_block 2 P 172 (lX9_blocka_172 P r163 r172) := by
  unfold lX9_blocka_172
  refine sm_iload (pc := 172) (n := 6) dX9_block_172 ?_
  refine sm_iload_n (pc := 174) (n := 3) dX9_block_174 rfl ?_
  refine sm_icmpS_ge (pc := 175) (tgt := 216) dX9_block_175 (by decide) ?_ ?_
  · skip
    refine sm_iincR (pc := 216) (n := 5) dX9_block_216 zc_i_1 ?_
    refine sm_goto (pc := 219) (tgt := 163) dX9_block_219 (by decide) ?_
    exact hr163.use
  · skip
    refine sm_aload_n (pc := 178) (n := 0) dX9_block_178 rfl ?_
    refine gf_X9_108 (pc := 179) rfl dX9_block_179 ?_
    refine sm_bipush (pc := 182) dX9_block_182 zc_b_11 ?_
    refine sm_iload (pc := 184) (n := 5) dX9_block_184 ?_
    refine sm_imulR (pc := 186) dX9_block_186 ?_
    refine sm_iload (pc := 187) (n := 6) dX9_block_187 ?_
    refine sm_iaddR (pc := 189) dX9_block_189 ?_
    refine sm_aload_n (pc := 190) (n := 0) dX9_block_190 rfl ?_
    refine sm_aload_n (pc := 191) (n := 0) dX9_block_191 rfl ?_
    refine gf_X9_112 (pc := 192) rfl dX9_block_192 ?_
    refine sm_iload (pc := 195) (n := 5) dX9_block_195 ?_
    refine sm_ialoadQ (pc := 197) dX9_block_197 ?_
    refine sm_aload_n (pc := 198) (n := 0) dX9_block_198 rfl ?_
    refine gf_X9_112 (pc := 199) rfl dX9_block_199 ?_
    refine sm_iload (pc := 202) (n := 6) dX9_block_202 ?_
    refine sm_ialoadQ (pc := 204) dX9_block_204 ?_
    refine sm_cV (pc := 205) (ci := 9) (n := 3) (mc := 0) (ms := 0) rfl (zMet_str m_X9_cartanOf) (cr_X9_306 (X := X_X9_block) (fr := 2) (frc := 1) (pc := 205) (mc := 0) (ms := 0) rfl (by decide) dX9_block_205) ?_
    refine sm_i2lR (pc := 208) dX9_block_208 ?_
    refine sm_lastore (pc := 209) dX9_block_209 ?_
    refine sm_iincR (pc := 210) (n := 6) dX9_block_210 zc_i_1 ?_
    refine sm_goto (pc := 213) (tgt := 172) dX9_block_213 (by decide) ?_
    exact hr172.use
noncomputable def lX9_blocka_163 {d : Nat} (P : zP d) (r163 : zK d) : zK d := (xild 5 (xild 3 (xcmpS tgeR rlGe rhS rlS rhLt (xald 0 (xild 3 (xcV 25 2 0 0 (zstr f_X9_determinant) (xl2i (xiret P))))) (xpI 0 (xist 6 (xloop (fun r172 => (lX9_blocka_172 P r163 r172)) 100000))))))
set_option maxRecDepth 100000 in
set_option maxHeartbeats 4000000 in
theorem slX9_blocka_163 {d : Nat} [zGh] (P : zP d) (r163 : zK d) (hr163 : zSimJ 1 X_X9_block 2 P 163 r163) : zSim X_X9_block 2 P 163 (lX9_blocka_163 P r163) := by
  unfold lX9_blocka_163
  refine sm_iload (pc := 163) (n := 5) dX9_block_163 ?_
  refine sm_iload_n (pc := 165) (n := 3) dX9_block_165 rfl ?_
  refine sm_icmpS_ge (pc := 166) (tgt := 222) dX9_block_166 (by decide) ?_ ?_
  · skip
    refine sm_aload_n (pc := 222) (n := 0) dX9_block_222 rfl ?_
    refine sm_iload_n (pc := 223) (n := 3) dX9_block_223 rfl ?_
    refine sm_cV (pc := 224) (ci := 9) (n := 2) (mc := 0) (ms := 0) rfl (zMet_str m_X9_determinant) (cr_X9_315 (X := X_X9_block) (fr := 2) (frc := 1) (pc := 224) (mc := 0) (ms := 0) rfl (by decide) dX9_block_224) ?_
    refine sm_l2i (pc := 227) dX9_block_227 ?_
    exact sm_ireturn (pc := 228) dX9_block_228 rfl
  · skip
    refine sm_iconst (pc := 169) dX9_block_169 zc_i_0 ?_
    refine sm_istore (pc := 170) (n := 6) dX9_block_170 ?_
    exact (sm_loopJ (j := 1) (fun G1 hG1 r172 hr172 => @slX9_blocka_172 d G1 P r163 r172 (hr163.mv hG1 (by decide)) hr172) _).use
noncomputable def bX9_blocka_160 {d : Nat} (P : zP d) : zK d := (xpI 0 (xist 5 (xloop (fun r163 => (lX9_blocka_163 P r163)) 100000)))
set_option maxRecDepth 100000 in
set_option maxHeartbeats 4000000 in
theorem sbX9_blocka_160 {d : Nat} [zGh] (P : zP d) : zSim X_X9_block 2 P 160 (bX9_blocka_160 P) := by
  unfold bX9_blocka_160
  refine sm_iconst (pc := 160) dX9_block_160 zc_i_0 ?_
  refine sm_istore (pc := 161) (n := 5) dX9_block_161 ?_
  exact (sm_loopJ (j := 1) (fun G1 hG1 r163 hr163 => @slX9_blocka_163 d G1 P r163 hr163) _).use
noncomputable def bX9_blocka_67 {d : Nat} (P : zP d) (r40 : zK d) : zK d := (xcS 1 0 0 (zstr f_X9_one) (xbin zaddR (xist 4 (xincR 5 1 r40))))
set_option maxRecDepth 100000 in
set_option maxHeartbeats 4000000 in
theorem sbX9_blocka_67 {d : Nat} [zGh] (P : zP d) (r40 : zK d) (hr40 : zSimJ 1 X_X9_block 2 P 40 r40) : zSim X_X9_block 2 P 67 (bX9_blocka_67 P r40) := by
  unfold bX9_blocka_67
  refine sm_cS (pc := 67) (n := 1) (mc := 0) (ms := 0) (zMet_str m_X9_one) (cr_X9_187 (X := X_X9_block) (fr := 2) (frc := 1) (pc := 67) (mc := 0) (ms := 0) rfl (by decide) dX9_block_67) ?_
  refine sm_iaddR (pc := 70) dX9_block_70 ?_
  refine sm_istore (pc := 71) (n := 4) dX9_block_71 ?_
  refine sm_iincR (pc := 73) (n := 5) dX9_block_73 zc_i_1 ?_
  refine sm_goto (pc := 76) (tgt := 40) dX9_block_76 (by decide) ?_
  exact hr40.use
noncomputable def lX9_blocka_40 {d : Nat} (P : zP d) (r40 : zK d) : zK d := (xild 5 (xald 0 (xgfI 25 2 (xcmpS tgeR rlGe rhS rlS rhLt (xild 2 (xtswR 5 [(bX9_blocka_120 P), (bX9_blocka_123 P), (bX9_blocka_125 P), (bX9_blocka_137 P), (bX9_blocka_153 P), (bX9_blocka_160 P)] (bX9_blocka_229 P))) (xild 4 (xald 0 (xgfR 25 17 (xild 5 (xalQ 0 (xild 1 (xjoin (bX9_blocka_67 P r40) (fun j67 => (xcmpS teqR rlEq rhEq rlNe rhNe (xpI 1 j67) (xpI 0 j67))))))))))))))
set_option maxRecDepth 100000 in
set_option maxHeartbeats 4000000 in
theorem slX9_blocka_40 {d : Nat} [zGh] (P : zP d) (r40 : zK d) (hr40 : zSimJ 1 X_X9_block 2 P 40 r40) : zSim X_X9_block 2 P 40 (lX9_blocka_40 P r40) := by
  unfold lX9_blocka_40
  refine sm_iload (pc := 40) (n := 5) dX9_block_40 ?_
  refine sm_aload_n (pc := 42) (n := 0) dX9_block_42 rfl ?_
  refine gf_X9_153 (pc := 43) rfl dX9_block_43 ?_
  refine sm_icmpS_ge (pc := 46) (tgt := 79) dX9_block_46 (by decide) ?_ ?_
  · skip
    refine sm_iload_n (pc := 79) (n := 2) dX9_block_79 rfl ?_
    exact sm_tswR (pc := 80) (n := 5) (tdf := 229) [120, 123, 125, 137, 153, 160] rfl (by decide) dX9_block_80 rfl (by decide +kernel) (by decide) (sbX9_blocka_229 P) ⟨sbX9_blocka_120 P, sbX9_blocka_123 P, sbX9_blocka_125 P, sbX9_blocka_137 P, sbX9_blocka_153 P, sbX9_blocka_160 P, trivial⟩
  · skip
    refine sm_iload (pc := 49) (n := 4) dX9_block_49 ?_
    refine sm_aload_n (pc := 51) (n := 0) dX9_block_51 rfl ?_
    refine gf_X9_47 (pc := 52) rfl dX9_block_52 ?_
    refine sm_iload (pc := 55) (n := 5) dX9_block_55 ?_
    refine sm_ialoadQ (pc := 57) dX9_block_57 ?_
    refine sm_iload_n (pc := 58) (n := 1) dX9_block_58 rfl ?_
    refine sm_joinJ (pc := 59) (pc' := 67) (j := 1) (fun G0 hG0 => @sbX9_blocka_67 d G0 P r40 (hr40.mv hG0 (by decide))) (fun j67 hj67 => ?_)
    refine sm_icmpS_ne (pc := 59) (tgt := 66) dX9_block_59 (by decide) ?_ ?_
    · skip
      refine sm_iconst (pc := 66) dX9_block_66 zc_i_0 ?_
      exact hj67.use
    · skip
      refine sm_iconst (pc := 62) dX9_block_62 zc_i_1 ?_
      refine sm_goto (pc := 63) (tgt := 67) dX9_block_63 (by decide) ?_
      exact hj67.use
noncomputable def b_X9_blocka {d : Nat} (P : zP d) : zK d := (xild 2 (xpI 4294967295 (xcmpS teqR rlEq rhEq rlNe rhNe (xald 0 (xgfI 25 18 (xiret P))) (xild 1 (xi2lR (xpL 0 (xald 0 (xgfI 25 18 (xpI 1 (xbin zsubR (xi2lR (xcS 3 0 0 (zstr f_X9_isIna) (xif0S teqR rlEq rhEq rlNe rhNe (xpI 4294967295 (xiret P)) (xald 0 (xild 1 (xcV 25 2 0 0 (zstr f_X9_membersOf) (xist 3 (xpI 0 (xist 4 (xpI 0 (xist 5 (xloop (fun r40 => (lX9_blocka_40 P r40)) 100000))))))))))))))))))))))
set_option maxRecDepth 100000 in
set_option maxHeartbeats 4000000 in
theorem s_X9_blocka {d : Nat} [zGh] (P : zP d) : zSim X_X9_block 2 P 0 (b_X9_blocka P) := by
  unfold b_X9_blocka
  refine sm_iload_n (pc := 0) (n := 2) dX9_block_0 rfl ?_
  refine sm_iconst (pc := 1) dX9_block_1 zc_i_m1 ?_
  refine sm_icmpS_ne (pc := 2) (tgt := 10) dX9_block_2 (by decide) ?_ ?_
  · skip
    refine sm_iload_n (pc := 10) (n := 1) dX9_block_10 rfl ?_
    refine sm_i2lR (pc := 11) dX9_block_11 ?_
    refine sm_lconst (pc := 12) dX9_block_12 zc_l_0 ?_
    refine sm_aload_n (pc := 13) (n := 0) dX9_block_13 rfl ?_
    refine gf_X9_199 (pc := 14) rfl dX9_block_14 ?_
    refine sm_iconst (pc := 17) dX9_block_17 zc_i_1 ?_
    refine sm_isubR (pc := 18) dX9_block_18 ?_
    refine sm_i2lR (pc := 19) dX9_block_19 ?_
    refine sm_cS (pc := 20) (n := 3) (mc := 0) (ms := 0) (zMet_str m_X9_isIna) (cr_X9_283 (X := X_X9_block) (fr := 2) (frc := 1) (pc := 20) (mc := 0) (ms := 0) rfl (by decide) dX9_block_20) ?_
    refine sm_ifS_ne (pc := 23) (tgt := 28) dX9_block_23 (by decide) ?_ ?_
    · skip
      refine sm_aload_n (pc := 28) (n := 0) dX9_block_28 rfl ?_
      refine sm_iload_n (pc := 29) (n := 1) dX9_block_29 rfl ?_
      refine sm_cV (pc := 30) (ci := 9) (n := 2) (mc := 0) (ms := 0) rfl (zMet_str m_X9_membersOf) (cr_X9_309 (X := X_X9_block) (fr := 2) (frc := 1) (pc := 30) (mc := 0) (ms := 0) rfl (by decide) dX9_block_30) ?_
      refine sm_istore_n (pc := 33) (n := 3) dX9_block_33 rfl ?_
      refine sm_iconst (pc := 34) dX9_block_34 zc_i_0 ?_
      refine sm_istore (pc := 35) (n := 4) dX9_block_35 ?_
      refine sm_iconst (pc := 37) dX9_block_37 zc_i_0 ?_
      refine sm_istore (pc := 38) (n := 5) dX9_block_38 ?_
      exact (sm_loopJ (j := 1) (fun G1 hG1 r40 hr40 => @slX9_blocka_40 d G1 P r40 hr40) _).use
    · skip
      refine sm_iconst (pc := 26) dX9_block_26 zc_i_m1 ?_
      exact sm_ireturn (pc := 27) dX9_block_27 rfl
  · skip
    refine sm_aload_n (pc := 5) (n := 0) dX9_block_5 rfl ?_
    refine gf_X9_199 (pc := 6) rfl dX9_block_6 ?_
    exact sm_ireturn (pc := 9) dX9_block_9 rfl
noncomputable def f_X9_blocka {d : Nat} : List zV → zH d → zP d → Bool := zfn 7 b_X9_blocka
theorem m_X9_blocka {d : Nat} : zMet (d := d) X_X9_block yX9_block 2 f_X9_blocka := zmet_mk (X := X_X9_block) (by decide) rfl rfl s_X9_blocka

noncomputable def bX9_valuea_32 {d : Nat} (P : zP d) : zK d := (xlret P)
set_option maxRecDepth 100000 in
set_option maxHeartbeats 4000000 in
theorem sbX9_valuea_32 {d : Nat} [zGh] (P : zP d) : zSim X_X9_value 3 P 32 (bX9_valuea_32 P) := by
  unfold bX9_valuea_32
  exact sm_lreturn (pc := 32) dX9_value_32 rfl
noncomputable def bX9_valuea_29 {d : Nat} (P : zP d) (j32 : zK d) : zK d := (xpL 9223372036854775808 j32)
set_option maxRecDepth 100000 in
set_option maxHeartbeats 4000000 in
theorem sbX9_valuea_29 {d : Nat} [zGh] (P : zP d) (j32 : zK d) (hj32 : zSimJ 1 X_X9_value 3 P 32 j32) : zSim X_X9_value 3 P 29 (bX9_valuea_29 P j32) := by
  unfold bX9_valuea_29
  refine sm_ldc2 (pc := 29) dX9_value_29 wd_1311 zc_cl_m9223372036854775808 ?_
  exact hj32.use
noncomputable def b_X9_valuea {d : Nat} (P : zP d) : zK d := (xild 1 (xcS 1 0 0 (zstr f_X9_isSlota) (xjoin (bX9_valuea_32 P) (fun j32 => (xjoin (bX9_valuea_29 P j32) (fun j29 => (xif0S teqR rlEq rhEq rlNe rhNe j29 (xald 0 (xild 2 (xcV 25 2 0 0 (zstr f_X9_isParta) (xif0S teqR rlEq rhEq rlNe rhNe j29 (xald 0 (xgfR 25 43 (xpI 11 (xild 1 (xbin zmulR (xild 2 (xbin zaddR (xlal j32)))))))))))))))))))
set_option maxRecDepth 100000 in
set_option maxHeartbeats 4000000 in
theorem s_X9_valuea {d : Nat} [zGh] (P : zP d) : zSim X_X9_value 3 P 0 (b_X9_valuea P) := by
  unfold b_X9_valuea
  refine sm_iload_n (pc := 0) (n := 1) dX9_value_0 rfl ?_
  refine sm_cS (pc := 1) (n := 1) (mc := 0) (ms := 0) (zMet_str m_X9_isSlota) (cr_X9_319 (X := X_X9_value) (fr := 3) (frc := 2) (pc := 1) (mc := 0) (ms := 0) rfl (by decide) dX9_value_1) ?_
  refine sm_joinJ (pc := 4) (pc' := 32) (j := 1) (fun G0 hG0 => @sbX9_valuea_32 d G0 P) (fun j32 hj32 => ?_)
  refine sm_joinJ (pc := 4) (pc' := 29) (j := 1) (fun G0 hG0 => @sbX9_valuea_29 d G0 P j32 (hj32.mv hG0 (by decide))) (fun j29 hj29 => ?_)
  refine sm_ifS_eq (pc := 4) (tgt := 29) dX9_value_4 (by decide) ?_ ?_
  · skip
    exact hj29.use
  · skip
    refine sm_aload_n (pc := 7) (n := 0) dX9_value_7 rfl ?_
    refine sm_iload_n (pc := 8) (n := 2) dX9_value_8 rfl ?_
    refine sm_cV (pc := 9) (ci := 9) (n := 2) (mc := 0) (ms := 0) rfl (zMet_str m_X9_isParta) (cr_X9_287 (X := X_X9_value) (fr := 3) (frc := 2) (pc := 9) (mc := 0) (ms := 0) rfl (by decide) dX9_value_9) ?_
    refine sm_ifS_eq (pc := 12) (tgt := 29) dX9_value_12 (by decide) ?_ ?_
    · skip
      exact hj29.use
    · skip
      refine sm_aload_n (pc := 15) (n := 0) dX9_value_15 rfl ?_
      refine gf_X9_115 (pc := 16) rfl dX9_value_16 ?_
      refine sm_bipush (pc := 19) dX9_value_19 zc_b_11 ?_
      refine sm_iload_n (pc := 21) (n := 1) dX9_value_21 rfl ?_
      refine sm_imulR (pc := 22) dX9_value_22 ?_
      refine sm_iload_n (pc := 23) (n := 2) dX9_value_23 rfl ?_
      refine sm_iaddR (pc := 24) dX9_value_24 ?_
      refine sm_laload (pc := 25) dX9_value_25 ?_
      refine sm_goto (pc := 26) (tgt := 32) dX9_value_26 (by decide) ?_
      exact hj32.use
noncomputable def f_X9_valuea {d : Nat} : List zV → zH d → zP d → Bool := zfn 3 b_X9_valuea
theorem m_X9_valuea {d : Nat} : zMet (d := d) X_X9_value yX9_value 3 f_X9_valuea := zmet_mk (X := X_X9_value) (by decide) rfl rfl s_X9_valuea

noncomputable def bX9_partsa_43 {d : Nat} (P : zP d) : zK d := (xpL 9223372036854775808 (xlret P))
set_option maxRecDepth 100000 in
set_option maxHeartbeats 4000000 in
theorem sbX9_partsa_43 {d : Nat} [zGh] (P : zP d) : zSim X_X9_parts 3 P 43 (bX9_partsa_43 P) := by
  unfold bX9_partsa_43
  refine sm_ldc2 (pc := 43) dX9_parts_43 wd_1311 zc_cl_m9223372036854775808 ?_
  exact sm_lreturn (pc := 46) dX9_parts_46 rfl
noncomputable def bX9_partsa_103 {d : Nat} (P : zP d) : zK d := (xlret P)
set_option maxRecDepth 100000 in
set_option maxHeartbeats 4000000 in
theorem sbX9_partsa_103 {d : Nat} [zGh] (P : zP d) : zSim X_X9_parts 3 P 103 (bX9_partsa_103 P) := by
  unfold bX9_partsa_103
  exact sm_lreturn (pc := 103) dX9_parts_103 rfl
noncomputable def bX9_partsa_68 {d : Nat} (P : zP d) : zK d := (xlst 4 (xlld 4 (xald 0 (xgfI 25 12 (xi2lR (xcS 2 0 0 (zstr f_X9_divisor) (xlst 6 (xild 3 (xpI 2 (xjoin (bX9_partsa_103 P) (fun j103 => (xcmpS tgeR rlGe rhS rlS rhLt (xald 0 (xgfI 25 12 (xi2lR (xlld 6 (xbinjN zdivj j103))))) (xlld 4 (xlld 6 (xbinjN zdivj j103)))))))))))))))
set_option maxRecDepth 100000 in
set_option maxHeartbeats 4000000 in
theorem sbX9_partsa_68 {d : Nat} [zGh] (P : zP d) : zSim X_X9_parts 3 P 68 (bX9_partsa_68 P) := by
  unfold bX9_partsa_68
  refine sm_lstore (pc := 68) (n := 4) dX9_parts_68 ?_
  refine sm_lload (pc := 70) (n := 4) dX9_parts_70 ?_
  refine sm_aload_n (pc := 72) (n := 0) dX9_parts_72 rfl ?_
  refine gf_X9_166 (pc := 73) rfl dX9_parts_73 ?_
  refine sm_i2lR (pc := 76) dX9_parts_76 ?_
  refine sm_cS (pc := 77) (n := 2) (mc := 0) (ms := 0) (zMet_str m_X9_divisor) (cr_X9_335 (X := X_X9_parts) (fr := 3) (frc := 1) (pc := 77) (mc := 0) (ms := 0) rfl (by decide) dX9_parts_77) ?_
  refine sm_lstore (pc := 80) (n := 6) dX9_parts_80 ?_
  refine sm_iload_n (pc := 82) (n := 3) dX9_parts_82 rfl ?_
  refine sm_iconst (pc := 83) dX9_parts_83 zc_i_2 ?_
  refine sm_joinJ (pc := 84) (pc' := 103) (j := 1) (fun G0 hG0 => @sbX9_partsa_103 d G0 P) (fun j103 hj103 => ?_)
  refine sm_icmpS_ge (pc := 84) (tgt := 95) dX9_parts_84 (by decide) ?_ ?_
  · skip
    refine sm_aload_n (pc := 95) (n := 0) dX9_parts_95 rfl ?_
    refine gf_X9_166 (pc := 96) rfl dX9_parts_96 ?_
    refine sm_i2lR (pc := 99) dX9_parts_99 ?_
    refine sm_lload (pc := 100) (n := 6) dX9_parts_100 ?_
    refine sm_ldiv (pc := 102) dX9_parts_102 ?_
    exact hj103.use
  · skip
    refine sm_lload (pc := 87) (n := 4) dX9_parts_87 ?_
    refine sm_lload (pc := 89) (n := 6) dX9_parts_89 ?_
    refine sm_ldiv (pc := 91) dX9_parts_91 ?_
    refine sm_goto (pc := 92) (tgt := 103) dX9_parts_92 (by decide) ?_
    exact hj103.use
noncomputable def bX9_partsa_47 {d : Nat} (P : zP d) : zK d := (xild 3 (xpI 2 (xbinN zremR (xjoin (bX9_partsa_68 P) (fun j68 => (xif0S teqR rlEq rhEq rlNe rhNe (xald 0 (xild 1 (xild 2 (xcV 25 3 0 0 (zstr f_X9_ordinarySum) j68)))) (xald 0 (xild 1 (xild 2 (xcV 25 3 0 0 (zstr f_X9_modularSum) j68))))))))))
set_option maxRecDepth 100000 in
set_option maxHeartbeats 4000000 in
theorem sbX9_partsa_47 {d : Nat} [zGh] (P : zP d) : zSim X_X9_parts 3 P 47 (bX9_partsa_47 P) := by
  unfold bX9_partsa_47
  refine sm_iload_n (pc := 47) (n := 3) dX9_parts_47 rfl ?_
  refine sm_iconst (pc := 48) dX9_parts_48 zc_i_2 ?_
  refine sm_iremR (pc := 49) dX9_parts_49 ?_
  refine sm_joinJ (pc := 50) (pc' := 68) (j := 1) (fun G0 hG0 => @sbX9_partsa_68 d G0 P) (fun j68 hj68 => ?_)
  refine sm_ifS_ne (pc := 50) (tgt := 62) dX9_parts_50 (by decide) ?_ ?_
  · skip
    refine sm_aload_n (pc := 62) (n := 0) dX9_parts_62 rfl ?_
    refine sm_iload_n (pc := 63) (n := 1) dX9_parts_63 rfl ?_
    refine sm_iload_n (pc := 64) (n := 2) dX9_parts_64 rfl ?_
    refine sm_cV (pc := 65) (ci := 9) (n := 3) (mc := 0) (ms := 0) rfl (zMet_str m_X9_modularSum) (cr_X9_332 (X := X_X9_parts) (fr := 3) (frc := 1) (pc := 65) (mc := 0) (ms := 0) rfl (by decide) dX9_parts_65) ?_
    exact hj68.use
  · skip
    refine sm_aload_n (pc := 53) (n := 0) dX9_parts_53 rfl ?_
    refine sm_iload_n (pc := 54) (n := 1) dX9_parts_54 rfl ?_
    refine sm_iload_n (pc := 55) (n := 2) dX9_parts_55 rfl ?_
    refine sm_cV (pc := 56) (ci := 9) (n := 3) (mc := 0) (ms := 0) rfl (zMet_str m_X9_ordinarySum) (cr_X9_328 (X := X_X9_parts) (fr := 3) (frc := 1) (pc := 56) (mc := 0) (ms := 0) rfl (by decide) dX9_parts_56) ?_
    refine sm_goto (pc := 59) (tgt := 68) dX9_parts_59 (by decide) ?_
    exact hj68.use
noncomputable def b_X9_partsa {d : Nat} (P : zP d) : zK d := (xild 1 (xcS 1 0 0 (zstr f_X9_isSlota) (xjoin (bX9_partsa_43 P) (fun j43 => (xif0S teqR rlEq rhEq rlNe rhNe j43 (xald 0 (xild 2 (xcV 25 2 0 0 (zstr f_X9_isParta) (xif0S teqR rlEq rhEq rlNe rhNe j43 (xild 3 (xi2lR (xpL 0 (xpL 3 (xcS 3 0 0 (zstr f_X9_isIna) (xif0S teqR rlEq rhEq rlNe rhNe j43 (xild 3 (xpI 2 (xbinN zremR (xpI 1 (xjoin (bX9_partsa_47 P) (fun j47 => (xcmpS teqR rlEq rhEq rlNe rhNe (xald 0 (xgfR 25 7 (xild 2 (xalQ 1 (xif0S teqR rlEq rhEq rlNe rhNe j43 j47))))) j47))))))))))))))))))))))
set_option maxRecDepth 100000 in
set_option maxHeartbeats 4000000 in
theorem s_X9_partsa {d : Nat} [zGh] (P : zP d) : zSim X_X9_parts 3 P 0 (b_X9_partsa P) := by
  unfold b_X9_partsa
  refine sm_iload_n (pc := 0) (n := 1) dX9_parts_0 rfl ?_
  refine sm_cS (pc := 1) (n := 1) (mc := 0) (ms := 0) (zMet_str m_X9_isSlota) (cr_X9_319 (X := X_X9_parts) (fr := 3) (frc := 2) (pc := 1) (mc := 0) (ms := 0) rfl (by decide) dX9_parts_1) ?_
  refine sm_joinJ (pc := 4) (pc' := 43) (j := 1) (fun G0 hG0 => @sbX9_partsa_43 d G0 P) (fun j43 hj43 => ?_)
  refine sm_ifS_eq (pc := 4) (tgt := 43) dX9_parts_4 (by decide) ?_ ?_
  · skip
    exact hj43.use
  · skip
    refine sm_aload_n (pc := 7) (n := 0) dX9_parts_7 rfl ?_
    refine sm_iload_n (pc := 8) (n := 2) dX9_parts_8 rfl ?_
    refine sm_cV (pc := 9) (ci := 9) (n := 2) (mc := 0) (ms := 0) rfl (zMet_str m_X9_isParta) (cr_X9_287 (X := X_X9_parts) (fr := 3) (frc := 2) (pc := 9) (mc := 0) (ms := 0) rfl (by decide) dX9_parts_9) ?_
    refine sm_ifS_eq (pc := 12) (tgt := 43) dX9_parts_12 (by decide) ?_ ?_
    · skip
      exact hj43.use
    · skip
      refine sm_iload_n (pc := 15) (n := 3) dX9_parts_15 rfl ?_
      refine sm_i2lR (pc := 16) dX9_parts_16 ?_
      refine sm_lconst (pc := 17) dX9_parts_17 zc_l_0 ?_
      refine sm_ldc2 (pc := 18) dX9_parts_18 wd_1316 zc_cl_3 ?_
      refine sm_cS (pc := 21) (n := 3) (mc := 0) (ms := 0) (zMet_str m_X9_isIna) (cr_X9_283 (X := X_X9_parts) (fr := 3) (frc := 1) (pc := 21) (mc := 0) (ms := 0) rfl (by decide) dX9_parts_21) ?_
      refine sm_ifS_eq (pc := 24) (tgt := 43) dX9_parts_24 (by decide) ?_ ?_
      · skip
        exact hj43.use
      · skip
        refine sm_iload_n (pc := 27) (n := 3) dX9_parts_27 rfl ?_
        refine sm_iconst (pc := 28) dX9_parts_28 zc_i_2 ?_
        refine sm_iremR (pc := 29) dX9_parts_29 ?_
        refine sm_iconst (pc := 30) dX9_parts_30 zc_i_1 ?_
        refine sm_joinJ (pc := 31) (pc' := 47) (j := 1) (fun G0 hG0 => @sbX9_partsa_47 d G0 P) (fun j47 hj47 => ?_)
        refine sm_icmpS_ne (pc := 31) (tgt := 47) dX9_parts_31 (by decide) ?_ ?_
        · skip
          exact hj47.use
        · skip
          refine sm_aload_n (pc := 34) (n := 0) dX9_parts_34 rfl ?_
          refine gf_X9_22 (pc := 35) rfl dX9_parts_35 ?_
          refine sm_iload_n (pc := 38) (n := 2) dX9_parts_38 rfl ?_
          refine sm_baloadQ (pc := 39) dX9_parts_39 ?_
          refine sm_ifS_ne (pc := 40) (tgt := 47) dX9_parts_40 (by decide) ?_ ?_
          · skip
            exact hj47.use
          · skip
            exact hj43.use
noncomputable def f_X9_partsa {d : Nat} : List zV → zH d → zP d → Bool := zfn 8 b_X9_partsa
theorem m_X9_partsa {d : Nat} : zMet (d := d) X_X9_parts yX9_parts 3 f_X9_partsa := zmet_mk (X := X_X9_parts) (by decide) rfl rfl s_X9_partsa

noncomputable def bX9_innera_14 {d : Nat} (P : zP d) : zK d := (xpL 18446744073709551615 (xlret P))
set_option maxRecDepth 100000 in
set_option maxHeartbeats 4000000 in
theorem sbX9_innera_14 {d : Nat} [zGh] (P : zP d) : zSim X_X9_inner 3 P 14 (bX9_innera_14 P) := by
  unfold bX9_innera_14
  refine sm_ldc2 (pc := 14) dX9_inner_14 wd_1332 zc_cl_m1 ?_
  exact sm_lreturn (pc := 17) dX9_inner_17 rfl
noncomputable def cX9_innera_62 {d : Nat} (P : zP d) (r23 : zK d) : zK d := (xild 5 (xalQ 0 (xi2lR (xbinj zmulj (xbinj zaddj (xlst 3 (xincR 5 1 r23)))))))
set_option maxRecDepth 100000 in
set_option maxHeartbeats 4000000 in
theorem scX9_innera_62 {d : Nat} [zGh] (P : zP d) (r23 : zK d) (hr23 : zSimJ 1 X_X9_inner 3 P 23 r23) : zSim X_X9_inner 3 P 62 (cX9_innera_62 P r23) := by
  unfold cX9_innera_62
  refine sm_iload (pc := 62) (n := 5) dX9_inner_62 ?_
  refine sm_ialoadQ (pc := 64) dX9_inner_64 ?_
  refine sm_i2lR (pc := 65) dX9_inner_65 ?_
  refine sm_lmul (pc := 66) dX9_inner_66 ?_
  refine sm_ladd (pc := 67) dX9_inner_67 ?_
  refine sm_lstore_n (pc := 68) (n := 3) dX9_inner_68 rfl ?_
  refine sm_iincR (pc := 69) (n := 5) dX9_inner_69 zc_i_1 ?_
  refine sm_goto (pc := 72) (tgt := 23) dX9_inner_72 (by decide) ?_
  exact hr23.use
noncomputable def lX9_innera_23 {d : Nat} (P : zP d) (r23 : zK d) : zK d := (xild 5 (xald 0 (xgfI 25 2 (xcmpS tgeR rlGe rhS rlS rhLt (xlld 3 (xlret P)) (xlld 3 (xald 0 (xgfR 25 43 (xpI 11 (xild 1 (xbin zmulR (xild 5 (xbin zaddR (xlal (xald 0 (xgfR 25 43 (xpI 11 (xild 2 (xbin zmulR (xild 5 (xbin zaddR (xlal (xbinj zmulj (xald 0 (xgfR 25 5 (cX9_innera_62 P r23)))))))))))))))))))))))))
set_option maxRecDepth 100000 in
set_option maxHeartbeats 4000000 in
theorem slX9_innera_23 {d : Nat} [zGh] (P : zP d) (r23 : zK d) (hr23 : zSimJ 1 X_X9_inner 3 P 23 r23) : zSim X_X9_inner 3 P 23 (lX9_innera_23 P r23) := by
  unfold lX9_innera_23
  refine sm_iload (pc := 23) (n := 5) dX9_inner_23 ?_
  refine sm_aload_n (pc := 25) (n := 0) dX9_inner_25 rfl ?_
  refine gf_X9_153 (pc := 26) rfl dX9_inner_26 ?_
  refine sm_icmpS_ge (pc := 29) (tgt := 75) dX9_inner_29 (by decide) ?_ ?_
  · skip
    refine sm_lload_n (pc := 75) (n := 3) dX9_inner_75 rfl ?_
    exact sm_lreturn (pc := 76) dX9_inner_76 rfl
  · skip
    refine sm_lload_n (pc := 32) (n := 3) dX9_inner_32 rfl ?_
    refine sm_aload_n (pc := 33) (n := 0) dX9_inner_33 rfl ?_
    refine gf_X9_115 (pc := 34) rfl dX9_inner_34 ?_
    refine sm_bipush (pc := 37) dX9_inner_37 zc_b_11 ?_
    refine sm_iload_n (pc := 39) (n := 1) dX9_inner_39 rfl ?_
    refine sm_imulR (pc := 40) dX9_inner_40 ?_
    refine sm_iload (pc := 41) (n := 5) dX9_inner_41 ?_
    refine sm_iaddR (pc := 43) dX9_inner_43 ?_
    refine sm_laload (pc := 44) dX9_inner_44 ?_
    refine sm_aload_n (pc := 45) (n := 0) dX9_inner_45 rfl ?_
    refine gf_X9_115 (pc := 46) rfl dX9_inner_46 ?_
    refine sm_bipush (pc := 49) dX9_inner_49 zc_b_11 ?_
    refine sm_iload_n (pc := 51) (n := 2) dX9_inner_51 rfl ?_
    refine sm_imulR (pc := 52) dX9_inner_52 ?_
    refine sm_iload (pc := 53) (n := 5) dX9_inner_53 ?_
    refine sm_iaddR (pc := 55) dX9_inner_55 ?_
    refine sm_laload (pc := 56) dX9_inner_56 ?_
    refine sm_lmul (pc := 57) dX9_inner_57 ?_
    refine sm_aload_n (pc := 58) (n := 0) dX9_inner_58 rfl ?_
    refine gf_X9_16 (pc := 59) rfl dX9_inner_59 ?_
    exact scX9_innera_62 P r23 hr23
noncomputable def b_X9_innera {d : Nat} (P : zP d) : zK d := (xild 1 (xcS 1 0 0 (zstr f_X9_isSlota) (xjoin (bX9_innera_14 P) (fun j14 => (xif0S teqR rlEq rhEq rlNe rhNe j14 (xild 2 (xcS 1 0 0 (zstr f_X9_isSlota) (xif0S teqR rlEq rhEq rlNe rhNe j14 (xpL 0 (xlst 3 (xpI 0 (xist 5 (xloop (fun r23 => (lX9_innera_23 P r23)) 100000)))))))))))))
set_option maxRecDepth 100000 in
set_option maxHeartbeats 4000000 in
theorem s_X9_innera {d : Nat} [zGh] (P : zP d) : zSim X_X9_inner 3 P 0 (b_X9_innera P) := by
  unfold b_X9_innera
  refine sm_iload_n (pc := 0) (n := 1) dX9_inner_0 rfl ?_
  refine sm_cS (pc := 1) (n := 1) (mc := 0) (ms := 0) (zMet_str m_X9_isSlota) (cr_X9_319 (X := X_X9_inner) (fr := 3) (frc := 2) (pc := 1) (mc := 0) (ms := 0) rfl (by decide) dX9_inner_1) ?_
  refine sm_joinJ (pc := 4) (pc' := 14) (j := 1) (fun G0 hG0 => @sbX9_innera_14 d G0 P) (fun j14 hj14 => ?_)
  refine sm_ifS_eq (pc := 4) (tgt := 14) dX9_inner_4 (by decide) ?_ ?_
  · skip
    exact hj14.use
  · skip
    refine sm_iload_n (pc := 7) (n := 2) dX9_inner_7 rfl ?_
    refine sm_cS (pc := 8) (n := 1) (mc := 0) (ms := 0) (zMet_str m_X9_isSlota) (cr_X9_319 (X := X_X9_inner) (fr := 3) (frc := 2) (pc := 8) (mc := 0) (ms := 0) rfl (by decide) dX9_inner_8) ?_
    refine sm_ifS_ne (pc := 11) (tgt := 18) dX9_inner_11 (by decide) ?_ ?_
    · skip
      refine sm_lconst (pc := 18) dX9_inner_18 zc_l_0 ?_
      refine sm_lstore_n (pc := 19) (n := 3) dX9_inner_19 rfl ?_
      refine sm_iconst (pc := 20) dX9_inner_20 zc_i_0 ?_
      refine sm_istore (pc := 21) (n := 5) dX9_inner_21 ?_
      exact (sm_loopJ (j := 1) (fun G1 hG1 r23 hr23 => @slX9_innera_23 d G1 P r23 hr23) _).use
    · skip
      exact hj14.use
noncomputable def f_X9_innera {d : Nat} : List zV → zH d → zP d → Bool := zfn 6 b_X9_innera
theorem m_X9_innera {d : Nat} : zMet (d := d) X_X9_inner yX9_inner 3 f_X9_innera := zmet_mk (X := X_X9_inner) (by decide) rfl rfl s_X9_innera

noncomputable def bX9_kinda_19 {d : Nat} (P : zP d) : zK d := (xpI 4294967295 (xiret P))
set_option maxRecDepth 100000 in
set_option maxHeartbeats 4000000 in
theorem sbX9_kinda_19 {d : Nat} [zGh] (P : zP d) : zSim X_X9_kind 3 P 19 (bX9_kinda_19 P) := by
  unfold bX9_kinda_19
  refine sm_iconst (pc := 19) dX9_kind_19 zc_i_m1 ?_
  exact sm_ireturn (pc := 20) dX9_kind_20 rfl
noncomputable def bX9_kinda_105 {d : Nat} (P : zP d) (r60 : zK d) : zK d := (xist 3 (xincR 4 1 r60))
set_option maxRecDepth 100000 in
set_option maxHeartbeats 4000000 in
theorem sbX9_kinda_105 {d : Nat} [zGh] (P : zP d) (r60 : zK d) (hr60 : zSimJ 1 X_X9_kind 3 P 60 r60) : zSim X_X9_kind 3 P 105 (bX9_kinda_105 P r60) := by
  unfold bX9_kinda_105
  refine sm_istore_n (pc := 105) (n := 3) dX9_kind_105 rfl ?_
  refine sm_iincR (pc := 106) (n := 4) dX9_kind_106 zc_i_1 ?_
  refine sm_goto (pc := 109) (tgt := 60) dX9_kind_109 (by decide) ?_
  exact hr60.use
noncomputable def bX9_kinda_104 {d : Nat} (P : zP d) (j105 : zK d) : zK d := (xpI 0 j105)
set_option maxRecDepth 100000 in
set_option maxHeartbeats 4000000 in
theorem sbX9_kinda_104 {d : Nat} [zGh] (P : zP d) (j105 : zK d) (hj105 : zSimJ 1 X_X9_kind 3 P 105 j105) : zSim X_X9_kind 3 P 104 (bX9_kinda_104 P j105) := by
  unfold bX9_kinda_104
  refine sm_iconst (pc := 104) dX9_kind_104 zc_i_0 ?_
  exact hj105.use
noncomputable def bX9_kinda_100 {d : Nat} (P : zP d) (j105 : zK d) : zK d := (xpI 1 j105)
set_option maxRecDepth 100000 in
set_option maxHeartbeats 4000000 in
theorem sbX9_kinda_100 {d : Nat} [zGh] (P : zP d) (j105 : zK d) (hj105 : zSimJ 1 X_X9_kind 3 P 105 j105) : zSim X_X9_kind 3 P 100 (bX9_kinda_100 P j105) := by
  unfold bX9_kinda_100
  refine sm_iconst (pc := 100) dX9_kind_100 zc_i_1 ?_
  refine sm_goto (pc := 101) (tgt := 105) dX9_kind_101 (by decide) ?_
  exact hj105.use
noncomputable def lX9_kinda_60 {d : Nat} (P : zP d) (r60 : zK d) : zK d := (xild 4 (xald 0 (xgfI 25 2 (xcmpS tgeR rlGe rhS rlS rhLt (xild 3 (xcS 1 0 0 (zstr f_X9_one) (xiret P))) (xild 3 (xjoin (bX9_kinda_105 P r60) (fun j105 => (xjoin (bX9_kinda_104 P j105) (fun j104 => (xif0S teqR rlEq rhEq rlNe rhNe j104 (xald 0 (xgfR 25 8 (xild 4 (xalQ 1 (xjoin (bX9_kinda_100 P j105) (fun j100 => (xif0S teqR rlEq rhEq rlNe rhNe (xald 0 (xgfR 25 43 (xpI 11 (xild 1 (xbin zmulR (xild 4 (xbin zaddR (xlal (xpL 0 (xlcmpR (xif0S teqR rlEq rhEq rlNe rhNe j100 j104))))))))))) j100)))))))))))))))))
set_option maxRecDepth 100000 in
set_option maxHeartbeats 4000000 in
theorem slX9_kinda_60 {d : Nat} [zGh] (P : zP d) (r60 : zK d) (hr60 : zSimJ 1 X_X9_kind 3 P 60 r60) : zSim X_X9_kind 3 P 60 (lX9_kinda_60 P r60) := by
  unfold lX9_kinda_60
  refine sm_iload (pc := 60) (n := 4) dX9_kind_60 ?_
  refine sm_aload_n (pc := 62) (n := 0) dX9_kind_62 rfl ?_
  refine gf_X9_153 (pc := 63) rfl dX9_kind_63 ?_
  refine sm_icmpS_ge (pc := 66) (tgt := 112) dX9_kind_66 (by decide) ?_ ?_
  · skip
    refine sm_iload_n (pc := 112) (n := 3) dX9_kind_112 rfl ?_
    refine sm_cS (pc := 113) (n := 1) (mc := 0) (ms := 0) (zMet_str m_X9_one) (cr_X9_187 (X := X_X9_kind) (fr := 3) (frc := 1) (pc := 113) (mc := 0) (ms := 0) rfl (by decide) dX9_kind_113) ?_
    exact sm_ireturn (pc := 116) dX9_kind_116 rfl
  · skip
    refine sm_iload_n (pc := 69) (n := 3) dX9_kind_69 rfl ?_
    refine sm_joinJ (pc := 70) (pc' := 105) (j := 1) (fun G0 hG0 => @sbX9_kinda_105 d G0 P r60 (hr60.mv hG0 (by decide))) (fun j105 hj105 => ?_)
    refine sm_joinJ (pc := 70) (pc' := 104) (j := 1) (fun G0 hG0 => @sbX9_kinda_104 d G0 P j105 (hj105.mv hG0 (by decide))) (fun j104 hj104 => ?_)
    refine sm_ifS_eq (pc := 70) (tgt := 104) dX9_kind_70 (by decide) ?_ ?_
    · skip
      exact hj104.use
    · skip
      refine sm_aload_n (pc := 73) (n := 0) dX9_kind_73 rfl ?_
      refine gf_X9_26 (pc := 74) rfl dX9_kind_74 ?_
      refine sm_iload (pc := 77) (n := 4) dX9_kind_77 ?_
      refine sm_baloadQ (pc := 79) dX9_kind_79 ?_
      refine sm_joinJ (pc := 80) (pc' := 100) (j := 1) (fun G0 hG0 => @sbX9_kinda_100 d G0 P j105 (hj105.mv hG0 (by decide))) (fun j100 hj100 => ?_)
      refine sm_ifS_ne (pc := 80) (tgt := 100) dX9_kind_80 (by decide) ?_ ?_
      · skip
        exact hj100.use
      · skip
        refine sm_aload_n (pc := 83) (n := 0) dX9_kind_83 rfl ?_
        refine gf_X9_115 (pc := 84) rfl dX9_kind_84 ?_
        refine sm_bipush (pc := 87) dX9_kind_87 zc_b_11 ?_
        refine sm_iload_n (pc := 89) (n := 1) dX9_kind_89 rfl ?_
        refine sm_imulR (pc := 90) dX9_kind_90 ?_
        refine sm_iload (pc := 91) (n := 4) dX9_kind_91 ?_
        refine sm_iaddR (pc := 93) dX9_kind_93 ?_
        refine sm_laload (pc := 94) dX9_kind_94 ?_
        refine sm_lconst (pc := 95) dX9_kind_95 zc_l_0 ?_
        refine sm_lcmpR (pc := 96) dX9_kind_96 ?_
        refine sm_ifS_ne (pc := 97) (tgt := 104) dX9_kind_97 (by decide) ?_ ?_
        · skip
          exact hj104.use
        · skip
          exact hj100.use
noncomputable def bX9_kinda_48 {d : Nat} (P : zP d) : zK d := (xcV 25 4 0 0 (zstr f_X9_areWhole) (xcS 1 0 0 (zstr f_X9_one) (xiret P)))
set_option maxRecDepth 100000 in
set_option maxHeartbeats 4000000 in
theorem sbX9_kinda_48 {d : Nat} [zGh] (P : zP d) : zSim X_X9_kind 3 P 48 (bX9_kinda_48 P) := by
  unfold bX9_kinda_48
  refine sm_cV (pc := 48) (ci := 9) (n := 4) (mc := 0) (ms := 0) rfl (zMet_str m_X9_areWhole) (cr_X9_343 (X := X_X9_kind) (fr := 3) (frc := 2) (pc := 48) (mc := 0) (ms := 0) rfl (by decide) dX9_kind_48) ?_
  refine sm_cS (pc := 51) (n := 1) (mc := 0) (ms := 0) (zMet_str m_X9_one) (cr_X9_187 (X := X_X9_kind) (fr := 3) (frc := 1) (pc := 51) (mc := 0) (ms := 0) rfl (by decide) dX9_kind_51) ?_
  exact sm_ireturn (pc := 54) dX9_kind_54 rfl
noncomputable def bX9_kinda_37 {d : Nat} (P : zP d) : zK d := (xild 2 (xpI 2 (xbinN zremR (xjoin (bX9_kinda_48 P) (fun j48 => (xif0S teqR rlEq rhEq rlNe rhNe (xpI 1 j48) (xpI 0 j48)))))))
set_option maxRecDepth 100000 in
set_option maxHeartbeats 4000000 in
theorem sbX9_kinda_37 {d : Nat} [zGh] (P : zP d) : zSim X_X9_kind 3 P 37 (bX9_kinda_37 P) := by
  unfold bX9_kinda_37
  refine sm_iload_n (pc := 37) (n := 2) dX9_kind_37 rfl ?_
  refine sm_iconst (pc := 38) dX9_kind_38 zc_i_2 ?_
  refine sm_iremR (pc := 39) dX9_kind_39 ?_
  refine sm_joinJ (pc := 40) (pc' := 48) (j := 1) (fun G0 hG0 => @sbX9_kinda_48 d G0 P) (fun j48 hj48 => ?_)
  refine sm_ifS_ne (pc := 40) (tgt := 47) dX9_kind_40 (by decide) ?_ ?_
  · skip
    refine sm_iconst (pc := 47) dX9_kind_47 zc_i_0 ?_
    exact hj48.use
  · skip
    refine sm_iconst (pc := 43) dX9_kind_43 zc_i_1 ?_
    refine sm_goto (pc := 44) (tgt := 48) dX9_kind_44 (by decide) ?_
    exact hj48.use
noncomputable def b_X9_kinda {d : Nat} (P : zP d) : zK d := (xild 1 (xcS 1 0 0 (zstr f_X9_isSlota) (xjoin (bX9_kinda_19 P) (fun j19 => (xif0S teqR rlEq rhEq rlNe rhNe j19 (xild 2 (xi2lR (xpL 0 (xpL 4 (xcS 3 0 0 (zstr f_X9_isIna) (xif0S teqR rlEq rhEq rlNe rhNe j19 (xild 2 (xif0S tleR rlS rhLe rlGt rhS (xpI 1 (xist 3 (xpI 0 (xist 4 (xloop (fun r60 => (lX9_kinda_60 P r60)) 100000))))) (xald 0 (xild 1 (xild 2 (xpI 2 (xjoin (bX9_kinda_37 P) (fun j37 => (xcmpS tleR rlS rhLe rlGt rhS (xpI 0 j37) (xpI 1 j37)))))))))))))))))))))
set_option maxRecDepth 100000 in
set_option maxHeartbeats 4000000 in
theorem s_X9_kinda {d : Nat} [zGh] (P : zP d) : zSim X_X9_kind 3 P 0 (b_X9_kinda P) := by
  unfold b_X9_kinda
  refine sm_iload_n (pc := 0) (n := 1) dX9_kind_0 rfl ?_
  refine sm_cS (pc := 1) (n := 1) (mc := 0) (ms := 0) (zMet_str m_X9_isSlota) (cr_X9_319 (X := X_X9_kind) (fr := 3) (frc := 2) (pc := 1) (mc := 0) (ms := 0) rfl (by decide) dX9_kind_1) ?_
  refine sm_joinJ (pc := 4) (pc' := 19) (j := 1) (fun G0 hG0 => @sbX9_kinda_19 d G0 P) (fun j19 hj19 => ?_)
  refine sm_ifS_eq (pc := 4) (tgt := 19) dX9_kind_4 (by decide) ?_ ?_
  · skip
    exact hj19.use
  · skip
    refine sm_iload_n (pc := 7) (n := 2) dX9_kind_7 rfl ?_
    refine sm_i2lR (pc := 8) dX9_kind_8 ?_
    refine sm_lconst (pc := 9) dX9_kind_9 zc_l_0 ?_
    refine sm_ldc2 (pc := 10) dX9_kind_10 wd_1337 zc_cl_4 ?_
    refine sm_cS (pc := 13) (n := 3) (mc := 0) (ms := 0) (zMet_str m_X9_isIna) (cr_X9_283 (X := X_X9_kind) (fr := 3) (frc := 1) (pc := 13) (mc := 0) (ms := 0) rfl (by decide) dX9_kind_13) ?_
    refine sm_ifS_ne (pc := 16) (tgt := 21) dX9_kind_16 (by decide) ?_ ?_
    · skip
      refine sm_iload_n (pc := 21) (n := 2) dX9_kind_21 rfl ?_
      refine sm_ifS_le (pc := 22) (tgt := 55) dX9_kind_22 (by decide) ?_ ?_
      · skip
        refine sm_iconst (pc := 55) dX9_kind_55 zc_i_1 ?_
        refine sm_istore_n (pc := 56) (n := 3) dX9_kind_56 rfl ?_
        refine sm_iconst (pc := 57) dX9_kind_57 zc_i_0 ?_
        refine sm_istore (pc := 58) (n := 4) dX9_kind_58 ?_
        exact (sm_loopJ (j := 1) (fun G1 hG1 r60 hr60 => @slX9_kinda_60 d G1 P r60 hr60) _).use
      · skip
        refine sm_aload_n (pc := 25) (n := 0) dX9_kind_25 rfl ?_
        refine sm_iload_n (pc := 26) (n := 1) dX9_kind_26 rfl ?_
        refine sm_iload_n (pc := 27) (n := 2) dX9_kind_27 rfl ?_
        refine sm_iconst (pc := 28) dX9_kind_28 zc_i_2 ?_
        refine sm_joinJ (pc := 29) (pc' := 37) (j := 1) (fun G0 hG0 => @sbX9_kinda_37 d G0 P) (fun j37 hj37 => ?_)
        refine sm_icmpS_le (pc := 29) (tgt := 36) dX9_kind_29 (by decide) ?_ ?_
        · skip
          refine sm_iconst (pc := 36) dX9_kind_36 zc_i_0 ?_
          exact hj37.use
        · skip
          refine sm_iconst (pc := 32) dX9_kind_32 zc_i_1 ?_
          refine sm_goto (pc := 33) (tgt := 37) dX9_kind_33 (by decide) ?_
          exact hj37.use
    · skip
      exact hj19.use
noncomputable def f_X9_kinda {d : Nat} : List zV → zH d → zP d → Bool := zfn 5 b_X9_kinda
theorem m_X9_kinda {d : Nat} : zMet (d := d) X_X9_kind yX9_kind 3 f_X9_kinda := zmet_mk (X := X_X9_kind) (by decide) rfl rfl s_X9_kinda

noncomputable def bX9_cuta_40 {d : Nat} (P : zP d) : zK d := (xpI 4294967295 (xiret P))
set_option maxRecDepth 100000 in
set_option maxHeartbeats 4000000 in
theorem sbX9_cuta_40 {d : Nat} [zGh] (P : zP d) : zSim X_X9_cut 3 P 40 (bX9_cuta_40 P) := by
  unfold bX9_cuta_40
  refine sm_iconst (pc := 40) dX9_cut_40 zc_i_m1 ?_
  exact sm_ireturn (pc := 41) dX9_cut_41 rfl
noncomputable def lX9_cuta_163 {d : Nat} (P : zP d) (r163 : zK d) : zK d := (xild 4 (xald 0 (xgfI 25 2 (xcmpS tgeR rlGe rhS rlS rhLt (xpI 0 (xiret P)) (xald 0 (xgfR 25 43 (xpI 11 (xild 3 (xbin zmulR (xild 4 (xbin zaddR (xald 0 (xgfR 25 44 (xild 4 (xlal (xlas (xincR 4 1 r163)))))))))))))))))
set_option maxRecDepth 100000 in
set_option maxHeartbeats 4000000 in
theorem slX9_cuta_163 {d : Nat} [zGh] (P : zP d) (r163 : zK d) (hr163 : zSimJ 1 X_X9_cut 3 P 163 r163) : zSim X_X9_cut 3 P 163 (lX9_cuta_163 P r163) := by
  unfold lX9_cuta_163
  refine sm_iload (pc := 163) (n := 4) dX9_cut_163 ?_
  refine sm_aload_n (pc := 165) (n := 0) dX9_cut_165 rfl ?_
  refine gf_X9_153 (pc := 166) rfl dX9_cut_166 ?_
  refine sm_icmpS_ge (pc := 169) (tgt := 197) dX9_cut_169 (by decide) ?_ ?_
  · skip
    refine sm_iconst (pc := 197) dX9_cut_197 zc_i_0 ?_
    exact sm_ireturn (pc := 198) dX9_cut_198 rfl
  · skip
    refine sm_aload_n (pc := 172) (n := 0) dX9_cut_172 rfl ?_
    refine gf_X9_115 (pc := 173) rfl dX9_cut_173 ?_
    refine sm_bipush (pc := 176) dX9_cut_176 zc_b_11 ?_
    refine sm_iload_n (pc := 178) (n := 3) dX9_cut_178 rfl ?_
    refine sm_imulR (pc := 179) dX9_cut_179 ?_
    refine sm_iload (pc := 180) (n := 4) dX9_cut_180 ?_
    refine sm_iaddR (pc := 182) dX9_cut_182 ?_
    refine sm_aload_n (pc := 183) (n := 0) dX9_cut_183 rfl ?_
    refine gf_X9_118 (pc := 184) rfl dX9_cut_184 ?_
    refine sm_iload (pc := 187) (n := 4) dX9_cut_187 ?_
    refine sm_laload (pc := 189) dX9_cut_189 ?_
    refine sm_lastore (pc := 190) dX9_cut_190 ?_
    refine sm_iincR (pc := 191) (n := 4) dX9_cut_191 zc_i_1 ?_
    refine sm_goto (pc := 194) (tgt := 163) dX9_cut_194 (by decide) ?_
    exact hr163.use
noncomputable def bX9_cuta_154 {d : Nat} (P : zP d) (r71 : zK d) : zK d := (xincR 4 1 r71)
set_option maxRecDepth 100000 in
set_option maxHeartbeats 4000000 in
theorem sbX9_cuta_154 {d : Nat} [zGh] (P : zP d) (r71 : zK d) (hr71 : zSimJ 1 X_X9_cut 3 P 71 r71) : zSim X_X9_cut 3 P 154 (bX9_cuta_154 P r71) := by
  unfold bX9_cuta_154
  refine sm_iincR (pc := 154) (n := 4) dX9_cut_154 zc_i_1 ?_
  refine sm_goto (pc := 157) (tgt := 71) dX9_cut_157 (by decide) ?_
  exact hr71.use
noncomputable def lX9_cuta_112 {d : Nat} (P : zP d) (j154 : zK d) (r112 : zK d) : zK d := (xild 7 (xald 0 (xgfI 25 2 (xcmpS tgeR rlGe rhS rlS rhLt j154 (xald 0 (xgfR 25 44 (xild 7 (xdup2 (xlal (xlld 5 (xald 0 (xgfR 25 14 (xpI 11 (xild 4 (xbin zmulR (xild 7 (xbin zaddR (xalQ 0 (xi2lR (xbinj zmulj (xbinj zaddj (xlas (xincR 7 1 r112)))))))))))))))))))))))
set_option maxRecDepth 100000 in
set_option maxHeartbeats 4000000 in
theorem slX9_cuta_112 {d : Nat} [zGh] (P : zP d) (j154 : zK d) (r112 : zK d) (hj154 : zSimJ 1 X_X9_cut 3 P 154 j154) (hr112 : zSimJ 1 X_X9_cut 3 P 112 r112) : zSim X_X9_cut 3 P 112 (lX9_cuta_112 P j154 r112) := by
  unfold lX9_cuta_112
  refine sm_iload (pc := 112) (n := 7) dX9_cut_112 ?_
  refine sm_aload_n (pc := 114) (n := 0) dX9_cut_114 rfl ?_
  refine gf_X9_153 (pc := 115) rfl dX9_cut_115 ?_
  refine sm_icmpS_ge (pc := 118) (tgt := 154) dX9_cut_118 (by decide) ?_ ?_
  · skip
    exact hj154.use
  · skip
    refine sm_aload_n (pc := 121) (n := 0) dX9_cut_121 rfl ?_
    refine gf_X9_118 (pc := 122) rfl dX9_cut_122 ?_
    refine sm_iload (pc := 125) (n := 7) dX9_cut_125 ?_
    refine sm_dup2 (pc := 127) dX9_cut_127 ?_
    refine sm_laload (pc := 128) dX9_cut_128 ?_
    refine sm_lload (pc := 129) (n := 5) dX9_cut_129 ?_
    refine sm_aload_n (pc := 131) (n := 0) dX9_cut_131 rfl ?_
    refine gf_X9_38 (pc := 132) rfl dX9_cut_132 ?_
    refine sm_bipush (pc := 135) dX9_cut_135 zc_b_11 ?_
    refine sm_iload (pc := 137) (n := 4) dX9_cut_137 ?_
    refine sm_imulR (pc := 139) dX9_cut_139 ?_
    refine sm_iload (pc := 140) (n := 7) dX9_cut_140 ?_
    refine sm_iaddR (pc := 142) dX9_cut_142 ?_
    refine sm_ialoadQ (pc := 143) dX9_cut_143 ?_
    refine sm_i2lR (pc := 144) dX9_cut_144 ?_
    refine sm_lmul (pc := 145) dX9_cut_145 ?_
    refine sm_ladd (pc := 146) dX9_cut_146 ?_
    refine sm_lastore (pc := 147) dX9_cut_147 ?_
    refine sm_iincR (pc := 148) (n := 7) dX9_cut_148 zc_i_1 ?_
    refine sm_goto (pc := 151) (tgt := 112) dX9_cut_151 (by decide) ?_
    exact hr112.use
noncomputable def lX9_cuta_71 {d : Nat} (P : zP d) (r71 : zK d) : zK d := (xild 4 (xald 0 (xgfI 25 2 (xcmpS tgeR rlGe rhS rlS rhLt (xpI 0 (xist 4 (xloop (fun r163 => (lX9_cuta_163 P r163)) 100000))) (xald 0 (xgfR 25 17 (xild 4 (xalQ 0 (xild 2 (xjoin (bX9_cuta_154 P r71) (fun j154 => (xcmpS teqR rlEq rhEq rlNe rhNe (xald 0 (xild 1 (xild 4 (xcV 25 3 0 0 (zstr f_X9_ordinarySum) (xald 0 (xgfI 25 12 (xi2lR (xbinjN zdivj (xlst 5 (xpI 0 (xist 7 (xloop (fun r112 => (lX9_cuta_112 P j154 r112)) 100000)))))))))))) j154))))))))))))
set_option maxRecDepth 100000 in
set_option maxHeartbeats 4000000 in
theorem slX9_cuta_71 {d : Nat} [zGh] (P : zP d) (r71 : zK d) (hr71 : zSimJ 1 X_X9_cut 3 P 71 r71) : zSim X_X9_cut 3 P 71 (lX9_cuta_71 P r71) := by
  unfold lX9_cuta_71
  refine sm_iload (pc := 71) (n := 4) dX9_cut_71 ?_
  refine sm_aload_n (pc := 73) (n := 0) dX9_cut_73 rfl ?_
  refine gf_X9_153 (pc := 74) rfl dX9_cut_74 ?_
  refine sm_icmpS_ge (pc := 77) (tgt := 160) dX9_cut_77 (by decide) ?_ ?_
  · skip
    refine sm_iconst (pc := 160) dX9_cut_160 zc_i_0 ?_
    refine sm_istore (pc := 161) (n := 4) dX9_cut_161 ?_
    exact (sm_loopJ (j := 1) (fun G1 hG1 r163 hr163 => @slX9_cuta_163 d G1 P r163 hr163) _).use
  · skip
    refine sm_aload_n (pc := 80) (n := 0) dX9_cut_80 rfl ?_
    refine gf_X9_47 (pc := 81) rfl dX9_cut_81 ?_
    refine sm_iload (pc := 84) (n := 4) dX9_cut_84 ?_
    refine sm_ialoadQ (pc := 86) dX9_cut_86 ?_
    refine sm_iload_n (pc := 87) (n := 2) dX9_cut_87 rfl ?_
    refine sm_joinJ (pc := 88) (pc' := 154) (j := 1) (fun G0 hG0 => @sbX9_cuta_154 d G0 P r71 (hr71.mv hG0 (by decide))) (fun j154 hj154 => ?_)
    refine sm_icmpS_eq (pc := 88) (tgt := 94) dX9_cut_88 (by decide) ?_ ?_
    · skip
      refine sm_aload_n (pc := 94) (n := 0) dX9_cut_94 rfl ?_
      refine sm_iload_n (pc := 95) (n := 1) dX9_cut_95 rfl ?_
      refine sm_iload (pc := 96) (n := 4) dX9_cut_96 ?_
      refine sm_cV (pc := 98) (ci := 9) (n := 3) (mc := 0) (ms := 0) rfl (zMet_str m_X9_ordinarySum) (cr_X9_328 (X := X_X9_cut) (fr := 3) (frc := 1) (pc := 98) (mc := 0) (ms := 0) rfl (by decide) dX9_cut_98) ?_
      refine sm_aload_n (pc := 101) (n := 0) dX9_cut_101 rfl ?_
      refine gf_X9_166 (pc := 102) rfl dX9_cut_102 ?_
      refine sm_i2lR (pc := 105) dX9_cut_105 ?_
      refine sm_ldiv (pc := 106) dX9_cut_106 ?_
      refine sm_lstore (pc := 107) (n := 5) dX9_cut_107 ?_
      refine sm_iconst (pc := 109) dX9_cut_109 zc_i_0 ?_
      refine sm_istore (pc := 110) (n := 7) dX9_cut_110 ?_
      exact (sm_loopJ (j := 1) (fun G1 hG1 r112 hr112 => @slX9_cuta_112 d G1 P j154 r112 (hj154.mv hG1 (by decide)) hr112) _).use
    · skip
      refine sm_goto (pc := 91) (tgt := 154) dX9_cut_91 (by decide) ?_
      exact hj154.use
noncomputable def lX9_cuta_45 {d : Nat} (P : zP d) (r45 : zK d) : zK d := (xild 4 (xald 0 (xgfI 25 2 (xcmpS tgeR rlGe rhS rlS rhLt (xpI 0 (xist 4 (xloop (fun r71 => (lX9_cuta_71 P r71)) 100000))) (xald 0 (xgfR 25 44 (xild 4 (xpL 0 (xlas (xincR 4 1 r45))))))))))
set_option maxRecDepth 100000 in
set_option maxHeartbeats 4000000 in
theorem slX9_cuta_45 {d : Nat} [zGh] (P : zP d) (r45 : zK d) (hr45 : zSimJ 1 X_X9_cut 3 P 45 r45) : zSim X_X9_cut 3 P 45 (lX9_cuta_45 P r45) := by
  unfold lX9_cuta_45
  refine sm_iload (pc := 45) (n := 4) dX9_cut_45 ?_
  refine sm_aload_n (pc := 47) (n := 0) dX9_cut_47 rfl ?_
  refine gf_X9_153 (pc := 48) rfl dX9_cut_48 ?_
  refine sm_icmpS_ge (pc := 51) (tgt := 68) dX9_cut_51 (by decide) ?_ ?_
  · skip
    refine sm_iconst (pc := 68) dX9_cut_68 zc_i_0 ?_
    refine sm_istore (pc := 69) (n := 4) dX9_cut_69 ?_
    exact (sm_loopJ (j := 1) (fun G1 hG1 r71 hr71 => @slX9_cuta_71 d G1 P r71 hr71) _).use
  · skip
    refine sm_aload_n (pc := 54) (n := 0) dX9_cut_54 rfl ?_
    refine gf_X9_118 (pc := 55) rfl dX9_cut_55 ?_
    refine sm_iload (pc := 58) (n := 4) dX9_cut_58 ?_
    refine sm_lconst (pc := 60) dX9_cut_60 zc_l_0 ?_
    refine sm_lastore (pc := 61) dX9_cut_61 ?_
    refine sm_iincR (pc := 62) (n := 4) dX9_cut_62 zc_i_1 ?_
    refine sm_goto (pc := 65) (tgt := 45) dX9_cut_65 (by decide) ?_
    exact hr45.use
noncomputable def b_X9_cuta {d : Nat} (P : zP d) : zK d := (xild 1 (xcS 1 0 0 (zstr f_X9_isSlota) (xjoin (bX9_cuta_40 P) (fun j40 => (xif0S teqR rlEq rhEq rlNe rhNe j40 (xild 3 (xcS 1 0 0 (zstr f_X9_isSlota) (xif0S teqR rlEq rhEq rlNe rhNe j40 (xild 2 (xi2lR (xpL 0 (xald 0 (xgfI 25 18 (xpI 1 (xbin zsubR (xi2lR (xcS 3 0 0 (zstr f_X9_isIna) (xif0S teqR rlEq rhEq rlNe rhNe j40 (xald 0 (xild 1 (xpI 0 (xpI 0 (xcV 25 4 0 0 (zstr f_X9_areWhole) (xif0S teqR rlEq rhEq rlNe rhNe j40 (xpI 0 (xist 4 (xloop (fun r45 => (lX9_cuta_45 P r45)) 100000)))))))))))))))))))))))))))
set_option maxRecDepth 100000 in
set_option maxHeartbeats 4000000 in
theorem s_X9_cuta {d : Nat} [zGh] (P : zP d) : zSim X_X9_cut 3 P 0 (b_X9_cuta P) := by
  unfold b_X9_cuta
  refine sm_iload_n (pc := 0) (n := 1) dX9_cut_0 rfl ?_
  refine sm_cS (pc := 1) (n := 1) (mc := 0) (ms := 0) (zMet_str m_X9_isSlota) (cr_X9_319 (X := X_X9_cut) (fr := 3) (frc := 2) (pc := 1) (mc := 0) (ms := 0) rfl (by decide) dX9_cut_1) ?_
  refine sm_joinJ (pc := 4) (pc' := 40) (j := 1) (fun G0 hG0 => @sbX9_cuta_40 d G0 P) (fun j40 hj40 => ?_)
  refine sm_ifS_eq (pc := 4) (tgt := 40) dX9_cut_4 (by decide) ?_ ?_
  · skip
    exact hj40.use
  · skip
    refine sm_iload_n (pc := 7) (n := 3) dX9_cut_7 rfl ?_
    refine sm_cS (pc := 8) (n := 1) (mc := 0) (ms := 0) (zMet_str m_X9_isSlota) (cr_X9_319 (X := X_X9_cut) (fr := 3) (frc := 2) (pc := 8) (mc := 0) (ms := 0) rfl (by decide) dX9_cut_8) ?_
    refine sm_ifS_eq (pc := 11) (tgt := 40) dX9_cut_11 (by decide) ?_ ?_
    · skip
      exact hj40.use
    · skip
      refine sm_iload_n (pc := 14) (n := 2) dX9_cut_14 rfl ?_
      refine sm_i2lR (pc := 15) dX9_cut_15 ?_
      refine sm_lconst (pc := 16) dX9_cut_16 zc_l_0 ?_
      refine sm_aload_n (pc := 17) (n := 0) dX9_cut_17 rfl ?_
      refine gf_X9_199 (pc := 18) rfl dX9_cut_18 ?_
      refine sm_iconst (pc := 21) dX9_cut_21 zc_i_1 ?_
      refine sm_isubR (pc := 22) dX9_cut_22 ?_
      refine sm_i2lR (pc := 23) dX9_cut_23 ?_
      refine sm_cS (pc := 24) (n := 3) (mc := 0) (ms := 0) (zMet_str m_X9_isIna) (cr_X9_283 (X := X_X9_cut) (fr := 3) (frc := 1) (pc := 24) (mc := 0) (ms := 0) rfl (by decide) dX9_cut_24) ?_
      refine sm_ifS_eq (pc := 27) (tgt := 40) dX9_cut_27 (by decide) ?_ ?_
      · skip
        exact hj40.use
      · skip
        refine sm_aload_n (pc := 30) (n := 0) dX9_cut_30 rfl ?_
        refine sm_iload_n (pc := 31) (n := 1) dX9_cut_31 rfl ?_
        refine sm_iconst (pc := 32) dX9_cut_32 zc_i_0 ?_
        refine sm_iconst (pc := 33) dX9_cut_33 zc_i_0 ?_
        refine sm_cV (pc := 34) (ci := 9) (n := 4) (mc := 0) (ms := 0) rfl (zMet_str m_X9_areWhole) (cr_X9_343 (X := X_X9_cut) (fr := 3) (frc := 2) (pc := 34) (mc := 0) (ms := 0) rfl (by decide) dX9_cut_34) ?_
        refine sm_ifS_ne (pc := 37) (tgt := 42) dX9_cut_37 (by decide) ?_ ?_
        · skip
          refine sm_iconst (pc := 42) dX9_cut_42 zc_i_0 ?_
          refine sm_istore (pc := 43) (n := 4) dX9_cut_43 ?_
          exact (sm_loopJ (j := 1) (fun G1 hG1 r45 hr45 => @slX9_cuta_45 d G1 P r45 hr45) _).use
        · skip
          exact hj40.use
noncomputable def f_X9_cuta {d : Nat} : List zV → zH d → zP d → Bool := zfn 8 b_X9_cuta
theorem m_X9_cuta {d : Nat} : zMet (d := d) X_X9_cut yX9_cut 3 f_X9_cuta := zmet_mk (X := X_X9_cut) (by decide) rfl rfl s_X9_cuta

noncomputable def bX9_looka_187 {d : Nat} (P : zP d) : zK d := (xpI 4294967295 (xiret P))
set_option maxRecDepth 100000 in
set_option maxHeartbeats 4000000 in
theorem sbX9_looka_187 {d : Nat} [zGh] (P : zP d) : zSim X_X9_look 2 P 187 (bX9_looka_187 P) := by
  unfold bX9_looka_187
  refine sm_iconst (pc := 187) dX9_look_187 zc_i_m1 ?_
  exact sm_ireturn (pc := 188) dX9_look_188 rfl
noncomputable def bX9_looka_148 {d : Nat} (P : zP d) : zK d := (xald 0 (xgfI 25 0 (xiret P)))
set_option maxRecDepth 100000 in
set_option maxHeartbeats 4000000 in
theorem sbX9_looka_148 {d : Nat} [zGh] (P : zP d) : zSim X_X9_look 2 P 148 (bX9_looka_148 P) := by
  unfold bX9_looka_148
  refine sm_aload_n (pc := 148) (n := 0) dX9_look_148 rfl ?_
  refine gf_X9_169 (pc := 149) rfl dX9_look_149 ?_
  exact sm_ireturn (pc := 152) dX9_look_152 rfl
noncomputable def bX9_looka_153 {d : Nat} (P : zP d) : zK d := (xald 0 (xgfI 25 1 (xiret P)))
set_option maxRecDepth 100000 in
set_option maxHeartbeats 4000000 in
theorem sbX9_looka_153 {d : Nat} [zGh] (P : zP d) : zSim X_X9_look 2 P 153 (bX9_looka_153 P) := by
  unfold bX9_looka_153
  refine sm_aload_n (pc := 153) (n := 0) dX9_look_153 rfl ?_
  refine gf_X9_184 (pc := 154) rfl dX9_look_154 ?_
  exact sm_ireturn (pc := 157) dX9_look_157 rfl
noncomputable def bX9_looka_158 {d : Nat} (P : zP d) : zK d := (xald 0 (xgfI 25 2 (xiret P)))
set_option maxRecDepth 100000 in
set_option maxHeartbeats 4000000 in
theorem sbX9_looka_158 {d : Nat} [zGh] (P : zP d) : zSim X_X9_look 2 P 158 (bX9_looka_158 P) := by
  unfold bX9_looka_158
  refine sm_aload_n (pc := 158) (n := 0) dX9_look_158 rfl ?_
  refine gf_X9_153 (pc := 159) rfl dX9_look_159 ?_
  exact sm_ireturn (pc := 162) dX9_look_162 rfl
noncomputable def bX9_looka_163 {d : Nat} (P : zP d) : zK d := (xald 0 (xgfI 25 11 (xiret P)))
set_option maxRecDepth 100000 in
set_option maxHeartbeats 4000000 in
theorem sbX9_looka_163 {d : Nat} [zGh] (P : zP d) : zSim X_X9_look 2 P 163 (bX9_looka_163 P) := by
  unfold bX9_looka_163
  refine sm_aload_n (pc := 163) (n := 0) dX9_look_163 rfl ?_
  refine gf_X9_172 (pc := 164) rfl dX9_look_164 ?_
  exact sm_ireturn (pc := 167) dX9_look_167 rfl
noncomputable def bX9_looka_168 {d : Nat} (P : zP d) : zK d := (xald 0 (xgfI 25 18 (xiret P)))
set_option maxRecDepth 100000 in
set_option maxHeartbeats 4000000 in
theorem sbX9_looka_168 {d : Nat} [zGh] (P : zP d) : zSim X_X9_look 2 P 168 (bX9_looka_168 P) := by
  unfold bX9_looka_168
  refine sm_aload_n (pc := 168) (n := 0) dX9_look_168 rfl ?_
  refine gf_X9_199 (pc := 169) rfl dX9_look_169 ?_
  exact sm_ireturn (pc := 172) dX9_look_172 rfl
noncomputable def bX9_looka_173 {d : Nat} (P : zP d) : zK d := (xald 0 (xgfI 25 12 (xiret P)))
set_option maxRecDepth 100000 in
set_option maxHeartbeats 4000000 in
theorem sbX9_looka_173 {d : Nat} [zGh] (P : zP d) : zSim X_X9_look 2 P 173 (bX9_looka_173 P) := by
  unfold bX9_looka_173
  refine sm_aload_n (pc := 173) (n := 0) dX9_look_173 rfl ?_
  refine gf_X9_166 (pc := 174) rfl dX9_look_174 ?_
  exact sm_ireturn (pc := 177) dX9_look_177 rfl
noncomputable def bX9_looka_178 {d : Nat} (P : zP d) : zK d := (xald 0 (xgfI 25 46 (xiret P)))
set_option maxRecDepth 100000 in
set_option maxHeartbeats 4000000 in
theorem sbX9_looka_178 {d : Nat} [zGh] (P : zP d) : zSim X_X9_look 2 P 178 (bX9_looka_178 P) := by
  unfold bX9_looka_178
  refine sm_aload_n (pc := 178) (n := 0) dX9_look_178 rfl ?_
  refine gf_X9_347 (pc := 179) rfl dX9_look_179 ?_
  exact sm_ireturn (pc := 182) dX9_look_182 rfl
noncomputable def bX9_looka_183 {d : Nat} (P : zP d) : zK d := (xild 2 (xiret P))
set_option maxRecDepth 100000 in
set_option maxHeartbeats 4000000 in
theorem sbX9_looka_183 {d : Nat} [zGh] (P : zP d) : zSim X_X9_look 2 P 183 (bX9_looka_183 P) := by
  unfold bX9_looka_183
  refine sm_iload_n (pc := 183) (n := 2) dX9_look_183 rfl ?_
  exact sm_ireturn (pc := 184) dX9_look_184 rfl
noncomputable def bX9_looka_185 {d : Nat} (P : zP d) : zK d := (xild 3 (xiret P))
set_option maxRecDepth 100000 in
set_option maxHeartbeats 4000000 in
theorem sbX9_looka_185 {d : Nat} [zGh] (P : zP d) : zSim X_X9_look 2 P 185 (bX9_looka_185 P) := by
  unfold bX9_looka_185
  refine sm_iload_n (pc := 185) (n := 3) dX9_look_185 rfl ?_
  exact sm_ireturn (pc := 186) dX9_look_186 rfl
noncomputable def bX9_looka_87 {d : Nat} (P : zP d) (r57 : zK d) : zK d := (xcS 1 0 0 (zstr f_X9_one) (xbin zaddR (xist 3 (xincR 4 1 r57))))
set_option maxRecDepth 100000 in
set_option maxHeartbeats 4000000 in
theorem sbX9_looka_87 {d : Nat} [zGh] (P : zP d) (r57 : zK d) (hr57 : zSimJ 1 X_X9_look 2 P 57 r57) : zSim X_X9_look 2 P 87 (bX9_looka_87 P r57) := by
  unfold bX9_looka_87
  refine sm_cS (pc := 87) (n := 1) (mc := 0) (ms := 0) (zMet_str m_X9_one) (cr_X9_187 (X := X_X9_look) (fr := 2) (frc := 1) (pc := 87) (mc := 0) (ms := 0) rfl (by decide) dX9_look_87) ?_
  refine sm_iaddR (pc := 90) dX9_look_90 ?_
  refine sm_istore_n (pc := 91) (n := 3) dX9_look_91 rfl ?_
  refine sm_iincR (pc := 92) (n := 4) dX9_look_92 zc_i_1 ?_
  refine sm_goto (pc := 95) (tgt := 57) dX9_look_95 (by decide) ?_
  exact hr57.use
noncomputable def lX9_looka_57 {d : Nat} (P : zP d) (r57 : zK d) : zK d := (xild 4 (xald 0 (xgfI 25 18 (xcmpS tgeR rlGe rhS rlS rhLt (xild 1 (xtswR 8 [(bX9_looka_148 P), (bX9_looka_153 P), (bX9_looka_158 P), (bX9_looka_163 P), (bX9_looka_168 P), (bX9_looka_173 P), (bX9_looka_178 P), (bX9_looka_183 P), (bX9_looka_185 P)] (bX9_looka_187 P))) (xild 3 (xald 0 (xgfR 25 15 (xald 0 (xgfR 25 19 (xild 4 (xalQ 0 (xalQ 0 (xjoin (bX9_looka_87 P r57) (fun j87 => (xif0S teqR rlEq rhEq rlNe rhNe (xpI 1 j87) (xpI 0 j87))))))))))))))))
set_option maxRecDepth 100000 in
set_option maxHeartbeats 4000000 in
theorem slX9_looka_57 {d : Nat} [zGh] (P : zP d) (r57 : zK d) (hr57 : zSimJ 1 X_X9_look 2 P 57 r57) : zSim X_X9_look 2 P 57 (lX9_looka_57 P r57) := by
  unfold lX9_looka_57
  refine sm_iload (pc := 57) (n := 4) dX9_look_57 ?_
  refine sm_aload_n (pc := 59) (n := 0) dX9_look_59 rfl ?_
  refine gf_X9_199 (pc := 60) rfl dX9_look_60 ?_
  refine sm_icmpS_ge (pc := 63) (tgt := 98) dX9_look_63 (by decide) ?_ ?_
  · skip
    refine sm_iload_n (pc := 98) (n := 1) dX9_look_98 rfl ?_
    exact sm_tswR (pc := 99) (n := 8) (tdf := 187) [148, 153, 158, 163, 168, 173, 178, 183, 185] rfl (by decide) dX9_look_99 rfl (by decide +kernel) (by decide) (sbX9_looka_187 P) ⟨sbX9_looka_148 P, sbX9_looka_153 P, sbX9_looka_158 P, sbX9_looka_163 P, sbX9_looka_168 P, sbX9_looka_173 P, sbX9_looka_178 P, sbX9_looka_183 P, sbX9_looka_185 P, trivial⟩
  · skip
    refine sm_iload_n (pc := 66) (n := 3) dX9_look_66 rfl ?_
    refine sm_aload_n (pc := 67) (n := 0) dX9_look_67 rfl ?_
    refine gf_X9_41 (pc := 68) rfl dX9_look_68 ?_
    refine sm_aload_n (pc := 71) (n := 0) dX9_look_71 rfl ?_
    refine gf_X9_50 (pc := 72) rfl dX9_look_72 ?_
    refine sm_iload (pc := 75) (n := 4) dX9_look_75 ?_
    refine sm_ialoadQ (pc := 77) dX9_look_77 ?_
    refine sm_ialoadQ (pc := 78) dX9_look_78 ?_
    refine sm_joinJ (pc := 79) (pc' := 87) (j := 1) (fun G0 hG0 => @sbX9_looka_87 d G0 P r57 (hr57.mv hG0 (by decide))) (fun j87 hj87 => ?_)
    refine sm_ifS_ne (pc := 79) (tgt := 86) dX9_look_79 (by decide) ?_ ?_
    · skip
      refine sm_iconst (pc := 86) dX9_look_86 zc_i_0 ?_
      exact hj87.use
    · skip
      refine sm_iconst (pc := 82) dX9_look_82 zc_i_1 ?_
      refine sm_goto (pc := 83) (tgt := 87) dX9_look_83 (by decide) ?_
      exact hj87.use
noncomputable def bX9_looka_48 {d : Nat} (P : zP d) (r7 : zK d) : zK d := (xincR 4 1 r7)
set_option maxRecDepth 100000 in
set_option maxHeartbeats 4000000 in
theorem sbX9_looka_48 {d : Nat} [zGh] (P : zP d) (r7 : zK d) (hr7 : zSimJ 1 X_X9_look 2 P 7 r7) : zSim X_X9_look 2 P 48 (bX9_looka_48 P r7) := by
  unfold bX9_looka_48
  refine sm_iincR (pc := 48) (n := 4) dX9_look_48 zc_i_1 ?_
  refine sm_goto (pc := 51) (tgt := 7) dX9_look_51 (by decide) ?_
  exact hr7.use
noncomputable def lX9_looka_7 {d : Nat} (P : zP d) (r7 : zK d) : zK d := (xild 4 (xpI 66 (xcmpS tgeR rlGe rhS rlS rhLt (xpI 0 (xist 4 (xloop (fun r57 => (lX9_looka_57 P r57)) 100000))) (xild 4 (xpI 11 (xbinN zremR (xald 0 (xgfI 25 2 (xjoin (bX9_looka_48 P r7) (fun j48 => (xcmpS tgeR rlGe rhS rlS rhLt j48 (xald 0 (xgfR 25 43 (xild 4 (xlal (xpL 0 (xlcmpR (xif0S teqR rlEq rhEq rlNe rhNe j48 (xild 2 (xpI 1 (xild 4 (xpI 11 (xbinN zdivR (xbin zshl (xbin zor (xist 2 j48))))))))))))))))))))))))))
set_option maxRecDepth 100000 in
set_option maxHeartbeats 4000000 in
theorem slX9_looka_7 {d : Nat} [zGh] (P : zP d) (r7 : zK d) (hr7 : zSimJ 1 X_X9_look 2 P 7 r7) : zSim X_X9_look 2 P 7 (lX9_looka_7 P r7) := by
  unfold lX9_looka_7
  refine sm_iload (pc := 7) (n := 4) dX9_look_7 ?_
  refine sm_bipush (pc := 9) dX9_look_9 zc_b_66 ?_
  refine sm_icmpS_ge (pc := 11) (tgt := 54) dX9_look_11 (by decide) ?_ ?_
  · skip
    refine sm_iconst (pc := 54) dX9_look_54 zc_i_0 ?_
    refine sm_istore (pc := 55) (n := 4) dX9_look_55 ?_
    exact (sm_loopJ (j := 1) (fun G1 hG1 r57 hr57 => @slX9_looka_57 d G1 P r57 hr57) _).use
  · skip
    refine sm_iload (pc := 14) (n := 4) dX9_look_14 ?_
    refine sm_bipush (pc := 16) dX9_look_16 zc_b_11 ?_
    refine sm_iremR (pc := 18) dX9_look_18 ?_
    refine sm_aload_n (pc := 19) (n := 0) dX9_look_19 rfl ?_
    refine gf_X9_153 (pc := 20) rfl dX9_look_20 ?_
    refine sm_joinJ (pc := 23) (pc' := 48) (j := 1) (fun G0 hG0 => @sbX9_looka_48 d G0 P r7 (hr7.mv hG0 (by decide))) (fun j48 hj48 => ?_)
    refine sm_icmpS_ge (pc := 23) (tgt := 48) dX9_look_23 (by decide) ?_ ?_
    · skip
      exact hj48.use
    · skip
      refine sm_aload_n (pc := 26) (n := 0) dX9_look_26 rfl ?_
      refine gf_X9_115 (pc := 27) rfl dX9_look_27 ?_
      refine sm_iload (pc := 30) (n := 4) dX9_look_30 ?_
      refine sm_laload (pc := 32) dX9_look_32 ?_
      refine sm_lconst (pc := 33) dX9_look_33 zc_l_0 ?_
      refine sm_lcmpR (pc := 34) dX9_look_34 ?_
      refine sm_ifS_eq (pc := 35) (tgt := 48) dX9_look_35 (by decide) ?_ ?_
      · skip
        exact hj48.use
      · skip
        refine sm_iload_n (pc := 38) (n := 2) dX9_look_38 rfl ?_
        refine sm_iconst (pc := 39) dX9_look_39 zc_i_1 ?_
        refine sm_iload (pc := 40) (n := 4) dX9_look_40 ?_
        refine sm_bipush (pc := 42) dX9_look_42 zc_b_11 ?_
        refine sm_idivR (pc := 44) dX9_look_44 ?_
        refine sm_ishl (pc := 45) dX9_look_45 ?_
        refine sm_ior (pc := 46) dX9_look_46 ?_
        refine sm_istore_n (pc := 47) (n := 2) dX9_look_47 rfl ?_
        exact hj48.use
noncomputable def b_X9_looka {d : Nat} (P : zP d) : zK d := (xpI 0 (xist 2 (xpI 0 (xist 3 (xpI 0 (xist 4 (xloop (fun r7 => (lX9_looka_7 P r7)) 100000)))))))
set_option maxRecDepth 100000 in
set_option maxHeartbeats 4000000 in
theorem s_X9_looka {d : Nat} [zGh] (P : zP d) : zSim X_X9_look 2 P 0 (b_X9_looka P) := by
  unfold b_X9_looka
  refine sm_iconst (pc := 0) dX9_look_0 zc_i_0 ?_
  refine sm_istore_n (pc := 1) (n := 2) dX9_look_1 rfl ?_
  refine sm_iconst (pc := 2) dX9_look_2 zc_i_0 ?_
  refine sm_istore_n (pc := 3) (n := 3) dX9_look_3 rfl ?_
  refine sm_iconst (pc := 4) dX9_look_4 zc_i_0 ?_
  refine sm_istore (pc := 5) (n := 4) dX9_look_5 ?_
  exact (sm_loopJ (j := 1) (fun G1 hG1 r7 hr7 => @slX9_looka_7 d G1 P r7 hr7) _).use
noncomputable def f_X9_looka {d : Nat} : List zV → zH d → zP d → Bool := zfn 5 b_X9_looka
theorem m_X9_looka {d : Nat} : zMet (d := d) X_X9_look yX9_look 2 f_X9_looka := zmet_mk (X := X_X9_look) (by decide) rfl rfl s_X9_looka
end
