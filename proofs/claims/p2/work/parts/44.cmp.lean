/-! comparing within bounds: 0 no, 1 yes, 2 either; what a symbol is then known to be -/
def zsl (n : Nat) : Nat := cond (Nat.ble (zhi n) 2147483648) (Nat.add (zlo n) 2147483648) (cond (Nat.ble 2147483648 (zlo n)) (Nat.sub (zlo n) 2147483648) 0)
def zsh (n : Nat) : Nat := cond (Nat.ble (zhi n) 2147483648) (Nat.add (zhi n) 2147483648) (cond (Nat.ble 2147483648 (zlo n)) (Nat.sub (zhi n) 2147483648) 4294967296)
theorem zs_ok [zGh] {n : Nat} {x : Int32} (h : zIs n x) : zsl n ≤ (zi x + 2147483648) % 4294967296 ∧ (zi x + 2147483648) % 4294967296 < zsh n := by
  have lx := zlo_ok h
  have ux := zhi_ok h
  have hl := zi_lt x
  unfold zsl zsh
  rw [zadd_n, zadd_n, zsub_n, zsub_n]
  cases h1 : Nat.ble (zhi n) 2147483648
  · cases h2 : Nat.ble 2147483648 (zlo n)
    · rw [cond_false, cond_false, cond_false, cond_false]
      omega
    · have q2 := Nat.le_of_ble_eq_true h2
      rw [cond_false, cond_true, cond_false, cond_true]
      omega
  · have q1 := Nat.le_of_ble_eq_true h1
    rw [cond_true, cond_true]
    omega
theorem zsk {x y : Int32} : x ≤ y ↔ (zi x + 2147483648) % 4294967296 ≤ (zi y + 2147483648) % 4294967296 := by
  rw [Int32.le_iff_toInt_le]
  have h1 := zi_lt x
  have h2 := zi_lt y
  rcases zi_cases x with ⟨c1, c2⟩ | ⟨c1, c2⟩ <;> rcases zi_cases y with ⟨d1, d2⟩ | ⟨d1, d2⟩ <;> omega
def tleR (a b : Nat) : Nat := cond (Nat.ble 4294967296 (Nat.lor a b)) (cond (Nat.ble (zsh a) (Nat.succ (zsl b))) 1 (cond (Nat.ble (zsh b) (zsl a)) 0 2)) (cond (zlei a b) 1 0)
def tgeR (a b : Nat) : Nat := tleR b a
def teqR (a b : Nat) : Nat := cond (Nat.ble 4294967296 (Nat.lor a b)) (cond (Nat.ble (zhi a) (zlo b)) 0 (cond (Nat.ble (zhi b) (zlo a)) 0 (cond (Nat.ble (zhi a) (Nat.succ (zlo b))) (cond (Nat.ble (zhi b) (Nat.succ (zlo a))) 1 2) 2))) (cond (Nat.beq a b) 1 0)
def zT3 [zGh] (t : Nat → Nat → Nat) (q : Int32 → Int32 → Prop) : Prop := ∀ {a b : Nat} {x y : Int32}, zIs a x → zIs b y → (t a b = 1 → q x y) ∧ (t a b = 0 → ¬ q x y)
theorem tleR_ok [zGh] : zT3 tleR (fun x y => x ≤ y) := by
  intro a b x y hx hy
  obtain ⟨l1, u1⟩ := zs_ok hx
  obtain ⟨l2, u2⟩ := zs_ok hy
  show (tleR a b = 1 → x ≤ y) ∧ (tleR a b = 0 → ¬ x ≤ y)
  rw [zsk]
  unfold tleR
  cases hb : Nat.ble 4294967296 (Nat.lor a b)
  · obtain ⟨h1, h2⟩ := zle32 hb
    rw [cond_false, ← hx.1 h1, ← hy.1 h2]
    cases hc : zlei (zi x) (zi y)
    · refine ⟨fun q => (by cases q), fun _ => ?_⟩
      rw [← zsk]
      intro q
      rw [zlei_ok.mpr q] at hc
      cases hc
    · exact ⟨fun _ => zsk.mp (zlei_ok.mp hc), fun q => (by cases q)⟩
  · rw [cond_true]
    cases h1 : Nat.ble (zsh a) (Nat.succ (zsl b))
    · cases h2 : Nat.ble (zsh b) (zsl a)
      · exact ⟨fun q => (by cases q), fun q => (by cases q)⟩
      · have q2 := Nat.le_of_ble_eq_true h2
        exact ⟨fun q => (by cases q), fun _ => by omega⟩
    · have q1 : zsh a ≤ zsl b + 1 := Nat.le_of_ble_eq_true h1
      exact ⟨fun _ => by omega, fun q => (by cases q)⟩
theorem tgeR_ok [zGh] : zT3 tgeR (fun x y => y ≤ x) := fun hx hy => tleR_ok hy hx
theorem teqR_ok [zGh] : zT3 teqR (fun x y => x = y) := by
  intro a b x y hx hy
  have lx := zlo_ok hx
  have ux := zhi_ok hx
  have ly := zlo_ok hy
  have uy := zhi_ok hy
  show (teqR a b = 1 → x = y) ∧ (teqR a b = 0 → ¬ x = y)
  unfold teqR
  cases hb : Nat.ble 4294967296 (Nat.lor a b)
  · obtain ⟨h1, h2⟩ := zle32 hb
    rw [cond_false, ← hx.1 h1, ← hy.1 h2]
    cases hc : Nat.beq (zi x) (zi y)
    · exact ⟨fun q => (by cases q), fun _ q => by rw [q, Nat.beq_refl] at hc; cases hc⟩
    · exact ⟨fun _ => zi_inj (Nat.eq_of_beq_eq_true hc), fun q => (by cases q)⟩
  · rw [cond_true]
    cases h1 : Nat.ble (zhi a) (zlo b)
    · rw [cond_false]
      cases h2 : Nat.ble (zhi b) (zlo a)
      · rw [cond_false]
        cases h3 : Nat.ble (zhi a) (Nat.succ (zlo b))
        · exact ⟨fun q => (by cases q), fun q => (by cases q)⟩
        · rw [cond_true]
          cases h4 : Nat.ble (zhi b) (Nat.succ (zlo a))
          · exact ⟨fun q => (by cases q), fun q => (by cases q)⟩
          · have q3 : zhi a ≤ zlo b + 1 := Nat.le_of_ble_eq_true h3
            have q4 : zhi b ≤ zlo a + 1 := Nat.le_of_ble_eq_true h4
            exact ⟨fun _ => zi_inj (by omega), fun q => (by cases q)⟩
      · have q2 := Nat.le_of_ble_eq_true h2
        exact ⟨fun q => (by cases q), fun _ q => by rw [q] at lx ux; omega⟩
    · have q1 := Nat.le_of_ble_eq_true h1
      exact ⟨fun q => (by cases q), fun _ q => by rw [q] at lx ux; omega⟩
/-- bounds of the first number behind a comparison, of numbers that aren't below 0 -/
def znn (a b u v : Nat) : Nat := cond (Nat.ble (zhi a) 2147483648) (cond (Nat.ble (zhi b) 2147483648) u v) v
def rlS (a _b : Nat) : Nat := zlo a
def rhS (a _b : Nat) : Nat := zhi a
def rhLe (a b : Nat) : Nat := znn a b (Nat.min (zhi a) (zhi b)) (zhi a)
def rlGt (a b : Nat) : Nat := znn a b (Nat.max (zlo a) (Nat.succ (zlo b))) (zlo a)
def rlGe (a b : Nat) : Nat := znn a b (Nat.max (zlo a) (zlo b)) (zlo a)
def rhLt (a b : Nat) : Nat := znn a b (Nat.min (zhi a) (Nat.pred (zhi b))) (zhi a)
def rlEq (a b : Nat) : Nat := Nat.max (zlo a) (zlo b)
def rhEq (a b : Nat) : Nat := Nat.min (zhi a) (zhi b)
def rlNe (a b : Nat) : Nat := cond (Nat.beq b (zlo a)) (Nat.succ b) (zlo a)
def rhNe (a b : Nat) : Nat := cond (Nat.beq (Nat.succ b) (zhi a)) b (zhi a)
def zRB [zGh] (q : Int32 → Int32 → Prop) (rl rh : Nat → Nat → Nat) : Prop := ∀ {a b : Nat} {x y : Int32}, zIs a x → zIs b y → q x y → rl a b ≤ zi x ∧ zi x < rh a b
theorem znn_ok {a b u v : Nat} {p : Nat → Prop} (h : zhi a ≤ 2147483648 → zhi b ≤ 2147483648 → p u) (h2 : p v) : p (znn a b u v) := by
  unfold znn
  cases h3 : Nat.ble (zhi a) 2147483648
  · exact h2
  · cases h4 : Nat.ble (zhi b) 2147483648
    · exact h2
    · exact h (Nat.le_of_ble_eq_true h3) (Nat.le_of_ble_eq_true h4)
theorem zle_nn {x y : Int32} (hx : zi x < 2147483648) (hy : zi y < 2147483648) : x ≤ y ↔ zi x ≤ zi y := by
  rw [zsk]
  omega
theorem rb_le [zGh] : zRB (fun x y => x ≤ y) rlS rhLe := by
  intro a b x y hx hy q
  have lx := zlo_ok hx
  have ux := zhi_ok hx
  have uy := zhi_ok hy
  refine ⟨lx, znn_ok (p := fun n => zi x < n) (fun g1 g2 => ?_) ux⟩
  rw [zle_nn (by omega) (by omega)] at q
  exact Nat.lt_min.mpr ⟨ux, by omega⟩
theorem rb_gt [zGh] : zRB (fun x y => ¬ x ≤ y) rlGt rhS := by
  intro a b x y hx hy q
  have lx := zlo_ok hx
  have ux := zhi_ok hx
  have ly := zlo_ok hy
  have uy := zhi_ok hy
  refine ⟨znn_ok (p := fun n => n ≤ zi x) (fun g1 g2 => ?_) lx, ux⟩
  rw [zle_nn (by omega) (by omega)] at q
  exact Nat.max_le.mpr ⟨lx, by show zlo b + 1 ≤ _; omega⟩
theorem rb_ge [zGh] : zRB (fun x y => y ≤ x) rlGe rhS := by
  intro a b x y hx hy q
  have lx := zlo_ok hx
  have ux := zhi_ok hx
  have ly := zlo_ok hy
  have uy := zhi_ok hy
  refine ⟨znn_ok (p := fun n => n ≤ zi x) (fun g1 g2 => ?_) lx, ux⟩
  rw [zle_nn (by omega) (by omega)] at q
  exact Nat.max_le.mpr ⟨lx, by omega⟩
theorem rb_lt [zGh] : zRB (fun x y => ¬ y ≤ x) rlS rhLt := by
  intro a b x y hx hy q
  have lx := zlo_ok hx
  have ux := zhi_ok hx
  have uy := zhi_ok hy
  refine ⟨lx, znn_ok (p := fun n => zi x < n) (fun g1 g2 => ?_) ux⟩
  rw [zle_nn (by omega) (by omega)] at q
  exact Nat.lt_min.mpr ⟨ux, by show _ < zhi b - 1; omega⟩
theorem rb_eq [zGh] : zRB (fun x y => x = y) rlEq rhEq := by
  intro a b x y hx hy q
  have q : x = y := q
  subst q
  exact ⟨Nat.max_le.mpr ⟨zlo_ok hx, zlo_ok hy⟩, Nat.lt_min.mpr ⟨zhi_ok hx, zhi_ok hy⟩⟩
theorem rb_ne [zGh] : zRB (fun x y => ¬ x = y) rlNe rhNe := by
  intro a b x y hx hy q
  have lx := zlo_ok hx
  have ux := zhi_ok hx
  have hl := zi_lt x
  have key : b < 4294967296 → zi x ≠ b := fun hb e => q (zi_inj (by rw [hy.1 hb, e]))
  unfold rlNe rhNe
  constructor
  · cases h1 : Nat.beq b (zlo a)
    · exact lx
    · have e := Nat.eq_of_beq_eq_true h1
      have := key (by omega)
      show b + 1 ≤ _
      omega
  · cases h1 : Nat.beq (Nat.succ b) (zhi a)
    · exact ux
    · have e : b + 1 = zhi a := Nat.eq_of_beq_eq_true h1
      show _ < b
      by_cases hb : b < 4294967296
      · have := key hb
        omega
      · omega
/-- a symbol with bounds -/
def zsy (key lo hi : Nat) : Nat := Nat.add (Nat.add (Nat.add 4294967296 hi) (Nat.mul 1099511627776 lo)) (Nat.mul 4722366482869645213696 key)
theorem zsy_ok [zGh] {key lo hi : Nat} {i : Int32} (h1 : lo ≤ zi i) (h2 : zi i < hi) (h3 : hi ≤ 2147483648) (h4 : zi i = zg (key % 65536) + key / 65536) : zIs (zsy key lo hi) i := by
  have e0 : zsy key lo hi = 4294967296 + hi + 1099511627776 * lo + 4722366482869645213696 * key := rfl
  have e1 : zsy key lo hi % 1099511627776 = 4294967296 + hi := by rw [e0]; omega
  have e2 : zsy key lo hi / 1099511627776 % 4294967296 = lo := by rw [e0]; omega
  have e3 : zsy key lo hi / 4722366482869645213696 = key := by rw [e0]; omega
  refine ⟨fun q => absurd q (by rw [e0]; omega), fun _ _ => by rw [e1]; omega, by rw [e2]; exact h1, fun _ => by rw [e3]; exact h4⟩
theorem zsy_key (key lo hi : Nat) (h3 : hi ≤ 2147483648) (h1 : lo < 4294967296) : zsy key lo hi / 4722366482869645213696 = key := by
  have e0 : zsy key lo hi = 4294967296 + hi + 1099511627776 * lo + 4722366482869645213696 * key := rfl
  rw [e0]
  omega
noncomputable def zrf (key lo hi : Nat) : List zV → (List zV → Bool) → Bool := List.rec (motive := fun _ => (List zV → Bool) → Bool) (fun k => k []) (fun v _ r k => Sum.rec (motive := fun _ => Bool) (fun n => cond (Nat.beq (Nat.div n 4722366482869645213696) key) (zF (fun m => r (fun t => k (zI m :: t))) (zsy key lo hi)) (r (fun t => k (v :: t)))) (fun _ => r (fun t => k (v :: t))) v)
theorem zrf_t {key lo hi : Nat} : ∀ (L : List zV) {k : List zV → Bool}, zrf key lo hi L k = true → ∃ L' : List zV, L'.length = L.length ∧ (∀ (i : Nat) (v' : zV), L'[i]? = some v' → L[i]? = some v' ∨ ∃ n, L[i]? = some (zI n) ∧ n / 4722366482869645213696 = key ∧ v' = zI (zsy key lo hi)) ∧ k L' = true
  | [], k, h => ⟨[], rfl, fun i v' q => by simp at q, h⟩
  | .inl n :: L, k, h => by
    have h : cond (Nat.beq (Nat.div n 4722366482869645213696) key) (zF (fun m => zrf key lo hi L (fun t => k (zI m :: t))) (zsy key lo hi)) (zrf key lo hi L (fun t => k (zI n :: t))) = true := h
    cases hb : Nat.beq (Nat.div n 4722366482869645213696) key
    · rw [hb, cond_false] at h
      obtain ⟨L', h1, h2, h3⟩ := zrf_t L h
      refine ⟨zI n :: L', by simp [h1], fun i v' q => ?_, h3⟩
      cases i with
      | zero => exact Or.inl q
      | succ i => exact h2 i v' (by simpa using q)
    · rw [hb, cond_true, zF_eq] at h
      obtain ⟨L', h1, h2, h3⟩ := zrf_t L h
      refine ⟨zI (zsy key lo hi) :: L', by simp [h1], fun i v' q => ?_, h3⟩
      cases i with
      | zero => exact Or.inr ⟨n, rfl, Nat.eq_of_beq_eq_true hb, by simpa using q.symm⟩
      | succ i => exact h2 i v' (by simpa using q)
  | .inr u :: L, k, h => by
    have h : zrf key lo hi L (fun t => k (Sum.inr u :: t)) = true := h
    obtain ⟨L', h1, h2, h3⟩ := zrf_t L h
    refine ⟨Sum.inr u :: L', by simp [h1], fun i v' q => ?_, h3⟩
    cases i with
    | zero => exact Or.inl q
    | succ i => exact h2 i v' (by simpa using q)
theorem zLoc_rf [zGh] {ad : zA} {nL key lo hi : Nat} {L L' : List zV} {ls : Array Slot} (hL : zLoc ad nL L ls) (hlen : L'.length = L.length) (hz : ∀ (i : Nat) (v' : zV), L'[i]? = some v' → L[i]? = some v' ∨ ∃ n, L[i]? = some (zI n) ∧ n / 4722366482869645213696 = key ∧ v' = zI (zsy key lo hi)) (hk : 0 < key) (h1 : lo ≤ zg (key % 65536) + key / 65536) (h2 : zg (key % 65536) + key / 65536 < hi) (h3 : hi ≤ 2147483648) : zLoc ad nL L' ls := by
  obtain ⟨a1, lv, a2, a3⟩ := hL
  refine ⟨by rw [hlen]; exact a1, lv, a2, fun i v hv => ?_⟩
  rcases hz i v hv with q | ⟨n, q1, q2, rfl⟩
  · exact a3 i v q
  · rcases a3 i _ q1 with z | ⟨x, hx, j, rfl, hj⟩
    · cases z
    · have hn : 4722366482869645213696 ≤ n := by omega
      have e := hj.2.2.2 hn
      rw [q2] at e
      exact Or.inr ⟨_, hx, j, rfl, zsy_ok (by omega) (by omega) h3 e⟩
section OPS
variable {d : Nat} {X : zM} {fr : Nat} {P : zP d} {pc tgt : Nat} {off : Int} {k kt kf : zK d}
/-- a branch with new bounds for a symbol -/
noncomputable def zbr (a lo hi : Nat) (k : zK d) : zK d := fun L S h => cond (Nat.ble 4722366482869645213696 a) (cond (Nat.ble hi 2147483648) (zrf (Nat.div a 4722366482869645213696) lo hi L (fun L => k L S h)) (k L S h)) (k L S h)
noncomputable def xcmpS (t rl rh sl sh : Nat → Nat → Nat) (kt kf : zK d) : zK d := fun L S h => zpI S (fun b S => zpI S (fun a S => Nat.rec (motive := fun _ => Bool) (zbr a (sl a b) (sh a b) kf L S h) (fun m _ => Nat.rec (motive := fun _ => Bool) (zbr a (rl a b) (rh a b) kt L S h) (fun _ _ => and (zbr a (rl a b) (rh a b) kt L S h) (zbr a (sl a b) (sh a b) kf L S h)) m) (t a b)))
noncomputable def xif0S (t rl rh sl sh : Nat → Nat → Nat) (kt kf : zK d) : zK d := fun L S h => zpI S (fun a S => Nat.rec (motive := fun _ => Bool) (zbr a (sl a 0) (sh a 0) kf L S h) (fun m _ => Nat.rec (motive := fun _ => Bool) (zbr a (rl a 0) (rh a 0) kt L S h) (fun _ _ => and (zbr a (rl a 0) (rh a 0) kt L S h) (zbr a (sl a 0) (sh a 0) kf L S h)) m) (t a 0))
theorem zT3_t {t : Nat} {A B C : Bool} (h : Nat.rec (motive := fun _ => Bool) A (fun m _ => Nat.rec (motive := fun _ => Bool) B (fun _ _ => C) m) t = true) : (t = 0 ∧ A = true) ∨ (t = 1 ∧ B = true) ∨ C = true := by
  match t, h with
  | 0, h => exact Or.inl ⟨rfl, h⟩
  | 1, h => exact Or.inr (Or.inl ⟨rfl, h⟩)
  | t + 2, h => exact Or.inr (Or.inr h)
theorem zbr_t [G : zGh] {ad : zA} {nL a lo hi : Nat} {x : Int32} {L S : List zV} {h : zH d} {ls : Array Slot} (hx : zIs a x) (h1 : lo ≤ zi x) (h2 : zi x < hi) (hk : zbr a lo hi k L S h = true) (hL : zLoc ad nL L ls) : ∃ L', k L' S h = true ∧ zLoc ad nL L' ls := by
  have hk : cond (Nat.ble 4722366482869645213696 a) (cond (Nat.ble hi 2147483648) (zrf (Nat.div a 4722366482869645213696) lo hi L (fun L => k L S h)) (k L S h)) (k L S h) = true := hk
  cases b1 : Nat.ble 4722366482869645213696 a
  · rw [b1, cond_false] at hk
    exact ⟨L, hk, hL⟩
  · rw [b1, cond_true] at hk
    cases b2 : Nat.ble hi 2147483648
    · rw [b2, cond_false] at hk
      exact ⟨L, hk, hL⟩
    · rw [b2, cond_true] at hk
      have q1 := Nat.le_of_ble_eq_true b1
      obtain ⟨L', e1, e2, e3⟩ := zrf_t L hk
      have e := hx.2.2.2 q1
      exact ⟨L', e3, zLoc_rf hL e1 e2 (by show 0 < a / 4722366482869645213696; omega) (by show lo ≤ zg (a / 4722366482869645213696 % 65536) + a / 4722366482869645213696 / 65536; rw [← e]; exact h1) (by show zg (a / 4722366482869645213696 % 65536) + a / 4722366482869645213696 / 65536 < hi; rw [← e]; exact h2) (Nat.le_of_ble_eq_true b2)⟩
theorem sm_cmpS [G : zGh] {t rl rh sl sh : Nat → Nat → Nat} {q : Int32 → Int32 → Prop} {tgf : Nat} (ht : zT3 t q) (hr : zRB q rl rh) (hs : zRB (fun x y => ¬ q x y) sl sh) (row : ∀ {p : Program} {l : Launch} {e : Env} {R : Room} {s : State} {m : MethodId} {args : Array Value} {below : List Frame} {meth : Method} {c : Code} {H : Heap} {locs : List Loc} {cells slots : Nat} {Q : State → Prop} {ls : Array Slot} {rest : List Value} {x y : Int32}, p.tables.exec = Jvm.exec → c.code = X.2.1 → (q x y → W p l e R s m args below meth c H locs cells slots Q (F0 m tgt ls rest)) → (¬ q x y → W p l e R s m args below meth c H locs cells slots Q (F0 m tgf ls rest)) → W p l e R s m args below meth c H locs cells slots Q (F0 m pc ls (.int y :: .int x :: rest)))
    (h1 : zSim X fr P tgt kt) (h2 : zSim X fr P tgf kf) : zSim X fr P pc (xcmpS t rl rh sl sh kt kf) := by
  intro Ch cA D ad0 A MC MS p l e s m args below meth c ls st H locs cells slots L S h Cx hk R0
  obtain ⟨ws, hHp, hpre, hP, hD, hS, hL, hst, hcb, hsb⟩ := R0
  obtain ⟨b, S, rfl, hk1⟩ := zpI_t hk
  obtain ⟨a, S, rfl, hk2⟩ := zpI_t hk1
  obtain ⟨y, st, rfl, hy, hst1⟩ := zRepL_I hst
  obtain ⟨x, st, rfl, hx, hst2⟩ := zRepL_I hst1
  have key : (q x y → zbr a (rl a b) (rh a b) kt L S h = true) ∧ (¬ q x y → zbr a (sl a b) (sh a b) kf L S h = true) := by
    rcases zT3_t hk2 with ⟨e0, g⟩ | ⟨e1, g⟩ | g
    · exact ⟨fun z => absurd z ((ht hx hy).2 e0), fun _ => g⟩
    · exact ⟨fun _ => g, fun z => absurd ((ht hx hy).1 e1) z⟩
    · rw [Bool.and_eq_true] at g
      exact ⟨fun _ => g.1, fun _ => g.2⟩
  refine row Cx.1 Cx.2.1 (fun hq => ?_) (fun hq => ?_)
  · obtain ⟨r1, r2⟩ := hr hx hy hq
    obtain ⟨L', g1, g2⟩ := zbr_t hx r1 r2 (key.1 hq) hL
    exact h1 Ch cA D ad0 A MC MS p l e s m args below meth c ls _ H locs cells slots L' _ h Cx g1 ⟨ws, hHp, hpre, hP, hD, hS, g2, hst2, hcb, hsb⟩
  · obtain ⟨r1, r2⟩ := hs hx hy hq
    obtain ⟨L', g1, g2⟩ := zbr_t hx r1 r2 (key.2 hq) hL
    exact h2 Ch cA D ad0 A MC MS p l e s m args below meth c ls _ H locs cells slots L' _ h Cx g1 ⟨ws, hHp, hpre, hP, hD, hS, g2, hst2, hcb, hsb⟩
theorem sm_if0S [G : zGh] {t rl rh sl sh : Nat → Nat → Nat} {q : Int32 → Int32 → Prop} {tgf : Nat} (ht : zT3 t q) (hr : zRB q rl rh) (hs : zRB (fun x y => ¬ q x y) sl sh) (row : ∀ {p : Program} {l : Launch} {e : Env} {R : Room} {s : State} {m : MethodId} {args : Array Value} {below : List Frame} {meth : Method} {c : Code} {H : Heap} {locs : List Loc} {cells slots : Nat} {Q : State → Prop} {ls : Array Slot} {rest : List Value} {x : Int32}, p.tables.exec = Jvm.exec → c.code = X.2.1 → (q x 0 → W p l e R s m args below meth c H locs cells slots Q (F0 m tgt ls rest)) → (¬ q x 0 → W p l e R s m args below meth c H locs cells slots Q (F0 m tgf ls rest)) → W p l e R s m args below meth c H locs cells slots Q (F0 m pc ls (.int x :: rest)))
    (h1 : zSim X fr P tgt kt) (h2 : zSim X fr P tgf kf) : zSim X fr P pc (xif0S t rl rh sl sh kt kf) := by
  intro Ch cA D ad0 A MC MS p l e s m args below meth c ls st H locs cells slots L S h Cx hk R0
  obtain ⟨ws, hHp, hpre, hP, hD, hS, hL, hst, hcb, hsb⟩ := R0
  obtain ⟨a, S, rfl, hk2⟩ := zpI_t hk
  obtain ⟨x, st, rfl, hx, hst2⟩ := zRepL_I hst
  have hy : zIs 0 (0 : Int32) := zIs_e zi_z
  have key : (q x 0 → zbr a (rl a 0) (rh a 0) kt L S h = true) ∧ (¬ q x 0 → zbr a (sl a 0) (sh a 0) kf L S h = true) := by
    rcases zT3_t hk2 with ⟨e0, g⟩ | ⟨e1, g⟩ | g
    · exact ⟨fun z => absurd z ((ht hx hy).2 e0), fun _ => g⟩
    · exact ⟨fun _ => g, fun z => absurd ((ht hx hy).1 e1) z⟩
    · rw [Bool.and_eq_true] at g
      exact ⟨fun _ => g.1, fun _ => g.2⟩
  refine row Cx.1 Cx.2.1 (fun hq => ?_) (fun hq => ?_)
  · obtain ⟨r1, r2⟩ := hr hx hy hq
    obtain ⟨L', g1, g2⟩ := zbr_t hx r1 r2 (key.1 hq) hL
    exact h1 Ch cA D ad0 A MC MS p l e s m args below meth c ls _ H locs cells slots L' _ h Cx g1 ⟨ws, hHp, hpre, hP, hD, hS, g2, hst2, hcb, hsb⟩
  · obtain ⟨r1, r2⟩ := hs hx hy hq
    obtain ⟨L', g1, g2⟩ := zbr_t hx r1 r2 (key.2 hq) hL
    exact h2 Ch cA D ad0 A MC MS p l e s m args below meth c ls _ H locs cells slots L' _ h Cx g1 ⟨ws, hHp, hpre, hP, hD, hS, g2, hst2, hcb, hsb⟩
theorem sm_icmpS_ge [G : zGh] (dg : decode X.2.1 pc = .ok (.if_icmp .ge off, 3)) (ht : (pc : Int) + off = (tgt : Int)) (h1 : zSim X fr P tgt kt) (h2 : zSim X fr P (pc + 3) kf) : zSim X fr P pc (xcmpS tgeR rlGe rhS rlS rhLt kt kf) := sm_cmpS tgeR_ok rb_ge rb_lt (fun hx hb a b => lv_icmp_ge hx hb dg ht a b) h1 h2
theorem sm_icmpS_lt [G : zGh] (dg : decode X.2.1 pc = .ok (.if_icmp .lt off, 3)) (ht : (pc : Int) + off = (tgt : Int)) (h1 : zSim X fr P tgt kt) (h2 : zSim X fr P (pc + 3) kf) : zSim X fr P pc (xcmpS tgeR rlGe rhS rlS rhLt kf kt) := sm_cmpS tgeR_ok rb_ge rb_lt (fun hx hb a b => lv_icmp_lt hx hb dg ht (fun q => b (Int32.not_le.mpr q)) (fun q => a (Int32.not_lt.mp q))) h2 h1
theorem sm_icmpS_gt [G : zGh] (dg : decode X.2.1 pc = .ok (.if_icmp .gt off, 3)) (ht : (pc : Int) + off = (tgt : Int)) (h1 : zSim X fr P tgt kt) (h2 : zSim X fr P (pc + 3) kf) : zSim X fr P pc (xcmpS tleR rlS rhLe rlGt rhS kf kt) := sm_cmpS tleR_ok rb_le rb_gt (fun hx hb a b => lv_icmp_gt hx hb dg ht (fun q => b (Int32.not_le.mpr q)) (fun q => a (Int32.not_lt.mp q))) h2 h1
theorem sm_icmpS_le [G : zGh] (dg : decode X.2.1 pc = .ok (.if_icmp .le off, 3)) (ht : (pc : Int) + off = (tgt : Int)) (h1 : zSim X fr P tgt kt) (h2 : zSim X fr P (pc + 3) kf) : zSim X fr P pc (xcmpS tleR rlS rhLe rlGt rhS kt kf) := sm_cmpS tleR_ok rb_le rb_gt (fun hx hb a b => lv_icmp_le hx hb dg ht a b) h1 h2
theorem sm_icmpS_eq [G : zGh] (dg : decode X.2.1 pc = .ok (.if_icmp .eq off, 3)) (ht : (pc : Int) + off = (tgt : Int)) (h1 : zSim X fr P tgt kt) (h2 : zSim X fr P (pc + 3) kf) : zSim X fr P pc (xcmpS teqR rlEq rhEq rlNe rhNe kt kf) := sm_cmpS teqR_ok rb_eq rb_ne (fun hx hb a b => lv_icmp_eq hx hb dg ht a b) h1 h2
theorem sm_icmpS_ne [G : zGh] (dg : decode X.2.1 pc = .ok (.if_icmp .ne off, 3)) (ht : (pc : Int) + off = (tgt : Int)) (h1 : zSim X fr P tgt kt) (h2 : zSim X fr P (pc + 3) kf) : zSim X fr P pc (xcmpS teqR rlEq rhEq rlNe rhNe kf kt) := sm_cmpS teqR_ok rb_eq rb_ne (fun hx hb a b => lv_icmp_ne hx hb dg ht b (fun q => a q)) h2 h1
theorem sm_ifS_ge [G : zGh] (dg : decode X.2.1 pc = .ok (.ifCond .ge off, 3)) (ht : (pc : Int) + off = (tgt : Int)) (h1 : zSim X fr P tgt kt) (h2 : zSim X fr P (pc + 3) kf) : zSim X fr P pc (xif0S tgeR rlGe rhS rlS rhLt kt kf) := sm_if0S tgeR_ok rb_ge rb_lt (fun hx hb a b => lv_if_ge hx hb dg ht (fun q => a q) (fun q => b q)) h1 h2
theorem sm_ifS_lt [G : zGh] (dg : decode X.2.1 pc = .ok (.ifCond .lt off, 3)) (ht : (pc : Int) + off = (tgt : Int)) (h1 : zSim X fr P tgt kt) (h2 : zSim X fr P (pc + 3) kf) : zSim X fr P pc (xif0S tgeR rlGe rhS rlS rhLt kf kt) := sm_if0S tgeR_ok rb_ge rb_lt (fun hx hb a b => lv_if_lt hx hb dg ht (fun q => b (Int32.not_le.mpr q)) (fun q => a (Int32.not_lt.mp q))) h2 h1
theorem sm_ifS_le [G : zGh] (dg : decode X.2.1 pc = .ok (.ifCond .le off, 3)) (ht : (pc : Int) + off = (tgt : Int)) (h1 : zSim X fr P tgt kt) (h2 : zSim X fr P (pc + 3) kf) : zSim X fr P pc (xif0S tleR rlS rhLe rlGt rhS kt kf) := sm_if0S tleR_ok rb_le rb_gt (fun hx hb a b => lv_if_le hx hb dg ht a b) h1 h2
theorem sm_ifS_gt [G : zGh] (dg : decode X.2.1 pc = .ok (.ifCond .gt off, 3)) (ht : (pc : Int) + off = (tgt : Int)) (h1 : zSim X fr P tgt kt) (h2 : zSim X fr P (pc + 3) kf) : zSim X fr P pc (xif0S tleR rlS rhLe rlGt rhS kf kt) := sm_if0S tleR_ok rb_le rb_gt (fun hx hb a b => lv_if_gt hx hb dg ht (fun q => b (Int32.not_le.mpr q)) (fun q => a (Int32.not_lt.mp q))) h2 h1
theorem sm_ifS_eq [G : zGh] (dg : decode X.2.1 pc = .ok (.ifCond .eq off, 3)) (ht : (pc : Int) + off = (tgt : Int)) (h1 : zSim X fr P tgt kt) (h2 : zSim X fr P (pc + 3) kf) : zSim X fr P pc (xif0S teqR rlEq rhEq rlNe rhNe kt kf) := sm_if0S teqR_ok rb_eq rb_ne (fun hx hb a b => lv_if_eq hx hb dg ht a b) h1 h2
theorem sm_ifS_ne [G : zGh] (dg : decode X.2.1 pc = .ok (.ifCond .ne off, 3)) (ht : (pc : Int) + off = (tgt : Int)) (h1 : zSim X fr P tgt kt) (h2 : zSim X fr P (pc + 3) kf) : zSim X fr P pc (xif0S teqR rlEq rhEq rlNe rhNe kf kt) := sm_if0S teqR_ok rb_eq rb_ne (fun hx hb a b => lv_if_ne hx hb dg ht b (fun q => a q)) h2 h1
end OPS
