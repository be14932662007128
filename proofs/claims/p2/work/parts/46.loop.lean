/-! loops with a symbol, joins, weaker states -/
def zgu (G : zGh) (j v : Nat) : zGh := ⟨(fun i => if i = j then v else @zg G i : Nat → Nat)⟩
theorem zgu_same (G : zGh) (j v : Nat) : @zg (zgu G j v) j = v := if_pos rfl
theorem zgu_ne (G : zGh) {i j : Nat} (v : Nat) (h : i ≠ j) : @zg (zgu G j v) i = @zg G i := if_neg h
theorem zIs_G {G G' : zGh} {n j : Nat} {i : Int32} (hG : ∀ m, m < j → @zg G' m = @zg G m) (hn : n < 4722366482869645213696 ∨ n / 4722366482869645213696 % 65536 < j) (h : @zIs G n i) : @zIs G' n i := by
  refine ⟨h.1, h.2.1, h.2.2.1, fun q => ?_⟩
  rcases hn with hn | hn
  · exact absurd q (Nat.not_le.mpr hn)
  · rw [hG _ hn]
    exact h.2.2.2 q
/-- no symbol from j on -/
noncomputable def zsf (j : Nat) (v : zV) : Bool := Sum.rec (motive := fun _ => Bool) (fun n => cond (Nat.ble 4722366482869645213696 n) (Nat.ble (Nat.succ (Nat.mod (Nat.div n 4722366482869645213696) 65536)) j) true) (fun _ => true) v
theorem zRep_G {G G' : zGh} {ad : zA} {v : zV} {x : Value} {j : Nat} (hG : ∀ m, m < j → @zg G' m = @zg G m) (hv : zsf j v = true) (h : @zRep G ad v x) : @zRep G' ad v x := by
  match v, hv, h with
  | .inl n, hv, ⟨i, h1, h2⟩ =>
    refine ⟨i, h1, zIs_G hG ?_ h2⟩
    have hv : cond (Nat.ble 4722366482869645213696 n) (Nat.ble (Nat.succ (Nat.mod (Nat.div n 4722366482869645213696) 65536)) j) true = true := hv
    cases hb : Nat.ble 4722366482869645213696 n
    · exact Or.inl (zble_f hb)
    · rw [hb, cond_true] at hv
      exact Or.inr (Nat.le_of_ble_eq_true hv)
  | .inr (.inl r), _, h => exact h
  | .inr (.inr (.inl n)), _, h => exact h
  | .inr (.inr (.inr n)), _, h => exact h
noncomputable def zsfL (j : Nat) (L : List zV) : Bool := List.rec (motive := fun _ => Bool) true (fun v _ r => cond (zsf j v) r false) L
theorem zsfL_t {j : Nat} : ∀ {L : List zV}, zsfL j L = true → ∀ v, v ∈ L → zsf j v = true
  | [], _, v, h => by cases h
  | w :: L, h, v, hv => by
    have h : cond (zsf j w) (zsfL j L) false = true := h
    cases hb : zsf j w
    · rw [hb] at h; cases h
    · rw [hb, cond_true] at h
      rcases List.mem_cons.mp hv with rfl | hv
      · exact hb
      · exact zsfL_t h v hv
/-- a list less one of its places; one more place -/
noncomputable def zex (i : Nat) : List zV → (List zV → Bool) → Bool := Nat.rec (motive := fun _ => List zV → (List zV → Bool) → Bool) (fun L k => List.rec (motive := fun _ => Bool) false (fun _ t _ => k t) L) (fun _ r L k => List.rec (motive := fun _ => Bool) false (fun v t _ => r t (fun t => k (v :: t))) L) i
theorem zex_t : ∀ (i : Nat) {L : List zV} {k : List zV → Bool}, zex i L k = true → ∃ R : List zV, k R = true ∧ R.length + 1 = L.length ∧ (∀ m : Nat, m < i → R[m]? = L[m]?) ∧ (∀ m : Nat, i ≤ m → R[m]? = L[m + 1]?)
  | 0, [], _, h => by cases h
  | 0, v :: L, k, h => ⟨L, h, rfl, fun m hm => absurd hm (Nat.not_lt_zero m), fun m _ => by simp⟩
  | i + 1, [], _, h => by cases h
  | i + 1, v :: L, k, h => by
    obtain ⟨R, h1, h2, h3, h4⟩ := zex_t i (L := L) (k := fun t => k (v :: t)) h
    refine ⟨v :: R, h1, by simp; omega, fun m hm => ?_, fun m hm => ?_⟩
    · cases m with
      | zero => rfl
      | succ m => simpa using h3 m (by omega)
    · cases m with
      | zero => omega
      | succ m => simpa using h4 m (by omega)
noncomputable def zin (i : Nat) (x : zV) : List zV → (List zV → Bool) → Bool := Nat.rec (motive := fun _ => List zV → (List zV → Bool) → Bool) (fun R k => k (x :: R)) (fun _ r R k => List.rec (motive := fun _ => Bool) false (fun v t _ => r t (fun t => k (v :: t))) R) i
theorem zin_t : ∀ (i : Nat) {x : zV} {R : List zV} {k : List zV → Bool}, zin i x R k = true → ∃ L : List zV, k L = true ∧ L.length = R.length + 1 ∧ L[i]? = some x ∧ (∀ m : Nat, m < i → L[m]? = R[m]?) ∧ (∀ m : Nat, i ≤ m → L[m + 1]? = R[m]?)
  | 0, x, R, k, h => ⟨x :: R, h, rfl, rfl, fun m hm => absurd hm (Nat.not_lt_zero m), fun m _ => by simp⟩
  | i + 1, x, [], k, h => by cases h
  | i + 1, x, v :: R, k, h => by
    obtain ⟨L, h1, h2, h3, h4, h5⟩ := zin_t i (x := x) (R := R) (k := fun t => k (v :: t)) h
    refine ⟨v :: L, h1, by simp [h2], by simpa using h3, fun m hm => ?_, fun m hm => ?_⟩
    · cases m with
      | zero => rfl
      | succ m => simpa using h4 m (by omega)
    · cases m with
      | zero => omega
      | succ m => simpa using h5 m (by omega)
theorem zLoc_new {G G3 : zGh} {ad : zA} {nL i j n c : Nat} {L L0 R R0 : List zV} {ls : Array Slot} (hL : @zLoc G ad nL L ls) (r1 : R.length + 1 = L.length) (r2 : ∀ m : Nat, m < i → R[m]? = L[m]?) (r3 : ∀ m : Nat, i ≤ m → R[m]? = L[m + 1]?)
    (q1 : L0.length = R0.length + 1) (q2 : L0[i]? = some (zI c)) (q3 : ∀ m : Nat, m < i → L0[m]? = R0[m]?) (q4 : ∀ m : Nat, i ≤ m → L0[m + 1]? = R0[m]?) (hs : zsubL true R R0 = true) (hf : zsfL j R0 = true) (hG : ∀ m, m < j → @zg G3 m = @zg G m) (hi : L[i]? = some (zI n)) (hc : ∀ iv : Int32, ls[i]? = some (.val (.int iv)) → @zIs G n iv → @zIs G3 c iv) : @zLoc G3 ad nL L0 ls := by
  obtain ⟨a1, lv, a2, a3⟩ := hL
  obtain ⟨s1, s2⟩ := zsubL_t hs
  refine ⟨by omega, lv, a2, fun m w hw => ?_⟩
  have key : ∀ p q : Nat, R0[p]? = some w → R[p]? = L[q]? → w = zU ∨ ∃ x : Value, (q, x) ∈ lv ∧ @zRep G3 ad w x := by
    intro p q e1 e2
    obtain ⟨v, v1, v2⟩ := s2 p w e1
    rw [e2] at v1
    rcases a3 q v v1 with rfl | ⟨x, hx, hr⟩
    · exact Or.inl (zsubV_U v2)
    · rcases @zsubV_ok G true ad v w x v2 hr with ⟨-, z⟩ | z
      · exact Or.inl z
      · exact Or.inr ⟨x, hx, zRep_G hG (zsfL_t hf w (List.mem_of_getElem? e1)) z⟩
  rcases Nat.lt_trichotomy m i with h | h | h
  · exact key m m (by rw [← q3 m h]; exact hw) (r2 m h)
  · subst h
    rw [q2] at hw
    cases hw
    rcases a3 m _ hi with z | ⟨x, hx, iv, rfl, h2⟩
    · cases z
    · exact Or.inr ⟨_, hx, iv, rfl, hc iv (a2.2.2 _ hx) h2⟩
  · obtain ⟨m', rfl⟩ : ∃ m', m = m' + 1 := ⟨m - 1, by omega⟩
    exact key m' (m' + 1) (by rw [← q4 m' (by omega)]; exact hw) (r3 m' (by omega))
theorem zCx_G {G G' : zGh} {X : zM} {cA : Nat → ClassId} {D : va_G} {p : Program} {s : State} {m : MethodId} {args : Array Value} {meth : Method} {c : Code} {A : Nat → Prop} (h0 : @zg G' 0 = @zg G 0) (Cx : @zCx G X cA D p s m args meth c A) : @zCx G' X cA D p s m args meth c A := ⟨Cx.1, Cx.2.1, Cx.2.2.1, Cx.2.2.2.1, Cx.2.2.2.2.1, Cx.2.2.2.2.2.1, Cx.2.2.2.2.2.2.1, Cx.2.2.2.2.2.2.2.1, ⟨Cx.2.2.2.2.2.2.2.2.1.1, Cx.2.2.2.2.2.2.2.2.1.2.trans h0.symm⟩, Cx.2.2.2.2.2.2.2.2.2⟩
section OPS
variable {d : Nat} {X : zM} {fr : Nat} {P : zP d} {pc pc' : Nat} {k : zK d}
/-- whatever symbols from j on stand for -/
def zSimJ [G : zGh] {d : Nat} (j : Nat) (X : zM) (fr : Nat) (P : zP d) (pc : Nat) (k : zK d) : Prop := ∀ G' : zGh, (∀ m, m < j → @zg G' m = @zg G m) → @zSim G' d X fr P pc k
theorem zSimJ.use [G : zGh] {j : Nat} (h : zSimJ j X fr P pc k) : zSim X fr P pc k := h G (fun _ _ => rfl)
theorem zSimJ.mv {G G' : zGh} {j j' : Nat} (h : @zSimJ G d j X fr P pc k) (hG : ∀ m, m < j' → @zg G' m = @zg G m) (hj : j ≤ j') : @zSimJ G' d j X fr P pc k := fun G2 h2 => h G2 (fun m hm => (h2 m hm).trans (hG m (by omega)))
/-- a way to weaken a state, a way to find a bound: nothing needs to be known of them -/
abbrev zWk (d : Nat) : Type := List zV → zH d → (List zV → zH d → Bool) → Bool
abbrev zHs (d : Nat) : Type := List zV → zH d → (Nat → Bool) → Bool
def zWkOK (wk : zWk d) : Prop := ∀ L h K, wk L h K = true → ∃ L' h', K L' h' = true
def zHsOK (hs : zHs d) : Prop := ∀ L h K, hs L h K = true → ∃ n, K n = true
/-- the way back to a loop's head -/
noncomputable def zbk (i j hi : Nat) (R0 : List zV) (h0 : zH d) : zK d := fun L S h => List.rec (motive := fun _ => Bool) (znth i L (fun v => Sum.rec (motive := fun _ => Bool) (fun n => cond (Nat.beq (Nat.div n 4722366482869645213696) (Nat.add j 65536)) (cond (Nat.ble (zhi n) hi) (zex i L (fun R => cond (zsubL true R R0) (zsubH h h0) false)) false) false) (fun _ => false) v)) (fun _ _ _ => false) S
theorem zbk_t {i j hi : Nat} {R0 : List zV} {h0 h : zH d} {L S : List zV} (hk : zbk i j hi R0 h0 L S h = true) : S = [] ∧ ∃ (n : Nat) (R : List zV), L[i]? = some (zI n) ∧ n / 4722366482869645213696 = j + 65536 ∧ zhi n ≤ hi ∧ R.length + 1 = L.length ∧ (∀ m : Nat, m < i → R[m]? = L[m]?) ∧ (∀ m : Nat, i ≤ m → R[m]? = L[m + 1]?) ∧ zsubL true R R0 = true ∧ zsubH h h0 = true := by
  match S, hk with
  | [], hk =>
    obtain ⟨v, hv, hk2⟩ := znth_t i hk
    match v, hv, hk2 with
    | .inl n, hv, hk2 =>
      have hk2 : cond (Nat.beq (Nat.div n 4722366482869645213696) (Nat.add j 65536)) (cond (Nat.ble (zhi n) hi) (zex i L (fun R => cond (zsubL true R R0) (zsubH h h0) false)) false) false = true := hk2
      cases h1 : Nat.beq (Nat.div n 4722366482869645213696) (Nat.add j 65536)
      · rw [h1] at hk2; cases hk2
      cases h2 : Nat.ble (zhi n) hi
      · rw [h1, h2] at hk2; cases hk2
      rw [h1, h2, cond_true, cond_true] at hk2
      obtain ⟨R, g1, g2, g3, g4⟩ := zex_t i hk2
      cases h3 : zsubL true R R0
      · rw [h3] at g1; cases g1
      rw [h3, cond_true] at g1
      exact ⟨rfl, n, R, hv, Nat.eq_of_beq_eq_true h1, Nat.le_of_ble_eq_true h2, g2, g3, g4, h3, g1⟩
noncomputable def xlp (i j : Nat) (hs : zHs d) (wk : zWk d) (body : zK d → zK d) : zK d := fun L S h => List.rec (motive := fun _ => Bool) (znth i L (fun v => Sum.rec (motive := fun _ => Bool) (fun n => hs L h (fun hi => cond (Nat.ble hi 2147483648) (cond (Nat.ble (zhi n) hi) (zF (fun lo => wk L h (fun L1 h0 => zex i L1 (fun R0 => zex i L (fun R => cond (zsubL true R R0) (cond (zsfL j R0) (cond (zsubH h h0) (zF (fun c => zin i (zI c) R0 (fun L0 => body (zbk i j hi R0 h0) L0 [] h0)) (zsy j lo hi)) false) false) false)))) (zlo n)) false) false)) (fun _ => false) v)) (fun _ _ _ => false) S
theorem lp_claim [G : zGh] {i j lo hi : Nat} {R0 L0 : List zV} {h0 : zH d} {body : zK d → zK d} (hj0 : 0 < j) (hj : j < 65536) (hhi : hi ≤ 2147483648) (q1 : L0.length = R0.length + 1) (q2 : L0[i]? = some (zI (zsy j lo hi))) (q3 : ∀ m : Nat, m < i → L0[m]? = R0[m]?) (q4 : ∀ m : Nat, i ≤ m → L0[m + 1]? = R0[m]?) (hf : zsfL j R0 = true)
    (hb : ∀ (G' : zGh), (∀ m, m < j → @zg G' m = @zg G m) → ∀ r, @zSimJ G' d (j + 1) X fr P pc r → @zSim G' d X fr P pc (body r)) (hk0 : body (zbk i j hi R0 h0) L0 [] h0 = true) : ∀ (n v : Nat), hi ≤ v + n → lo ≤ v → v < hi → ∀ (G' : zGh), (∀ m, m < j → @zg G' m = @zg G m) → @zg G' j = v →
    ∀ (Ch : zCh) (cA : Nat → ClassId) (D : va_G) (ad0 : zA) (A : Nat → Prop) (MC MS : Nat) (p : Program) (l : Launch) (e : Env) (s : State) (m : MethodId) (args : Array Value) (below : List Frame) (meth : Method) (c : Code) (ls : Array Slot) (st : List Value) (H : Heap) (locs : List Loc) (cells slots : Nat),
    @zCx G' X cA D p s m args meth c A → @zRel G' Ch d cA D ad0 A MC MS s X.2.2.1 L0 [] h0 ls st H locs cells slots → W p l e (zRm fr MC MS) s m args below meth c H locs cells slots (MQ below (zQc P cA D ad0 A) args s MC MS A) (F0 m pc ls st)
  | 0, v, h1, h2, h3 => absurd h1 (by omega)
  | n + 1, v, h1, h2, h3 => by
    intro G' hG' hv Ch cA D ad0 A MC MS p l e s m args below meth c ls st H locs cells slots Cx R
    refine hb G' hG' (zbk i j hi R0 h0) ?_ Ch cA D ad0 A MC MS p l e s m args below meth c ls st H locs cells slots L0 [] h0 Cx hk0 R
    intro G2 hG2 Ch2 cA2 D2 ad2 A2 MC2 MS2 p2 l2 e2 s2 m2 args2 below2 meth2 c2 ls2 st2 H2 locs2 cells2 slots2 L S h Cx2 hk R2
    obtain ⟨rfl, nn, R1, g1, g2, g3, g4, g5, g6, g7, g8⟩ := zbk_t hk
    obtain ⟨ws, hHp, hpre, hP, hD, hS, hL, hst, hcb, hsb⟩ := R2
    have hval : ∀ iv : Int32, @zIs G2 nn iv → zi iv = v + 1 ∧ zi iv < hi := by
      intro iv hz
      have hn : 4722366482869645213696 ≤ nn := by omega
      have e1 := hz.2.2.2 hn
      have e2 : (j + 65536) % 65536 = j := by omega
      have e3 : (j + 65536) / 65536 = 1 := by omega
      rw [g2, e2, e3, hG2 j (Nat.lt_succ_self j), hv] at e1
      exact ⟨e1, Nat.lt_of_lt_of_le (@zhi_ok G2 nn iv hz) g3⟩
    obtain ⟨iv, hiv⟩ : ∃ iv : Int32, @zIs G2 nn iv := by
      obtain ⟨-, lv, -, a3⟩ := hL
      rcases a3 i _ g1 with z | ⟨x, hx, iv, rfl, h2⟩
      · cases z
      · exact ⟨iv, h2⟩
    obtain ⟨w1, w2⟩ := hval iv hiv
    have hG3 : ∀ m, m < j → @zg (zgu G2 j (v + 1)) m = @zg G2 m := fun m hm => zgu_ne G2 (v + 1) (by omega)
    obtain ⟨-, z2, z3, -⟩ := zsubH_t g8
    match st2, hst with
    | [], _ =>
      exact lp_claim (G := G) hj0 hj hhi q1 q2 q3 q4 hf hb hk0 n (v + 1) (by omega) (by omega) (by omega) (zgu G2 j (v + 1)) (fun m hm => (hG3 m hm).trans ((hG2 m (by omega)).trans (hG' m hm))) (zgu_same G2 j (v + 1)) Ch2 cA2 D2 ad2 A2 MC2 MS2 p2 l2 e2 s2 m2 args2 below2 meth2 c2 ls2 [] H2 locs2 cells2 slots2 (zCx_G (hG3 0 hj0) Cx2)
        ⟨ws, zsubH_ok g8 hHp, hpre, hP, hD, hS, zLoc_new hL g4 g5 g6 q1 q2 q3 q4 g7 hf hG3 g1 (fun iv _ hz => by
          obtain ⟨y1, y2⟩ := hval iv hz
          exact @zsy_ok (zgu G2 j (v + 1)) j lo hi iv (by omega) y2 hhi (by rw [Nat.mod_eq_of_lt hj, Nat.div_eq_of_lt hj, zgu_same]; exact y1)), trivial, by omega, by omega⟩
/-- a loop whose one number rises by 1 at each turn up to a bound -/
theorem sm_lp [G : zGh] {i j : Nat} {hs : zHs d} {wk : zWk d} {body : zK d → zK d} (hj0 : 0 < j) (hj : j < 65536) (hhs : zHsOK hs) (hwk : zWkOK wk) (hb : ∀ (G' : zGh), (∀ m, m < j → @zg G' m = @zg G m) → ∀ r, @zSimJ G' d (j + 1) X fr P pc r → @zSim G' d X fr P pc (body r)) : zSim X fr P pc (xlp i j hs wk body) := by
  intro Ch cA D ad0 A MC MS p l e s m args below meth c ls st H locs cells slots L S h Cx hk R
  obtain ⟨ws, hHp, hpre, hP, hD, hS, hL, hst, hcb, hsb⟩ := R
  match S, hk, hst with
  | [], hk, hst =>
    obtain ⟨v, hv, hk2⟩ := znth_t i hk
    match v, hv, hk2 with
    | .inl n, hv, hk2 =>
      obtain ⟨hi, hk3⟩ := hhs _ _ _ hk2
      cases h1 : Nat.ble hi 2147483648
      · rw [h1] at hk3; cases hk3
      cases h2 : Nat.ble (zhi n) hi
      · rw [h1, h2] at hk3; cases hk3
      rw [h1, h2, cond_true, cond_true, zF_eq] at hk3
      obtain ⟨L1, h0, hk4⟩ := hwk _ _ _ hk3
      obtain ⟨R0, hk5, -⟩ := zex_t i hk4
      obtain ⟨R, hk6, r1, r2, r3⟩ := zex_t i hk5
      cases h3 : zsubL true R R0
      · rw [h3] at hk6; cases hk6
      cases h4 : zsfL j R0
      · rw [h3, h4] at hk6; cases hk6
      cases h5 : zsubH h h0
      · rw [h3, h4, h5] at hk6; cases hk6
      rw [h3, h4, h5, cond_true, cond_true, cond_true, zF_eq] at hk6
      obtain ⟨L0, hk7, q1, q2, q3, q4⟩ := zin_t i hk6
      obtain ⟨-, z2, z3, -⟩ := zsubH_t h5
      have hhi := Nat.le_of_ble_eq_true h1
      have hz0 := Nat.le_of_ble_eq_true h2
      obtain ⟨iu, hls, hiu⟩ : ∃ iu : Int32, ls[i]? = some (.val (.int iu)) ∧ zIs n iu := by
        obtain ⟨-, lv, hlv, a3⟩ := hL
        rcases a3 i _ hv with z | ⟨x, hx, iu, rfl, hiu⟩
        · cases z
        · exact ⟨iu, hlv.2.2 _ hx, hiu⟩
      match st, hst with
      | [], _ =>
        exact lp_claim hj0 hj hhi q1 q2 q3 q4 h4 hb hk7 hi (zi iu) (by omega) (zlo_ok hiu) (Nat.lt_of_lt_of_le (zhi_ok hiu) hz0) (zgu G j (zi iu)) (fun m hm => zgu_ne G _ (by omega)) (zgu_same G j _) Ch cA D ad0 A MC MS p l e s m args below meth c ls [] H locs cells slots (zCx_G (zgu_ne G (zi iu) (by omega)) Cx)
          ⟨ws, zsubH_ok h5 hHp, hpre, hP, hD, hS, zLoc_new hL r1 r2 r3 q1 q2 q3 q4 h3 h4 (fun m hm => zgu_ne G (zi iu) (by omega)) hv (fun iv hl _ => by
            rw [hls] at hl
            cases hl
            exact @zsy_ok (zgu G j (zi iu)) j (zlo n) hi iu (zlo_ok hiu) (Nat.lt_of_lt_of_le (zhi_ok hiu) hz0) hhi (by rw [Nat.mod_eq_of_lt hj, Nat.div_eq_of_lt hj, zgu_same]; rfl)), trivial, by omega, by omega⟩
/-- a join that is gone through once, from a weaker state -/
noncomputable def xjn (wk : zWk d) (sp : List zV → (List zV → Bool) → Bool) (c : zK d) (f : zK d → zK d) : zK d := fun L S h => wk L h (fun L0 h0 => sp S (fun S0 => cond (c L0 S0 h0) (f (xchk L0 S0 h0) L S h) false))
theorem sm_jn [G : zGh] {j : Nat} {wk : zWk d} {sp : List zV → (List zV → Bool) → Bool} {c : zK d} {f : zK d → zK d} (hwk : zWkOK wk) (hsp : ∀ S K, sp S K = true → ∃ S0, K S0 = true) (hc : zSimJ j X fr P pc' c) (hf : ∀ r, zSimJ j X fr P pc' r → zSim X fr P pc (f r)) : zSim X fr P pc (xjn wk sp c f) := by
  intro Ch cA D ad0 A MC MS p l e s m args below meth c0 ls st H locs cells slots L S h Cx hk R
  obtain ⟨L0, h0, hk1⟩ := hwk _ _ _ hk
  obtain ⟨S0, hk2⟩ := hsp _ _ hk1
  cases h1 : c L0 S0 h0
  · rw [h1] at hk2; cases hk2
  rw [h1, cond_true] at hk2
  exact hf (xchk L0 S0 h0) (fun G' hG' => @sm_chk d X fr P pc' c G' L0 S0 h0 (hc G' hG') h1) Ch cA D ad0 A MC MS p l e s m args below meth c0 ls st H locs cells slots L S h Cx hk2 R
theorem sm_joinJ [G : zGh] {j : Nat} {c : zK d} {f : zK d → zK d} (hc : zSimJ j X fr P pc' c) (hf : ∀ r, zSimJ j X fr P pc' r → zSim X fr P pc (f r)) : zSim X fr P pc (xjoin c f) := hf c hc
/-- a loop with fuel, whatever symbols from j on stand for -/
theorem sm_loopJ [G : zGh] {j : Nat} {body : zK d → zK d} (hb : ∀ (G' : zGh), (∀ m, m < j → @zg G' m = @zg G m) → ∀ r, @zSimJ G' d j X fr P pc r → @zSim G' d X fr P pc (body r)) : ∀ fuel, zSimJ j X fr P pc (xloop body fuel)
  | 0 => fun G' _ => by
    intro Ch cA D ad0 A MC MS p l e s m args below meth c0 ls st H locs cells slots L S h Cx hk R
    cases hk
  | n + 1 => fun G' hG' => hb G' hG' _ ((sm_loopJ (G := G) hb n).mv hG' (Nat.le_refl j))
/-- a weaker state -/
noncomputable def xwk (wk : zWk d) (k : zK d) : zK d := fun L S h => wk L h (fun L0 h0 => cond (zsubL true L L0) (cond (zsubH h h0) (k L0 S h0) false) false)
theorem sm_wk [G : zGh] {wk : zWk d} (hwk : zWkOK wk) (hs : zSim X fr P pc k) : zSim X fr P pc (xwk wk k) := by
  intro Ch cA D ad0 A MC MS p l e s m args below meth c ls st H locs cells slots L S h Cx hk R0
  obtain ⟨ws, hHp, hpre, hP, hD, hS, hL, hst, hcb, hsb⟩ := R0
  obtain ⟨L0, h0, hk1⟩ := hwk _ _ _ hk
  cases h1 : zsubL true L L0
  · rw [h1] at hk1; cases hk1
  cases h2 : zsubH h h0
  · rw [h1, h2] at hk1; cases hk1
  rw [h1, h2, cond_true, cond_true] at hk1
  obtain ⟨-, g2, g3, -⟩ := zsubH_t h2
  exact hs Ch cA D ad0 A MC MS p l e s m args below meth c ls st H locs cells slots L0 S h0 Cx hk1 ⟨ws, zsubH_ok h2 hHp, hpre, hP, hD, hS, zsubL_L h1 hL, hst, by omega, by omega⟩
end OPS
