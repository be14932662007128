/-! a method as a whole; calls -/
noncomputable def zpad (n : Nat) : (List zV → Bool) → Bool := Nat.rec (motive := fun _ => (List zV → Bool) → Bool) (fun k => k []) (fun _ r k => r (fun t => k (zU :: t))) n
theorem zpad_t : ∀ (n : Nat) {k : List zV → Bool}, zpad n k = true → ∃ L : List zV, L.length = n ∧ (∀ (i : Nat) (v : zV), L[i]? = some v → v = zU) ∧ k L = true
  | 0, k, h => ⟨[], rfl, fun i v q => by simp at q, h⟩
  | n + 1, k, h => by
    obtain ⟨L, h1, h2, h3⟩ := zpad_t n (k := fun t => k (zU :: t)) h
    refine ⟨zU :: L, by simp [h1], fun i v q => ?_, h3⟩
    cases i with
    | zero => simpa using q.symm
    | succ i => exact h2 i v (by simpa using q)
/-- the locals at the entry -/
noncomputable def zen (as : List zV) : Nat → (List zV → Bool) → Bool := List.rec (motive := fun _ => Nat → (List zV → Bool) → Bool) (fun n k => zpad n k) (fun v _ r n k => Nat.rec (motive := fun _ => Bool) false (fun m _ => Sum.rec (motive := fun _ => Bool) (fun a => r m (fun t => k (zI a :: t))) (fun u => Sum.rec (motive := fun _ => Bool) (fun a => r m (fun t => k (zR a :: t))) (fun w => Sum.rec (motive := fun _ => Bool) (fun a => Nat.rec (motive := fun _ => Bool) false (fun m _ => r m (fun t => k (zL a :: zU :: t))) m) (fun a => r m (fun t => k (zW a :: t))) w) u) v) n) as
theorem zen_t [zGh] {ad : zA} : ∀ (as : List zV) (av : List Value) (n off : Nat) {k : List zV → Bool}, zRepL ad as av → zen as n k = true → ∃ L, L.length = n ∧ (lg_sl av).length ≤ n ∧ (∀ i v, L[i]? = some v → v = zU ∨ ∃ x, (off + i, x) ∈ lv_args off av ∧ zRep ad v x) ∧ k L = true
  | [], [], n, off, k, _, h => by
    obtain ⟨L, h1, h2, h3⟩ := zpad_t n (k := k) h
    exact ⟨L, h1, by simp [lg_sl], fun i v q => Or.inl (h2 i v q), h3⟩
  | v :: as, x :: av, 0, off, k, _, h => by cases h
  | .inl a :: as, x :: av, n + 1, off, k, hr, h => by
    have h : zen as n (fun t => k (zI a :: t)) = true := h
    obtain ⟨L, h1, h2, h3, h4⟩ := zen_t as av n (off + 1) hr.2 h
    obtain ⟨i, rfl, hi⟩ := hr.1
    refine ⟨zI a :: L, by simp [h1], ?_, fun j v q => ?_, h4⟩
    · have : (lg_sl (Value.int i :: av)).length = (lg_sl av).length + 1 := by simp [lg_sl, Value.category, Nat.add_comm]
      omega
    · cases j with
      | zero =>
        have q : zI a = v := by simpa using q
        subst q
        exact Or.inr ⟨_, List.mem_cons_self, i, rfl, hi⟩
      | succ j =>
        rcases h3 j v (by simpa using q) with z | ⟨y, hy, hz⟩
        · exact Or.inl z
        · refine Or.inr ⟨y, List.mem_cons_of_mem _ ?_, hz⟩
          rw [show off + (j + 1) = off + 1 + j by omega]
          exact hy
  | .inr (.inl a) :: as, x :: av, n + 1, off, k, hr, h => by
    have h : zen as n (fun t => k (zR a :: t)) = true := h
    obtain ⟨L, h1, h2, h3, h4⟩ := zen_t as av n (off + 1) hr.2 h
    obtain ⟨i, rfl, hi⟩ := hr.1
    have hcat : (va_rf i).category = 1 := by cases i <;> rfl
    refine ⟨zR a :: L, by simp [h1], ?_, fun j v q => ?_, h4⟩
    · have : (lg_sl (va_rf i :: av)).length = (lg_sl av).length + 1 := by simp [lg_sl, hcat, Nat.add_comm]
      omega
    · cases j with
      | zero =>
        have q : zR a = v := by simpa using q
        subst q
        exact Or.inr ⟨_, List.mem_cons_self, i, rfl, hi⟩
      | succ j =>
        rcases h3 j v (by simpa using q) with z | ⟨y, hy, hz⟩
        · exact Or.inl z
        · refine Or.inr ⟨y, List.mem_cons_of_mem _ ?_, hz⟩
          rw [hcat, show off + (j + 1) = off + 1 + j by omega]
          exact hy
  | .inr (.inr (.inl a)) :: as, x :: av, 1, off, k, hr, h => by cases h
  | .inr (.inr (.inl a)) :: as, x :: av, n + 2, off, k, hr, h => by
    have h : zen as n (fun t => k (zL a :: zU :: t)) = true := h
    obtain ⟨L, h1, h2, h3, h4⟩ := zen_t as av n (off + 2) hr.2 h
    obtain ⟨i, rfl, hi⟩ := hr.1
    refine ⟨zL a :: zU :: L, by simp [h1], ?_, fun j v q => ?_, h4⟩
    · have : (lg_sl (Value.long i :: av)).length = (lg_sl av).length + 2 := by simp [lg_sl, Value.category]
      omega
    · match j, q with
      | 0, q =>
        have q : zL a = v := by simpa using q
        subst q
        exact Or.inr ⟨_, List.mem_cons_self, i, rfl, hi⟩
      | 1, q =>
        have q : zU = v := by simpa using q
        exact Or.inl q.symm
      | j + 2, q =>
        rcases h3 j v (by simpa using q) with z | ⟨y, hy, hz⟩
        · exact Or.inl z
        · refine Or.inr ⟨y, List.mem_cons_of_mem _ ?_, hz⟩
          rw [show off + (j + 2) = off + 2 + j by omega]
          exact hy
  | .inr (.inr (.inr a)) :: as, x :: av, n + 1, off, k, hr, h => by
    have h : zen as n (fun t => k (zW a :: t)) = true := h
    obtain ⟨L, h1, h2, h3, h4⟩ := zen_t as av n (off + 1) hr.2 h
    have hcat : x.category = 1 := by
      rcases hr.1 with ⟨-, k0, a0, -, -, -, rfl⟩ | ⟨-, rfl⟩
      · rfl
      · generalize zop ad.2 (a - 1152921504606846976) = o
        cases o <;> rfl
    refine ⟨zW a :: L, by simp [h1], ?_, fun j v q => ?_, h4⟩
    · have : (lg_sl (x :: av)).length = (lg_sl av).length + 1 := by simp [lg_sl, hcat, Nat.add_comm]
      omega
    · cases j with
      | zero =>
        have q : zW a = v := by simpa using q
        subst q
        exact Or.inr ⟨_, List.mem_cons_self, hr.1⟩
      | succ j =>
        rcases h3 j v (by simpa using q) with z | ⟨y, hy, hz⟩
        · exact Or.inl z
        · refine Or.inr ⟨y, List.mem_cons_of_mem _ ?_, hz⟩
          rw [hcat, show off + (j + 1) = off + 1 + j by omega]
          exact hy
abbrev zws (X : zM) (y : MethodName) : List Cond := Cond.code y X.2.1 X.2.2.1 X.2.2.2.1 :: ztbl
def zPc (cA : Nat → ClassId) (D : va_G) (ws : va_W) (av : List Value) (sz : Nat) : Array Value → State → Prop := va_Pc av (fun U => U.heap.size = sz ∧ va_P D zcl ws U.heap ∧ va_K D zcl (zty cA) U ∧ va_D (fun _ => True) ws ∧ zStat (va_A ws sz) U U.heap ∧ zEx U)
def zMet {d : Nat} (X : zM) (y : MethodName) (fr : Nat) (f : List zV → zH d → zP d → Bool) : Prop :=
  ∀ [zGh] [zCh] (l : Launch) (cA : Nat → ClassId) (D : va_G) (ws : va_W) (av : List Value) (as : List zV) (h : zH d) (P : zP d) (sz : Nat), f as h P = true → zRepL (zad cA ws) as av → zHp cA h ws → cA 20 = zg 0 →
    Met l y (zws X y) (zRm fr h.2.2.1 h.2.2.2) (zPc cA D ws av sz) (zQc P cA D (zad cA ws) (va_A ws sz)) h.2.2.1 h.2.2.2 (va_A ws sz)
noncomputable def zfn {d : Nat} (nL : Nat) (body : zP d → zK d) : List zV → zH d → zP d → Bool := fun as h P => zen as nL (fun L => body P L [] h)
theorem zmet_mk {d : Nat} {X : zM} {y : MethodName} {fr : Nat} {body : zP d → zK d} (hy : plainName y.cls = true) (h1 : X.1 = y.cls) (h2 : X.2.2.2.2 = y.name) (hs : ∀ [zGh] P, zSim X fr P 0 (body P)) : zMet X y fr (zfn X.2.2.1 body) := by
  intro G Ch l cA D ws av as h P sz hf has hH hT
  refine Met.ofW (cc := X.2.1) (maxL := X.2.2.1) (ret := X.2.2.2.1) hy rfl ?_
  intro p e s m args below meth c s₁ B hml hv
  obtain ⟨rfl, hsz, hP, hK, hD0, hst, hex⟩ := hv
  have hts := atoms_spec (ws := zws X y) B.pre
  subst hsz
  obtain ⟨L, hl1, hl2, hl3, hk⟩ := zen_t as av X.2.2.1 0 has hf
  have hl := lv_entry av (n := X.2.2.1) hl2
  rw [lg_entry_eq]
  refine hs P Ch cA D (zad cA ws) (va_A ws s.heap.size) h.2.2.1 h.2.2.2 p l e s m av.toArray below meth c _ [] s.heap [] 0 0 L [] h ⟨B.exec, B.bytes, hml, ?_, fun w hw => hts w (List.mem_cons_of_mem _ hw), hK, fun q hq => Or.inr hq, B.returns, ⟨B.notSynchronized, hT⟩, ?_, hst, hex⟩ hk ⟨ws, hH, zPre_refl _, hP, hD0.self, va_S.rf, ⟨hl1, _, hl, fun i v hv => ?_⟩, trivial, by omega, by omega⟩
  · rw [h1]
    exact findClass_of_methodNamed B.named
  · rw [h2]
    exact (name_of_methodNamed B.named B.method).1
  · have := hl3 i v hv
    rwa [Nat.zero_add] at this
/-- a recursive method: by depth -/
noncomputable def zrec {d : Nat} (nL : Nat) (body : (List zV → zH d → zP d → Bool) → zP d → zK d) (n : Nat) : List zV → zH d → zP d → Bool := Nat.rec (motive := fun _ => List zV → zH d → zP d → Bool) (fun _ _ _ => false) (fun _ r => zfn nL (body r)) n
theorem zmet_rec {d : Nat} {X : zM} {y : MethodName} {fr : Nat} {body : (List zV → zH d → zP d → Bool) → zP d → zK d} (hy : plainName y.cls = true) (h1 : X.1 = y.cls) (h2 : X.2.2.2.2 = y.name) (hs : ∀ n f, zMet X y (fr + n) f → ∀ [zGh] P, zSim X (fr + (n + 1)) P 0 (body f P)) : ∀ n, zMet X y (fr + n) (zrec X.2.2.1 body n)
  | 0 => fun l cA D ws av as h P sz hf => by cases hf
  | n + 1 => zmet_mk hy h1 h2 (hs n _ (zmet_rec hy h1 h2 hs n))
/-- arguments off the stack -/
noncomputable def zarg (n : Nat) : List zV → List zV → (List zV → List zV → Bool) → Bool := Nat.rec (motive := fun _ => List zV → List zV → (List zV → List zV → Bool) → Bool) (fun S as k => k as S) (fun _ r S as k => List.rec (motive := fun _ => Bool) false (fun v t _ => r t (v :: as) k) S) n
theorem zarg_t [zGh] {ad : zA} : ∀ (n : Nat) (S as : List zV) (st av : List Value) {k : List zV → List zV → Bool}, zRepL ad S st → zRepL ad as av → zarg n S as k = true → ∃ (as' S' : List zV) (av' rest : List Value), k as' S' = true ∧ zRepL ad as' av' ∧ zRepL ad S' rest ∧ av'.length = n + av.length ∧ av'.reverse ++ rest = av.reverse ++ st
  | 0, S, as, st, av, k, hS, ha, h => ⟨as, S, av, st, h, ha, hS, by omega, rfl⟩
  | n + 1, [], as, st, av, k, hS, ha, h => by cases h
  | n + 1, v :: S, as, x :: st, av, k, hS, ha, h => by
    have h : zarg n S (v :: as) k = true := h
    obtain ⟨as', S', av', rest, h1, h2, h3, h4, h5⟩ := zarg_t n S (v :: as) st (x :: av) hS.2 ⟨hS.1, ha⟩ h
    refine ⟨as', S', av', rest, h1, h2, h3, by rw [h4]; simp; omega, ?_⟩
    rw [h5]
    simp
noncomputable def zle4 (S : List zV) (k : Bool) : Bool := List.rec (motive := fun _ => Bool) k (fun _ t _ => List.rec (motive := fun _ => Bool) k (fun _ t _ => List.rec (motive := fun _ => Bool) k (fun _ t _ => List.rec (motive := fun _ => Bool) k (fun _ t _ => List.rec (motive := fun _ => Bool) k (fun _ _ _ => false) t) t) t) t) S
theorem zle4_t {S : List zV} {k : Bool} (h : zle4 S k = true) : S.length ≤ 4 ∧ k = true := by
  match S, h with
  | [], h => exact ⟨by decide, h⟩
  | [_], h => exact ⟨by simp, h⟩
  | [_, _], h => exact ⟨by simp, h⟩
  | [_, _, _], h => exact ⟨by simp, h⟩
  | [_, _, _, _], h => exact ⟨by simp, h⟩
theorem zcat [zGh] {ad : zA} : ∀ {S : List zV} {st : List Value}, zRepL ad S st → (st.map fun v => v.category).sum ≤ 2 * S.length
  | [], [], _ => by simp
  | v :: S, x :: st, h => by
    have h1 := zcat h.2
    rcases lv_cat x with q | q <;> simp [q] <;> omega
