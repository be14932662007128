/-! the summary of a method, and the contract that it gives -/
noncomputable def zsts {d ds : Nat} (φ ρ : List Nat) (T0 : zT d) (hs : zT ds) (l : List Nat) : Nat → zT d → (zT d → Bool) → Bool := List.rec (motive := fun _ => Nat → zT d → (zT d → Bool) → Bool) (fun _ T K => K T) (fun b _ r t T K => zren φ ρ T0 (zget ds hs t) (fun c => zsetK d T b c (fun T => r (Nat.succ t) T K))) l
theorem zsts_t {d ds : Nat} {φ ρ : List Nat} {T0 : zT d} {hs : zT ds} (hρ : ∀ (p b : Nat), ρ[p]? = some b → b < 549755813887) : ∀ (l : List Nat) (t : Nat) (T : zT d) {K : zT d → Bool}, (∀ i ∈ l, i < 2 ^ d) → zsts φ ρ T0 hs l t T K = true → ∃ T' : zT d, K T' = true ∧ (∀ i, i < 2 ^ d → i ∉ l → zget d T' i = zget d T i) ∧ ((∀ (u v i : Nat), l[u]? = some i → l[v]? = some i → u = v) → ∀ (u i : Nat), l[u]? = some i → zRN φ ρ T0 (zget ds hs (t + u)) (zget d T' i))
  | [], t, T, K, _, h => ⟨T, h, fun _ _ _ => rfl, fun _ u i hu => by simp at hu⟩
  | b :: l, t, T, K, hl, h => by
    have h : zren φ ρ T0 (zget ds hs t) (fun c => zsetK d T b c (fun T => zsts φ ρ T0 hs l (Nat.succ t) T K)) = true := h
    obtain ⟨c, hc, hn⟩ := zren_t hρ h
    rw [zsetK_eq] at hc
    obtain ⟨T', h1, h2, h3⟩ := zsts_t hρ l (t + 1) (zset d T b c) (fun i hi => hl i (List.mem_cons_of_mem _ hi)) hc
    have hb : b < 2 ^ d := hl b List.mem_cons_self
    refine ⟨T', h1, fun i hi hni => ?_, fun hinj u i hu => ?_⟩
    · rw [h2 i hi (fun q => hni (List.mem_cons_of_mem _ q)), zget_set_ne d _ _ _ _ hb hi (fun q => hni (by rw [q]; exact List.mem_cons_self))]
    · cases u with
      | zero =>
        have e : b = i := by simpa using hu
        subst e
        have hni : b ∉ l := fun q => by
          obtain ⟨v, hv⟩ := List.getElem?_of_mem q
          have := hinj 0 (v + 1) b rfl (by simpa using hv)
          omega
        rw [h2 b hb hni, zget_set_same d _ _ _ hb]
        exact hn
      | succ u =>
        have key := h3 (fun u v i hu hv => by have := hinj (u + 1) (v + 1) i (by simpa using hu) (by simpa using hv); omega) u i (by simpa using hu)
        rw [show t + (u + 1) = t + 1 + u by omega]
        exact key
/-- lists of numbers -/
noncomputable def zapL (φ l : List Nat) : (List Nat → Bool) → Bool := List.rec (motive := fun _ => (List Nat → Bool) → Bool) (fun K => K l) (fun b _ r K => r (fun t => K (b :: t))) φ
theorem zapL_t : ∀ (φ l : List Nat) {K : List Nat → Bool}, zapL φ l K = true → K (φ ++ l) = true
  | [], l, K, h => h
  | b :: φ, l, K, h => zapL_t φ l (K := fun t => K (b :: t)) h
noncomputable def zsqK (k : Nat) : Nat → (List Nat → Bool) → Bool := Nat.rec (motive := fun _ => Nat → (List Nat → Bool) → Bool) (fun _ K => K []) (fun _ r N K => zF (fun N1 => r N1 (fun l => K (N :: l))) (Nat.succ N)) k
theorem zsqK_t : ∀ (k N : Nat) {K : List Nat → Bool}, zsqK k N K = true → K (List.range' N k) = true
  | 0, N, K, h => h
  | k + 1, N, K, h => by
    have h : zF (fun N1 => zsqK k N1 (fun l => K (N :: l))) (Nat.succ N) = true := h
    rw [zF_eq] at h
    exact zsqK_t k (N + 1) (K := fun l => K (N :: l)) h
noncomputable def zlen (φ : List Nat) : Nat := List.rec (motive := fun _ => Nat) 0 (fun _ _ r => Nat.succ r) φ
theorem zlen_eq : ∀ φ : List Nat, zlen φ = φ.length
  | [] => rfl
  | _ :: φ => congrArg Nat.succ (zlen_eq φ)
noncomputable def zmmb (b : Nat) (l : List Nat) : Bool := List.rec (motive := fun _ => Bool) false (fun c _ r => cond (Nat.beq b c) true r) l
theorem zmmb_f {b : Nat} : ∀ {l : List Nat}, zmmb b l = false → b ∉ l
  | [], _ => by simp
  | c :: l, h => by
    have h : cond (Nat.beq b c) true (zmmb b l) = false := h
    cases hb : Nat.beq b c
    · rw [hb, cond_false] at h
      intro q
      rcases List.mem_cons.mp q with e | e
      · rw [e, Nat.beq_refl] at hb; cases hb
      · exact zmmb_f h e
    · rw [hb] at h; cases h
noncomputable def znd (N : Nat) (φ : List Nat) : Bool := List.rec (motive := fun _ => Bool) true (fun b l r => cond (Nat.ble (Nat.succ b) N) (cond (zmmb b l) false r) false) φ
theorem znd_t {N : Nat} : ∀ {φ : List Nat}, znd N φ = true → (∀ (p b : Nat), φ[p]? = some b → b < N) ∧ ∀ (p p' b : Nat), φ[p]? = some b → φ[p']? = some b → p = p'
  | [], _ => ⟨fun p b h => by simp at h, fun p p' b h => by simp at h⟩
  | c :: φ, h => by
    have h : cond (Nat.ble (Nat.succ c) N) (cond (zmmb c φ) false (znd N φ)) false = true := h
    cases h1 : Nat.ble (Nat.succ c) N
    · rw [h1] at h; cases h
    cases h2 : zmmb c φ
    · rw [h1, h2, cond_true, cond_false] at h
      obtain ⟨g1, g2⟩ := znd_t h
      have hn := zmmb_f h2
      refine ⟨fun p b hp => ?_, fun p p' b hp hp' => ?_⟩
      · cases p with
        | zero =>
          have e : c = b := by simpa using hp
          rw [← e]
          exact Nat.le_of_ble_eq_true h1
        | succ p => exact g1 p b (by simpa using hp)
      · cases p with
        | zero =>
          have e : c = b := by simpa using hp
          subst e
          cases p' with
          | zero => rfl
          | succ p' => exact absurd (List.mem_of_getElem? (show φ[p']? = some c by simpa using hp')) hn
        | succ p =>
          cases p' with
          | zero =>
            have e : c = b := by simpa using hp'
            subst e
            exact absurd (List.mem_of_getElem? (show φ[p]? = some c by simpa using hp)) hn
          | succ p' => exact congrArg Nat.succ (g2 p p' b (by simpa using hp) (by simpa using hp'))
    · rw [h1, h2] at h; cases h
/-- which cells are meant: an argument, or a word of a cell that is there already -/
noncomputable def zfp {d : Nat} (fp : List (Nat × Nat)) (as : List zV) (T : zT d) : List Nat → (List Nat → Bool) → Bool := List.rec (motive := fun _ => List Nat → (List Nat → Bool) → Bool) (fun φ K => K φ) (fun s _ r φ K => Prod.rec (motive := fun _ => Bool) (fun src idx => Nat.rec (motive := fun _ => Bool) (znth idx as (fun v => Sum.rec (motive := fun _ => Bool) (fun _ => false) (fun u => Sum.rec (motive := fun _ => Bool) (fun rr => Nat.rec (motive := fun _ => Bool) false (fun i _ => zapL φ [i] (fun φ => r φ K)) rr) (fun _ => false) u) v)) (fun s' _ => ztab φ s' (fun b => Prod.rec (motive := fun _ => Bool) (fun kd v => Prod.rec (motive := fun _ => Bool) (fun _ x => cond (Nat.beq kd 12) (zF (fun i => zapL φ [i] (fun φ => r φ K)) (Nat.add (Nat.mod x 1048576) idx)) (Nat.rec (motive := fun _ => Bool) false (fun i _ => zapL φ [i] (fun φ => r φ K)) (zwd 40 x idx))) v) (zget d T b))) src) s) fp
theorem zfp_t {d : Nat} {as : List zV} {T : zT d} : ∀ (fp : List (Nat × Nat)) (φ : List Nat) {K : List Nat → Bool}, zfp fp as T φ K = true → ∃ φ', K φ' = true
  | [], φ, K, h => ⟨φ, h⟩
  | (0, idx) :: fp, φ, K, h => by
    have h : znth idx as (fun v => Sum.rec (motive := fun _ => Bool) (fun _ => false) (fun u => Sum.rec (motive := fun _ => Bool) (fun rr => Nat.rec (motive := fun _ => Bool) false (fun i _ => zapL φ [i] (fun φ => zfp fp as T φ K)) rr) (fun _ => false) u) v) = true := h
    obtain ⟨v, hv, hk⟩ := znth_t idx h
    match v, hv, hk with
    | .inr (.inl (i + 1)), _, hk =>
      have hk : zapL φ [i] (fun φ => zfp fp as T φ K) = true := hk
      exact zfp_t fp _ (zapL_t φ [i] (K := fun φ => zfp fp as T φ K) hk)
  | (s + 1, idx) :: fp, φ, K, h => by
    have h : ztab φ s (fun b => Prod.rec (motive := fun _ => Bool) (fun kd v => Prod.rec (motive := fun _ => Bool) (fun _ x => cond (Nat.beq kd 12) (zF (fun i => zapL φ [i] (fun φ => zfp fp as T φ K)) (Nat.add (Nat.mod x 1048576) idx)) (Nat.rec (motive := fun _ => Bool) false (fun i _ => zapL φ [i] (fun φ => zfp fp as T φ K)) (zwd 40 x idx))) v) (zget d T b)) = true := h
    obtain ⟨b, hb, hk⟩ := ztab_t φ s h
    generalize zget d T b = c at hk
    obtain ⟨kd, len, x⟩ := c
    have hk : cond (Nat.beq kd 12) (zF (fun i => zapL φ [i] (fun φ => zfp fp as T φ K)) (Nat.add (Nat.mod x 1048576) idx)) (Nat.rec (motive := fun _ => Bool) false (fun i _ => zapL φ [i] (fun φ => zfp fp as T φ K)) (zwd 40 x idx)) = true := hk
    cases h12 : Nat.beq kd 12
    case true =>
      rw [h12, cond_true, zF_eq] at hk
      exact zfp_t fp _ (zapL_t φ _ (K := fun φ => zfp fp as T φ K) hk)
    rw [h12, cond_false] at hk
    generalize zwd 40 x idx = w at hk
    cases w with
    | zero => cases hk
    | succ i =>
      have hk : zapL φ [i] (fun φ => zfp fp as T φ K) = true := hk
      exact zfp_t fp _ (zapL_t φ [i] (K := fun φ => zfp fp as T φ K) hk)
/-- the arguments -/
noncomputable def zav (φ : List Nat) (v v0 : zV) : Bool := Sum.rec (motive := fun _ => Bool) (fun m => Sum.rec (motive := fun _ => Bool) (fun n => zsubI n m) (fun _ => false) v) (fun u0 => Sum.rec (motive := fun _ => Bool) (fun r0 => Sum.rec (motive := fun _ => Bool) (fun _ => false) (fun u => Sum.rec (motive := fun _ => Bool) (fun r => Nat.rec (motive := fun _ => Bool) (Nat.beq r 0) (fun p _ => ztab φ p (fun b => Nat.beq r (Nat.succ b))) r0) (fun _ => false) u) v) (fun w0 => Sum.rec (motive := fun _ => Bool) (fun m => Sum.rec (motive := fun _ => Bool) (fun _ => false) (fun u => Sum.rec (motive := fun _ => Bool) (fun _ => false) (fun w => Sum.rec (motive := fun _ => Bool) (fun n => zsubJ n m) (fun _ => false) w) u) v) (fun _ => false) w0) u0) v0
noncomputable def zma (φ : List Nat) : List zV → List zV → Bool := List.rec (motive := fun _ => List zV → Bool) (fun B => List.rec (motive := fun _ => Bool) true (fun _ _ _ => false) B) (fun v _ r B => List.rec (motive := fun _ => Bool) false (fun w t _ => cond (zav φ v w) (r t) false) B)
section WORLD
variable {cA : Nat → ClassId} {ws wss : va_W} {φ : List Nat}
theorem zav_ok [zGh] {v v0 : zV} {x : Value} (hφ : ∀ (p b : Nat), φ[p]? = some b → b < 549755813887 ∧ p < 549755813887 ∧ ∃ q, ws[b]? = some q ∧ wss[p]? = some q) (h : zav φ v v0 = true) (hv : zRep (zad cA ws) v x) : zRep (zad (zcg cA wss) wss) v0 x := by
  match v0, h with
  | .inl m, h =>
    match v, h, hv with
    | .inl n, h, ⟨i, h1, h2⟩ => exact ⟨i, h1, zsubI_ok h h2⟩
  | .inr (.inl r0), h =>
    match v, h, hv with
    | .inr (.inl r), h, ⟨o, h1, h2⟩ =>
      refine ⟨o, h1, ?_⟩
      cases r0 with
      | zero =>
        have e : r = 0 := Nat.eq_of_beq_eq_true h
        rcases h2 with ⟨-, z⟩ | ⟨k, a, z, -⟩
        · exact Or.inl ⟨rfl, z⟩
        · omega
      | succ p =>
        have h : ztab φ p (fun b => Nat.beq r (Nat.succ b)) = true := h
        obtain ⟨b, hb, hb2⟩ := ztab_t φ p h
        have e : r = b + 1 := Nat.eq_of_beq_eq_true hb2
        obtain ⟨b1, b2, q', g1, g2⟩ := hφ p b hb
        rcases h2 with ⟨z, -⟩ | ⟨k, a, z1, z2, z3⟩
        · omega
        · have ek : b = k := by omega
          subst ek
          refine Or.inr ⟨p, a, rfl, ?_, z3⟩
          have z2 : (ws.map (fun q => q.1))[b]? = some a := z2
          show (wss.map (fun q => q.1))[p]? = some a
          rw [List.getElem?_map, g1] at z2
          rw [List.getElem?_map, g2]
          exact z2
  | .inr (.inr (.inl m)), h =>
    match v, h, hv with
    | .inr (.inr (.inl n)), h, ⟨i, h1, h2⟩ => exact ⟨i, h1, zsubJ_ok h h2⟩
theorem zma_ok [zGh] (hφ : ∀ (p b : Nat), φ[p]? = some b → b < 549755813887 ∧ p < 549755813887 ∧ ∃ q, ws[b]? = some q ∧ wss[p]? = some q) : ∀ {as as0 : List zV} {av : List Value}, zma φ as as0 = true → zRepL (zad cA ws) as av → zRepL (zad (zcg cA wss) wss) as0 av
  | [], [], [], _, _ => trivial
  | [], [], _ :: _, _, h => by cases h
  | [], _ :: _, av, h, _ => by cases h
  | _ :: _, [], av, h, _ => by cases h
  | v :: as, w :: as0, [], h, hr => by cases hr
  | v :: as, w :: as0, x :: av, h, hr => by
    have h : cond (zav φ v w) (zma φ as as0) false = true := h
    cases hb : zav φ v w
    · rw [hb] at h; cases h
    · rw [hb, cond_true] at h
      exact ⟨zav_ok hφ hb hr.1, zma_ok hφ h hr.2⟩
end WORLD
noncomputable def zmtL {d ds : Nat} (φ : List Nat) (T : zT d) (hs : zT ds) (l : List Nat) : Nat → Bool := List.rec (motive := fun _ => Nat → Bool) (fun _ => true) (fun b _ r t => cond (zmt φ t (zget d T b) (zget ds hs t)) (r (Nat.succ t)) false) l
theorem zmtL_t {d ds : Nat} {φ : List Nat} {T : zT d} {hs : zT ds} : ∀ (l : List Nat) (t : Nat), zmtL φ T hs l t = true → ∀ (u b : Nat), l[u]? = some b → zmt φ (t + u) (zget d T b) (zget ds hs (t + u)) = true
  | [], t, _, u, b, hu => by simp at hu
  | c :: l, t, h, u, b, hu => by
    have h : cond (zmt φ t (zget d T c) (zget ds hs t)) (zmtL φ T hs l (Nat.succ t)) false = true := h
    cases h1 : zmt φ t (zget d T c) (zget ds hs t)
    · rw [h1] at h; cases h
    rw [h1, cond_true] at h
    cases u with
    | zero =>
      have e : c = b := by simpa using hu
      subst e
      exact h1
    | succ u =>
      have key := zmtL_t l (t + 1) h u b (by simpa using hu)
      rw [show t + (u + 1) = t + 1 + u by omega]
      exact key
/-- the answer -/
noncomputable def zrv {d : Nat} (φ ρ : List Nat) (T : zT d) (r1 : zV) (K : zV → Bool) : Bool := Sum.rec (motive := fun _ => Bool) (fun n => cond (Nat.ble 1099511627776 n) false (K (zI n))) (fun u => Sum.rec (motive := fun _ => Bool) (fun w => cond (Nat.ble 549755813888 w) false (zwb φ ρ T true w (fun w' => cond (Nat.ble 549755813888 w') false (K (zR w'))))) (fun v => Sum.rec (motive := fun _ => Bool) (fun n => K (zL n)) (fun n => cond (Nat.beq n 0) (K zU) false) v) u) r1
theorem zrv_t {d : Nat} {φ ρ : List Nat} {T : zT d} {r1 : zV} {K : zV → Bool} (h : zrv φ ρ T r1 K = true) : ∃ r', K r' = true ∧ ((∃ n, n < 1099511627776 ∧ r1 = zI n ∧ r' = zI n) ∨ (∃ w w', w < 549755813888 ∧ w' < 549755813888 ∧ r1 = zR w ∧ r' = zR w' ∧ zWB φ ρ T true w w') ∨ (∃ n, r1 = zL n ∧ r' = zL n) ∨ (r1 = zU ∧ r' = zU)) := by
  match r1, h with
  | .inl n, h =>
    have h : cond (Nat.ble 1099511627776 n) false (K (zI n)) = true := h
    cases h1 : Nat.ble 1099511627776 n
    · rw [h1, cond_false] at h
      exact ⟨_, h, Or.inl ⟨n, zble_f h1, rfl, rfl⟩⟩
    · rw [h1] at h; cases h
  | .inr (.inl w), h =>
    have h : cond (Nat.ble 549755813888 w) false (zwb φ ρ T true w (fun w' => cond (Nat.ble 549755813888 w') false (K (zR w')))) = true := h
    cases h1 : Nat.ble 549755813888 w
    · rw [h1, cond_false] at h
      obtain ⟨w', hw, hb⟩ := zwb_t h
      cases h2 : Nat.ble 549755813888 w'
      · rw [h2, cond_false] at hw
        exact ⟨_, hw, Or.inr (Or.inl ⟨w, w', zble_f h1, zble_f h2, rfl, rfl, hb⟩)⟩
      · rw [h2] at hw; cases hw
    · rw [h1] at h; cases h
  | .inr (.inr (.inl n)), h => exact ⟨_, h, Or.inr (Or.inr (Or.inl ⟨n, rfl, rfl⟩))⟩
  | .inr (.inr (.inr 0)), h => exact ⟨_, h, Or.inr (Or.inr (Or.inr ⟨rfl, rfl⟩))⟩
  | .inr (.inr (.inr (n + 1))), h => cases h
noncomputable def zisU (v : zV) : Bool := Sum.rec (motive := fun _ => Bool) (fun _ => false) (fun u => Sum.rec (motive := fun _ => Bool) (fun _ => false) (fun w => Sum.rec (motive := fun _ => Bool) (fun _ => false) (fun n => Nat.beq n 0) w) u) v
theorem zisU_t : ∀ {v : zV}, zisU v = true → v = zU
  | .inr (.inr (.inr 0)), _ => rfl
theorem zisU_f : zisU zU = true := rfl
noncomputable def zrk {ds : Nat} (r1 : zV) (hs1 : zH ds) : zP ds := fun r h => cond (zisU r1) (cond (zisU r) (zsubH h hs1) false) (cond (zsubV false r r1) (zsubH h hs1) false)
theorem zrk_t {ds : Nat} {r1 r : zV} {hs1 h : zH ds} (hk : zrk r1 hs1 r h = true) : zsubH h hs1 = true ∧ ((r1 = zU ∧ r = zU) ∨ (zisU r1 = false ∧ zsubV false r r1 = true)) := by
  have hk : cond (zisU r1) (cond (zisU r) (zsubH h hs1) false) (cond (zsubV false r r1) (zsubH h hs1) false) = true := hk
  cases h1 : zisU r1
  · rw [h1, cond_false] at hk
    cases h2 : zsubV false r r1
    · rw [h2] at hk; cases hk
    · rw [h2, cond_true] at hk
      exact ⟨hk, Or.inr ⟨rfl, rfl⟩⟩
  · rw [h1, cond_true] at hk
    cases h2 : zisU r
    · rw [h2] at hk; cases hk
    · rw [h2, cond_true] at hk
      exact ⟨hk, Or.inl ⟨zisU_t h1, zisU_t h2⟩⟩
/-- a call by its summary -/
noncomputable def zsmy {d ds : Nat} (fp : List (Nat × Nat)) (as0 : List zV) (hs0 : zH ds) (r1 : zV) (hs1 : zH ds) : List zV → zH d → zP d → Bool := fun as h P => zfp fp as h.1 [] (fun φ => cond (Nat.ble hs0.2.1 (Nat.pow 2 ds)) (cond (Nat.beq (zlen φ) hs0.2.1) (cond (Nat.ble hs0.2.1 hs1.2.1) (cond (Nat.ble (Nat.add h.2.1 (Nat.sub hs1.2.1 hs0.2.1)) (Nat.pow 2 d)) (cond (Nat.ble (Nat.add h.2.1 (Nat.add hs0.2.1 (Nat.sub hs1.2.1 hs0.2.1))) 1000000) (cond (Nat.beq hs0.2.2.1 h.2.2.1) (cond (Nat.beq hs0.2.2.2 h.2.2.2) (cond (znd h.2.1 φ) (cond (zma φ as as0) (cond (zmtL φ h.1 hs0.1 φ 0) (zsqK (Nat.sub hs1.2.1 hs0.2.1) h.2.1 (fun l => zapL φ l (fun ρ => zrv φ ρ h.1 r1 (fun r' => zsts φ ρ h.1 hs1.1 ρ 0 h.1 (fun T => zF (fun N => P r' (T, (N, hs1.2.2))) (Nat.add h.2.1 (Nat.sub hs1.2.1 hs0.2.1))))))) false) false) false) false) false) false) false) false) false) false)
