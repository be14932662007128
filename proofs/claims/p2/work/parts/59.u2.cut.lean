/-! an argument cut into cases -/
noncomputable def zsa (i c : Nat) : List zV → (List zV → Bool) → Bool := Nat.rec (motive := fun _ => List zV → (List zV → Bool) → Bool) (fun as K => List.rec (motive := fun _ => Bool) false (fun _ t _ => K (zI c :: t)) as) (fun _ r as K => List.rec (motive := fun _ => Bool) false (fun v t _ => r t (fun t => K (v :: t))) as) i
noncomputable def zga (i : Nat) : List zV → (Nat → Bool) → Bool := Nat.rec (motive := fun _ => List zV → (Nat → Bool) → Bool) (fun as K => List.rec (motive := fun _ => Bool) false (fun v _ _ => Sum.rec (motive := fun _ => Bool) (fun n => K n) (fun _ => false) v) as) (fun _ r as K => List.rec (motive := fun _ => Bool) false (fun _ t _ => r t K) as) i
theorem zga_t [zGh] {ad : zA} : ∀ (i : Nat) {as : List zV} {av : List Value} {K : Nat → Bool}, zga i as K = true → zRepL ad as av → ∃ (n : Nat) (iv : Int32), K n = true ∧ zIs n iv ∧ ∀ (c : Nat) (K' : List zV → Bool), zIs c iv → zsa i c as K' = true → ∃ as', K' as' = true ∧ zRepL ad as' av
  | 0, [], av, K, h, _ => by cases h
  | 0, .inl n :: as, [], K, h, hr => hr.elim
  | 0, .inl n :: as, x :: av, K, h, hr => by
    obtain ⟨i, e, hi⟩ := hr.1
    exact ⟨n, i, h, hi, fun c K' hc hk => ⟨zI c :: as, hk, ⟨i, e, hc⟩, hr.2⟩⟩
  | 0, .inr u :: as, av, K, h, _ => by cases h
  | i + 1, [], av, K, h, _ => by cases h
  | i + 1, v :: as, [], K, h, hr => hr.elim
  | i + 1, v :: as, x :: av, K, h, hr => by
    have h : zga i as K = true := h
    obtain ⟨n, iv, h1, h2, h3⟩ := zga_t i h hr.2
    refine ⟨n, iv, h1, h2, fun c K' hc hk => ?_⟩
    have hk : zsa i c as (fun t => K' (v :: t)) = true := hk
    obtain ⟨as', g1, g2⟩ := h3 c _ hc hk
    exact ⟨v :: as', g1, hr.1, g2⟩
section CUT
variable {d : Nat}
/-- below m: each of them -/
noncomputable def zcutA (i m : Nat) (f : List zV → zH d → zP d → Bool) : List zV → zH d → zP d → Bool := fun as h P => zga i as (fun n => cond (Nat.ble (zhi n) m) (zall m (fun v => zsa i v as (fun as => f as h P))) false)
theorem zMet_cutA {X : zM} {y : MethodName} {fr i m : Nat} {f : List zV → zH d → zP d → Bool} (hM : zMet X y fr f) : zMet X y fr (zcutA i m f) := by
  intro G Ch l cA D ws av as h P sz hg has hH hT
  obtain ⟨n, iv, h1, h2, h3⟩ := zga_t i hg has
  obtain ⟨c1, c2⟩ := zcnd_t h1
  have hlt : zi iv < m := Nat.lt_of_lt_of_le (zhi_ok h2) (Nat.le_of_ble_eq_true c1)
  obtain ⟨as', g1, g2⟩ := h3 (zi iv) _ (zIs_e rfl) (zall_t c2 (zi iv) hlt)
  exact hM l cA D ws av as' h P sz g1 g2 hH hT
/-- any number: each below m, those from m on, those below 0 -/
noncomputable def zcutR (i m : Nat) (f : List zV → zH d → zP d → Bool) : List zV → zH d → zP d → Bool := fun as h P => zga i as (fun _ => cond (Nat.ble m 1000) (cond (zall m (fun v => zsa i v as (fun as => f as h P))) (cond (zF (fun c => zsa i c as (fun as => f as h P)) (Nat.add 6442450944 (Nat.mul 1099511627776 m))) (zsa i 2361183241439117574144 as (fun as => f as h P)) false) false) false)
theorem zMet_cutR {X : zM} {y : MethodName} {fr i m : Nat} {f : List zV → zH d → zP d → Bool} (hM : zMet X y fr f) : zMet X y fr (zcutR i m f) := by
  intro G Ch l cA D ws av as h P sz hg has hH hT
  obtain ⟨n, iv, h1, h2, h3⟩ := zga_t i hg has
  obtain ⟨c1, h1⟩ := zcnd_t h1
  obtain ⟨c2, h1⟩ := zcnd_t h1
  obtain ⟨c3, c4⟩ := zcnd_t h1
  rw [zF_eq] at c3
  have c1 := Nat.le_of_ble_eq_true c1
  have hlt2 := zi_lt iv
  rcases Nat.lt_or_ge (zi iv) m with q | q
  · obtain ⟨as', g1, g2⟩ := h3 (zi iv) _ (zIs_e rfl) (zall_t c2 (zi iv) q)
    exact hM l cA D ws av as' h P sz g1 g2 hH hT
  · rcases Nat.lt_or_ge (zi iv) 2147483648 with q2 | q2
    · obtain ⟨as', g1, g2⟩ := h3 (6442450944 + 1099511627776 * m) _ ⟨fun z => absurd z (by omega), fun _ _ => by omega, by omega, fun z => absurd z (by omega)⟩ c3
      exact hM l cA D ws av as' h P sz g1 g2 hH hT
    · obtain ⟨as', g1, g2⟩ := h3 2361183241439117574144 _ ⟨fun z => absurd z (by decide), fun z => absurd z (by decide), by omega, fun z => absurd z (by decide)⟩ c4
      exact hM l cA D ws av as' h P sz g1 g2 hH hT
end CUT
