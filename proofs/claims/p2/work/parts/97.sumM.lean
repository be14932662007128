/-! a summary whose small world holds all that is marked: there the ghosts may change -/
theorem zCell_nm {C C' : zCh} {cA : Nat → ClassId} {ad : zA} {c : zC} {e : va_E} (hT : 16 ≤ c.1 → ∀ k, k < zN (c.1 - 16) → zwd 40 c.2.2 k ≠ 549755813888) (hk : c.1 < 8 ∨ 11 < c.1) (h : @zCell C cA ad c e) : @zCell C' cA ad c e := by
  rcases h with h | h | ⟨k1, k2, k3, ⟨g1, -⟩ | h⟩ | h | ⟨k1, fs, k2, k3, k4⟩
  · exact Or.inl h
  · exact Or.inr (Or.inl h)
  · exact absurd g1 (by omega)
  · exact Or.inr (Or.inr (Or.inl ⟨k1, k2, k3, Or.inr h⟩))
  · exact Or.inr (Or.inr (Or.inr (Or.inl h)))
  · exact Or.inr (Or.inr (Or.inr (Or.inr ⟨k1, fs, k2, k3, fun k v hv => zFl_gh2 (hT k1 k (by rw [← k3]; exact (List.getElem?_eq_some_iff.mp hv).1)) (k4 k v hv)⟩)))
noncomputable def znm (c : zC) : Bool := Prod.rec (motive := fun _ => Bool) (fun k v => Prod.rec (motive := fun _ => Bool) (fun _ x => cond (Nat.ble 16 k) (zall (zN (Nat.sub k 16)) (fun j => cond (Nat.beq (zwd 40 x j) 549755813888) false true)) (cond (Nat.ble 8 k) (Nat.ble 12 k) true)) v) c
theorem znm_t {c : zC} (h : znm c = true) : (16 ≤ c.1 → ∀ k, k < zN (c.1 - 16) → zwd 40 c.2.2 k ≠ 549755813888) ∧ (c.1 < 8 ∨ 11 < c.1) := by
  obtain ⟨k, len, x⟩ := c
  have h : cond (Nat.ble 16 k) (zall (zN (Nat.sub k 16)) (fun j => cond (Nat.beq (zwd 40 x j) 549755813888) false true)) (cond (Nat.ble 8 k) (Nat.ble 12 k) true) = true := h
  cases q : Nat.ble 16 k
  · rw [q, cond_false] at h
    have q := zble_f q
    refine ⟨fun z => absurd (show 16 ≤ k from z) (by omega), ?_⟩
    show k < 8 ∨ 11 < k
    cases q8 : Nat.ble 8 k
    · exact Or.inl (zble_f q8)
    · rw [q8, cond_true] at h
      exact Or.inr (Nat.le_of_ble_eq_true h)
  · rw [q, cond_true] at h
    have q := Nat.le_of_ble_eq_true q
    refine ⟨fun _ j hj e => ?_, Or.inr (show 11 < k by omega)⟩
    have hh := zall_t h j hj
    have e : zwd 40 x j = 549755813888 := e
    have hh : cond (Nat.beq (zwd 40 x j) 549755813888) false true = true := hh
    rw [e] at hh
    cases hh
noncomputable def zmwM (φ : List Nat) (t : Nat) (isR : Bool) (x x0 j : Nat) : Bool := cond isR (zmw φ t true x x0 j) (cond (Nat.beq (zwd 40 x0 j) 549755813888) (Nat.beq (zwd 40 x j) 549755813888) (zmw φ t false x x0 j))
noncomputable def zmtM (φ : List Nat) (t : Nat) (c c0 : zC) : Bool := Prod.rec (motive := fun _ => Bool) (fun kd v => Prod.rec (motive := fun _ => Bool) (fun len x => Prod.rec (motive := fun _ => Bool) (fun kd0 v0 => Prod.rec (motive := fun _ => Bool) (fun len0 x0 => cond (Nat.ble kd 7) (zmt φ t (kd, len, x) (kd0, len0, x0)) (cond (Nat.ble 16 kd) (cond (Nat.beq kd kd0) (cond (Nat.beq len len0) (zall (zN (Nat.sub kd 16)) (fun j => zmwM φ t (zisR (zfty (Nat.sub kd 16) j)) x x0 j)) false) false) (cond (Nat.ble kd 11) (cond (Nat.beq kd kd0) (cond (Nat.beq len len0) (Nat.beq x x0) false) false) (zmt φ t (kd, len, x) (kd0, len0, x0))))) v0) c0) v) c
section WORLD
variable {cA : Nat → ClassId} {ws wss : va_W} {φ : List Nat}
theorem zmtM_ok [zCh] {t a : Nat} {c c0 : zC} {e : va_E} (hφ : ∀ (p b : Nat), φ[p]? = some b → b < 549755813887 ∧ p < 549755813887 ∧ ∃ q, ws[b]? = some q ∧ wss[p]? = some q) (hq : wss[t]? = some (a, e)) (hc : zCell cA (zad cA ws) c e) (hm : zmtM φ t c c0 = true) : zCell (zcg cA wss) (zad (zcg cA wss) wss) c0 e := by
  obtain ⟨kd, len, x⟩ := c
  obtain ⟨kd0, len0, x0⟩ := c0
  replace hm : cond (Nat.ble kd 7) (zmt φ t (kd, len, x) (kd0, len0, x0)) (cond (Nat.ble 16 kd) (cond (Nat.beq kd kd0) (cond (Nat.beq len len0) (zall (zN (Nat.sub kd 16)) (fun j => zmwM φ t (zisR (zfty (Nat.sub kd 16) j)) x x0 j)) false) false) (cond (Nat.ble kd 11) (cond (Nat.beq kd kd0) (cond (Nat.beq len len0) (Nat.beq x x0) false) false) (zmt φ t (kd, len, x) (kd0, len0, x0)))) = true := hm
  cases h7 : Nat.ble kd 7
  case true =>
    rw [h7, cond_true] at hm
    exact zmt_ok hφ hq hc hm
  rw [h7, cond_false] at hm
  have q7 := zble_f h7
  cases h16 : Nat.ble 16 kd
  case false =>
    rw [h16, cond_false] at hm
    cases h11 : Nat.ble kd 11
    case false =>
      rw [h11, cond_false] at hm
      exact zmt_ok hφ hq hc hm
    rw [h11, cond_true] at hm
    have q11 := Nat.le_of_ble_eq_true h11
    obtain ⟨h1, hm⟩ := zcnd_t hm
    obtain ⟨h2, hm⟩ := zcnd_t hm
    have e1 := Nat.eq_of_beq_eq_true h1
    have e2 := Nat.eq_of_beq_eq_true h2
    have e3 := Nat.eq_of_beq_eq_true hm
    subst e1
    subst e2
    subst e3
    rcases hc with ⟨g, -⟩ | ⟨g, -⟩ | ⟨g1, g2, g3, ⟨g4, f, g5, g6⟩ | ⟨g4, -⟩⟩ | ⟨-, g, -⟩ | ⟨g, -⟩
    · exact absurd (show kd < 2 from g) (by omega)
    · exact absurd (show kd = 2 from g) (by omega)
    · exact Or.inr (Or.inr (Or.inl ⟨g1, g2, g3, Or.inl ⟨g4, f, by rw [zcg_lo (by decide)]; exact g5, g6⟩⟩))
    · exact absurd (show kd = 12 from g4) (by omega)
    · exact absurd (show kd < 8 from g) (by omega)
    · have h16' := zble_f h16
      exact absurd (show 16 ≤ kd from g) (by omega)
  rw [h16, cond_true] at hm
  have q5 := Nat.le_of_ble_eq_true h16
  obtain ⟨h1, hm1⟩ := zcnd_t hm
  obtain ⟨h2, hm2⟩ := zcnd_t hm1
  have e1 := Nat.eq_of_beq_eq_true h1
  have e2 := Nat.eq_of_beq_eq_true h2
  clear hm hm1
  subst e1
  subst e2
  obtain ⟨fs, rfl, hl, hf⟩ := zCell_obj (ci := kd - 16) hc (by omega)
  have hek : kd = 16 + (kd - 16) := by omega
  have hw := zall_t hm2
  have key : zCell (zcg cA wss) (zad (zcg cA wss) wss) (16 + (kd - 16), len, x0) (.inr (kd - 16, fs)) := zCell_ok hl (fun j v hv => by
    have hj : j < zN (kd - 16) := by rw [← hl]; exact (List.getElem?_eq_some_iff.mp hv).1
    have hwj : zmwM φ t (zisR (zfty (kd - 16) j)) x x0 j = true := hw j hj
    have hfj := hf j v hv
    unfold zFl at hfj ⊢
    cases hz : zisR (zfty (kd - 16) j)
    · rw [hz] at hwj
      rw [hz, cond_false] at hfj
      rw [cond_false]
      have hwj : cond (Nat.beq (zwd 40 x0 j) 549755813888) (Nat.beq (zwd 40 x j) 549755813888) (zmw φ t false x x0 j) = true := hwj
      cases h39 : Nat.beq (zwd 40 x0 j) 549755813888
      · rw [h39, cond_false] at hwj
        exact zmw_I hq (by show (match fs[j]? with | some v => zcv v | none => 0) = zcv v; rw [hv]) hwj hfj
      · rw [h39, cond_true] at hwj
        rw [Nat.eq_of_beq_eq_true h39]
        rw [Nat.eq_of_beq_eq_true hwj] at hfj
        obtain ⟨i, r1, r2, r3⟩ := hfj
        exact ⟨i, r1, r2, fun z => absurd z (Nat.lt_irrefl _), fun _ z => absurd z (Nat.lt_irrefl _)⟩
    · rw [hz] at hwj
      rw [hz, cond_true] at hfj
      rw [cond_true]
      obtain ⟨o, rfl, ho⟩ := hfj
      exact ⟨o, rfl, zmw_R hφ hq (by show (match fs[j]? with | some v => zcv v | none => 0) = zcv (va_rf o); rw [hv]) hwj ho⟩)
  rw [← hek] at key
  exact key
end WORLD
noncomputable def zwbM {d : Nat} (φ ρ : List Nat) (t : zT d) (isR : Bool) (w : Nat) (K : Nat → Bool) : Bool := cond isR (zwb φ ρ t true w K) (cond (Nat.beq w 549755813888) (K w) (zwb φ ρ t false w (fun w' => cond (Nat.beq w' 549755813888) false (K w'))))
def zWBM {d : Nat} (φ ρ : List Nat) (t : zT d) (isR : Bool) (w w' : Nat) : Prop := (zWB φ ρ t isR w w' ∧ (isR = false → w' ≠ 549755813888)) ∨ (w = 549755813888 ∧ isR = false ∧ w' = 549755813888)
theorem zwbM_t {d : Nat} {φ ρ : List Nat} {t : zT d} {isR : Bool} {w : Nat} {K : Nat → Bool} (h : zwbM φ ρ t isR w K = true) : ∃ w', K w' = true ∧ zWBM φ ρ t isR w w' := by
  unfold zwbM at h
  cases isR
  · rw [cond_false] at h
    cases h1 : Nat.beq w 549755813888
    · rw [h1, cond_false] at h
      obtain ⟨w', g1, g2⟩ := zwb_t h
      cases h2 : Nat.beq w' 549755813888
      · rw [h2, cond_false] at g1
        exact ⟨w', g1, Or.inl ⟨g2, fun _ e => by rw [e] at h2; exact absurd h2 (by decide)⟩⟩
      · rw [h2] at g1; cases g1
    · rw [h1, cond_true] at h
      have e := Nat.eq_of_beq_eq_true h1
      exact ⟨w, h, Or.inr ⟨e, rfl, e⟩⟩
  · rw [cond_true] at h
    obtain ⟨w', g1, g2⟩ := zwb_t h
    exact ⟨w', g1, Or.inl ⟨g2, fun e => by cases e⟩⟩
theorem zWBM_lt {d : Nat} {φ ρ : List Nat} {t : zT d} {isR : Bool} {w w' : Nat} (hρ : ∀ (p b : Nat), ρ[p]? = some b → b < 549755813887) (h : zWBM φ ρ t isR w w') : w' < 2 ^ 40 := by
  rcases h with ⟨h, -⟩ | ⟨-, -, h⟩
  · exact zWB_lt hρ h
  · rw [h]; decide
noncomputable def zrnWM {d : Nat} (φ ρ : List Nat) (t : zT d) (isR : Nat → Bool) (x n : Nat) : Nat → (Nat → Bool) → Bool := Nat.rec (motive := fun _ => Nat → (Nat → Bool) → Bool) (fun acc K => K acc) (fun j r acc K => zwbM φ ρ t (isR j) (zwd 40 x j) (fun w => zF (fun acc => r acc K) (zup 40 acc j w))) n
theorem zrnWM_t {d : Nat} {φ ρ : List Nat} {t : zT d} {isR : Nat → Bool} {x : Nat} (hρ : ∀ (p b : Nat), ρ[p]? = some b → b < 549755813887) : ∀ (n acc : Nat) {K : Nat → Bool}, zrnWM φ ρ t isR x n acc K = true → ∃ y, K y = true ∧ (∀ j, j < n → zWBM φ ρ t (isR j) (zwd 40 x j) (zwd 40 y j)) ∧ ∀ j, n ≤ j → zwd 40 y j = zwd 40 acc j
  | 0, acc, K, h => ⟨acc, h, fun j hj => absurd hj (Nat.not_lt_zero j), fun _ _ => rfl⟩
  | n + 1, acc, K, h => by
    have h : zwbM φ ρ t (isR n) (zwd 40 x n) (fun w => zF (fun acc => zrnWM φ ρ t isR x n acc K) (zup 40 acc n w)) = true := h
    obtain ⟨w, hw, hb⟩ := zwbM_t h
    rw [zF_eq] at hw
    obtain ⟨y, h1, h2, h3⟩ := zrnWM_t hρ n _ hw
    have hlt := zWBM_lt hρ hb
    refine ⟨y, h1, fun j hj => ?_, fun j hj => ?_⟩
    · rcases Nat.lt_succ_iff_lt_or_eq.mp hj with q | rfl
      · exact h2 j q
      · rw [h3 j (Nat.le_refl j), zwd_up_same _ _ _ _ hlt]
        exact hb
    · rw [h3 j (by omega), zwd_up_ne _ _ _ _ _ hlt (by omega)]
noncomputable def zrenM {d : Nat} (φ ρ : List Nat) (t : zT d) (c : zC) (K : zC → Bool) : Bool := Prod.rec (motive := fun _ => Bool) (fun kd v => Prod.rec (motive := fun _ => Bool) (fun len x => cond (Nat.ble 16 kd) (zrnWM φ ρ t (fun j => zisR (zfty (Nat.sub kd 16) j)) x (zN (Nat.sub kd 16)) 0 (fun y => K (kd, len, y))) (cond (Nat.ble 8 kd) (cond (Nat.ble kd 11) (K (kd, len, x)) (zren φ ρ t (kd, len, x) K)) (zren φ ρ t (kd, len, x) K))) v) c
def zRNM {d : Nat} (φ ρ : List Nat) (t : zT d) (c c' : zC) : Prop := (zRN φ ρ t c c' ∧ c.1 < 16 ∧ (c.1 < 8 ∨ 11 < c.1)) ∨ (8 ≤ c.1 ∧ c.1 < 12 ∧ c' = c) ∨ ∃ kd len x y : Nat, c = (kd, len, x) ∧ c' = (kd, len, y) ∧ 16 ≤ kd ∧ ∀ j, j < zN (kd - 16) → zWBM φ ρ t (zisR (zfty (kd - 16) j)) (zwd 40 x j) (zwd 40 y j)
theorem zrenM_t {d : Nat} {φ ρ : List Nat} {t : zT d} {c : zC} {K : zC → Bool} (hρ : ∀ (p b : Nat), ρ[p]? = some b → b < 549755813887) (h : zrenM φ ρ t c K = true) : ∃ c', K c' = true ∧ zRNM φ ρ t c c' := by
  obtain ⟨kd, len, x⟩ := c
  replace h : cond (Nat.ble 16 kd) (zrnWM φ ρ t (fun j => zisR (zfty (Nat.sub kd 16) j)) x (zN (Nat.sub kd 16)) 0 (fun y => K (kd, len, y))) (cond (Nat.ble 8 kd) (cond (Nat.ble kd 11) (K (kd, len, x)) (zren φ ρ t (kd, len, x) K)) (zren φ ρ t (kd, len, x) K)) = true := h
  cases h16 : Nat.ble 16 kd
  · rw [h16, cond_false] at h
    have q16 := zble_f h16
    cases h8 : Nat.ble 8 kd
    · rw [h8, cond_false] at h
      obtain ⟨c', g1, g2⟩ := zren_t hρ h
      exact ⟨c', g1, Or.inl ⟨g2, q16, Or.inl (zble_f h8)⟩⟩
    · rw [h8, cond_true] at h
      cases h11 : Nat.ble kd 11
      · rw [h11, cond_false] at h
        obtain ⟨c', g1, g2⟩ := zren_t hρ h
        exact ⟨c', g1, Or.inl ⟨g2, q16, Or.inr (zble_f h11)⟩⟩
      · rw [h11, cond_true] at h
        have q11 := Nat.le_of_ble_eq_true h11
        exact ⟨_, h, Or.inr (Or.inl ⟨Nat.le_of_ble_eq_true h8, show kd < 12 by omega, rfl⟩)⟩
  · rw [h16, cond_true] at h
    obtain ⟨y, g1, g2, -⟩ := zrnWM_t hρ _ _ h
    exact ⟨_, g1, Or.inr (Or.inr ⟨kd, len, x, y, rfl, rfl, Nat.le_of_ble_eq_true h16, g2⟩)⟩
section BACK
variable {d : Nat} {cA cB : Nat → ClassId} {ws ws' wss' : va_W} {φ ρ : List Nat} {T : zT d}
theorem zRepC_nm {C C' : zCh} {ad : zA} {w : Nat} {v : Value} (hw : w ≠ 549755813888) (h : @zRepC C ad (zI w) v) : @zRepC C' ad (zI w) v := by
  obtain ⟨i, h1, ⟨h2, h3⟩, h4⟩ := h
  exact ⟨i, h1, ⟨h2, fun q => absurd q hw⟩, h4⟩
theorem zRNM_ok {C1 C2 : zCh} {c c' : zC} {e : va_E} (hB : ∀ i, i < 8 → cB i = cA i) (hop : @zOp d C2 cA cB ws φ T) (hpre : zPre (zad cA ws) (zad cA ws')) (hρ : ∀ (p b : Nat), ρ[p]? = some b → b < 549755813887) (hρa : ∀ (p b a : Nat), ρ[p]? = some b → (zad cB wss').1[p]? = some a → (zad cA ws').1[b]? = some a) (hc : @zCell C1 cB (zad cB wss') c e) (hn : zRNM φ ρ T c c') : @zCell C1 cA (zad cA ws') c' e := by
  rcases hn with ⟨h1, h2, h3⟩ | ⟨h1, h2, rfl⟩ | ⟨kd, len, x, y, rfl, rfl, h1, h2⟩
  · have key := @zRN_ok d cA cB ws ws' wss' φ ρ T C1 C2 c c' e hB hop hpre hρ hρa hc h1
    have hk : c'.1 = c.1 := by
      obtain ⟨kd, len, x, y, rfl, rfl, -⟩ := h1
      rfl
    exact zCell_nm (fun q => absurd q (by omega)) (by omega) key
  · rcases hc with ⟨g, -⟩ | ⟨g, -⟩ | ⟨g1, g2, g3, ⟨g4, f, g5, g6⟩ | ⟨g4, -⟩⟩ | ⟨-, g, -⟩ | ⟨g, -⟩
    · exact absurd g (by omega)
    · exact absurd g (by omega)
    · exact Or.inr (Or.inr (Or.inl ⟨g1, g2, g3, Or.inl ⟨g4, f, by rw [← hB 0 (by decide)]; exact g5, g6⟩⟩))
    · exact absurd g4 (by omega)
    · exact absurd g (by omega)
    · exact absurd g (by omega)
  · obtain ⟨fs, rfl, hl, hf⟩ := @zCell_obj C1 cB _ kd len x (kd - 16) e hc (by omega)
    have hek : kd = 16 + (kd - 16) := by omega
    have key : @zCell C1 cA (zad cA ws') (16 + (kd - 16), len, y) (.inr (kd - 16, fs)) := @zCell_ok C1 cA _ (kd - 16) len y fs hl (fun j v hv => by
      have hj : j < zN (kd - 16) := by rw [← hl]; exact (List.getElem?_eq_some_iff.mp hv).1
      have hwj := h2 j hj
      have hfj := hf j v hv
      unfold zFl at hfj ⊢
      cases hz : zisR (zfty (kd - 16) j)
      · rw [hz] at hwj
        rw [hz, cond_false] at hfj
        rw [cond_false]
        rcases hwj with ⟨w1, w2⟩ | ⟨w1, -, w2⟩
        · exact zRepC_nm (w2 rfl) (zWB_I (C1 := C1) (C2 := C2) hop hpre w1 hfj)
        · rw [w1] at hfj
          rw [w2]
          obtain ⟨i, r1, r2, r3⟩ := hfj
          exact ⟨i, r1, r2, fun z => absurd z (Nat.lt_irrefl _), fun _ z => absurd z (Nat.lt_irrefl _)⟩
      · rw [hz] at hwj
        rw [hz, cond_true] at hfj
        rw [cond_true]
        obtain ⟨o, rfl, ho⟩ := hfj
        rcases hwj with ⟨w1, -⟩ | ⟨-, w1, -⟩
        · exact ⟨o, rfl, @zWB_R d cA cB ws ws' wss' φ ρ T C2 _ _ _ hop hpre hρ hρa w1 ho⟩
        · cases w1)
    rw [← hek] at key
    exact key
end BACK
noncomputable def zstsM {d ds : Nat} (φ ρ : List Nat) (T0 : zT d) (hs : zT ds) (l : List Nat) : Nat → zT d → (zT d → Bool) → Bool := List.rec (motive := fun _ => Nat → zT d → (zT d → Bool) → Bool) (fun _ T K => K T) (fun b _ r t T K => zrenM φ ρ T0 (zget ds hs t) (fun c => zsetK d T b c (fun T => r (Nat.succ t) T K))) l
theorem zstsM_t {d ds : Nat} {φ ρ : List Nat} {T0 : zT d} {hs : zT ds} (hρ : ∀ (p b : Nat), ρ[p]? = some b → b < 549755813887) : ∀ (l : List Nat) (t : Nat) (T : zT d) {K : zT d → Bool}, (∀ i ∈ l, i < 2 ^ d) → zstsM φ ρ T0 hs l t T K = true → ∃ T' : zT d, K T' = true ∧ (∀ i, i < 2 ^ d → i ∉ l → zget d T' i = zget d T i) ∧ ((∀ (u v i : Nat), l[u]? = some i → l[v]? = some i → u = v) → ∀ (u i : Nat), l[u]? = some i → zRNM φ ρ T0 (zget ds hs (t + u)) (zget d T' i))
  | [], t, T, K, _, h => ⟨T, h, fun _ _ _ => rfl, fun _ u i hu => by simp at hu⟩
  | b :: l, t, T, K, hl, h => by
    have h : zrenM φ ρ T0 (zget ds hs t) (fun c => zsetK d T b c (fun T => zstsM φ ρ T0 hs l (Nat.succ t) T K)) = true := h
    obtain ⟨c, hc, hn⟩ := zrenM_t hρ h
    rw [zsetK_eq] at hc
    obtain ⟨T', h1, h2, h3⟩ := zstsM_t hρ l (t + 1) (zset d T b c) (fun i hi => hl i (List.mem_cons_of_mem _ hi)) hc
    have hb : b < 2 ^ d := hl b List.mem_cons_self
    refine ⟨T', h1, fun i hi hni => ?_, fun hinj u i hu => ?_⟩
    · rw [h2 i hi (fun q => hni (List.mem_cons_of_mem _ q)), zget_set_ne d _ _ _ _ hb hi (fun q => hni (by rw [q]; exact List.mem_cons_self))]
    · cases u with
      | zero =>
        have e : b = i := by simpa using hu
        subst e
        have hni : b ∉ l := fun q => by
          obtain ⟨v, hv⟩ := List.getElem?_of_mem q
          have := hinj 0 (v + 1) b rfl (by simpa using hv)
          omega
        rw [h2 b hb hni, zget_set_same d _ _ _ hb]
        exact hn
      | succ u =>
        have key := h3 (fun u v i hu hv => by have := hinj (u + 1) (v + 1) i (by simpa using hu) (by simpa using hv); omega) u i (by simpa using hu)
        rw [show t + (u + 1) = t + 1 + u by omega]
        exact key
noncomputable def zmtLM {d ds : Nat} (φ : List Nat) (T : zT d) (hs : zT ds) (l : List Nat) : Nat → Bool := List.rec (motive := fun _ => Nat → Bool) (fun _ => true) (fun b _ r t => cond (zmtM φ t (zget d T b) (zget ds hs t)) (r (Nat.succ t)) false) l
theorem zmtLM_t {d ds : Nat} {φ : List Nat} {T : zT d} {hs : zT ds} : ∀ (l : List Nat) (t : Nat), zmtLM φ T hs l t = true → ∀ (u b : Nat), l[u]? = some b → zmtM φ (t + u) (zget d T b) (zget ds hs (t + u)) = true
  | [], t, _, u, b, hu => by simp at hu
  | c :: l, t, h, u, b, hu => by
    have h : cond (zmtM φ t (zget d T c) (zget ds hs t)) (zmtLM φ T hs l (Nat.succ t)) false = true := h
    cases h1 : zmtM φ t (zget d T c) (zget ds hs t)
    · rw [h1] at h; cases h
    rw [h1, cond_true] at h
    cases u with
    | zero =>
      have e : c = b := by simpa using hu
      subst e
      exact h1
    | succ u =>
      have key := zmtLM_t l (t + 1) h u b (by simpa using hu)
      rw [show t + (u + 1) = t + 1 + u by omega]
      exact key
/-- a call by its summary; what is marked lies in the small world -/
noncomputable def zsmyM {d ds : Nat} (fp : List (Nat × Nat)) (as0 : List zV) (hs0 : zH ds) (r1 : zV) (hs1 : zH ds) : List zV → zH d → zP d → Bool := fun as h P => zfp fp as h.1 [] (fun φ => cond (Nat.ble hs0.2.1 (Nat.pow 2 ds)) (cond (Nat.beq (zlen φ) hs0.2.1) (cond (Nat.ble hs0.2.1 hs1.2.1) (cond (Nat.ble (Nat.add h.2.1 (Nat.sub hs1.2.1 hs0.2.1)) (Nat.pow 2 d)) (cond (Nat.ble (Nat.add h.2.1 (Nat.add hs0.2.1 (Nat.sub hs1.2.1 hs0.2.1))) 1000000) (cond (Nat.beq hs0.2.2.1 h.2.2.1) (cond (Nat.beq hs0.2.2.2 h.2.2.2) (cond (znd h.2.1 φ) (cond (zma φ as as0) (cond (zmtLM φ h.1 hs0.1 φ 0) (cond (zall h.2.1 (fun q => cond (zmmb q φ) true (znm (zget d h.1 q)))) (zsqK (Nat.sub hs1.2.1 hs0.2.1) h.2.1 (fun l => zapL φ l (fun ρ => zrv φ ρ h.1 r1 (fun r' => zstsM φ ρ h.1 hs1.1 ρ 0 h.1 (fun T => zF (fun N => P r' (T, (N, hs1.2.2))) (Nat.add h.2.1 (Nat.sub hs1.2.1 hs0.2.1))))))) false) false) false) false) false) false) false) false) false) false) false)
theorem zmmb_in {b : Nat} : ∀ {l : List Nat}, zmmb b l = true → ∃ p, p < l.length ∧ l[p]? = some b
  | [], h => by cases h
  | c :: l, h => by
    have h : cond (Nat.beq b c) true (zmmb b l) = true := h
    cases hb : Nat.beq b c
    · rw [hb, cond_false] at h
      obtain ⟨p, g1, g2⟩ := zmmb_in h
      exact ⟨p + 1, by simp; omega, by simpa using g2⟩
    · have e := Nat.eq_of_beq_eq_true hb
      exact ⟨0, by simp, by simp [e]⟩
theorem zMet_smM {d ds : Nat} {X : zM} {y : MethodName} {fr : Nat} {f : List zV → zH ds → zP ds → Bool} (hM : zMet X y fr f) {fp : List (Nat × Nat)} {as0 : List zV} {hs0 : zH ds} {r1 : zV} {hs1 : zH ds} (hev : f as0 hs0 (zrk r1 hs1) = true) : zMet (d := d) X y fr (zsmyM fp as0 hs0 r1 hs1) := by
  intro G Ch l cA D ws av as h P sz hg has hH hT
  obtain ⟨φ, hg⟩ := zfp_t fp [] hg
  obtain ⟨c0, hg⟩ := zcnd_t hg
  obtain ⟨c1, hg⟩ := zcnd_t hg
  obtain ⟨c2, hg⟩ := zcnd_t hg
  obtain ⟨c3, hg⟩ := zcnd_t hg
  obtain ⟨c4, hg⟩ := zcnd_t hg
  obtain ⟨c5, hg⟩ := zcnd_t hg
  obtain ⟨c6, hg⟩ := zcnd_t hg
  obtain ⟨c7, hg⟩ := zcnd_t hg
  obtain ⟨c8, hg⟩ := zcnd_t hg
  obtain ⟨c9, hg⟩ := zcnd_t hg
  obtain ⟨c10, hg⟩ := zcnd_t hg
  have hg := zapL_t φ _ (zsqK_t _ _ hg)
  simp only [zsub_n, zadd_n] at hg
  have m0 : hs0.2.1 ≤ 2 ^ ds := Nat.le_of_ble_eq_true c0
  have m1 : φ.length = hs0.2.1 := by rw [← zlen_eq]; exact Nat.eq_of_beq_eq_true c1
  have m2 : hs0.2.1 ≤ hs1.2.1 := Nat.le_of_ble_eq_true c2
  have m3 : h.2.1 + (hs1.2.1 - hs0.2.1) ≤ 2 ^ d := Nat.le_of_ble_eq_true c3
  have m4 : h.2.1 + (hs0.2.1 + (hs1.2.1 - hs0.2.1)) ≤ 1000000 := Nat.le_of_ble_eq_true c4
  have m5 : hs0.2.2.1 = h.2.2.1 := Nat.eq_of_beq_eq_true c5
  have m6 : hs0.2.2.2 = h.2.2.2 := Nat.eq_of_beq_eq_true c6
  obtain ⟨n1, n2⟩ := znd_t c7
  have hN : ws.length = h.2.1 := hH.1
  generalize hk : hs1.2.1 - hs0.2.1 = k at *
  have hρ0 : ∀ (p i : Nat), (φ ++ List.range' h.2.1 k)[p]? = some i ↔ (p < φ.length ∧ φ[p]? = some i) ∨ (φ.length ≤ p ∧ p < φ.length + k ∧ i = h.2.1 + (p - φ.length)) := by
    intro p i
    by_cases hp : p < φ.length
    · rw [List.getElem?_append_left hp]
      exact ⟨fun z => Or.inl ⟨hp, z⟩, fun z => z.elim (fun z => z.2) (fun z => absurd z.1 (by omega))⟩
    · rw [List.getElem?_append_right (by omega)]
      constructor
      · intro z
        obtain ⟨z1, z2⟩ := List.getElem?_eq_some_iff.mp z
        rw [List.length_range'] at z1
        rw [List.getElem_range'] at z2
        exact Or.inr ⟨by omega, by omega, by omega⟩
      · rintro (z | ⟨z1, z2, z3⟩)
        · exact absurd z.1 hp
        · rw [List.getElem?_eq_getElem (by rw [List.length_range']; omega), List.getElem_range', z3]
          simp
  generalize hρe : φ ++ List.range' h.2.1 k = ρ at hg hρ0
  obtain ⟨r', hg, hr'⟩ := zrv_t hg
  have hρ : ∀ (p b : Nat), ρ[p]? = some b → b < 549755813887 := by
    intro p b hp
    rcases (hρ0 p b).mp hp with ⟨-, z⟩ | ⟨z1, z2, z3⟩
    · have := n1 p b z
      omega
    · omega
  have hρN : ∀ (p b : Nat), ρ[p]? = some b → b < h.2.1 + k := by
    intro p b hp
    rcases (hρ0 p b).mp hp with ⟨-, z⟩ | ⟨z1, z2, z3⟩
    · have := n1 p b z
      omega
    · omega
  obtain ⟨T', hg, hT1, hT2⟩ := zstsM_t hρ ρ 0 h.1 (fun i hi => by
    obtain ⟨p, hp⟩ := List.getElem?_of_mem hi
    have := hρN p i hp
    omega) hg
  have hρi : ∀ (u v i : Nat), ρ[u]? = some i → ρ[v]? = some i → u = v := by
    intro u v i hu hv
    rcases (hρ0 u i).mp hu with ⟨a1, a2⟩ | ⟨a1, a2, a3⟩ <;> rcases (hρ0 v i).mp hv with ⟨b1, b2⟩ | ⟨b1, b2, b3⟩
    · exact n2 u v i a2 b2
    · have := n1 u i a2
      omega
    · have := n1 v i b2
      omega
    · omega
  have hT2 := hT2 hρi
  rw [zF_eq] at hg
  have hwl : (φ.map (fun b => (ws[b]?).getD ((0, .inr (0, [])) : Nat × va_E))).length = φ.length := List.length_map ..
  have hφ : ∀ (p b : Nat), φ[p]? = some b → b < 549755813887 ∧ p < 549755813887 ∧ ∃ q, ws[b]? = some q ∧ (φ.map (fun b => (ws[b]?).getD ((0, .inr (0, [])) : Nat × va_E)))[p]? = some q := by
    intro p b hp
    have hb := n1 p b hp
    have hpl := (List.getElem?_eq_some_iff.mp hp).1
    have e : ws[b]? = some ws[b] := List.getElem?_eq_getElem (by omega)
    refine ⟨by omega, by omega, ws[b], e, ?_⟩
    rw [List.getElem?_map, hp]
    simp [e]
  generalize φ.map (fun b => (ws[b]?).getD ((0, .inr (0, [])) : Nat × va_E)) = wss at hwl hφ
  have hφr : ∀ (p : Nat) (q : Nat × va_E), wss[p]? = some q → ∃ b, φ[p]? = some b ∧ ws[b]? = some q := by
    intro p q hp
    have hpl := (List.getElem?_eq_some_iff.mp hp).1
    have e : φ[p]? = some φ[p] := List.getElem?_eq_getElem (by omega)
    obtain ⟨-, -, q', g1, g2⟩ := hφ p _ e
    rw [hp] at g2
    cases g2
    exact ⟨_, e, g1⟩
  have hsub : ∀ q, va_A wss sz q → va_A ws sz q := by
    rintro q (⟨k', e, hk'⟩ | z)
    · obtain ⟨b, -, hb⟩ := hφr k' _ hk'
      exact Or.inl ⟨b, e, hb⟩
    · exact Or.inr z
  have hHs : zHp (zcg cA wss) hs0 wss := by
    refine ⟨by omega, m0, fun i q hi => ?_⟩
    obtain ⟨b, hb, hq⟩ := hφr i q hi
    have hm := zmtLM_t φ 0 c9 i b hb
    rw [Nat.zero_add] at hm
    obtain ⟨qa, qe⟩ := q
    exact zmtM_ok hφ hi (hH.2.2 b _ hq) hm
  have hm := hM l (zcg cA wss) D wss av as0 hs0 (zrk r1 hs1) sz hev (zma_ok hφ c8 has) hHs (by rw [zcg_lo (by decide)]; exact hT)
  rw [m5, m6] at hm
  refine Met_mono hm ?_ ?_ hsub
  · rintro a s ⟨rfl, e1, hP, hK, hD, hst, hex⟩
    refine ⟨rfl, e1, fun k' q hk' => ?_, by rw [zcg_ty]; exact hK, ⟨fun i j p q hi hj hpq => ?_, fun _ _ _ => trivial⟩, zStat_to hst va_S.rf hsub rfl (Vm.Alike.refl s.vm), hex⟩
    · obtain ⟨b, -, hq⟩ := hφr k' q hk'
      exact hP b q hq
    · obtain ⟨b1, g1, g2⟩ := hφr i p hi
      obtain ⟨b2, g3, g4⟩ := hφr j q hj
      have e := hD.1 b1 b2 p q g2 g4 hpq
      subst e
      exact n2 i j b1 g1 g3
  · rintro a st o t ⟨rfl, e1, hP, hK, hD, hst, hex⟩ ⟨⟨Ch', r, hh, wss', ov, rfl, hov, hk2, hHp', hpre', hP', hD'⟩, hF⟩
    obtain ⟨hsb, hrr⟩ := zrk_t hk2
    have hH1 : @zHp Ch' ds (zcg cA wss) hs1 wss' := zsubH_ok hsb hHp'
    have hl1 : wss'.length = hs1.2.1 := hH1.1
    obtain ⟨⟨tt, htt⟩, -⟩ := hpre'
    have htt : wss'.map (fun q => q.1) = wss.map (fun q => q.1) ++ tt := htt
    have hadr : ∀ (p : Nat) (q q' : Nat × va_E), wss[p]? = some q → wss'[p]? = some q' → q'.1 = q.1 := by
      intro p q q' h1 h2
      have e := congrArg (fun z => z[p]?) htt
      have e : (wss'.map (fun q => q.1))[p]? = (wss.map (fun q => q.1) ++ tt)[p]? := e
      rw [List.getElem?_append_left (by rw [List.length_map]; exact (List.getElem?_eq_some_iff.mp h1).1), List.getElem?_map, List.getElem?_map, h1, h2] at e
      exact Option.some.inj e
    have hρl : ∀ (p i : Nat), ρ[p]? = some i → ∃ q, wss'[p]? = some q := by
      intro p i hp
      have hpl : p < wss'.length := by
        rcases (hρ0 p i).mp hp with ⟨z, -⟩ | ⟨z1, z2, z3⟩ <;> omega
      exact ⟨_, List.getElem?_eq_getElem hpl⟩
    obtain ⟨ws', hwl', hin, hout⟩ : ∃ ws' : va_W, ws'.length = h.2.1 + k ∧ (∀ (p i : Nat) (q : Nat × va_E), ρ[p]? = some i → wss'[p]? = some q → ws'[i]? = some q) ∧ ∀ (i : Nat) (q : Nat × va_E), i ∉ ρ → ws[i]? = some q → ws'[i]? = some q := by
      refine ⟨(List.range (h.2.1 + k)).map (fun i => @dite _ (∃ q : Nat × va_E, ∃ p : Nat, ρ[p]? = some i ∧ wss'[p]? = some q) (Classical.propDecidable _) (fun hx => Classical.choose hx) (fun _ => (ws[i]?).getD (0, .inr (0, [])))), by rw [List.length_map, List.length_range], fun p i q hp hq => ?_, fun i q hi hq => ?_⟩
      · have hx : ∃ q : Nat × va_E, ∃ p : Nat, ρ[p]? = some i ∧ wss'[p]? = some q := ⟨q, p, hp, hq⟩
        rw [List.getElem?_map, List.getElem?_range (hρN p i hp)]
        show some (@dite _ _ (Classical.propDecidable _) _ _) = some q
        rw [dif_pos hx]
        obtain ⟨p', z1, z2⟩ := Classical.choose_spec hx
        have e := hρi p' p i z1 hp
        subst e
        rw [z2] at hq
        exact hq
      · have hx : ¬ ∃ q : Nat × va_E, ∃ p : Nat, ρ[p]? = some i ∧ wss'[p]? = some q := fun ⟨_, p, hp, _⟩ => hi (List.mem_of_getElem? hp)
        have hil := (List.getElem?_eq_some_iff.mp hq).1
        rw [List.getElem?_map, List.getElem?_range (by omega)]
        show some (@dite _ _ (Classical.propDecidable _) _ _) = some q
        rw [dif_neg hx, hq]
        rfl
    have hrev : ∀ (i : Nat) (q : Nat × va_E), ws'[i]? = some q → (∃ p : Nat, ρ[p]? = some i ∧ wss'[p]? = some q) ∨ (i ∉ ρ ∧ ws[i]? = some q) := by
      intro i q hi
      by_cases hm : i ∈ ρ
      · obtain ⟨p, hp⟩ := List.getElem?_of_mem hm
        obtain ⟨q', hq'⟩ := hρl p i hp
        have := hin p i q' hp hq'
        rw [hi] at this
        cases this
        exact Or.inl ⟨p, hp, hq'⟩
      · have hil := (List.getElem?_eq_some_iff.mp hi).1
        have hiN : i < h.2.1 := by
          rcases Nat.lt_or_ge i h.2.1 with z | z
          · exact z
          · exact absurd (List.mem_of_getElem? ((hρ0 (φ.length + (i - h.2.1)) i).mpr (Or.inr ⟨by omega, by omega, by omega⟩))) hm
        have e : ws[i]? = some ws[i] := List.getElem?_eq_getElem (by omega)
        have := hout i _ hm e
        rw [hi] at this
        cases this
        exact Or.inr ⟨hm, e⟩
    have hfst : ∀ (i : Nat) (q : Nat × va_E), ws[i]? = some q → ∃ q', ws'[i]? = some q' ∧ q'.1 = q.1 := by
      intro i q hi
      by_cases hm : i ∈ ρ
      · obtain ⟨p, hp⟩ := List.getElem?_of_mem hm
        obtain ⟨q', hq'⟩ := hρl p i hp
        have hil := (List.getElem?_eq_some_iff.mp hi).1
        rcases (hρ0 p i).mp hp with ⟨z1, z2⟩ | ⟨z1, z2, z3⟩
        · obtain ⟨-, -, q2, g1, g2⟩ := hφ p i z2
          rw [hi] at g1
          cases g1
          exact ⟨q', hin p i q' hp hq', hadr p _ _ g2 hq'⟩
        · omega
      · exact ⟨q, hout i q hm hi, rfl⟩
    have hpreB : zPre (zad cA ws) (zad cA ws') := by
      refine ⟨⟨(ws'.map (fun q => q.1)).drop ws.length, ?_⟩, rfl⟩
      show ws'.map (fun q => q.1) = ws.map (fun q => q.1) ++ (ws'.map (fun q => q.1)).drop ws.length
      have key : (ws'.map (fun q => q.1)).take ws.length = ws.map (fun q => q.1) := by
        apply List.ext_getElem?
        intro i
        rw [List.getElem?_take]
        by_cases hi : i < ws.length
        · rw [if_pos hi]
          obtain ⟨q', g1, g2⟩ := hfst i _ (List.getElem?_eq_getElem hi)
          rw [List.getElem?_map, List.getElem?_map, g1, List.getElem?_eq_getElem hi]
          show some q'.1 = some _
          rw [g2]
        · rw [if_neg hi, List.getElem?_eq_none (by rw [List.length_map]; omega)]
      rw [← key]
      exact (List.take_append_drop _ _).symm
    have hρa : ∀ (p b a : Nat), ρ[p]? = some b → (zad (zcg cA wss) wss').1[p]? = some a → (zad cA ws').1[b]? = some a := by
      intro p b a hp ha
      have ha : (wss'.map (fun q => q.1))[p]? = some a := ha
      show (ws'.map (fun q => q.1))[b]? = some a
      rw [List.getElem?_map] at ha ⊢
      obtain ⟨q, hq, hqa⟩ := Option.map_eq_some_iff.mp ha
      rw [hin p b q hp hq]
      exact congrArg some hqa
    have hop := @zOp_of Ch d cA h ws wss φ hH hφ
    have hB : ∀ i, i < 8 → zcg cA wss i = cA i := fun i hi => zcg_lo (by omega)
    refine ⟨⟨Ch', r', (T', (h.2.1 + k, hs1.2.2)), ws', ov, rfl, ?_, hg, ⟨hwl', m3, fun i q hi => ?_⟩, hpreB, fun i q hi => ?_, ⟨fun i j p q hi hj hpq => ?_, fun i q hi => ?_⟩⟩, hF.1, fun q hq hnq => hF.2 q hq (fun z => hnq (hsub q z))⟩
    · rcases hrr with ⟨g1, g2⟩ | ⟨g1, g2⟩
      · subst g2
        rcases hov with ⟨z, -⟩ | ⟨x, z1, z2⟩
        · refine Or.inl ⟨z, ?_⟩
          rw [g1] at hr'
          rcases hr' with ⟨n, -, e, -⟩ | ⟨w, w', -, -, e, -⟩ | ⟨n, e, -⟩ | ⟨-, e⟩
          · cases e
          · cases e
          · cases e
          · exact e
        · exact absurd (z2 G) (fun q => @zRep_U G _ _ q)
      · rcases hov with ⟨-, z⟩ | ⟨x, z1, z2⟩
        · rw [z] at g2
          exact absurd g2 (fun q => zsubV_nU q)
        · refine Or.inr ⟨x, z1, fun G' => ?_⟩
          have hx : @zRep G' (zad (zcg cA wss) wss') r1 x := by
            rcases @zsubV_ok G' false _ _ _ _ g2 (z2 G') with ⟨q, -⟩ | q
            · cases q
            · exact q
          rcases hr' with ⟨n, -, e, e'⟩ | ⟨w, w', w1, w2, e, e', hb⟩ | ⟨n, e, e'⟩ | ⟨e, -⟩
          · rw [e] at hx
            rw [e']
            exact hx
          · rw [e] at hx
            rw [e']
            obtain ⟨ox, ho, hrf⟩ := hx
            refine ⟨ox, ho, ?_⟩
            rcases @zWB_R d cA (zcg cA wss) ws ws' wss' φ ρ h.1 Ch w w' ox hop hpreB hρ hρa hb (Or.inl ⟨w1, hrf⟩) with ⟨-, q⟩ | ⟨q, -⟩
            · exact q
            · omega
          · rw [e] at hx
            rw [e']
            exact hx
          · rw [e, zisU_f] at g1
            cases g1
    · rcases hrev i q hi with ⟨p, hp, hq⟩ | ⟨hm, hq⟩
      · have hn := hT2 p i hp
        rw [Nat.zero_add] at hn
        exact zRNM_ok hB hop hpreB hρ hρa (hH1.2.2 p q hq) hn
      · have hil := (List.getElem?_eq_some_iff.mp hq).1
        show @zCell Ch' cA (zad cA ws') (zget d T' i) q.2
        rw [hT1 i (by omega) hm]
        have hz : cond (zmmb i φ) true (znm (zget d h.1 i)) = true := zall_t c10 i (by omega)
        have hnφ : zmmb i φ = false := by
          cases hb : zmmb i φ
          · rfl
          · exact absurd (List.mem_of_getElem? ((hρ0 _ i).mpr (Or.inl (zmmb_in hb).choose_spec))) hm
        rw [hnφ, cond_false] at hz
        obtain ⟨z1, z2⟩ := znm_t hz
        exact zCell_nm z1 z2 (@zCell_mono Ch cA _ _ hpreB _ _ (hH.2.2 i q hq))
    · rcases hrev i q hi with ⟨p, hp, hq⟩ | ⟨hm, hq⟩
      · exact hP' p q hq
      · have hlt := (hP i q hq).lt
        refine (hP i q hq).kept (hF.2 q.1 hlt ?_)
        rintro (⟨k', e, hk'⟩ | z)
        · obtain ⟨b, hb, hq2⟩ := hφr k' _ hk'
          have e := hD.1 b i _ q hq2 hq rfl
          subst e
          exact hm (List.mem_of_getElem? ((hρ0 k' b).mpr (Or.inl ⟨(List.getElem?_eq_some_iff.mp hb).1, hb⟩)))
        · omega
    · have mixed : ∀ (i j : Nat) (p q : Nat × va_E) (u : Nat), ρ[u]? = some i → wss'[u]? = some p → j ∉ ρ → ws[j]? = some q → p.1 = q.1 → False := by
        intro i j p q u hu hp hjm hq hpq
        have hlt := (hP j q hq).lt
        rcases hD'.2 u p hp with ⟨k', e, hk'⟩ | z
        · obtain ⟨b, hb, hq2⟩ := hφr k' _ hk'
          have e2 := hD.1 b j _ q hq2 hq hpq
          subst e2
          exact hjm (List.mem_of_getElem? ((hρ0 k' b).mpr (Or.inl ⟨(List.getElem?_eq_some_iff.mp hb).1, hb⟩)))
        · omega
      rcases hrev i p hi with ⟨u, hu, hp⟩ | ⟨hm, hp⟩ <;> rcases hrev j q hj with ⟨v, hv, hq⟩ | ⟨hm2, hq⟩
      · have e := hD'.1 u v p q hp hq hpq
        subst e
        rw [hu] at hv
        cases hv
        rfl
      · exact absurd (mixed i j p q u hu hp hm2 hq hpq) id
      · exact absurd (mixed j i q p v hv hq hm hp hpq.symm) id
      · exact hD.1 i j p q hp hq hpq
    · rcases hrev i q hi with ⟨p, hp, hq⟩ | ⟨hm, hq⟩
      · exact hsub _ (hD'.2 p q hq)
      · exact Or.inl ⟨i, q.2, hq⟩
