/-! summaries with several ends, whose words may speak of T -/
noncomputable def zsubiT (wb ws : Nat) : Bool := cond (zisT ws) (cond (Nat.beq wb ws) true (zsubG wb ws)) (zsubi wb ws)
noncomputable def zmwT (φ : List Nat) (t : Nat) (isR : Bool) (x x0 j : Nat) : Bool := cond (Nat.beq (zwd 40 x0 j) (zoc t j)) (Nat.ble j 63) (cond isR (Nat.rec (motive := fun _ => Bool) (Nat.beq (zwd 40 x j) 0) (fun p _ => ztab φ p (fun b => Nat.beq (zwd 40 x j) (Nat.succ b))) (zwd 40 x0 j)) (zsubiT (zwd 40 x j) (zwd 40 x0 j)))
noncomputable def zmtT (φ : List Nat) (t : Nat) (c c0 : zC) : Bool := Prod.rec (motive := fun _ => Bool) (fun kd v => Prod.rec (motive := fun _ => Bool) (fun len x => Prod.rec (motive := fun _ => Bool) (fun kd0 v0 => Prod.rec (motive := fun _ => Bool) (fun len0 x0 => cond (Nat.beq kd kd0) (cond (Nat.beq len len0) (cond (Nat.ble kd 2) (cond (Nat.beq x x0) true (zsubX kd len x x0)) (cond (Nat.ble kd 7) (zall len (zmwT φ t true x x0)) (cond (Nat.ble 16 kd) (zall (zN (Nat.sub kd 16)) (fun j => zmwT φ t (zisR (zfty (Nat.sub kd 16) j)) x x0 j)) (cond (Nat.beq kd 12) (zm12 φ x x0) false)))) false) false) v0) c0) v) c
section WORLD
variable {cA : Nat → ClassId} {ws wss : va_W} {φ : List Nat}
theorem zmwT_ref {t x x0 j : Nat} (h : zmwT φ t true x x0 j = true) : zmw φ t true x x0 j = true := h
theorem zmw_IT [zCh] {t x x0 j : Nat} {q : Nat × va_E} {v : Value} (hq : wss[t]? = some q) (hg : zgv q.2 j = zcv v) (h : zmwT φ t false x x0 j = true) (hr : zRepC (zad cA ws) (zI (zwd 40 x j)) v) : zRepC (zad (zcg cA wss) wss) (zI (zwd 40 x0 j)) v := by
  cases hT : zisT (zwd 40 x0 j)
  · refine zmw_I (φ := φ) hq hg ?_ hr
    unfold zmwT zsubiT at h
    rw [hT] at h
    exact h
  · obtain ⟨w1, w2⟩ := zisT_t hT
    unfold zmwT zsubiT at h
    rw [hT, cond_true] at h
    cases h1 : Nat.beq (zwd 40 x0 j) (zoc t j)
    · rw [h1, cond_false, cond_false] at h
      have e20 : (zad (zcg cA wss) wss).2 20 = (zad cA ws).2 20 := zcg_lo (cA := cA) (wss := wss) (w := 20) (by decide)
      cases hq1 : Nat.beq (zwd 40 x j) (zwd 40 x0 j)
      · rw [hq1, cond_false] at h
        unfold zsubG at h
        obtain ⟨a1, a2⟩ := zcnd_t h
        have e1 := Nat.eq_of_beq_eq_true a1
        have e2 := Nat.eq_of_beq_eq_true a2
        rw [e1] at hr
        rw [e2]
        obtain ⟨i, r1, r2, r3, r4⟩ := hr
        obtain ⟨u1, u2, -⟩ := r4 (by decide) (by decide)
        have hlt := zi_lt i
        refine ⟨i, r1, ⟨⟨fun z => absurd z (by decide), fun _ _ => by omega⟩, fun z => absurd z (by decide)⟩, fun z => absurd z (by decide), fun _ _ => ⟨u1, fun _ => ?_, fun z => absurd z (by decide), fun z => absurd z (by decide)⟩⟩
        rw [e20]
        exact u2 (by decide)
      have e := Nat.eq_of_beq_eq_true hq1
      rw [e] at hr
      obtain ⟨i, r1, r2, r3, r4⟩ := hr
      refine ⟨i, r1, ⟨r2.1, fun z => absurd z (by omega)⟩, fun z => absurd z (by omega), fun q1 q2 => ?_⟩
      rw [e20]
      exact r4 q1 q2
    · have e := Nat.eq_of_beq_eq_true h1
      rw [zoc_n] at e
      omega
theorem zmt_okT [zCh] {t a : Nat} {c c0 : zC} {e : va_E} (hφ : ∀ (p b : Nat), φ[p]? = some b → b < 549755813887 ∧ p < 549755813887 ∧ ∃ q, ws[b]? = some q ∧ wss[p]? = some q) (hq : wss[t]? = some (a, e)) (hc : zCell cA (zad cA ws) c e) (hm : zmtT φ t c c0 = true) : zCell (zcg cA wss) (zad (zcg cA wss) wss) c0 e := by
  obtain ⟨kd, len, x⟩ := c
  obtain ⟨kd0, len0, x0⟩ := c0
  replace hm : cond (Nat.beq kd kd0) (cond (Nat.beq len len0) (cond (Nat.ble kd 2) (cond (Nat.beq x x0) true (zsubX kd len x x0)) (cond (Nat.ble kd 7) (zall len (zmwT φ t true x x0)) (cond (Nat.ble 16 kd) (zall (zN (Nat.sub kd 16)) (fun j => zmwT φ t (zisR (zfty (Nat.sub kd 16) j)) x x0 j)) (cond (Nat.beq kd 12) (zm12 φ x x0) false)))) false) false = true := hm
  cases h1 : Nat.beq kd kd0
  · rw [h1] at hm; cases hm
  cases h2 : Nat.beq len len0
  · rw [h1, h2] at hm; cases hm
  rw [h1, h2, cond_true, cond_true] at hm
  have e1 := Nat.eq_of_beq_eq_true h1
  have e2 := Nat.eq_of_beq_eq_true h2
  subst e1
  subst e2
  cases h3 : Nat.ble kd 2
  · rw [h3, cond_false] at hm
    have q3 := zble_f h3
    cases h4 : Nat.ble kd 7
    · rw [h4, cond_false] at hm
      cases h5 : Nat.ble 16 kd
      · rw [h5, cond_false] at hm
        obtain ⟨h12, hm12⟩ := zcnd_t hm
        have e12 := Nat.eq_of_beq_eq_true h12
        clear hm
        subst e12
        obtain ⟨hl, f, rfl, hf⟩ : len < 2147483648 ∧ ∃ f : Nat → Option Nat, e = .inl (cA 3, len, .inr (.inr (.inr (.inr f)))) ∧ zRs (zad cA ws) len x f := by
          rcases hc with ⟨g, -⟩ | ⟨g, -⟩ | ⟨-, -, g3, ⟨g4, -⟩ | ⟨-, f, g5, g6⟩⟩ | ⟨-, g, -⟩ | ⟨g, -⟩
          · exact absurd (show 12 < 2 from g) (by decide)
          · exact absurd (show 12 = 2 from g) (by decide)
          · exact absurd (show 12 < 12 from g4) (by decide)
          · exact ⟨g3, f, g5, g6⟩
          · exact absurd (show 12 < 8 from g) (by decide)
          · exact absurd (show 16 ≤ 12 from g) (by decide)
        obtain ⟨hd, hm⟩ := zcnd_t hm12
        have hd : x / 1048576 - x % 1048576 = x0 / 1048576 - x0 % 1048576 := Nat.eq_of_beq_eq_true hd
        refine Or.inr (Or.inr (Or.inl ⟨(by decide : 8 ≤ 12), (by decide : 12 < 16), hl, Or.inr ⟨rfl, f, by rw [zcg_lo (by decide)], fun j hj => ?_⟩⟩))
        obtain ⟨k, a', z1, z2, z3, z4⟩ := hf j hj
        have hk : k - x % 1048576 < x / 1048576 - x % 1048576 := by omega
        obtain ⟨b, hb, hb2⟩ := ztab_t φ _ (zall_t hm (k - x % 1048576) hk)
        have eb : b = x % 1048576 + (k - x % 1048576) := Nat.eq_of_beq_eq_true hb2
        have ebk : b = k := by omega
        subst ebk
        obtain ⟨-, -, q', g1, g2⟩ := hφ _ b hb
        refine ⟨x0 % 1048576 + (b - x % 1048576), a', by show x0 % 1048576 ≤ _; omega, by show _ < x0 / 1048576; omega, ?_, z4⟩
        have z3 : (ws.map (fun q => q.1))[b]? = some a' := z3
        show (wss.map (fun q => q.1))[x0 % 1048576 + (b - x % 1048576)]? = some a'
        have g2 : wss[x0 % 1048576 + (b - x % 1048576)]? = some q' := g2
        rw [List.getElem?_map, g1] at z3
        rw [List.getElem?_map, g2]
        exact z3
      rw [h5, cond_true] at hm
      have q5 := Nat.le_of_ble_eq_true h5
      obtain ⟨fs, rfl, hl, hf⟩ := zCell_obj (ci := kd - 16) hc (by omega)
      have hek : kd = 16 + (kd - 16) := by omega
      have hw := zall_t hm
      have key : zCell (zcg cA wss) (zad (zcg cA wss) wss) (16 + (kd - 16), len, x0) (.inr (kd - 16, fs)) := zCell_ok hl (fun j v hv => by
        have hj : j < zN (kd - 16) := by rw [← hl]; exact (List.getElem?_eq_some_iff.mp hv).1
        have hwj : zmwT φ t (zisR (zfty (kd - 16) j)) x x0 j = true := hw j hj
        have hfj := hf j v hv
        unfold zFl at hfj ⊢
        cases hz : zisR (zfty (kd - 16) j)
        · rw [hz] at hwj
          rw [hz, cond_false] at hfj
          rw [cond_false]
          exact zmw_IT hq (by show (match fs[j]? with | some v => zcv v | none => 0) = zcv v; rw [hv]) hwj hfj
        · rw [hz] at hwj
          rw [hz, cond_true] at hfj
          rw [cond_true]
          obtain ⟨o, rfl, ho⟩ := hfj
          exact ⟨o, rfl, zmw_R hφ hq (by show (match fs[j]? with | some v => zcv v | none => 0) = zcv (va_rf o); rw [hv]) hwj ho⟩)
      rw [← hek] at key
      exact key
    · rw [h4, cond_true] at hm
      have q4 := Nat.le_of_ble_eq_true h4
      obtain ⟨hl, f, rfl, hf⟩ := zCell_r hc (by omega) (by omega)
      have hw := zall_t hm
      have key := zCell_rk (cA := zcg cA wss) (ad := zad (zcg cA wss) wss) (x := x0) (f := f) (kd := kd) (by omega) (by omega) hl (fun j hj => zmw_R hφ hq rfl (hw j hj) (hf j hj))
      rw [zcg_lo (by omega)] at key
      exact key
  · rw [h3, cond_true] at hm
    have q3 := Nat.le_of_ble_eq_true h3
    have key : zCell cA (zad cA ws) (kd, len, x0) e := by
      cases h4 : Nat.beq x x0
      · rw [h4, cond_false] at hm
        exact zsubX_ok hm hc
      · rw [← Nat.eq_of_beq_eq_true h4]
        exact hc
    exact zCell_lo q3 key (fun i hi => zcg_lo (by omega))
end WORLD
noncomputable def zwbT {d : Nat} (φ ρ : List Nat) (t : zT d) (isR : Bool) (w : Nat) (K : Nat → Bool) : Bool := cond (Nat.ble 549755813889 w) (ztab φ (Nat.div (Nat.sub w 549755813889) 64) (fun b => Prod.rec (motive := fun _ => Bool) (fun kd v => Prod.rec (motive := fun _ => Bool) (fun len x => cond (zlr kd len (Nat.mod (Nat.sub w 549755813889) 64) isR) (zF K (zwd 40 x (Nat.mod (Nat.sub w 549755813889) 64))) false) v) (zget d t b))) (cond (zisT w) (cond isR false (K w)) (cond (Nat.ble 274877906944 w) false (cond isR (Nat.rec (motive := fun _ => Bool) (K 0) (fun p _ => ztab ρ p (fun b => zF K (Nat.succ b))) w) (K w))))
def zWBT {d : Nat} (φ ρ : List Nat) (t : zT d) (isR : Bool) (w w' : Nat) : Prop :=
  (549755813889 ≤ w ∧ ∃ b kd len x : Nat, φ[(w - 549755813889) / 64]? = some b ∧ zget d t b = (kd, len, x) ∧ zlr kd len ((w - 549755813889) % 64) isR = true ∧ w' = zwd 40 x ((w - 549755813889) % 64)) ∨
  (w < 274877906944 ∧ isR = true ∧ ((w = 0 ∧ w' = 0) ∨ ∃ p b : Nat, w = p + 1 ∧ ρ[p]? = some b ∧ w' = b + 1)) ∨
  (w < 274877906944 ∧ isR = false ∧ w' = w) ∨
  (zisT w = true ∧ isR = false ∧ w' = w)
theorem zwb_tT {d : Nat} {φ ρ : List Nat} {t : zT d} {isR : Bool} {w : Nat} {K : Nat → Bool} (h : zwbT φ ρ t isR w K = true) : ∃ w', K w' = true ∧ zWBT φ ρ t isR w w' := by
  unfold zwbT at h
  cases h1 : Nat.ble 549755813889 w
  · rw [h1, cond_false] at h
    have q1 := zble_f h1
    cases hT : zisT w
    case true =>
      rw [hT, cond_true] at h
      cases isR
      · exact ⟨w, h, Or.inr (Or.inr (Or.inr ⟨hT, rfl, rfl⟩))⟩
      · cases h
    rw [hT, cond_false] at h
    cases h2 : Nat.ble 274877906944 w
    · rw [h2, cond_false] at h
      have q2 := zble_f h2
      cases isR
      · exact ⟨w, h, Or.inr (Or.inr (Or.inl ⟨by omega, rfl, rfl⟩))⟩
      · rw [cond_true] at h
        cases w with
        | zero => exact ⟨0, h, Or.inr (Or.inl ⟨by omega, rfl, Or.inl ⟨rfl, rfl⟩⟩)⟩
        | succ p =>
          have h : ztab ρ p (fun b => zF K (Nat.succ b)) = true := h
          obtain ⟨b, hb, hb2⟩ := ztab_t ρ p h
          rw [zF_eq] at hb2
          exact ⟨b + 1, hb2, Or.inr (Or.inl ⟨by omega, rfl, Or.inr ⟨p, b, rfl, hb, rfl⟩⟩)⟩
    · rw [h2] at h; cases h
  · rw [h1, cond_true] at h
    obtain ⟨b, hb, hb2⟩ := ztab_t φ _ h
    generalize hc : zget d t b = c at hb2
    obtain ⟨kd, len, x⟩ := c
    have hb2 : cond (zlr kd len (Nat.mod (Nat.sub w 549755813889) 64) isR) (zF K (zwd 40 x (Nat.mod (Nat.sub w 549755813889) 64))) false = true := hb2
    cases h3 : zlr kd len (Nat.mod (Nat.sub w 549755813889) 64) isR
    · rw [h3] at hb2; cases hb2
    rw [h3, cond_true, zF_eq] at hb2
    exact ⟨_, hb2, Or.inl ⟨Nat.le_of_ble_eq_true h1, b, kd, len, x, hb, hc, h3, rfl⟩⟩
theorem zWB_ltT {d : Nat} {φ ρ : List Nat} {t : zT d} {isR : Bool} {w w' : Nat} (hρ : ∀ (p b : Nat), ρ[p]? = some b → b < 549755813887) (h : zWBT φ ρ t isR w w') : w' < 2 ^ 40 := by
  rcases h with ⟨-, b, kd, len, x, -, -, -, h5⟩ | ⟨-, -, ⟨-, h5⟩ | ⟨p, b, -, hb, h5⟩⟩ | ⟨h, -, h5⟩ | ⟨h, -, h5⟩
  · rw [h5]; exact zwd_lt _ _ _
  · rw [h5]; decide
  · rw [h5]
    have := hρ p b hb
    exact Nat.lt_of_lt_of_le (show b + 1 < 549755813888 by omega) (by decide)
  · rw [h5]; exact Nat.lt_of_lt_of_le h (by decide)
  · rw [h5]; exact Nat.lt_of_lt_of_le (zisT_t h).2 (by decide)
noncomputable def zrnWT {d : Nat} (φ ρ : List Nat) (t : zT d) (isR : Nat → Bool) (x n : Nat) : Nat → (Nat → Bool) → Bool := Nat.rec (motive := fun _ => Nat → (Nat → Bool) → Bool) (fun acc K => K acc) (fun j r acc K => zwbT φ ρ t (isR j) (zwd 40 x j) (fun w => zF (fun acc => r acc K) (zup 40 acc j w))) n
theorem zrnW_tT {d : Nat} {φ ρ : List Nat} {t : zT d} {isR : Nat → Bool} {x : Nat} (hρ : ∀ (p b : Nat), ρ[p]? = some b → b < 549755813887) : ∀ (n acc : Nat) {K : Nat → Bool}, zrnWT φ ρ t isR x n acc K = true → ∃ y, K y = true ∧ (∀ j, j < n → zWBT φ ρ t (isR j) (zwd 40 x j) (zwd 40 y j)) ∧ ∀ j, n ≤ j → zwd 40 y j = zwd 40 acc j
  | 0, acc, K, h => ⟨acc, h, fun j hj => absurd hj (Nat.not_lt_zero j), fun _ _ => rfl⟩
  | n + 1, acc, K, h => by
    have h : zwbT φ ρ t (isR n) (zwd 40 x n) (fun w => zF (fun acc => zrnWT φ ρ t isR x n acc K) (zup 40 acc n w)) = true := h
    obtain ⟨w, hw, hb⟩ := zwb_tT h
    rw [zF_eq] at hw
    obtain ⟨y, h1, h2, h3⟩ := zrnW_tT hρ n _ hw
    have hlt := zWB_ltT hρ hb
    refine ⟨y, h1, fun j hj => ?_, fun j hj => ?_⟩
    · rcases Nat.lt_succ_iff_lt_or_eq.mp hj with q | rfl
      · exact h2 j q
      · rw [h3 j (Nat.le_refl j), zwd_up_same _ _ _ _ hlt]
        exact hb
    · rw [h3 j (by omega), zwd_up_ne _ _ _ _ _ hlt (by omega)]
noncomputable def zrenT {d : Nat} (φ ρ : List Nat) (t : zT d) (c : zC) (K : zC → Bool) : Bool := Prod.rec (motive := fun _ => Bool) (fun kd v => Prod.rec (motive := fun _ => Bool) (fun len x => cond (Nat.ble kd 2) (K (kd, len, x)) (cond (Nat.ble kd 7) (zrnWT φ ρ t (fun _ => true) x len 0 (fun y => K (kd, len, y))) (cond (Nat.ble 16 kd) (zrnWT φ ρ t (fun j => zisR (zfty (Nat.sub kd 16) j)) x (zN (Nat.sub kd 16)) 0 (fun y => K (kd, len, y))) (cond (Nat.beq kd 12) (zr12 ρ x (fun y => K (kd, len, y))) false)))) v) c
def zRNT {d : Nat} (φ ρ : List Nat) (t : zT d) (c c' : zC) : Prop := ∃ kd len x y : Nat, c = (kd, len, x) ∧ c' = (kd, len, y) ∧ ((kd ≤ 2 ∧ y = x) ∨ (3 ≤ kd ∧ kd ≤ 7 ∧ ∀ j, j < len → zWBT φ ρ t true (zwd 40 x j) (zwd 40 y j)) ∨ (16 ≤ kd ∧ ∀ j, j < zN (kd - 16) → zWBT φ ρ t (zisR (zfty (kd - 16) j)) (zwd 40 x j) (zwd 40 y j)) ∨ (kd = 12 ∧ ∃ b, b ≤ 1000000 ∧ y = b + 1048576 * (b + (x / 1048576 - x % 1048576)) ∧ ∀ i, i < x / 1048576 - x % 1048576 → ρ[x % 1048576 + i]? = some (b + i)))
theorem zren_tT {d : Nat} {φ ρ : List Nat} {t : zT d} {c : zC} {K : zC → Bool} (hρ : ∀ (p b : Nat), ρ[p]? = some b → b < 549755813887) (h : zrenT φ ρ t c K = true) : ∃ c', K c' = true ∧ zRNT φ ρ t c c' := by
  obtain ⟨kd, len, x⟩ := c
  replace h : cond (Nat.ble kd 2) (K (kd, len, x)) (cond (Nat.ble kd 7) (zrnWT φ ρ t (fun _ => true) x len 0 (fun y => K (kd, len, y))) (cond (Nat.ble 16 kd) (zrnWT φ ρ t (fun j => zisR (zfty (Nat.sub kd 16) j)) x (zN (Nat.sub kd 16)) 0 (fun y => K (kd, len, y))) (cond (Nat.beq kd 12) (zr12 ρ x (fun y => K (kd, len, y))) false))) = true := h
  cases h1 : Nat.ble kd 2
  · rw [h1, cond_false] at h
    have q1 := zble_f h1
    cases h2 : Nat.ble kd 7
    · rw [h2, cond_false] at h
      cases h3 : Nat.ble 16 kd
      · rw [h3, cond_false] at h
        obtain ⟨h4, h⟩ := zcnd_t h
        obtain ⟨b, g1, g2, g3⟩ := zr12_t h
        exact ⟨_, g2, kd, len, x, _, rfl, rfl, Or.inr (Or.inr (Or.inr ⟨Nat.eq_of_beq_eq_true h4, b, g1, rfl, g3⟩))⟩
      rw [h3, cond_true] at h
      obtain ⟨y, g1, g2, -⟩ := zrnW_tT hρ _ _ h
      exact ⟨_, g1, kd, len, x, y, rfl, rfl, Or.inr (Or.inr (Or.inl ⟨Nat.le_of_ble_eq_true h3, g2⟩))⟩
    · rw [h2, cond_true] at h
      obtain ⟨y, g1, g2, -⟩ := zrnW_tT hρ _ _ h
      exact ⟨_, g1, kd, len, x, y, rfl, rfl, Or.inr (Or.inl ⟨by omega, Nat.le_of_ble_eq_true h2, g2⟩)⟩
  · rw [h1, cond_true] at h
    exact ⟨_, h, kd, len, x, x, rfl, rfl, Or.inl ⟨Nat.le_of_ble_eq_true h1, rfl⟩⟩
section BACK
variable {d : Nat} {cA cB : Nat → ClassId} {ws ws' wss' : va_W} {φ ρ : List Nat} {T : zT d}
theorem zWB_RT [zCh] {w w' : Nat} {o : Option Nat} (hop : zOp cA cB ws φ T) (hpre : zPre (zad cA ws) (zad cA ws')) (hρ : ∀ (p b : Nat), ρ[p]? = some b → b < 549755813887) (hρa : ∀ (p b a : Nat), ρ[p]? = some b → (zad cB wss').1[p]? = some a → (zad cA ws').1[b]? = some a) (hw : zWBT φ ρ T true w w') (hr : zRw (zad cB wss') w o) : zRw (zad cA ws') w' o := by
  rcases hw with ⟨h1, b, kd, len, x, h2, h3, h4, h5⟩ | ⟨h1, -, ⟨rfl, h5⟩ | ⟨p, b, rfl, h2, h5⟩⟩ | ⟨-, h, -⟩ | ⟨-, h, -⟩
  · rw [h5]
    have key := (hop _ b kd len x _ h2 h3 (Nat.mod_lt _ (by decide))).1 h4
    rw [zoc_of h1] at key
    rcases hr with ⟨z, -⟩ | ⟨-, z⟩
    · omega
    · rw [z]
      exact zRw_mono hpre key
  · rw [h5]
    rcases hr with ⟨-, ⟨-, z⟩ | ⟨k, a, z, -⟩⟩ | ⟨z, -⟩
    · exact Or.inl ⟨by decide, Or.inl ⟨rfl, z⟩⟩
    · cases z
    · exact absurd z (by decide)
  · rw [h5]
    have hb := hρ p b h2
    rcases hr with ⟨-, ⟨z, -⟩ | ⟨k, a, z1, z2, z3⟩⟩ | ⟨z, -⟩
    · cases z
    · have ek : p = k := by omega
      subst ek
      exact Or.inl ⟨by omega, Or.inr ⟨b, a, rfl, hρa p b a h2 z2, z3⟩⟩
    · omega
  · cases h
  · cases h
theorem zWB_IT {C1 C2 : zCh} {w w' : Nat} {v : Value} (h20 : cB 20 = cA 20) (hop : @zOp d C2 cA cB ws φ T) (hpre : zPre (zad cA ws) (zad cA ws')) (hw : zWBT φ ρ T false w w') (hr : @zRepC C1 (zad cB wss') (zI w) v) : @zRepC C2 (zad cA ws') (zI w') v := by
  obtain ⟨i, rfl, r1, r2⟩ := hr
  rcases hw with ⟨h1, b, kd, len, x, h2, h3, h4, h5⟩ | ⟨-, h, -⟩ | ⟨h1, -, h5⟩ | ⟨h1, -, h5⟩
  · rw [h5]
    have key := (hop _ b kd len x _ h2 h3 (Nat.mod_lt _ (by decide))).2 h4 i (by rw [zoc_of h1]; exact r2.1 (by omega))
    exact @zRepC_mono C2 _ _ hpre _ _ key
  · cases h
  · rw [h5]
    exact ⟨i, rfl, ⟨r1.1, fun z => absurd z (by omega)⟩, fun z => absurd z (by omega), fun z => absurd z (by omega)⟩
  · rw [h5]
    obtain ⟨w1, w2⟩ := zisT_t h1
    refine ⟨i, rfl, ⟨r1.1, fun z => absurd z (by omega)⟩, fun z => absurd z (by omega), fun q1 q2 => ?_⟩
    have e20 : (zad cA ws').2 20 = (zad cB wss').2 20 := h20.symm
    rw [e20]
    exact r2.2 q1 q2
theorem zRN_okT {C1 C2 : zCh} {c c' : zC} {e : va_E} (hB : ∀ i, i < 8 → cB i = cA i) (h20 : cB 20 = cA 20) (hop : @zOp d C2 cA cB ws φ T) (hpre : zPre (zad cA ws) (zad cA ws')) (hρ : ∀ (p b : Nat), ρ[p]? = some b → b < 549755813887) (hρa : ∀ (p b a : Nat), ρ[p]? = some b → (zad cB wss').1[p]? = some a → (zad cA ws').1[b]? = some a) (hc : @zCell C1 cB (zad cB wss') c e) (hn : zRNT φ ρ T c c') : @zCell C2 cA (zad cA ws') c' e := by
  obtain ⟨kd, len, x, y, rfl, rfl, ⟨h1, rfl⟩ | ⟨h1, h2, h3⟩ | ⟨h1, h2⟩ | ⟨h1, b, h2, h3, h4⟩⟩ := hn
  · exact zCell_lo h1 hc (fun i hi => (hB i (by omega)).symm)
  · obtain ⟨hl, f, rfl, hf⟩ := @zCell_r C1 cB _ kd len x e hc h1 (by omega)
    rw [hB kd (by omega)]
    exact @zCell_rk C2 cA _ kd len y f h1 (by omega) hl (fun j hj => @zWB_RT d cA cB ws ws' wss' φ ρ T C2 _ _ _ hop hpre hρ hρa (h3 j hj) (hf j hj))
  · obtain ⟨fs, rfl, hl, hf⟩ := @zCell_obj C1 cB _ kd len x (kd - 16) e hc (by omega)
    have hek : kd = 16 + (kd - 16) := by omega
    have key : @zCell C2 cA (zad cA ws') (16 + (kd - 16), len, y) (.inr (kd - 16, fs)) := @zCell_ok C2 cA _ (kd - 16) len y fs hl (fun j v hv => by
      have hj : j < zN (kd - 16) := by rw [← hl]; exact (List.getElem?_eq_some_iff.mp hv).1
      have hwj := h2 j hj
      have hfj := hf j v hv
      unfold zFl at hfj ⊢
      cases hz : zisR (zfty (kd - 16) j)
      · rw [hz] at hwj
        rw [hz, cond_false] at hfj
        rw [cond_false]
        exact zWB_IT h20 hop hpre hwj hfj
      · rw [hz] at hwj
        rw [hz, cond_true] at hfj
        rw [cond_true]
        obtain ⟨o, rfl, ho⟩ := hfj
        exact ⟨o, rfl, @zWB_RT d cA cB ws ws' wss' φ ρ T C2 _ _ _ hop hpre hρ hρa hwj ho⟩)
    rw [← hek] at key
    exact key
  · subst h1
    obtain ⟨hl, f, rfl, hf⟩ : len < 2147483648 ∧ ∃ f : Nat → Option Nat, e = .inl (cB 3, len, .inr (.inr (.inr (.inr f)))) ∧ zRs (zad cB wss') len x f := by
      rcases hc with ⟨g, -⟩ | ⟨g, -⟩ | ⟨-, -, g3, ⟨g4, -⟩ | ⟨-, f, g5, g6⟩⟩ | ⟨-, g, -⟩ | ⟨g, -⟩
      · exact absurd (show 12 < 2 from g) (by decide)
      · exact absurd (show 12 = 2 from g) (by decide)
      · exact absurd (show 12 < 12 from g4) (by decide)
      · exact ⟨g3, f, g5, g6⟩
      · exact absurd (show 12 < 8 from g) (by decide)
      · exact absurd (show 16 ≤ 12 from g) (by decide)
    have m1 : y % 1048576 = b := by omega
    have m2 : y / 1048576 = b + (x / 1048576 - x % 1048576) := by omega
    refine Or.inr (Or.inr (Or.inl ⟨(by decide : 8 ≤ 12), (by decide : 12 < 16), hl, Or.inr ⟨rfl, f, by rw [hB 3 (by decide)], fun j hj => ?_⟩⟩))
    obtain ⟨k, a', z1, z2, z3, z4⟩ := hf j hj
    have hk := h4 (k - x % 1048576) (by omega)
    rw [show x % 1048576 + (k - x % 1048576) = k by omega] at hk
    exact ⟨b + (k - x % 1048576), a', by show y % 1048576 ≤ _; rw [m1]; omega, by show _ < y / 1048576; rw [m2]; omega, hρa k _ a' hk z3, z4⟩
end BACK
noncomputable def zstsT {d ds : Nat} (φ ρ : List Nat) (T0 : zT d) (hs : zT ds) (l : List Nat) : Nat → zT d → (zT d → Bool) → Bool := List.rec (motive := fun _ => Nat → zT d → (zT d → Bool) → Bool) (fun _ T K => K T) (fun b _ r t T K => zrenT φ ρ T0 (zget ds hs t) (fun c => zsetK d T b c (fun T => r (Nat.succ t) T K))) l
theorem zsts_tT {d ds : Nat} {φ ρ : List Nat} {T0 : zT d} {hs : zT ds} (hρ : ∀ (p b : Nat), ρ[p]? = some b → b < 549755813887) : ∀ (l : List Nat) (t : Nat) (T : zT d) {K : zT d → Bool}, (∀ i ∈ l, i < 2 ^ d) → zstsT φ ρ T0 hs l t T K = true → ∃ T' : zT d, K T' = true ∧ (∀ i, i < 2 ^ d → i ∉ l → zget d T' i = zget d T i) ∧ ((∀ (u v i : Nat), l[u]? = some i → l[v]? = some i → u = v) → ∀ (u i : Nat), l[u]? = some i → zRNT φ ρ T0 (zget ds hs (t + u)) (zget d T' i))
  | [], t, T, K, _, h => ⟨T, h, fun _ _ _ => rfl, fun _ u i hu => by simp at hu⟩
  | b :: l, t, T, K, hl, h => by
    have h : zrenT φ ρ T0 (zget ds hs t) (fun c => zsetK d T b c (fun T => zstsT φ ρ T0 hs l (Nat.succ t) T K)) = true := h
    obtain ⟨c, hc, hn⟩ := zren_tT hρ h
    rw [zsetK_eq] at hc
    obtain ⟨T', h1, h2, h3⟩ := zsts_tT hρ l (t + 1) (zset d T b c) (fun i hi => hl i (List.mem_cons_of_mem _ hi)) hc
    have hb : b < 2 ^ d := hl b List.mem_cons_self
    refine ⟨T', h1, fun i hi hni => ?_, fun hinj u i hu => ?_⟩
    · rw [h2 i hi (fun q => hni (List.mem_cons_of_mem _ q)), zget_set_ne d _ _ _ _ hb hi (fun q => hni (by rw [q]; exact List.mem_cons_self))]
    · cases u with
      | zero =>
        have e : b = i := by simpa using hu
        subst e
        have hni : b ∉ l := fun q => by
          obtain ⟨v, hv⟩ := List.getElem?_of_mem q
          have := hinj 0 (v + 1) b rfl (by simpa using hv)
          omega
        rw [h2 b hb hni, zget_set_same d _ _ _ hb]
        exact hn
      | succ u =>
        have key := h3 (fun u v i hu hv => by have := hinj (u + 1) (v + 1) i (by simpa using hu) (by simpa using hv); omega) u i (by simpa using hu)
        rw [show t + (u + 1) = t + 1 + u by omega]
        exact key
noncomputable def zmtLT {d ds : Nat} (φ : List Nat) (T : zT d) (hs : zT ds) (l : List Nat) : Nat → Bool := List.rec (motive := fun _ => Nat → Bool) (fun _ => true) (fun b _ r t => cond (zmtT φ t (zget d T b) (zget ds hs t)) (r (Nat.succ t)) false) l
theorem zmtL_tT {d ds : Nat} {φ : List Nat} {T : zT d} {hs : zT ds} : ∀ (l : List Nat) (t : Nat), zmtLT φ T hs l t = true → ∀ (u b : Nat), l[u]? = some b → zmtT φ (t + u) (zget d T b) (zget ds hs (t + u)) = true
  | [], t, _, u, b, hu => by simp at hu
  | c :: l, t, h, u, b, hu => by
    have h : cond (zmtT φ t (zget d T c) (zget ds hs t)) (zmtLT φ T hs l (Nat.succ t)) false = true := h
    cases h1 : zmtT φ t (zget d T c) (zget ds hs t)
    · rw [h1] at h; cases h
    rw [h1, cond_true] at h
    cases u with
    | zero =>
      have e : c = b := by simpa using hu
      subst e
      exact h1
    | succ u =>
      have key := zmtL_tT l (t + 1) h u b (by simpa using hu)
      rw [show t + (u + 1) = t + 1 + u by omega]
      exact key
noncomputable def zrvT {d : Nat} (φ ρ : List Nat) (T : zT d) (r1 : zV) (K : zV → Bool) : Bool := Sum.rec (motive := fun _ => Bool) (fun n => cond (Nat.ble 1099511627776 n) false (K (zI n))) (fun u => Sum.rec (motive := fun _ => Bool) (fun w => cond (Nat.ble 549755813888 w) false (zwbT φ ρ T true w (fun w' => cond (Nat.ble 549755813888 w') false (K (zR w'))))) (fun v => Sum.rec (motive := fun _ => Bool) (fun n => K (zL n)) (fun n => cond (Nat.beq n 0) (K zU) false) v) u) r1
theorem zrv_tT {d : Nat} {φ ρ : List Nat} {T : zT d} {r1 : zV} {K : zV → Bool} (h : zrvT φ ρ T r1 K = true) : ∃ r', K r' = true ∧ ((∃ n, n < 1099511627776 ∧ r1 = zI n ∧ r' = zI n) ∨ (∃ w w', w < 549755813888 ∧ w' < 549755813888 ∧ r1 = zR w ∧ r' = zR w' ∧ zWBT φ ρ T true w w') ∨ (∃ n, r1 = zL n ∧ r' = zL n) ∨ (r1 = zU ∧ r' = zU)) := by
  match r1, h with
  | .inl n, h =>
    have h : cond (Nat.ble 1099511627776 n) false (K (zI n)) = true := h
    cases h1 : Nat.ble 1099511627776 n
    · rw [h1, cond_false] at h
      exact ⟨_, h, Or.inl ⟨n, zble_f h1, rfl, rfl⟩⟩
    · rw [h1] at h; cases h
  | .inr (.inl w), h =>
    have h : cond (Nat.ble 549755813888 w) false (zwbT φ ρ T true w (fun w' => cond (Nat.ble 549755813888 w') false (K (zR w')))) = true := h
    cases h1 : Nat.ble 549755813888 w
    · rw [h1, cond_false] at h
      obtain ⟨w', hw, hb⟩ := zwb_tT h
      cases h2 : Nat.ble 549755813888 w'
      · rw [h2, cond_false] at hw
        exact ⟨_, hw, Or.inr (Or.inl ⟨w, w', zble_f h1, zble_f h2, rfl, rfl, hb⟩)⟩
      · rw [h2] at hw; cases hw
    · rw [h1] at h; cases h
  | .inr (.inr (.inl n)), h => exact ⟨_, h, Or.inr (Or.inr (Or.inl ⟨n, rfl, rfl⟩))⟩
  | .inr (.inr (.inr 0)), h => exact ⟨_, h, Or.inr (Or.inr (Or.inr ⟨rfl, rfl⟩))⟩
  | .inr (.inr (.inr (n + 1))), h => cases h
noncomputable def zsm1 {d ds : Nat} (φ : List Nat) (n0 : Nat) (h : zH d) (P : zP d) (r1 : zV) (hs1 : zH ds) : Bool := cond (Nat.ble n0 hs1.2.1) (cond (Nat.ble (Nat.add h.2.1 (Nat.sub hs1.2.1 n0)) (Nat.pow 2 d)) (cond (Nat.ble (Nat.add h.2.1 (Nat.add n0 (Nat.sub hs1.2.1 n0))) 1000000) (zsqK (Nat.sub hs1.2.1 n0) h.2.1 (fun l => zapL φ l (fun ρ => zrvT φ ρ h.1 r1 (fun r' => zstsT φ ρ h.1 hs1.1 ρ 0 h.1 (fun T => zF (fun N => P r' (T, (N, hs1.2.2))) (Nat.add h.2.1 (Nat.sub hs1.2.1 n0))))))) false) false) false
noncomputable def zsmL {d ds : Nat} (φ : List Nat) (n0 : Nat) (h : zH d) (P : zP d) (outs : List (zV × zH ds)) : Bool := List.rec (motive := fun _ => Bool) true (fun e _ r => Prod.rec (motive := fun _ => Bool) (fun r1 hs1 => cond (zsm1 φ n0 h P r1 hs1) r false) e) outs
theorem zsmL_t {d ds : Nat} {φ : List Nat} {n0 : Nat} {h : zH d} {P : zP d} {r : zV} {hh : zH ds} : ∀ {outs : List (zV × zH ds)}, zrkL outs r hh = true → zsmL φ n0 h P outs = true → ∃ r1 hs1, zrk r1 hs1 r hh = true ∧ zsm1 φ n0 h P r1 hs1 = true
  | [], hk, _ => by cases hk
  | (r1, h1) :: outs, hk, ha => by
    have hk : cond (zrk r1 h1 r hh) true (zrkL outs r hh) = true := hk
    have ha : cond (zsm1 φ n0 h P r1 h1) (zsmL φ n0 h P outs) false = true := ha
    obtain ⟨a1, a2⟩ := zcnd_t ha
    cases q : zrk r1 h1 r hh
    · rw [q, cond_false] at hk
      exact zsmL_t hk a2
    · exact ⟨r1, h1, q, a1⟩
noncomputable def zsmyL {d ds : Nat} (fp : List (Nat × Nat)) (as0 : List zV) (hs0 : zH ds) (outs : List (zV × zH ds)) : List zV → zH d → zP d → Bool := fun as h P => zfp fp as h.1 [] (fun φ => cond (Nat.ble hs0.2.1 (Nat.pow 2 ds)) (cond (Nat.beq (zlen φ) hs0.2.1) (cond (Nat.beq hs0.2.2.1 h.2.2.1) (cond (Nat.beq hs0.2.2.2 h.2.2.2) (cond (znd h.2.1 φ) (cond (zma φ as as0) (cond (zmtLT φ h.1 hs0.1 φ 0) (cond (Nat.ble (Nat.add h.2.1 hs0.2.1) 1000000) (zsmL φ hs0.2.1 h P outs) false) false) false) false) false) false) false) false)
theorem zMet_smL {d ds : Nat} {X : zM} {y : MethodName} {fr : Nat} {f : List zV → zH ds → zP ds → Bool} (hM : zMet X y fr f) {fp : List (Nat × Nat)} {as0 : List zV} {hs0 : zH ds} {outs : List (zV × zH ds)} (hev : f as0 hs0 (zrkL outs) = true) : zMet (d := d) X y fr (zsmyL fp as0 hs0 outs) := by
  intro G Ch l cA D ws av as h P sz hg has hH hT
  obtain ⟨φ, hg⟩ := zfp_t fp [] hg
  obtain ⟨c0, hg⟩ := zcnd_t hg
  obtain ⟨c1, hg⟩ := zcnd_t hg
  obtain ⟨c5, hg⟩ := zcnd_t hg
  obtain ⟨c6, hg⟩ := zcnd_t hg
  obtain ⟨c7, hg⟩ := zcnd_t hg
  obtain ⟨c8, hg⟩ := zcnd_t hg
  obtain ⟨c9, hg⟩ := zcnd_t hg
  obtain ⟨c10, hgg⟩ := zcnd_t hg
  have m0 : hs0.2.1 ≤ 2 ^ ds := Nat.le_of_ble_eq_true c0
  have m1 : φ.length = hs0.2.1 := by rw [← zlen_eq]; exact Nat.eq_of_beq_eq_true c1
  have m5 : hs0.2.2.1 = h.2.2.1 := Nat.eq_of_beq_eq_true c5
  have m6 : hs0.2.2.2 = h.2.2.2 := Nat.eq_of_beq_eq_true c6
  obtain ⟨n1, n2⟩ := znd_t c7
  have hN : ws.length = h.2.1 := hH.1
  have m4' : h.2.1 + hs0.2.1 ≤ 1000000 := Nat.le_of_ble_eq_true c10
  have hwl : (φ.map (fun b => (ws[b]?).getD ((0, .inr (0, [])) : Nat × va_E))).length = φ.length := List.length_map ..
  have hφ : ∀ (p b : Nat), φ[p]? = some b → b < 549755813887 ∧ p < 549755813887 ∧ ∃ q, ws[b]? = some q ∧ (φ.map (fun b => (ws[b]?).getD ((0, .inr (0, [])) : Nat × va_E)))[p]? = some q := by
    intro p b hp
    have hb := n1 p b hp
    have hpl := (List.getElem?_eq_some_iff.mp hp).1
    have e : ws[b]? = some ws[b] := List.getElem?_eq_getElem (by omega)
    refine ⟨by omega, by omega, ws[b], e, ?_⟩
    rw [List.getElem?_map, hp]
    simp [e]
  generalize φ.map (fun b => (ws[b]?).getD ((0, .inr (0, [])) : Nat × va_E)) = wss at hwl hφ
  have hφr : ∀ (p : Nat) (q : Nat × va_E), wss[p]? = some q → ∃ b, φ[p]? = some b ∧ ws[b]? = some q := by
    intro p q hp
    have hpl := (List.getElem?_eq_some_iff.mp hp).1
    have e : φ[p]? = some φ[p] := List.getElem?_eq_getElem (by omega)
    obtain ⟨-, -, q', g1, g2⟩ := hφ p _ e
    rw [hp] at g2
    cases g2
    exact ⟨_, e, g1⟩
  have hsub : ∀ q, va_A wss sz q → va_A ws sz q := by
    rintro q (⟨k', e, hk'⟩ | z)
    · obtain ⟨b, -, hb⟩ := hφr k' _ hk'
      exact Or.inl ⟨b, e, hb⟩
    · exact Or.inr z
  have hHs : zHp (zcg cA wss) hs0 wss := by
    refine ⟨by omega, m0, fun i q hi => ?_⟩
    obtain ⟨b, hb, hq⟩ := hφr i q hi
    have hm := zmtL_tT φ 0 c9 i b hb
    rw [Nat.zero_add] at hm
    obtain ⟨qa, qe⟩ := q
    exact zmt_okT hφ hi (hH.2.2 b _ hq) hm
  have hm := hM l (zcg cA wss) D wss av as0 hs0 (zrkL outs) sz hev (zma_ok hφ c8 has) hHs (by rw [zcg_lo (by decide)]; exact hT)
  rw [m5, m6] at hm
  refine Met_mono hm ?_ ?_ hsub
  · rintro a s ⟨rfl, e1, hP, hK, hD, hst, hex⟩
    refine ⟨rfl, e1, fun k' q hk' => ?_, by rw [zcg_ty]; exact hK, ⟨fun i j p q hi hj hpq => ?_, fun _ _ _ => trivial⟩, zStat_to hst va_S.rf hsub rfl (Vm.Alike.refl s.vm), hex⟩
    · obtain ⟨b, -, hq⟩ := hφr k' q hk'
      exact hP b q hq
    · obtain ⟨b1, g1, g2⟩ := hφr i p hi
      obtain ⟨b2, g3, g4⟩ := hφr j q hj
      have e := hD.1 b1 b2 p q g2 g4 hpq
      subst e
      exact n2 i j b1 g1 g3
  · rintro a st o t ⟨rfl, e1, hP, hK, hD, hst, hex⟩ ⟨⟨Ch', r, hh, wss', ov, rfl, hov, hk2, hHp', hpre', hP', hD'⟩, hF⟩
    obtain ⟨r1, hs1, hk3, hg⟩ := zsmL_t hk2 hgg
    obtain ⟨c2, hg⟩ := zcnd_t hg
    obtain ⟨c3, hg⟩ := zcnd_t hg
    obtain ⟨c4, hg⟩ := zcnd_t hg
    have hg := zapL_t φ _ (zsqK_t _ _ hg)
    simp only [zsub_n, zadd_n] at hg
    have m2 : hs0.2.1 ≤ hs1.2.1 := Nat.le_of_ble_eq_true c2
    have m3 : h.2.1 + (hs1.2.1 - hs0.2.1) ≤ 2 ^ d := Nat.le_of_ble_eq_true c3
    have m4 : h.2.1 + (hs0.2.1 + (hs1.2.1 - hs0.2.1)) ≤ 1000000 := Nat.le_of_ble_eq_true c4
    generalize hk : hs1.2.1 - hs0.2.1 = k at *
    have hρ0 : ∀ (p i : Nat), (φ ++ List.range' h.2.1 k)[p]? = some i ↔ (p < φ.length ∧ φ[p]? = some i) ∨ (φ.length ≤ p ∧ p < φ.length + k ∧ i = h.2.1 + (p - φ.length)) := by
      intro p i
      by_cases hp : p < φ.length
      · rw [List.getElem?_append_left hp]
        exact ⟨fun z => Or.inl ⟨hp, z⟩, fun z => z.elim (fun z => z.2) (fun z => absurd z.1 (by omega))⟩
      · rw [List.getElem?_append_right (by omega)]
        constructor
        · intro z
          obtain ⟨z1, z2⟩ := List.getElem?_eq_some_iff.mp z
          rw [List.length_range'] at z1
          rw [List.getElem_range'] at z2
          exact Or.inr ⟨by omega, by omega, by omega⟩
        · rintro (z | ⟨z1, z2, z3⟩)
          · exact absurd z.1 hp
          · rw [List.getElem?_eq_getElem (by rw [List.length_range']; omega), List.getElem_range', z3]
            simp
    generalize hρe : φ ++ List.range' h.2.1 k = ρ at hg hρ0
    obtain ⟨r', hg, hr'⟩ := zrv_tT hg
    have hρ : ∀ (p b : Nat), ρ[p]? = some b → b < 549755813887 := by
      intro p b hp
      rcases (hρ0 p b).mp hp with ⟨-, z⟩ | ⟨z1, z2, z3⟩
      · have := n1 p b z
        omega
      · omega
    have hρN : ∀ (p b : Nat), ρ[p]? = some b → b < h.2.1 + k := by
      intro p b hp
      rcases (hρ0 p b).mp hp with ⟨-, z⟩ | ⟨z1, z2, z3⟩
      · have := n1 p b z
        omega
      · omega
    obtain ⟨T', hg, hT1, hT2⟩ := zsts_tT hρ ρ 0 h.1 (fun i hi => by
      obtain ⟨p, hp⟩ := List.getElem?_of_mem hi
      have := hρN p i hp
      omega) hg
    have hρi : ∀ (u v i : Nat), ρ[u]? = some i → ρ[v]? = some i → u = v := by
      intro u v i hu hv
      rcases (hρ0 u i).mp hu with ⟨a1, a2⟩ | ⟨a1, a2, a3⟩ <;> rcases (hρ0 v i).mp hv with ⟨b1, b2⟩ | ⟨b1, b2, b3⟩
      · exact n2 u v i a2 b2
      · have := n1 u i a2
        omega
      · have := n1 v i b2
        omega
      · omega
    have hT2 := hT2 hρi
    rw [zF_eq] at hg
    obtain ⟨hsb, hrr⟩ := zrk_t hk3
    have hH1 : @zHp Ch' ds (zcg cA wss) hs1 wss' := zsubH_ok hsb hHp'
    have hl1 : wss'.length = hs1.2.1 := hH1.1
    obtain ⟨⟨tt, htt⟩, -⟩ := hpre'
    have htt : wss'.map (fun q => q.1) = wss.map (fun q => q.1) ++ tt := htt
    have hadr : ∀ (p : Nat) (q q' : Nat × va_E), wss[p]? = some q → wss'[p]? = some q' → q'.1 = q.1 := by
      intro p q q' h1 h2
      have e := congrArg (fun z => z[p]?) htt
      have e : (wss'.map (fun q => q.1))[p]? = (wss.map (fun q => q.1) ++ tt)[p]? := e
      rw [List.getElem?_append_left (by rw [List.length_map]; exact (List.getElem?_eq_some_iff.mp h1).1), List.getElem?_map, List.getElem?_map, h1, h2] at e
      exact Option.some.inj e
    have hρl : ∀ (p i : Nat), ρ[p]? = some i → ∃ q, wss'[p]? = some q := by
      intro p i hp
      have hpl : p < wss'.length := by
        rcases (hρ0 p i).mp hp with ⟨z, -⟩ | ⟨z1, z2, z3⟩ <;> omega
      exact ⟨_, List.getElem?_eq_getElem hpl⟩
    obtain ⟨ws', hwl', hin, hout⟩ : ∃ ws' : va_W, ws'.length = h.2.1 + k ∧ (∀ (p i : Nat) (q : Nat × va_E), ρ[p]? = some i → wss'[p]? = some q → ws'[i]? = some q) ∧ ∀ (i : Nat) (q : Nat × va_E), i ∉ ρ → ws[i]? = some q → ws'[i]? = some q := by
      refine ⟨(List.range (h.2.1 + k)).map (fun i => @dite _ (∃ q : Nat × va_E, ∃ p : Nat, ρ[p]? = some i ∧ wss'[p]? = some q) (Classical.propDecidable _) (fun hx => Classical.choose hx) (fun _ => (ws[i]?).getD (0, .inr (0, [])))), by rw [List.length_map, List.length_range], fun p i q hp hq => ?_, fun i q hi hq => ?_⟩
      · have hx : ∃ q : Nat × va_E, ∃ p : Nat, ρ[p]? = some i ∧ wss'[p]? = some q := ⟨q, p, hp, hq⟩
        rw [List.getElem?_map, List.getElem?_range (hρN p i hp)]
        show some (@dite _ _ (Classical.propDecidable _) _ _) = some q
        rw [dif_pos hx]
        obtain ⟨p', z1, z2⟩ := Classical.choose_spec hx
        have e := hρi p' p i z1 hp
        subst e
        rw [z2] at hq
        exact hq
      · have hx : ¬ ∃ q : Nat × va_E, ∃ p : Nat, ρ[p]? = some i ∧ wss'[p]? = some q := fun ⟨_, p, hp, _⟩ => hi (List.mem_of_getElem? hp)
        have hil := (List.getElem?_eq_some_iff.mp hq).1
        rw [List.getElem?_map, List.getElem?_range (by omega)]
        show some (@dite _ _ (Classical.propDecidable _) _ _) = some q
        rw [dif_neg hx, hq]
        rfl
    have hrev : ∀ (i : Nat) (q : Nat × va_E), ws'[i]? = some q → (∃ p : Nat, ρ[p]? = some i ∧ wss'[p]? = some q) ∨ (i ∉ ρ ∧ ws[i]? = some q) := by
      intro i q hi
      by_cases hm : i ∈ ρ
      · obtain ⟨p, hp⟩ := List.getElem?_of_mem hm
        obtain ⟨q', hq'⟩ := hρl p i hp
        have := hin p i q' hp hq'
        rw [hi] at this
        cases this
        exact Or.inl ⟨p, hp, hq'⟩
      · have hil := (List.getElem?_eq_some_iff.mp hi).1
        have hiN : i < h.2.1 := by
          rcases Nat.lt_or_ge i h.2.1 with z | z
          · exact z
          · exact absurd (List.mem_of_getElem? ((hρ0 (φ.length + (i - h.2.1)) i).mpr (Or.inr ⟨by omega, by omega, by omega⟩))) hm
        have e : ws[i]? = some ws[i] := List.getElem?_eq_getElem (by omega)
        have := hout i _ hm e
        rw [hi] at this
        cases this
        exact Or.inr ⟨hm, e⟩
    have hfst : ∀ (i : Nat) (q : Nat × va_E), ws[i]? = some q → ∃ q', ws'[i]? = some q' ∧ q'.1 = q.1 := by
      intro i q hi
      by_cases hm : i ∈ ρ
      · obtain ⟨p, hp⟩ := List.getElem?_of_mem hm
        obtain ⟨q', hq'⟩ := hρl p i hp
        have hil := (List.getElem?_eq_some_iff.mp hi).1
        rcases (hρ0 p i).mp hp with ⟨z1, z2⟩ | ⟨z1, z2, z3⟩
        · obtain ⟨-, -, q2, g1, g2⟩ := hφ p i z2
          rw [hi] at g1
          cases g1
          exact ⟨q', hin p i q' hp hq', hadr p _ _ g2 hq'⟩
        · omega
      · exact ⟨q, hout i q hm hi, rfl⟩
    have hpreB : zPre (zad cA ws) (zad cA ws') := by
      refine ⟨⟨(ws'.map (fun q => q.1)).drop ws.length, ?_⟩, rfl⟩
      show ws'.map (fun q => q.1) = ws.map (fun q => q.1) ++ (ws'.map (fun q => q.1)).drop ws.length
      have key : (ws'.map (fun q => q.1)).take ws.length = ws.map (fun q => q.1) := by
        apply List.ext_getElem?
        intro i
        rw [List.getElem?_take]
        by_cases hi : i < ws.length
        · rw [if_pos hi]
          obtain ⟨q', g1, g2⟩ := hfst i _ (List.getElem?_eq_getElem hi)
          rw [List.getElem?_map, List.getElem?_map, g1, List.getElem?_eq_getElem hi]
          show some q'.1 = some _
          rw [g2]
        · rw [if_neg hi, List.getElem?_eq_none (by rw [List.length_map]; omega)]
      rw [← key]
      exact (List.take_append_drop _ _).symm
    have hρa : ∀ (p b a : Nat), ρ[p]? = some b → (zad (zcg cA wss) wss').1[p]? = some a → (zad cA ws').1[b]? = some a := by
      intro p b a hp ha
      have ha : (wss'.map (fun q => q.1))[p]? = some a := ha
      show (ws'.map (fun q => q.1))[b]? = some a
      rw [List.getElem?_map] at ha ⊢
      obtain ⟨q, hq, hqa⟩ := Option.map_eq_some_iff.mp ha
      rw [hin p b q hp hq]
      exact congrArg some hqa
    have hop := @zOp_of Ch d cA h ws wss φ hH hφ
    have hB : ∀ i, i < 8 → zcg cA wss i = cA i := fun i hi => zcg_lo (by omega)
    refine ⟨⟨Ch, r', (T', (h.2.1 + k, hs1.2.2)), ws', ov, rfl, ?_, hg, ⟨hwl', m3, fun i q hi => ?_⟩, hpreB, fun i q hi => ?_, ⟨fun i j p q hi hj hpq => ?_, fun i q hi => ?_⟩⟩, hF.1, fun q hq hnq => hF.2 q hq (fun z => hnq (hsub q z))⟩
    · rcases hrr with ⟨g1, g2⟩ | ⟨g1, g2⟩
      · subst g2
        rcases hov with ⟨z, -⟩ | ⟨x, z1, z2⟩
        · refine Or.inl ⟨z, ?_⟩
          rw [g1] at hr'
          rcases hr' with ⟨n, -, e, -⟩ | ⟨w, w', -, -, e, -⟩ | ⟨n, e, -⟩ | ⟨-, e⟩
          · cases e
          · cases e
          · cases e
          · exact e
        · exact absurd (z2 G) (fun q => @zRep_U G _ _ q)
      · rcases hov with ⟨-, z⟩ | ⟨x, z1, z2⟩
        · rw [z] at g2
          exact absurd g2 (fun q => zsubV_nU q)
        · refine Or.inr ⟨x, z1, fun G' => ?_⟩
          have hx : @zRep G' (zad (zcg cA wss) wss') r1 x := by
            rcases @zsubV_ok G' false _ _ _ _ g2 (z2 G') with ⟨q, -⟩ | q
            · cases q
            · exact q
          rcases hr' with ⟨n, -, e, e'⟩ | ⟨w, w', w1, w2, e, e', hb⟩ | ⟨n, e, e'⟩ | ⟨e, -⟩
          · rw [e] at hx
            rw [e']
            exact hx
          · rw [e] at hx
            rw [e']
            obtain ⟨ox, ho, hrf⟩ := hx
            refine ⟨ox, ho, ?_⟩
            rcases @zWB_RT d cA (zcg cA wss) ws ws' wss' φ ρ h.1 Ch w w' ox hop hpreB hρ hρa hb (Or.inl ⟨w1, hrf⟩) with ⟨-, q⟩ | ⟨q, -⟩
            · exact q
            · omega
          · rw [e] at hx
            rw [e']
            exact hx
          · rw [e, zisU_f] at g1
            cases g1
    · rcases hrev i q hi with ⟨p, hp, hq⟩ | ⟨hm, hq⟩
      · have hn := hT2 p i hp
        rw [Nat.zero_add] at hn
        exact zRN_okT hB (zcg_lo (by decide)) hop hpreB hρ hρa (hH1.2.2 p q hq) hn
      · have hil := (List.getElem?_eq_some_iff.mp hq).1
        show @zCell Ch cA (zad cA ws') (zget d T' i) q.2
        rw [hT1 i (by omega) hm]
        exact @zCell_mono Ch cA _ _ hpreB _ _ (hH.2.2 i q hq)
    · rcases hrev i q hi with ⟨p, hp, hq⟩ | ⟨hm, hq⟩
      · exact hP' p q hq
      · have hlt := (hP i q hq).lt
        refine (hP i q hq).kept (hF.2 q.1 hlt ?_)
        rintro (⟨k', e, hk'⟩ | z)
        · obtain ⟨b, hb, hq2⟩ := hφr k' _ hk'
          have e := hD.1 b i _ q hq2 hq rfl
          subst e
          exact hm (List.mem_of_getElem? ((hρ0 k' b).mpr (Or.inl ⟨(List.getElem?_eq_some_iff.mp hb).1, hb⟩)))
        · omega
    · have mixed : ∀ (i j : Nat) (p q : Nat × va_E) (u : Nat), ρ[u]? = some i → wss'[u]? = some p → j ∉ ρ → ws[j]? = some q → p.1 = q.1 → False := by
        intro i j p q u hu hp hjm hq hpq
        have hlt := (hP j q hq).lt
        rcases hD'.2 u p hp with ⟨k', e, hk'⟩ | z
        · obtain ⟨b, hb, hq2⟩ := hφr k' _ hk'
          have e2 := hD.1 b j _ q hq2 hq hpq
          subst e2
          exact hjm (List.mem_of_getElem? ((hρ0 k' b).mpr (Or.inl ⟨(List.getElem?_eq_some_iff.mp hb).1, hb⟩)))
        · omega
      rcases hrev i p hi with ⟨u, hu, hp⟩ | ⟨hm, hp⟩ <;> rcases hrev j q hj with ⟨v, hv, hq⟩ | ⟨hm2, hq⟩
      · have e := hD'.1 u v p q hp hq hpq
        subst e
        rw [hu] at hv
        cases hv
        rfl
      · exact absurd (mixed i j p q u hu hp hm2 hq hpq) id
      · exact absurd (mixed j i q p v hv hq hm hp hpq.symm) id
      · exact hD.1 i j p q hp hq hpq
    · rcases hrev i q hi with ⟨p, hp, hq⟩ | ⟨hm, hq⟩
      · exact hsub _ (hD'.2 p q hq)
      · exact Or.inl ⟨i, q.2, hq⟩
