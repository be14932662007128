/-! seen and the count of tabloids are marked -/
section MARKT
variable {d : Nat}
noncomputable def znt (c : zC) : Bool := Prod.rec (motive := fun _ => Bool) (fun k v => Prod.rec (motive := fun _ => Bool) (fun _ x => cond (Nat.ble 16 k) (zall (zN (Nat.sub k 16)) (fun j => cond (Nat.beq (zwd 40 x j) 549755813888) false true)) (cond (Nat.beq k 11) false true)) v) c
theorem znt_t {c : zC} (h : znt c = true) : (16 ≤ c.1 → ∀ k, k < zN (c.1 - 16) → zwd 40 c.2.2 k ≠ 549755813888) ∧ c.1 ≠ 11 := by
  obtain ⟨k, len, x⟩ := c
  have h : cond (Nat.ble 16 k) (zall (zN (Nat.sub k 16)) (fun j => cond (Nat.beq (zwd 40 x j) 549755813888) false true)) (cond (Nat.beq k 11) false true) = true := h
  cases q : Nat.ble 16 k
  · rw [q, cond_false] at h
    have q := zble_f q
    refine ⟨fun z => absurd (show 16 ≤ k from z) (by omega), fun z => ?_⟩
    have z : k = 11 := z
    rw [z] at h
    cases h
  · rw [q, cond_true] at h
    have q := Nat.le_of_ble_eq_true q
    refine ⟨fun _ j hj e => ?_, fun z => absurd (show k = 11 from z) (by omega)⟩
    have hh := zall_t h j hj
    have e : zwd 40 x j = 549755813888 := e
    have hh : cond (Nat.beq (zwd 40 x j) 549755813888) false true = true := hh
    rw [e] at hh
    cases hh
noncomputable def mkT (i j : Nat) (fs : List Nat) (lam : Nat) : zWk d := fun L h K => zpp i fs L h (fun b => zpp i [] L h (fun o => cond (Nat.ble (Nat.succ b) h.2.1) (cond (Nat.ble (Nat.succ o) h.2.1) (cond (zall h.2.1 (fun q => znt (zget d h.1 q))) (Prod.rec (motive := fun _ => Bool) (fun kd0 v => Prod.rec (motive := fun _ => Bool) (fun len x => Prod.rec (motive := fun _ => Bool) (fun ko w => Prod.rec (motive := fun _ => Bool) (fun lo xo => cond (Nat.beq kd0 0) (cond (Nat.beq x (zun 40 len 4295013952)) (cond (Nat.ble 16 ko) (cond (Nat.ble (Nat.succ j) (zN (Nat.sub ko 16))) (cond (zisR (zfty (Nat.sub ko 16) j)) false (cond (Nat.beq (zwd 40 xo j) 0) (zF (fun y => zsetK d h.1 b (11, len, lam) (fun T => zsetK d T o (ko, lo, y) (fun T => K L (T, h.2)))) (zup 40 xo j 549755813888)) false)) false) false) false) false) w) (zget d h.1 o)) v) (zget d h.1 b)) false) false) false))
theorem mkT_ok {i j : Nat} {fs : List Nat} {lam : Nat} : zMkOK (mkT i j fs lam : zWk d) := fun L h K hk => by
  obtain ⟨b, hk⟩ := zpp_t hk
  obtain ⟨o, hk⟩ := zpp_t hk
  generalize hg : zget d h.1 b = e0 at hk
  generalize hgo : zget d h.1 o = e1 at hk
  obtain ⟨kd0, len, x⟩ := e0
  obtain ⟨ko, lo, xo⟩ := e1
  obtain ⟨h1, hk⟩ := zcnd_t hk
  obtain ⟨h2, hk⟩ := zcnd_t hk
  obtain ⟨h3, hk⟩ := zcnd_t hk
  have hk : cond (Nat.beq kd0 0) (cond (Nat.beq x (zun 40 len 4295013952)) (cond (Nat.ble 16 ko) (cond (Nat.ble (Nat.succ j) (zN (Nat.sub ko 16))) (cond (zisR (zfty (Nat.sub ko 16) j)) false (cond (Nat.beq (zwd 40 xo j) 0) (zF (fun y => zsetK d h.1 b (11, len, lam) (fun T => zsetK d T o (ko, lo, y) (fun T => K L (T, h.2)))) (zup 40 xo j 549755813888)) false)) false) false) false) false = true := hk
  obtain ⟨h4, hk⟩ := zcnd_t hk
  obtain ⟨h5, hk⟩ := zcnd_t hk
  obtain ⟨h6, hk⟩ := zcnd_t hk
  obtain ⟨h7, hk⟩ := zcnd_t hk
  cases h8 : zisR (zfty (Nat.sub ko 16) j)
  case true => rw [h8] at hk; cases hk
  rw [h8, cond_false] at hk
  obtain ⟨h9, hk9⟩ := zcnd_t hk
  rw [zF_eq, zsetK_eq, zsetK_eq] at hk9
  have hb : b < h.2.1 := Nat.le_of_ble_eq_true h1
  have ho : o < h.2.1 := Nat.le_of_ble_eq_true h2
  have e4 : kd0 = 0 := Nat.eq_of_beq_eq_true h4
  have e5 := Nat.eq_of_beq_eq_true h5
  have e6 := Nat.le_of_ble_eq_true h6
  have e7 : j < zN (ko - 16) := Nat.le_of_ble_eq_true h7
  have e9 := Nat.eq_of_beq_eq_true h9
  have hbo : b ≠ o := fun q => by
    rw [q, hgo] at hg
    have : ko = kd0 := congrArg (fun c : zC => c.1) hg
    omega
  clear hk
  subst e4
  refine ⟨_, hk9, rfl, fun C cA ws hH => ?_⟩
  obtain ⟨g1, g2, g3⟩ := hH
  have hbw : b < ws.length := by omega
  have hcb := g3 b _ (List.getElem?_eq_getElem hbw)
  rw [hg] at hcb
  obtain ⟨hl, f, hf1, hf2⟩ := @zCell_i C cA _ 0 len x _ hcb (by decide)
  let C' : zCh := ⟨((fun q => if q = 11 then f else @zcF C q, 0) : (Nat → Nat → Int32) × Nat)⟩
  have hF : ∀ q, q < 11 → @zcF C' q = @zcF C q := fun q hq => if_neg (by omega)
  refine ⟨C', g1, g2, fun p q hp => ?_⟩
  have hpw : p < ws.length := (List.getElem?_eq_some_iff.mp hp).1
  show @zCell C' cA _ (zget d (zset d (zset d h.1 b (11, len, lam)) o (ko, lo, zup 40 xo j 549755813888)) p) _
  have hz := znt_t (zall_t h3 p (by omega))
  by_cases ep : p = o
  · subst ep
    rw [zget_set_same d _ _ _ (by omega)]
    have hc := g3 p q hp
    rw [hgo] at hc hz
    obtain ⟨fs', f1, f2, f3⟩ := @zCell_obj C cA _ ko lo xo (ko - 16) _ hc (by omega)
    rw [f1]
    refine Or.inr (Or.inr (Or.inr (Or.inr ⟨e6, fs', rfl, f2, fun k v hv => ?_⟩)))
    have hk' : k < zN (ko - 16) := by rw [← f2]; exact (List.getElem?_eq_some_iff.mp hv).1
    show @zFl C' _ (ko - 16) k (zwd 40 (zup 40 xo j 549755813888) k) v
    have hfk := f3 k v hv
    by_cases ek : k = j
    · subst ek
      rw [zwd_up_same _ _ _ _ (by decide)]
      unfold zFl at hfk ⊢
      have h8' : zisR (zfty (ko - 16) k) = false := h8
      rw [h8', cond_false] at hfk ⊢
      obtain ⟨iv, v1, v2, -⟩ := hfk
      rw [e9] at v2
      exact ⟨iv, v1, ⟨⟨fun z => absurd z (by decide), fun _ z => absurd z (by decide)⟩, fun _ => ⟨v2.1.1 (by decide), Nat.zero_le _⟩⟩, fun z => absurd z (by decide), fun _ z => absurd z (by decide)⟩
    · rw [zwd_up_ne _ _ _ _ _ (by decide) (fun z => ek z.symm)]
      exact zFl_gh2 (hz.1 e6 k hk') hfk
  · rw [zget_set_ne d _ _ _ _ (by omega) (by omega) (fun z => ep z.symm)]
    by_cases eb : p = b
    · subst eb
      rw [zget_set_same d _ _ _ (by omega)]
      rw [List.getElem?_eq_getElem hbw] at hp
      cases hp
      rw [hf1]
      refine Or.inr (Or.inr (Or.inl ⟨show 8 ≤ 11 by decide, show 11 < 16 by decide, hl, Or.inl ⟨show 11 < 12 by decide, f, rfl, rfl, ?_⟩⟩))
      refine (show zKi (@zcF C') (@zcT C') 11 len lam from ⟨fun z => absurd z (by decide), fun z => absurd z (by decide), fun z => absurd z (by decide), fun _ => ⟨fun y hy => ?_, fun y hy => absurd hy (Nat.not_lt_zero y)⟩⟩)
      have hw := hf2 y hy
      rw [e5, zun_wd 40 len 4295013952 y (by decide) (by decide) hy] at hw
      have := hw.2 (by decide) (by decide)
      show zi (f y) < 46656
      omega
    · rw [zget_set_ne d _ _ _ _ (by omega) (by omega) (fun z => eb z.symm)]
      exact zCell_gh2 hz.1 hF hz.2 (g3 p q hp)
end MARKT
