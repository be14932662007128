/-! a call on a part of a block; the rest of it stays -/
noncomputable def zuw (φ : List Nat) (k i : Nat) (isR : Bool) (x x0 j : Nat) : Bool := cond (Nat.beq (zwd 40 x0 j) (zoc i j)) (Nat.ble j 63) (cond (Nat.beq (zwd 40 x j) (zoc k j)) (cond (Nat.ble j 63) (Nat.ble (zwd 40 x0 j) 274877906943) false) (cond isR (Nat.rec (motive := fun _ => Bool) (Nat.beq (zwd 40 x0 j) 0) (fun p _ => ztab φ p (fun b => cond (Nat.beq (zwd 40 x0 j) (Nat.succ b)) (Nat.ble (zwd 40 x0 j) 549755813887) false)) (zwd 40 x j)) false))
noncomputable def zut (φ : List Nat) (k i : Nat) (c c0 : zC) : Bool := Prod.rec (motive := fun _ => Bool) (fun kd v => Prod.rec (motive := fun _ => Bool) (fun len x => Prod.rec (motive := fun _ => Bool) (fun kd0 v0 => Prod.rec (motive := fun _ => Bool) (fun len0 x0 => cond (Nat.beq kd kd0) (cond (Nat.beq len len0) (cond (Nat.ble kd 2) (Nat.beq x x0) (cond (Nat.ble 16 kd) (zall (zN (Nat.sub kd 16)) (fun j => zuw φ k i (zisR (zfty (Nat.sub kd 16) j)) x x0 j)) false)) false) false) v0) c0) v) c
noncomputable def zutL {d ds : Nat} (φ : List Nat) (T : zT d) (hs : zH ds) (l : List Nat) (t : Nat) : Bool := List.rec (motive := fun _ => Nat → Bool) (fun _ => true) (fun b _ r t => cond (zut φ t b (zget ds hs.1 t) (zget d T b)) (r (Nat.succ t)) false) l t
theorem zutL_t {d ds : Nat} {φ : List Nat} {T : zT d} {hs : zH ds} : ∀ (l : List Nat) (t : Nat), zutL φ T hs l t = true → ∀ (u b : Nat), l[u]? = some b → zut φ (t + u) b (zget ds hs.1 (t + u)) (zget d T b) = true
  | [], _, _, u, b, hu => by simp at hu
  | b0 :: l, t, h, 0, b, hu => by
    have h : cond (zut φ t b0 (zget ds hs.1 t) (zget d T b0)) (zutL φ T hs l (Nat.succ t)) false = true := h
    have e : b0 = b := by simpa using hu
    subst e
    exact (zcnd_t h).1
  | b0 :: l, t, h, u + 1, b, hu => by
    have h : cond (zut φ t b0 (zget ds hs.1 t) (zget d T b0)) (zutL φ T hs l (Nat.succ t)) false = true := h
    have := zutL_t l (t + 1) (zcnd_t h).2 u b (by simpa using hu)
    rw [show t + 1 + u = t + (u + 1) by omega] at this
    exact this
noncomputable def zslf {d : Nat} (hh : zH d) (φ : List Nat) : Bool := zall hh.2.1 (fun i => cond (zmmb i φ) true (zjC (fun w => cond (Nat.ble (zoc i 0) w) (Nat.ble w (zoc i 63)) false) 0 [] (zget d hh.1 i) (zget d hh.1 i)))
theorem zmmb_mem {b : Nat} : ∀ {l : List Nat}, zmmb b l = true → ∃ k : Nat, l[k]? = some b
  | [], h => by cases h
  | c :: l, h => by
    have h : cond (Nat.beq b c) true (zmmb b l) = true := h
    cases hb : Nat.beq b c
    · rw [hb, cond_false] at h
      obtain ⟨k, hk⟩ := zmmb_mem h
      exact ⟨k + 1, by simpa using hk⟩
    · exact ⟨0, by rw [Nat.eq_of_beq_eq_true hb]; rfl⟩
/-- a world with some of its cells anew -/
noncomputable def zpu (φ : List Nat) (ws' w : va_W) : va_W := w.mapIdx (fun i q => @dite _ (∃ k : Nat, φ[k]? = some i) (Classical.propDecidable _) (fun h => (ws'[Classical.choose h]?).getD q) (fun _ => q))
theorem zpu_len {φ : List Nat} {ws' w : va_W} : (zpu φ ws' w).length = w.length := List.length_mapIdx
theorem zpu_in {φ : List Nat} {ws' w : va_W} {k i : Nat} {x : Nat × va_E} (hn : ∀ p p' b : Nat, φ[p]? = some b → φ[p']? = some b → p = p') (hk : φ[k]? = some i) (hx : ws'[k]? = some x) (hi : i < w.length) : (zpu φ ws' w)[i]? = some x := by
  have hex : ∃ k : Nat, φ[k]? = some i := ⟨k, hk⟩
  have hc : Classical.choose hex = k := hn _ _ _ (Classical.choose_spec hex) hk
  unfold zpu
  rw [List.getElem?_mapIdx, List.getElem?_eq_getElem hi, Option.map_some, dif_pos hex, hc, hx]
  rfl
theorem zpu_out {φ : List Nat} {ws' w : va_W} {i : Nat} (hn : ¬ ∃ k : Nat, φ[k]? = some i) : (zpu φ ws' w)[i]? = w[i]? := by
  unfold zpu
  rw [List.getElem?_mapIdx]
  cases w[i]? with
  | none => rfl
  | some q => rw [Option.map_some, dif_neg hn]
section SUBQ
variable {φ : List Nat} {adB adS adN : zA} {k i j x x0 : Nat}
theorem zuw_R {r r0 : Option Nat} (hS : j ≤ 63 → adS.2 (zoc k j) = zcv (va_rf r0)) (hN : j ≤ 63 → adN.2 (zoc i j) = zcv (va_rf r)) (hBN : adN.1 = adB.1) (hφ : ∀ p b a : Nat, φ[p]? = some b → adS.1[p]? = some a → adN.1[b]? = some a) (hφl : ∀ p b : Nat, φ[p]? = some b → p < 1000000) (h : zuw φ k i true x x0 j = true) (hn : zRw adS (zwd 40 x j) r) (ho : zRw adB (zwd 40 x0 j) r0) : zRw adN (zwd 40 x0 j) r := by
  unfold zuw at h
  cases h1 : Nat.beq (zwd 40 x0 j) (zoc i j)
  · rw [h1, cond_false] at h
    cases h2 : Nat.beq (zwd 40 x j) (zoc k j)
    · rw [h2, cond_false, cond_true] at h
      generalize zwd 40 x j = wx at h hn
      cases wx with
      | zero =>
        have e : zwd 40 x0 j = 0 := Nat.eq_of_beq_eq_true h
        rw [e]
        rcases hn with ⟨-, ⟨-, z⟩ | ⟨q, a, z, -⟩⟩ | ⟨z, -⟩
        · exact Or.inl ⟨by decide, Or.inl ⟨rfl, z⟩⟩
        · cases z
        · exact absurd z (by decide)
      | succ p =>
        have h : ztab φ p (fun b => cond (Nat.beq (zwd 40 x0 j) (Nat.succ b)) (Nat.ble (zwd 40 x0 j) 549755813887) false) = true := h
        obtain ⟨b, hb, h⟩ := ztab_t φ p h
        obtain ⟨g1, g2⟩ := zcnd_t h
        have e := Nat.eq_of_beq_eq_true g1
        have g2 := Nat.le_of_ble_eq_true g2
        have hpl := hφl p b hb
        rcases hn with ⟨-, ⟨z, -⟩ | ⟨q, a, z1, z2, z3⟩⟩ | ⟨z, -⟩
        · cases z
        · have eq : p = q := by omega
          subst eq
          exact Or.inl ⟨by omega, Or.inr ⟨b, a, e, hφ p b a hb z2, z3⟩⟩
        · omega
    · rw [h2, cond_true] at h
      obtain ⟨g1, g2⟩ := zcnd_t h
      have g1 := Nat.le_of_ble_eq_true g1
      have g2 := Nat.le_of_ble_eq_true g2
      have ex := Nat.eq_of_beq_eq_true h2
      rw [ex] at hn
      have er : r = r0 := by
        rcases hn with ⟨z, -⟩ | ⟨-, z⟩
        · rw [zoc_n] at z
          omega
        · rw [z]
          exact zop_cv (zoc_20 k j) (hS g1)
      rw [er]
      rcases ho with ⟨z1, z2⟩ | ⟨z, -⟩
      · refine Or.inl ⟨z1, ?_⟩
        unfold zRf at z2 ⊢
        rw [hBN]
        exact z2
      · omega
  · rw [h1, cond_true] at h
    have hj := Nat.le_of_ble_eq_true h
    rw [Nat.eq_of_beq_eq_true h1]
    exact Or.inr ⟨by rw [zoc_n]; omega, (zop_cv (zoc_20 i j) (hN hj)).symm⟩
theorem zuw_I {C0 C1 C2 : zCh} {v v0 : Value} (hS : j ≤ 63 → adS.2 (zoc k j) = zcv v0) (hN : j ≤ 63 → adN.2 (zoc i j) = zcv v) (h : zuw φ k i false x x0 j = true) (hn : @zRepC C1 adS (zI (zwd 40 x j)) v) (ho : @zRepC C0 adB (zI (zwd 40 x0 j)) v0) : @zRepC C2 adN (zI (zwd 40 x0 j)) v := by
  unfold zuw at h
  obtain ⟨iv, rfl, n1, n2, n3⟩ := hn
  cases h1 : Nat.beq (zwd 40 x0 j) (zoc i j)
  · rw [h1, cond_false] at h
    cases h2 : Nat.beq (zwd 40 x j) (zoc k j)
    · rw [h2, cond_false, cond_false] at h
      cases h
    · rw [h2, cond_true] at h
      obtain ⟨g1, g2⟩ := zcnd_t h
      have g1 := Nat.le_of_ble_eq_true g1
      have g2 := Nat.le_of_ble_eq_true g2
      have ex := Nat.eq_of_beq_eq_true h2
      obtain ⟨i0, rfl, o1, o2, o3⟩ := ho
      rw [ex] at n2
      have e : zi iv = zi i0 := (n2 (by rw [zoc_n]; omega)).trans (hS g1)
      have e := zi_inj e
      subst e
      exact ⟨iv, rfl, ⟨o1.1, fun z => absurd z (by omega)⟩, fun z => absurd z (by omega), fun z => absurd z (by omega)⟩
  · rw [h1, cond_true] at h
    have hj := Nat.le_of_ble_eq_true h
    rw [Nat.eq_of_beq_eq_true h1]
    exact ⟨iv, rfl, ⟨⟨fun z => absurd z (by rw [zoc_n]; omega), fun _ z => absurd z (by rw [zoc_n]; omega)⟩, fun z => absurd z (by rw [zoc_n]; omega)⟩, fun _ => (hN hj).symm, fun _ z => absurd z (by rw [zoc_n]; omega)⟩
theorem zut_ok {C0 C1 C2 : zCh} {cB cS cN : Nat → ClassId} {c c0 : zC} {eo en : va_E} (hty : ∀ q, q < 3 → cN q = cS q) (hS : ∀ j, j ≤ 63 → adS.2 (zoc k j) = zgv eo j) (hN : ∀ j, j ≤ 63 → adN.2 (zoc i j) = zgv en j) (hBN : adN.1 = adB.1) (hφ : ∀ p b a : Nat, φ[p]? = some b → adS.1[p]? = some a → adN.1[b]? = some a) (hφl : ∀ p b : Nat, φ[p]? = some b → p < 1000000) (h : zut φ k i c c0 = true) (hn : @zCell C1 cS adS c en) (ho : @zCell C0 cB adB c0 eo) : @zCell C2 cN adN c0 en := by
  obtain ⟨kd, len, x⟩ := c
  obtain ⟨kd0, len0, x0⟩ := c0
  have h : cond (Nat.beq kd kd0) (cond (Nat.beq len len0) (cond (Nat.ble kd 2) (Nat.beq x x0) (cond (Nat.ble 16 kd) (zall (zN (Nat.sub kd 16)) (fun j => zuw φ k i (zisR (zfty (Nat.sub kd 16) j)) x x0 j)) false)) false) false = true := h
  obtain ⟨h1, hA⟩ := zcnd_t h
  obtain ⟨h2, hB⟩ := zcnd_t hA
  have e1 := Nat.eq_of_beq_eq_true h1
  have e2 := Nat.eq_of_beq_eq_true h2
  clear h hA h1 h2
  subst e1
  subst e2
  cases k2 : Nat.ble kd 2
  · rw [k2, cond_false] at hB
    obtain ⟨k16, hB⟩ := zcnd_t hB
    have q16 := Nat.le_of_ble_eq_true k16
    obtain ⟨fs, rfl, hl, hf⟩ := @zCell_obj C1 cS adS kd len x (kd - 16) _ hn (by omega)
    obtain ⟨fs0, rfl, hl0, hf0⟩ := @zCell_obj C0 cB adB kd len x0 (kd - 16) _ ho (by omega)
    have key := @zCell_ok C2 cN adN (kd - 16) len x0 fs hl (fun j v hv => by
      have hj : j < zN (kd - 16) := by rw [← hl]; exact (List.getElem?_eq_some_iff.mp hv).1
      obtain ⟨v0, ej⟩ : ∃ v0, fs0[j]? = some v0 := ⟨_, List.getElem?_eq_getElem (by omega)⟩
      have hwj : zuw φ k i (zisR (zfty (kd - 16) j)) x x0 j = true := zall_t hB j hj
      have hn1 := hf j v hv
      have ho1 := hf0 j v0 ej
      have hSj : j ≤ 63 → adS.2 (zoc k j) = zcv v0 := fun hj => by
        rw [hS j hj]
        show (match fs0[j]? with
          | some v => zcv v
          | none => 0) = _
        rw [ej]
      have hNj : j ≤ 63 → adN.2 (zoc i j) = zcv v := fun hj => by
        rw [hN j hj]
        show (match fs[j]? with
          | some v => zcv v
          | none => 0) = _
        rw [hv]
      unfold zFl at hn1 ho1 ⊢
      cases hz : zisR (zfty (kd - 16) j)
      · rw [hz] at hwj
        rw [hz, cond_false] at hn1 ho1
        rw [cond_false]
        exact zuw_I hSj hNj hwj hn1 ho1
      · rw [hz] at hwj
        rw [hz, cond_true] at hn1 ho1
        rw [cond_true]
        obtain ⟨r, rfl, hr⟩ := hn1
        obtain ⟨r0, rfl, hr0⟩ := ho1
        exact ⟨r, rfl, zuw_R hSj hNj hBN hφ hφl hwj hr hr0⟩)
    rw [show 16 + (kd - 16) = kd by omega] at key
    exact key
  · rw [k2, cond_true] at hB
    rw [← Nat.eq_of_beq_eq_true hB]
    exact zCell_lo (Nat.le_of_ble_eq_true k2) hn hty
end SUBQ
section PUT
variable {cA : Nat → ClassId} {D : va_G} {A : Nat → Prop} {H H1 : Heap} {own : Nat → Nat} {z d ds : Nat} {hh : zH d} {hb hs0 : zH ds} {w ws' : va_W} {φ : List Nat}
theorem q_put {Ch' : zCh} (B : qB cA D A H own z hh w) (hsp : zsubB φ hh hs0 = true) (hself : zslf hh φ = true) (hHo : @zHp Ch' ds (zcg cA (zsubw φ w)) hb ws') (ha : (zad (zcg cA (zsubw φ w)) ws').1 = (zad (zcg cA (zsubw φ w)) (zsubw φ w)).1) (hup : zutL φ hh.1 hb φ 0 = true) (hP' : va_P D zcl ws' H1) (hfr : ∀ q, q < H.size → ¬ va_A (zsubw φ w) H.size q → H1[q]? = H[q]?) : qB cA D A H1 own z hh (zpu φ ws' w) ∧ (∀ k i : Nat, φ[k]? = some i → (zpu φ ws' w)[i]? = ws'[k]?) ∧ ∀ (i : Nat) (x : Nat × va_E), w[i]? = some x → ∃ e, (zpu φ ws' w)[i]? = some (x.1, e) := by
  obtain ⟨⟨C0, hH⟩, hP, hD, hO⟩ := B
  have hS2 := (zHp_sub hsp hH).2
  obtain ⟨c0, hk1⟩ := zcnd_t hsp
  obtain ⟨c1, hk2⟩ := zcnd_t hk1
  obtain ⟨c2, hk3⟩ := zcnd_t hk2
  obtain ⟨-, c4⟩ := zcnd_t hk3
  have c1 := Nat.eq_of_beq_eq_true c1
  rw [zlen_eq] at c1
  have c4 : hh.2.1 + hs0.2.1 ≤ 1000000 := Nat.le_of_ble_eq_true c4
  obtain ⟨n1, n2⟩ := znd_t c2
  have hwl : w.length = hh.2.1 := hH.1
  have hnw : ∀ k i : Nat, φ[k]? = some i → ∃ (a : Nat) (eo en : va_E), w[i]? = some (a, eo) ∧ (zsubw φ w)[k]? = some (a, eo) ∧ ws'[k]? = some (a, en) ∧ (zpu φ ws' w)[i]? = some (a, en) := by
    intro k i hk
    have hi := n1 k i hk
    obtain ⟨⟨a, eo⟩, g1⟩ : ∃ q, w[i]? = some q := ⟨_, List.getElem?_eq_getElem (by omega)⟩
    have g2 := zsubw_at hk g1
    have h1 := zad_ix (cA := zcg cA (zsubw φ w)) g2
    rw [← ha] at h1
    obtain ⟨en, g3⟩ := zad_at h1
    exact ⟨a, eo, en, g1, g2, g3, zpu_in n2 hk g3 (by omega)⟩
  have hback : ∀ (i : Nat) (x : Nat × va_E), (zpu φ ws' w)[i]? = some x → ∃ e, w[i]? = some (x.1, e) := fun i x hx => by
    rcases Classical.em (∃ k : Nat, φ[k]? = some i) with ⟨k, hk⟩ | hn
    · obtain ⟨a, eo, en, g1, g2, g3, g4⟩ := hnw k i hk
      rw [g4] at hx
      cases hx
      exact ⟨eo, g1⟩
    · rw [zpu_out hn] at hx
      exact ⟨x.2, hx⟩
  have hforth : ∀ (i : Nat) (x : Nat × va_E), w[i]? = some x → ∃ e, (zpu φ ws' w)[i]? = some (x.1, e) := fun i x hx => by
    rcases Classical.em (∃ k : Nat, φ[k]? = some i) with ⟨k, hk⟩ | hn
    · obtain ⟨a, eo, en, g1, g2, g3, g4⟩ := hnw k i hk
      rw [g1] at hx
      cases hx
      exact ⟨en, g4⟩
    · exact ⟨x.2, by rw [zpu_out hn]; exact hx⟩
  have hadr : (zad (zcg cA (zpu φ ws' w)) (zpu φ ws' w)).1 = (zad (zcg cA w) w).1 := by
    refine List.ext_getElem? (fun i => ?_)
    show ((zpu φ ws' w).map (fun q => q.1))[i]? = (w.map (fun q => q.1))[i]?
    rw [List.getElem?_map, List.getElem?_map]
    rcases Classical.em (∃ k : Nat, φ[k]? = some i) with ⟨k, hk⟩ | hn
    · obtain ⟨a, eo, en, g1, g2, g3, g4⟩ := hnw k i hk
      rw [g1, g4, Option.map_some, Option.map_some]
    · rw [zpu_out hn]
  refine ⟨⟨⟨C0, by rw [zpu_len]; exact hwl, hH.2.1, fun i q hi => ?_⟩, fun i q hi => ?_, ⟨fun i j p q hi hj e => ?_, fun i q hi => ?_⟩, fun i x hx => ?_⟩, fun k i hk => ?_, hforth⟩
  · rcases Classical.em (∃ k : Nat, φ[k]? = some i) with ⟨k, hk⟩ | hn
    · obtain ⟨a, eo, en, g1, g2, g3, g4⟩ := hnw k i hk
      have hm := zutL_t φ 0 hup k i hk
      rw [Nat.zero_add] at hm
      have ei := hi
      rw [g4] at ei
      cases ei
      refine zut_ok (adB := zad (zcg cA w) w) (adS := zad (zcg cA (zsubw φ w)) ws') (fun q hq => (zcg_lo (by omega)).trans (zcg_lo (by omega)).symm) (fun j hj => zcg_oc (by omega) g2) (fun j hj => zcg_oc (by omega) g4) hadr (fun p b a' hp hpa => ?_) (fun p b hp => by have := (List.getElem?_eq_some_iff.mp hp).1; omega) hm (hHo.2.2 k _ g3) (hH.2.2 i _ g1)
      obtain ⟨a2, eo2, en2, u1, u2, u3, u4⟩ := hnw p b hp
      have v1 := zad_ix (cA := zcg cA (zsubw φ w)) u3
      rw [hpa] at v1
      cases v1
      exact zad_ix u4
    · have hi2 := hi
      rw [zpu_out hn] at hi2
      have hil := (List.getElem?_eq_some_iff.mp hi2).1
      have hs : cond (zmmb i φ) true (zjC (fun w => cond (Nat.ble (zoc i 0) w) (Nat.ble w (zoc i 63)) false) 0 [] (zget d hh.1 i) (zget d hh.1 i)) = true := zall_t hself i (by omega)
      have hnm : zmmb i φ = false := by
        cases hb : zmmb i φ
        · rfl
        · exact absurd (zmmb_mem hb) hn
      rw [hnm, cond_false] at hs
      refine zjC_ok (fun q hq => (zcg_lo (by omega)).trans (zcg_lo (by omega)).symm) (fun p a hp => ?_) (fun wd hw => ?_) (fun w v h => by cases h) ?_ hs (hH.2.2 i q hi2)
      · rw [Nat.add_zero, hadr]
        exact hp
      · obtain ⟨a1, a2⟩ := zcnd_t hw
        have a1 := Nat.le_of_ble_eq_true a1
        have a2 := Nat.le_of_ble_eq_true a2
        rw [zoc_n] at a1 a2
        unfold zcg
        rw [if_neg (by omega), if_neg (by omega), show (wd - 549755813889) / 64 = i by omega, zpu_out hn]
      · show cond (Nat.ble (zoc i 0) 549755813888) _ false = false
        rw [zble_n (by rw [zoc_n]; omega)]
        rfl
  · rcases Classical.em (∃ k : Nat, φ[k]? = some i) with ⟨k, hk⟩ | hn
    · obtain ⟨a, eo, en, g1, g2, g3, g4⟩ := hnw k i hk
      rw [g4] at hi
      cases hi
      exact hP' k _ g3
    · rw [zpu_out hn] at hi
      have hlt := (hP i q hi).lt
      refine (hP i q hi).kept (hfr q.1 hlt ?_)
      rintro (⟨k', e, hk'⟩ | z)
      · obtain ⟨b, f, g⟩ := hS2 k' _ hk'
        have eb := hD.1 i b q _ hi g rfl
        subst eb
        exact hn ⟨k', f⟩
      · omega
  · obtain ⟨e1, g1⟩ := hback i p hi
    obtain ⟨e2, g2⟩ := hback j q hj
    exact hD.1 i j _ _ g1 g2 e
  · obtain ⟨e1, g1⟩ := hback i q hi
    exact hD.2 i (q.1, e1) g1
  · obtain ⟨e1, g1⟩ := hback i x hx
    exact hO i (x.1, e1) g1
  · obtain ⟨a, eo, en, g1, g2, g3, g4⟩ := hnw k i hk
    rw [g3, g4]
end PUT
theorem q_sub [G : zGh] {X Xc : zM} {yc : MethodName} {fr frc pc n ci d ds z : Nat} {f : List zV → zH ds → zP ds → Bool} {cA : Nat → ClassId} {D : va_G} {A : Nat → Prop} {MC MS : Nat} {p : Program} {l : Launch} {e : Env} {s : State} {m : MethodId} {args : Array Value} {below : List Frame} {meth : Method} {c : Code} {Q : State → Prop} {ls : Array Slot} {H : Heap} {locs : List Loc} {cells slots : Nat} {as' : List zV} {st av' : List Value} {hh : zH d} {hs0 hin hout hb : zH ds} {w : va_W} {P : zP ds} {own : Nat → Nat} {ax : Nat} {φ : List Nat}
    (hM : zMet Xc yc frc f) (run : zRun X Xc yc fr frc pc n 0 0 (qrc ci)) (Cx : zCx X cA D p s m args meth c A)
    (B : qB cA D A H own z hh w) (hd : qhd w ax) (h0 : φ[0]? = some 0) (hsp : zsubB φ hh hs0 = true) (hself : zslf hh φ = true)
    (hop : ∀ Ch : zCh, @zHp Ch ds (zcg cA (zsubw φ w)) hs0 (zsubw φ w) → @zHp Ch ds (zcg cA (zsubw φ w)) hin (zsubw φ w)) (hr1 : hin.2.2.1 = 0) (hr2 : hin.2.2.2 = 0) (hci : Nat.beq (zget ds hin.1 0).1 (16 + ci) = true)
    (hk : f (zR 1 :: as') hin P = true) (hPo : ∀ r h, P r h = true → zsubH h hout = true) (hNo : hout.2.1 = hs0.2.1) (hob : zsubH hout hb = true) (hup : zutL φ hh.1 hb φ 0 = true)
    (hS : va_S A s.heap H locs) (hls : ls.size = X.2.2.1) (has : ∀ ad, zRepL ad as' av') (hcat : (st.map fun v => v.category).sum ≤ 8) (hn : av'.length + 1 = n) (hcb : cells ≤ MC) (hsb : slots ≤ MS)
    (kk : ∀ (w' ws' : va_W) (ad : zA) (r : zV) (h' : zH ds) (ov : Option Value) (H1 : Heap) (locs1 : List Loc), ((ov = none ∧ r = zU) ∨ ∃ x, ov = some x ∧ ∀ (_ : zGh), zRep ad r x) → P r h' = true → qB cA D A H1 own z hh w' → qhd w' ax → (∀ i : Nat, (¬ ∃ k : Nat, φ[k]? = some i) → w'[i]? = w[i]?) → (∀ k i : Nat, φ[k]? = some i → w'[i]? = ws'[k]?) → (∃ Ch : zCh, @zHp Ch ds (zcg cA (zsubw φ w)) hout ws') → (∀ (d2 z2 : Nat) (h2 : zH d2) (w2 : va_W), z2 ≠ z → qB cA D A H own z2 h2 w2 → qB cA D A H1 own z2 h2 w2) → va_S A s.heap H1 locs1 → W p l e (zRm fr MC MS) s m args below meth c H1 locs1 cells slots Q (F0 m (pc + 3) ls (ov.toList ++ st))) :
    W p l e (zRm fr MC MS) s m args below meth c H locs cells slots Q (F0 m pc ls ((.ref ax :: av').reverse ++ st)) := by
  obtain ⟨⟨Ch, hH⟩, hP, hD, hO⟩ := id B
  obtain ⟨hS1, hS2⟩ := zHp_sub hsp hH
  rw [zcg_eq (fun i hi => zcg_lo hi)] at hS1
  have hlo : ∀ i, i < 549755813889 → zcg cA (zsubw φ w) i = cA i := fun i hi => zcg_lo hi
  have hHi := hop Ch hS1
  have hF := zfree hD hS Cx.2.2.2.2.2.2.1
  obtain ⟨-, hk1⟩ := zcnd_t hsp
  obtain ⟨-, hk2⟩ := zcnd_t hk1
  obtain ⟨c2, -⟩ := zcnd_t hk2
  obtain ⟨n1, n2⟩ := znd_t c2
  have hPs : va_P D zcl (zsubw φ w) H := fun k q hq => by
    obtain ⟨b, -, g⟩ := hS2 k q hq
    exact hP b q g
  have hDs : va_D A (zsubw φ w) := ⟨fun i j p q hi hj e => by
    obtain ⟨b1, f1, g1⟩ := hS2 i p hi
    obtain ⟨b2, f2, g2⟩ := hS2 j q hj
    have eb := hD.1 b1 b2 p q g1 g2 e
    subst eb
    exact n2 i j b1 f1 f2, fun k q hq => by
    obtain ⟨b, -, g⟩ := hS2 k q hq
    exact hD.2 b q g⟩
  have hFs := zfree hDs hS Cx.2.2.2.2.2.2.1
  obtain ⟨en, hw0⟩ := hd
  have hws0 : (zsubw φ w)[0]? = some (ax, en) := zsubw_at h0 hw0
  refine pt_callF (h := hin) (ws := zsubw φ w) (P := P) (as := zR 1 :: as') (av := .ref ax :: av') hM run (zCx_to hlo Cx) hr1 hr2 hk hHi hPs hDs hS hls ⟨⟨some ax, rfl, Or.inr ⟨0, ax, rfl, zad_ix hws0, rfl⟩⟩, has _⟩ hcat (by rw [List.length_cons]; exact hn) (qrc_of hHi ⟨en, hws0⟩ hci) (by omega) (by omega) (fun Ch' r h' ws' ov H1 locs1 hov hPk hHp' hpre hP' hD' hS1' hsz hfr => ?_)
  have hHo := zsubH_ok (hPo r h' hPk) hHp'
  have hHb := zsubH_ok hob hHo
  have hl : (zsubw φ w).length = hs0.2.1 := hS1.1
  have hl' : ws'.length = hs0.2.1 := hHo.1.trans hNo
  have ha : (zad (zcg cA (zsubw φ w)) ws').1 = (zad (zcg cA (zsubw φ w)) (zsubw φ w)).1 := zPre_len hpre (by show (ws'.map _).length = ((zsubw φ w).map _).length; rw [List.length_map, List.length_map, hl, hl'])
  obtain ⟨q1, q2, q3⟩ := q_put B hsp hself hHb ha hup hP' hfr
  exact kk _ ws' (zad (zcg cA (zsubw φ w)) ws') r h' ov H1 locs1 hov hPk q1 (q3 0 _ hw0) (fun i hn => zpu_out hn) q2 ⟨Ch', hHo⟩ (fun d2 z2 h2 w2 hz B2 => qB_kept hfr (fun i x hx => by
    obtain ⟨b, -, g⟩ := hS2 i x hx
    rw [hO b x g]
    exact fun q => hz q.symm) (fun _ _ => rfl) B2) hS1'
