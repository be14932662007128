/-! what an entry of a world holds, as a number; one word told otherwise; a world as it stands taken as a block -/
def zgw (w : va_W) (t j : Nat) : Nat := match w[t]? with
  | some q => zgv q.2 j
  | none => 0
theorem zgw_e {w : va_W} {t j : Nat} {q : Nat × va_E} (h : w[t]? = some q) : zgw w t j = zgv q.2 j := by
  unfold zgw
  rw [h]
theorem zcg_gw {cA : Nat → ClassId} {w : va_W} {t j : Nat} (hj : j < 64) : zcg cA w (zoc t j) = zgw w t j := by
  unfold zcg zgw
  rw [zoc_n, if_neg (by omega), show (549755813889 + (64 * t + j) - 549755813889) / 64 = t by omega, show (549755813889 + (64 * t + j) - 549755813889) % 64 = j by omega]
  cases w[t]? <;> rfl
theorem zcg_eq {cA cB : Nat → ClassId} (h : ∀ i, i < 549755813889 → cB i = cA i) (w : va_W) : zcg cB w = zcg cA w := by
  funext x
  unfold zcg
  by_cases q : x < 549755813889
  · rw [if_pos q, if_pos q, h x q]
  · rw [if_neg q, if_neg q]
theorem zCx_to {G : zGh} {X : zM} {cA cB : Nat → ClassId} {D : va_G} {p : Program} {s : State} {m : MethodId} {args : Array Value} {meth : Method} {c : Code} {A : Nat → Prop} (h : ∀ i, i < 549755813889 → cB i = cA i) (Cx : @zCx G X cA D p s m args meth c A) : @zCx G X cB D p s m args meth c A := by
  have hz : zty cB = zty cA := by
    unfold zty
    rw [h 0 (by decide), h 1 (by decide), h 2 (by decide), h 3 (by decide), h 4 (by decide), h 5 (by decide), h 6 (by decide), h 7 (by decide)]
  exact ⟨Cx.1, Cx.2.1, Cx.2.2.1, Cx.2.2.2.1, Cx.2.2.2.2.1, by rw [hz]; exact Cx.2.2.2.2.2.1, Cx.2.2.2.2.2.2.1, Cx.2.2.2.2.2.2.2.1, ⟨Cx.2.2.2.2.2.2.2.2.1.1, (h 20 (by decide)).trans Cx.2.2.2.2.2.2.2.2.1.2⟩, Cx.2.2.2.2.2.2.2.2.2⟩
theorem zop_v {g : Nat → Nat} {w : Nat} (hw : 21 ≤ w) : zcv (va_rf (zop g w)) = g w := by
  unfold zop
  rw [Nat.max_eq_left hw]
  by_cases q : g w = 0
  · rw [if_pos q, q]
    rfl
  · rw [if_neg q]
    show g w - 1 + 1 = g w
    omega
/-- a reference's word: what it stands for -/
def zrvl (ad : zA) (w : Nat) : Nat := if w < 549755813888 then (match w with
  | 0 => 0
  | k + 1 => match ad.1[k]? with
    | some a => a + 1
    | none => 0) else ad.2 w
theorem zRw_v {ad : zA} {w : Nat} {o : Option Nat} (h : zRw ad w o) : zcv (va_rf o) = zrvl ad w := by
  unfold zrvl
  rcases h with ⟨h1, h2⟩ | ⟨h1, h2⟩
  · rw [if_pos h1]
    rcases h2 with ⟨e, z⟩ | ⟨k, a, e, z1, z2⟩
    · subst e
      subst z
      rfl
    · subst e
      subst z2
      show a + 1 = (match ad.1[k]? with
        | some a => a + 1
        | none => 0)
      rw [z1]
  · rw [if_neg (by omega), h2]
    exact zop_v (by omega)
section GV
variable {Ch : zCh} {d : Nat} {cA : Nat → ClassId} {h : zH d} {w : va_W} {t kd len x j : Nat}
theorem zHp_at (hH : @zHp Ch d cA h w) (ht : t < h.2.1) (hc : zget d h.1 t = (kd, len, x)) : ∃ q : Nat × va_E, w[t]? = some q ∧ @zCell Ch cA (zad cA w) (kd, len, x) q.2 := by
  have hl : w.length = h.2.1 := hH.1
  have e : w[t]? = some w[t] := List.getElem?_eq_getElem (by omega)
  refine ⟨_, e, ?_⟩
  have := hH.2.2 t _ e
  rw [hc] at this
  exact this
/-- a reference in an array -/
theorem zgw_arr (hH : @zHp Ch d cA h w) (ht : t < h.2.1) (hc : zget d h.1 t = (kd, len, x)) (h3 : 3 ≤ kd) (h8 : kd < 8) (hj : j < len) : zgw w t j = zrvl (zad cA w) (zwd 40 x j) := by
  obtain ⟨q, e, hq⟩ := zHp_at hH ht hc
  rw [zgw_e e]
  obtain ⟨qa, qe⟩ := q
  obtain ⟨-, f, rfl, hf⟩ := zCell_r hq h3 h8
  exact zRw_v (hf j hj)
/-- a reference in an object -/
theorem zgw_ref (hH : @zHp Ch d cA h w) (ht : t < h.2.1) (hc : zget d h.1 t = (kd, len, x)) (h16 : 16 ≤ kd) (hj : j < zN (kd - 16)) (hr : zisR (zfty (kd - 16) j) = true) : zgw w t j = zrvl (zad cA w) (zwd 40 x j) := by
  obtain ⟨q, e, hq⟩ := zHp_at hH ht hc
  rw [zgw_e e]
  obtain ⟨qa, qe⟩ := q
  obtain ⟨fs, rfl, hl, hf⟩ := @zCell_obj Ch cA _ kd len x (kd - 16) _ hq (by omega)
  have ej : fs[j]? = some fs[j] := List.getElem?_eq_getElem (by omega)
  have hz := hf j _ ej
  unfold zFl at hz
  rw [hr, cond_true] at hz
  obtain ⟨o, e1, e2⟩ := hz
  show (match fs[j]? with
    | some v => zcv v
    | none => 0) = _
  rw [ej, e1]
  exact zRw_v e2
/-- a number in an object -/
theorem zgw_num (hH : @zHp Ch d cA h w) (ht : t < h.2.1) (hc : zget d h.1 t = (kd, len, x)) (h16 : 16 ≤ kd) (hj : j < zN (kd - 16)) (hr : zisR (zfty (kd - 16) j) = false) : ∃ (q : Nat × va_E) (fs : List Value) (i : Int32), w[t]? = some q ∧ q.2 = .inr (kd - 16, fs) ∧ fs[j]? = some (.int i) ∧ zgw w t j = zi i ∧ zIa (zwd 40 x j) i ∧ (549755813888 < zwd 40 x j → zi i = cA (zwd 40 x j)) := by
  obtain ⟨q, e, hq⟩ := zHp_at hH ht hc
  obtain ⟨qa, qe⟩ := q
  obtain ⟨fs, he, hl, hf⟩ := @zCell_obj Ch cA _ kd len x (kd - 16) _ hq (by omega)
  have he : qe = .inr (kd - 16, fs) := he
  subst he
  have ej : fs[j]? = some fs[j] := List.getElem?_eq_getElem (by omega)
  have hz := hf j _ ej
  unfold zFl at hz
  rw [hr, cond_false] at hz
  obtain ⟨i, e1, e2, e3, -⟩ := hz
  refine ⟨_, fs, i, e, rfl, by rw [ej, e1], ?_, e2.1, e3⟩
  rw [zgw_e e]
  show (match fs[j]? with
    | some v => zcv v
    | none => 0) = _
  rw [ej, e1]
  rfl
/-- one number of an object told otherwise -/
theorem zHp_open {v : Nat} (hH : @zHp Ch d cA h w) (ht : t < h.2.1) (hc : zget d h.1 t = (kd, len, x)) (h16 : 16 ≤ kd) (hj : j < zN (kd - 16)) (hr : zisR (zfty (kd - 16) j) = false) (hv : v < 274877906944) (hi : ∀ i : Int32, zi i = zgw w t j → zIa v i) : @zHp Ch d cA (zset d h.1 t (kd, len, zup 40 x j v), h.2) w := by
  obtain ⟨q, e, hq⟩ := zHp_at hH ht hc
  refine zHp_cell hH e ?_
  have hg : zgw w t j = zgv q.2 j := zgw_e e
  obtain ⟨qa, qe⟩ := q
  obtain ⟨fs, he, hl, hf⟩ := @zCell_obj Ch cA _ kd len x (kd - 16) _ hq (by omega)
  have he : qe = .inr (kd - 16, fs) := he
  subst he
  have key := @zCell_ok Ch cA (zad cA w) (kd - 16) len (zup 40 x j v) fs hl (fun k u hu => by
    by_cases c1 : k = j
    · subst c1
      rw [zwd_up_same _ _ _ _ (Nat.lt_trans hv (by decide))]
      have hz := hf k u hu
      unfold zFl at hz ⊢
      rw [hr, cond_false] at hz ⊢
      obtain ⟨i, e1, e2, e3, e4⟩ := hz
      have hgi : zgw w t k = zi i := by
        rw [hg]
        show (match fs[k]? with
          | some v => zcv v
          | none => 0) = _
        rw [hu, e1]
        rfl
      exact ⟨i, e1, ⟨hi i hgi.symm, fun z => absurd z (by omega)⟩, fun z => absurd z (by omega), fun z => absurd z (by omega)⟩
    · rw [zwd_up_ne _ _ _ _ _ (Nat.lt_trans hv (by decide)) (fun z => c1 z.symm)]
      exact hf k u hu)
  rw [show 16 + (kd - 16) = kd by omega] at key
  exact key
end GV
theorem zall_i {p : Nat → Bool} : ∀ {n : Nat}, (∀ j, j < n → p j = true) → zall n p = true
  | 0, _ => rfl
  | n + 1, h => by
    show cond (p n) (zall n p) false = true
    rw [h n (Nat.lt_succ_self n), cond_true]
    exact zall_i (fun j hj => h j (Nat.lt_succ_of_lt hj))
theorem zmtL_i {d ds : Nat} {φ : List Nat} {T : zT d} {hs : zT ds} : ∀ (l : List Nat) (t : Nat), (∀ (u b : Nat), l[u]? = some b → zmt φ (t + u) (zget d T b) (zget ds hs (t + u)) = true) → zmtL φ T hs l t = true
  | [], _, _ => rfl
  | b :: l, t, h => by
    show cond (zmt φ t (zget d T b) (zget ds hs t)) (zmtL φ T hs l (Nat.succ t)) false = true
    have h0 := h 0 b rfl
    rw [Nat.add_zero] at h0
    rw [h0, cond_true]
    exact zmtL_i l (t + 1) (fun u b' hu => by
      have := h (u + 1) b' (by simpa using hu)
      rw [show t + (u + 1) = t + 1 + u by omega] at this
      exact this)
/-- a block stays one where a word that it doesn't look at is another -/
theorem zsubB_up {d ds : Nat} {φ : List Nat} {h : zH d} {hs : zH ds} {i t kd len x len0 x0 j v : Nat} (hk : zsubB φ h hs = true) (hi : i < 2 ^ d) (hn : h.2.1 ≤ 2 ^ d) (hc : zget d h.1 i = (kd, len, x)) (h16 : 16 ≤ kd) (ht : φ[t]? = some i) (hs0 : zget ds hs.1 t = (kd, len0, x0)) (hj : j < 64) (hw : zwd 40 x0 j = zoc t j) (hv : v < 1099511627776) : zsubB φ (zset d h.1 i (kd, len, zup 40 x j v), h.2) hs = true := by
  obtain ⟨c0, hk⟩ := zcnd_t hk
  obtain ⟨c1, hk⟩ := zcnd_t hk
  obtain ⟨c2, hk⟩ := zcnd_t hk
  obtain ⟨c3, c4⟩ := zcnd_t hk
  obtain ⟨n1, n2⟩ := znd_t c2
  show cond (Nat.ble hs.2.1 (Nat.pow 2 ds)) (cond (Nat.beq (zlen φ) hs.2.1) (cond (znd h.2.1 φ) (cond (zmtL φ (zset d h.1 i (kd, len, zup 40 x j v)) hs.1 φ 0) (Nat.ble (Nat.add h.2.1 hs.2.1) 1000000) false) false) false) false = true
  have key : zmtL φ (zset d h.1 i (kd, len, zup 40 x j v)) hs.1 φ 0 = true := by
    refine zmtL_i φ 0 (fun u b hu => ?_)
    have hm := zmtL_t φ 0 c3 u b hu
    rw [Nat.zero_add] at hm ⊢
    have hb := n1 u b hu
    by_cases c5 : b = i
    · subst c5
      have eu : u = t := n2 u t b hu ht
      subst eu
      rw [zget_set_same d _ _ _ hi, hs0]
      rw [hc, hs0] at hm
      have hm : cond (Nat.beq kd kd) (cond (Nat.beq len len0) (cond (Nat.ble kd 2) (cond (Nat.beq x x0) true (zsubX kd len x x0)) (cond (Nat.ble kd 7) (zall len (zmw φ u true x x0)) (cond (Nat.ble 16 kd) (zall (zN (Nat.sub kd 16)) (fun j => zmw φ u (zisR (zfty (Nat.sub kd 16) j)) x x0 j)) (cond (Nat.beq kd 12) (zm12 φ x x0) false)))) false) false = true := hm
      show cond (Nat.beq kd kd) (cond (Nat.beq len len0) (cond (Nat.ble kd 2) (cond (Nat.beq (zup 40 x j v) x0) true (zsubX kd len (zup 40 x j v) x0)) (cond (Nat.ble kd 7) (zall len (zmw φ u true (zup 40 x j v) x0)) (cond (Nat.ble 16 kd) (zall (zN (Nat.sub kd 16)) (fun j' => zmw φ u (zisR (zfty (Nat.sub kd 16) j')) (zup 40 x j v) x0 j')) (cond (Nat.beq kd 12) (zm12 φ (zup 40 x j v) x0) false)))) false) false = true
      have k2 : Nat.ble kd 2 = false := zble_n (by omega)
      have k7 : Nat.ble kd 7 = false := zble_n (by omega)
      have k16 : Nat.ble 16 kd = true := Nat.ble_eq_true_of_le h16
      rw [k2, k7, k16, cond_false, cond_false, cond_true] at hm ⊢
      obtain ⟨m1, hm⟩ := zcnd_t hm
      obtain ⟨m2, hm⟩ := zcnd_t hm
      rw [m1, m2, cond_true, cond_true]
      refine zall_i (fun j' hj' => ?_)
      have hmj := zall_t hm j' hj'
      have hmj : zmw φ u (zisR (zfty (Nat.sub kd 16) j')) x x0 j' = true := hmj
      show zmw φ u (zisR (zfty (Nat.sub kd 16) j')) (zup 40 x j v) x0 j' = true
      unfold zmw at hmj ⊢
      by_cases c6 : j' = j
      · subst c6
        have e1 : Nat.beq (zwd 40 x0 j') (zoc u j') = true := by rw [hw]; exact Nat.beq_refl _
        rw [e1, cond_true]
        exact Nat.ble_eq_true_of_le (by omega)
      · rw [zwd_up_ne _ _ _ _ _ hv (fun z => c6 z.symm)]
        exact hmj
    · rw [zget_set_ne d _ _ _ _ hi (by omega) (fun z => c5 z.symm)]
      exact hm
  rw [c0, c1, c2, key, c4]
  rfl
noncomputable def zrng (a l : Nat) : List Nat := Nat.rec (motive := fun _ => Nat → List Nat) (fun _ => []) (fun _ r a => a :: r (Nat.succ a)) l a
theorem zrng_at : ∀ (l a p : Nat), p < l → (zrng a l)[p]? = some (a + p)
  | 0, _, p, h => absurd h (Nat.not_lt_zero p)
  | l + 1, a, 0, _ => rfl
  | l + 1, a, p + 1, h => by
    show (zrng (a + 1) l)[p]? = some (a + (p + 1))
    rw [zrng_at l (a + 1) p (by omega)]
    rw [show a + 1 + p = a + (p + 1) by omega]
theorem zrng_len : ∀ (l a : Nat), (zrng a l).length = l
  | 0, _ => rfl
  | l + 1, a => by
    show (zrng (a + 1) l).length + 1 = l + 1
    rw [zrng_len l (a + 1)]
theorem zsubw_at {φ : List Nat} {ws : va_W} {p b : Nat} {q : Nat × va_E} (h : φ[p]? = some b) (hq : ws[b]? = some q) : (zsubw φ ws)[p]? = some q := by
  unfold zsubw
  rw [List.getElem?_map, h]
  simp [hq]
theorem zsubw_len {φ : List Nat} {ws : va_W} : (zsubw φ ws).length = φ.length := List.length_map ..
/-- a range of a world -/
theorem zsubw_rng {ws : va_W} {a l p : Nat} (hp : p < l) (hl : a + l ≤ ws.length) : (zsubw (zrng a l) ws)[p]? = ws[a + p]? := by
  have e : ws[a + p]? = some ws[a + p] := List.getElem?_eq_getElem (by omega)
  rw [e]
  exact zsubw_at (zrng_at l a p hp) e
theorem zsubw_id {ws : va_W} {l : Nat} (hl : ws.length = l) : zsubw (zrng 0 l) ws = ws := by
  refine List.ext_getElem? (fun p => ?_)
  by_cases hp : p < l
  · rw [zsubw_rng hp (by omega), Nat.zero_add]
  · rw [List.getElem?_eq_none (by rw [zsubw_len, zrng_len]; omega), List.getElem?_eq_none (by omega)]
theorem zgw_rng {ws : va_W} {a l t j : Nat} (ht : t < l) (hl : a + l ≤ ws.length) : zgw (zsubw (zrng a l) ws) t j = zgw ws (a + t) j := by
  unfold zgw
  rw [zsubw_rng ht hl]
theorem zgw_app {w1 w2 : va_W} {t j : Nat} (ht : t < w1.length) : zgw (w1 ++ w2) t j = zgw w1 t j := by
  unfold zgw
  rw [List.getElem?_append_left ht]
/-- the world behind a call, taken as a block anew -/
theorem zHp_bk {Ch : zCh} {d ds : Nat} {cA cB : Nat → ClassId} {h : zH d} {hs : zH ds} {ws : va_W} {φ : List Nat} (hlo : ∀ i, i < 549755813889 → cB i = cA i) (hk : zsubB φ h hs = true) (hH : @zHp Ch d cB h ws) : @zHp Ch ds (zcg cA (zsubw φ ws)) hs (zsubw φ ws) := by
  have := (zHp_sub hk hH).1
  rw [zcg_eq hlo] at this
  exact this
