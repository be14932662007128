/-! held, inRow, placeOf are marked -/
theorem zsum_list (F : Nat → Nat) : ∀ n, zsum n F = ((List.range n).map F).sum
  | 0 => rfl
  | n + 1 => by
    rw [zsum_s, zsum_list F n, List.range_succ, List.map_append, List.sum_append]
    simp
/-- words 0 .. n - 1 are 1 .. n in some order -/
def zprm (n x : Nat) : Bool := ((List.range n).map (fun i => zwd 40 x i)).isPerm ((List.range n).map (fun i => i + 1))
theorem zprm_t {n len x : Nat} {f : Nat → Int32} (hn : n ≤ len) (h6 : n < 4294967295) (h : zprm n x = true) (hf : zAI len x f) : zPm n (fun i => zi (f i)) := by
  have hp : ((List.range n).map (fun i => zwd 40 x i)).Perm ((List.range n).map (fun i => i + 1)) := List.isPerm_iff.mp h
  have hw : ∀ i, i < n → zi (f i) = zwd 40 x i := fun i hi => by
    have hm : zwd 40 x i ∈ (List.range n).map (fun i => i + 1) := hp.mem_iff.mp (List.mem_map.mpr ⟨i, List.mem_range.mpr hi, rfl⟩)
    obtain ⟨j, hj, e⟩ := List.mem_map.mp hm
    have hj := List.mem_range.mp hj
    exact (hf i (by omega)).1 (by omega)
  intro g
  have e1 : zsum n (fun i => g (zi (f i))) = zsum n (fun i => g (zwd 40 x i)) := zsum_c (fun i hi => by rw [hw i hi])
  refine (show zsum n (fun i => g (zi (f i))) = zsum n (fun i => g (i + 1)) from ?_)
  rw [e1, zsum_list, zsum_list]
  have e2 := (hp.map g).sum_nat
  rw [List.map_map, List.map_map] at e2
  exact e2
section MARKS
variable {d : Nat}
noncomputable def znk (lo hi : Nat) (c : zC) : Bool := Prod.rec (motive := fun _ => Bool) (fun k _ => cond (Nat.ble lo k) (Nat.ble (Nat.succ hi) k) true) c
theorem znk_t {lo hi : Nat} {c : zC} (h : znk lo hi c = true) : c.1 < lo ∨ hi < c.1 := by
  obtain ⟨k, v⟩ := c
  have h : cond (Nat.ble lo k) (Nat.ble (Nat.succ hi) k) true = true := h
  cases q : Nat.ble lo k
  · exact Or.inl (zble_f q)
  · rw [q, cond_true] at h
    exact Or.inr (Nat.le_of_ble_eq_true h)
noncomputable def mkA (i : Nat) (fs : List Nat) (kd lam lo hi : Nat) (chk : Nat → Nat → Bool) : zWk d := fun L h K => zpp i fs L h (fun b => cond (Nat.ble (Nat.succ b) h.2.1) (cond (zall h.2.1 (fun q => znk lo hi (zget d h.1 q))) (Prod.rec (motive := fun _ => Bool) (fun kd0 v => Prod.rec (motive := fun _ => Bool) (fun len x => cond (Nat.beq kd0 0) (cond (chk len x) (zsetK d h.1 b (kd, len, lam) (fun T => K L (T, h.2))) false) false) v) (zget d h.1 b)) false) false)
theorem mkA_ok {i : Nat} {fs : List Nat} {kd lam lo hi : Nat} {chk : Nat → Nat → Bool} (hkd : (kd = 8 ∧ lo = 8 ∧ hi = 9) ∨ (kd = 9 ∧ lo = 9 ∧ hi = 9) ∨ (kd = 10 ∧ lo = 10 ∧ hi = 11)) (hc : ∀ (F : Nat → Nat → Int32) (t len x : Nat), chk len x = true → zAI len x (F kd) → zKi F t kd len lam) : zMkOK (mkA i fs kd lam lo hi chk : zWk d) := fun L h K hk => by
  obtain ⟨b, hk⟩ := zpp_t hk
  generalize hg : zget d h.1 b = e0 at hk
  obtain ⟨kd0, len, x⟩ := e0
  obtain ⟨h1, hk⟩ := zcnd_t hk
  obtain ⟨h2, hk⟩ := zcnd_t hk
  have hk : cond (Nat.beq kd0 0) (cond (chk len x) (zsetK d h.1 b (kd, len, lam) (fun T => K L (T, h.2))) false) false = true := hk
  obtain ⟨h3, hk⟩ := zcnd_t hk
  obtain ⟨h4, hk5⟩ := zcnd_t hk
  rw [zsetK_eq] at hk5
  have hb : b < h.2.1 := Nat.le_of_ble_eq_true h1
  have e3 : kd0 = 0 := Nat.eq_of_beq_eq_true h3
  clear hk
  subst e3
  refine ⟨(zset d h.1 b (kd, len, lam), h.2), hk5, rfl, fun C cA ws hH => ?_⟩
  obtain ⟨g1, g2, g3⟩ := hH
  have hbw : b < ws.length := by omega
  have hcb := g3 b _ (List.getElem?_eq_getElem hbw)
  rw [hg] at hcb
  obtain ⟨hl, f, hf1, hf2⟩ := @zCell_i C cA _ 0 len x _ hcb (by decide)
  let C' : zCh := ⟨((fun q => if q = kd then f else @zcF C q, @zcT C) : (Nat → Nat → Int32) × Nat)⟩
  refine ⟨C', g1, g2, fun j q hj => ?_⟩
  have hjw : j < ws.length := (List.getElem?_eq_some_iff.mp hj).1
  by_cases ej : j = b
  · subst ej
    rw [List.getElem?_eq_getElem hbw] at hj
    cases hj
    show @zCell C' cA _ (zget d (zset d h.1 j (kd, len, lam)) j) _
    rw [zget_set_same d _ _ _ (by omega), hf1]
    refine Or.inr (Or.inr (Or.inl ⟨show 8 ≤ kd by omega, show kd < 16 by omega, hl, Or.inl ⟨show kd < 12 by omega, f, rfl, ?_, ?_⟩⟩))
    · exact (if_pos rfl).symm
    · refine hc _ _ len x h4 ?_
      show zAI len x (if kd = kd then f else @zcF C kd)
      rw [if_pos rfl]
      exact hf2
  · show @zCell C' cA _ (zget d (zset d h.1 b (kd, len, lam)) j) _
    rw [zget_set_ne d _ _ _ _ (by omega) (by omega) (fun q => ej q.symm)]
    have hz := znk_t (zall_t h2 j (by omega))
    refine zCell_gh (C := C) rfl (fun q => ?_) (fun q => ⟨?_, ?_⟩) (fun q => ?_) (fun q => ⟨?_, ?_⟩) (g3 j q hj) <;> exact if_neg (by omega)
end MARKS
