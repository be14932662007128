/-! the heap: fields and arrays, read and written -/
theorem zgx {ad : zA} {r a : Nat} (h : zRf ad r (some a)) : ∃ i, r = i + 1 ∧ ad.1[i]? = some a := by
  rcases h with ⟨-, h⟩ | ⟨k, b, h1, h2, h3⟩
  · cases h
  · cases h3
    exact ⟨k, h1, h2⟩
theorem zad_at {cA : Nat → ClassId} {ws : va_W} {i a : Nat} (h : (zad cA ws).1[i]? = some a) : ∃ e, ws[i]? = some (a, e) := by
  have h : (ws.map (fun q => q.1))[i]? = some a := h
  rw [List.getElem?_map] at h
  obtain ⟨q, h1, h2⟩ := Option.map_eq_some_iff.mp h
  exact ⟨q.2, by rw [h1, ← h2]⟩
/-- a cell by its reference -/
noncomputable def zat {d : Nat} (h : zH d) (r : Nat) (K : zT d → (Nat × (Nat × Nat)) → Nat → Nat → Nat → Nat → Bool) : Bool := Nat.rec (motive := fun _ => Bool) false (fun i _ => Prod.rec (motive := fun _ => Bool) (fun t u => Prod.rec (motive := fun _ => Bool) (fun kd v => Prod.rec (motive := fun _ => Bool) (fun len x => K t u i kd len x) v) (zget d t i)) h) r
theorem zat_t {d : Nat} {h : zH d} {r : Nat} {K : zT d → (Nat × (Nat × Nat)) → Nat → Nat → Nat → Nat → Bool} (hk : zat h r K = true) : ∃ i kd len x, r = i + 1 ∧ zget d h.1 i = (kd, len, x) ∧ K h.1 h.2 i kd len x = true := by
  cases r with
  | zero => cases hk
  | succ i =>
    obtain ⟨t, u⟩ := h
    have h2 : Prod.rec (motive := fun _ => Bool) (fun kd v => Prod.rec (motive := fun _ => Bool) (fun len x => K t u i kd len x) v) (zget d t i) = true := hk
    generalize hc : zget d t i = c at h2
    obtain ⟨kd, len, x⟩ := c
    exact ⟨i, kd, len, x, rfl, hc, h2⟩
/-- what stands there -/
theorem zat_w [zCh] {d : Nat} {cA : Nat → ClassId} {h : zH d} {ws : va_W} (hH : zHp cA h ws) {i : Nat} {o : Option Nat} (hr : zRf (zad cA ws) (i + 1) o) : ∃ a e, o = some a ∧ ws[i]? = some (a, e) ∧ zCell cA (zad cA ws) (zget d h.1 i) e := by
  rcases hr with ⟨h1, -⟩ | ⟨k, b, h1, h2, h3⟩
  · cases h1
  · cases h1
    obtain ⟨e, he⟩ := zad_at h2
    exact ⟨b, e, h3, he, hH.2.2 _ _ he⟩
theorem zCell_obj [zCh] {cA : Nat → ClassId} {ad : zA} {kd len x ci : Nat} {e : va_E} (h : zCell cA ad (kd, len, x) e) (hk : kd = 16 + ci) : ∃ fs : List Value, e = .inr (ci, fs) ∧ fs.length = zN ci ∧ ∀ k v, fs[k]? = some v → zFl ad ci k (zwd 40 x k) v := by
  subst hk
  rcases h with ⟨h, -⟩ | ⟨h, -⟩ | ⟨-, h, -⟩ | ⟨-, h, -⟩ | ⟨-, fs, h2, h3, h4⟩
  · exact absurd (show 16 + ci < 2 from h) (by omega)
  · exact absurd (show 16 + ci = 2 from h) (by omega)
  · exact absurd (show 16 + ci < 16 from h) (by omega)
  · exact absurd (show 16 + ci < 8 from h) (by omega)
  · have e1 : (16 + ci, len, x).1 - 16 = ci := Nat.add_sub_cancel_left 16 ci
    rw [e1] at h2 h3 h4
    exact ⟨fs, h2, h3, h4⟩
theorem zCell_i [zCh] {cA : Nat → ClassId} {ad : zA} {kd len x : Nat} {e : va_E} (h : zCell cA ad (kd, len, x) e) (hk : kd < 2) : len < 2147483648 ∧ ∃ f : Nat → Int32, e = .inl (cA kd, len, .inl f) ∧ zAI len x f := by
  rcases h with ⟨-, h⟩ | ⟨h, -⟩ | ⟨h, -⟩ | ⟨h, -⟩ | ⟨h, -⟩
  · exact h
  · exact absurd (show kd = 2 from h) (by omega)
  · exact absurd (show 8 ≤ kd from h) (by omega)
  · exact absurd (show 3 ≤ kd from h) (by omega)
  · exact absurd (show 16 ≤ kd from h) (by omega)
theorem zCell_j [zCh] {cA : Nat → ClassId} {ad : zA} {len x : Nat} {e : va_E} (h : zCell cA ad (2, len, x) e) : len < 2147483648 ∧ ∃ f : Nat → Int64, e = .inl (cA 2, len, .inr (.inl f)) ∧ zAJ len x f := by
  rcases h with ⟨h, -⟩ | ⟨-, h⟩ | ⟨h, -⟩ | ⟨h, -⟩ | ⟨h, -⟩
  · exact absurd (show (2 : Nat) < 2 from h) (by omega)
  · exact h
  · exact absurd (show 8 ≤ 2 from h) (by omega)
  · exact absurd (show 3 ≤ 2 from h) (by omega)
  · exact absurd (show 16 ≤ 2 from h) (by omega)
theorem zCell_r [zCh] {cA : Nat → ClassId} {ad : zA} {kd len x : Nat} {e : va_E} (h : zCell cA ad (kd, len, x) e) (hk : 3 ≤ kd) (hk2 : kd < 8) : len < 2147483648 ∧ ∃ f : Nat → Option Nat, e = .inl (cA kd, len, .inr (.inr (.inr (.inr f)))) ∧ zAR ad len x f := by
  rcases h with ⟨h, -⟩ | ⟨h, -⟩ | ⟨h, -⟩ | ⟨-, -, h⟩ | ⟨h, -⟩
  · exact absurd (show kd < 2 from h) (by omega)
  · exact absurd (show kd = 2 from h) (by omega)
  · exact absurd (show 8 ≤ kd from h) (by omega)
  · exact h
  · exact absurd (show 16 ≤ kd from h) (by omega)
theorem zad_set {cA : Nat → ClassId} {ws : va_W} {q0 a : Nat} {e e' : va_E} (hq : ws[q0]? = some (a, e)) : zad cA (ws.set q0 (a, e')) = zad cA ws := by
  show ((ws.set q0 (a, e')).map (fun q => q.1), cA) = (ws.map (fun q => q.1), cA)
  congr 1
  rw [List.map_set]
  apply List.ext_getElem?
  intro j
  rw [List.getElem?_set]
  by_cases hj : q0 = j
  · subst hj
    have hl := (List.getElem?_eq_some_iff.mp hq).1
    rw [if_pos rfl, if_pos (by rw [List.length_map]; exact hl), List.getElem?_map, hq]
    rfl
  · rw [if_neg hj]
theorem zHp_set [zCh] {d : Nat} {cA : Nat → ClassId} {h : zH d} {ws : va_W} (hH : zHp cA h ws) {q0 a : Nat} {e e' : va_E} (hq : ws[q0]? = some (a, e)) {c' : zC} (hc : zCell cA (zad cA ws) c' e') : zHp cA (zset d h.1 q0 c', h.2) (ws.set q0 (a, e')) := by
  have hl := (List.getElem?_eq_some_iff.mp hq).1
  have hlt : q0 < 2 ^ d := Nat.lt_of_lt_of_le (by rw [← hH.1]; exact hl) hH.2.1
  refine ⟨by rw [List.length_set]; exact hH.1, hH.2.1, fun i q hi => ?_⟩
  rw [zad_set hq]
  rw [List.getElem?_set] at hi
  by_cases hj : q0 = i
  · subst hj
    rw [if_pos rfl, if_pos hl] at hi
    cases hi
    show zCell cA (zad cA ws) (zget d (zset d h.1 q0 c') q0) e'
    rw [zget_set_same d _ _ _ hlt]
    exact hc
  · rw [if_neg hj] at hi
    have hli := (List.getElem?_eq_some_iff.mp hi).1
    show zCell cA (zad cA ws) (zget d (zset d h.1 q0 c') i) q.2
    rw [zget_set_ne d _ _ _ _ hlt (Nat.lt_of_lt_of_le (by rw [← hH.1]; exact hli) hH.2.1) hj]
    exact hH.2.2 i q hi
theorem zi_idx {i : Int32} {a len : Nat} (hi : a < 4294967296 → zi i = a) (hlen : len < 2147483648) (h : Nat.ble len a = false) : vp_in i len ∧ i.toNatClampNeg = a ∧ a < len := by
  have h1 := zble_f h
  have e := hi (by omega)
  have h2 : i.toInt = (a : Int) := by
    rcases zi_cases i with ⟨c1, c2⟩ | ⟨c1, c2⟩ <;> omega
  have h3 : i.toNatClampNeg = a := by
    show i.toInt.toNat = a
    omega
  refine ⟨vp_in_iff.mpr ⟨by omega, by omega⟩, h3, h1⟩
def zcap (v : Nat) : Nat := cond (Nat.ble 4294967296 v) (cond (Nat.ble 274877906944 (Nat.mod v 1099511627776)) 4294967296 (cond (Nat.ble (Nat.mod v 1099511627776) 4294967296) 4294967296 (Nat.mod v 1099511627776))) v
def zcapj (v : Nat) : Nat := cond (Nat.ble 18446744073709551616 v) 18446744073709551616 v
theorem zcap_lt (v : Nat) : zcap v < 2 ^ 40 := by
  unfold zcap
  cases h : Nat.ble 4294967296 v
  · have := zble_f h
    exact Nat.lt_of_lt_of_le this (by decide)
  · cases h1 : Nat.ble 274877906944 (Nat.mod v 1099511627776)
    · cases h2 : Nat.ble (Nat.mod v 1099511627776) 4294967296
      · exact Nat.mod_lt v (by decide)
      · exact (by decide : (4294967296 : Nat) < 2 ^ 40)
    · exact (by decide : (4294967296 : Nat) < 2 ^ 40)
theorem zcap_lt38 (v : Nat) : zcap v < 274877906944 := by
  unfold zcap
  cases h : Nat.ble 4294967296 v
  · have := zble_f h
    rw [cond_false]
    omega
  · cases h1 : Nat.ble 274877906944 (Nat.mod v 1099511627776)
    · cases h2 : Nat.ble (Nat.mod v 1099511627776) 4294967296
      · exact zble_f h1
      · exact (by decide : (4294967296 : Nat) < 274877906944)
    · exact (by decide : (4294967296 : Nat) < 274877906944)
theorem zcap_lt39 (v : Nat) : zcap v < 549755813888 := Nat.lt_trans (zcap_lt38 v) (by decide)
theorem zcapj_lt (v : Nat) : zcapj v < 2 ^ 72 := by
  unfold zcapj
  cases h : Nat.ble 18446744073709551616 v
  · have := zble_f h
    exact Nat.lt_of_lt_of_le this (by decide)
  · rw [cond_true]; decide
theorem zcap_ok [zGh] {v : Nat} {i : Int32} (h : zIs v i) : zIa (zcap v) i := by
  unfold zcap
  cases hb : Nat.ble 4294967296 v
  · have hl := zble_f hb
    rw [cond_false]
    exact ⟨fun _ => h.1 hl, fun q => absurd q (by omega)⟩
  · rw [cond_true]
    cases h1 : Nat.ble 274877906944 (Nat.mod v 1099511627776)
    · rw [cond_false]
      cases h2 : Nat.ble (Nat.mod v 1099511627776) 4294967296
      · rw [cond_false]
        have q1 : Nat.mod v 1099511627776 < 549755813888 := Nat.lt_trans (zble_f h1) (by decide)
        have q2 := zble_f h2
        exact ⟨fun q => absurd q (by omega), fun _ _ => h.2.1 q2 q1⟩
      · exact ⟨fun q => absurd q (Nat.lt_irrefl _), fun q => absurd q (Nat.lt_irrefl _)⟩
    · exact ⟨fun q => absurd q (Nat.lt_irrefl _), fun q => absurd q (Nat.lt_irrefl _)⟩
theorem zcapj_ok {v : Nat} {i : Int64} (h : v < 18446744073709551616 → zj i = v) : zcapj v < 18446744073709551616 → zj i = zcapj v := by
  unfold zcapj
  cases hb : Nat.ble 18446744073709551616 v
  · exact fun _ => h (zble_f hb)
  · exact fun q => absurd q (Nat.lt_irrefl _)
section OPS
variable {d : Nat} {X : zM} {fr : Nat} {P : zP d} {pc pc' tgt : Nat} {k : zK d}
noncomputable def xgfI (kc n : Nat) (k : zK d) : zK d := fun L S h => zpR S (fun r S => zat h r (fun _ _ _ kd _ x => cond (Nat.beq kd kc) (zF (fun v => k L (zI v :: S) h) (zwd 40 x n)) false))
noncomputable def xgfR (kc n : Nat) (k : zK d) : zK d := fun L S h => zpR S (fun r S => zat h r (fun _ _ _ kd _ x => cond (Nat.beq kd kc) (zF (fun v => cond (Nat.ble 549755813888 v) (k L (zW (Nat.add 1152921504606846976 v) :: S) h) (k L (zR v :: S) h)) (zwd 40 x n)) false))
theorem zvR_k {L S : List zV} {h : zH d} (v : Nat) : cond (Nat.ble 549755813888 v) (k L (zW (Nat.add 1152921504606846976 v) :: S) h) (k L (zR v :: S) h) = k L (zvR v :: S) h := by
  unfold zvR
  cases Nat.ble 549755813888 v <;> rfl
theorem sm_gf [G : zGh] {ci n index : Nat} {C ref : String} {T : u_T} {N : Nat} {f : zK d} {w : Nat → zV} (hw : ∀ v, cond (zisR (zfty ci n)) (zvR v) (zI v) = w v) (hf : ∀ L S h, f L S h = zpR S (fun r S => zat h r (fun _ _ _ kd _ x => cond (Nat.beq kd (16 + ci)) (zF (fun v => k L (w v :: S) h) (zwd 40 x n)) false))) (hin : ∀ w ∈ u_ws C T N, w ∈ ztbl) (hc : zcl[ci]? = some (C, T, N)) (hn : n < N) (hN : N = zN ci) (hlink : Cond.fieldLink X.1 index ref (T n).2.1 (T n).2.2.1 ∈ ztbl) (href : (T n).1 = ref) (dg : decode X.2.1 pc = .ok (.getfield index, 3)) (hs : zSim X fr P (pc + 3) k) : zSim X fr P pc f := by
  intro Ch cA D ad0 A MC MS p l e s m args below meth c ls st H locs cells slots L S h Cx hk R0
  obtain ⟨ws, hHp, hpre, hP, hD, hS, hL, hst, hcb, hsb⟩ := R0
  rw [hf] at hk
  obtain ⟨r, S, rfl, hk1⟩ := zpR_t hk
  obtain ⟨o, st, rfl, ho, hst2⟩ := zRepL_R hst
  obtain ⟨i, kd, len, x, rfl, hg, hk2⟩ := zat_t hk1
  obtain ⟨a, en, rfl, hwi, hcell⟩ := zat_w hHp ho
  rw [hg] at hcell
  have hk2 : cond (Nat.beq kd (16 + ci)) (zF (fun v => k L (w v :: S) h) (zwd 40 x n)) false = true := hk2
  cases hb : Nat.beq kd (16 + ci)
  · rw [hb] at hk2
    cases hk2
  · rw [hb, cond_true, zF_eq] at hk2
    obtain ⟨fs, rfl, hlen, hfl⟩ := zCell_obj hcell (Nat.eq_of_beq_eq_true hb)
    have hlt : n < fs.length := by rw [hlen, ← hN]; exact hn
    have hv : fs[n]? = some fs[n] := List.getElem?_eq_getElem hlt
    have hfl := hfl n _ hv
    unfold zFl at hfl
    have hfl := zRepC_rep hfl (zwd_lt _ _ _)
    rw [hw] at hfl
    exact va_get (rest := st) Cx.1 Cx.2.1 Cx.2.2.2.2.1 hin Cx.2.2.2.1 Cx.2.2.2.2.2.1 hP i hwi hc n hn (Cx.2.2.2.2.1 _ hlink) (fun x hx => by rw [← href]; exact hx) hv dg (hs Ch cA D ad0 A MC MS p l e s m args below meth c ls _ H locs cells slots L _ h Cx hk2 ⟨ws, hHp, hpre, hP, hD, hS, hL, ⟨hfl, hst2⟩, hcb, hsb⟩)
theorem sm_getfieldI [G : zGh] {ci kc n index : Nat} {C ref : String} {T : u_T} {N : Nat} (hkc : 16 + ci = kc) (hw : zisR (zfty ci n) = false) (hin : ∀ w ∈ u_ws C T N, w ∈ ztbl) (hc : zcl[ci]? = some (C, T, N)) (hn : n < N) (hN : N = zN ci) (hlink : Cond.fieldLink X.1 index ref (T n).2.1 (T n).2.2.1 ∈ ztbl) (href : (T n).1 = ref) (dg : decode X.2.1 pc = .ok (.getfield index, 3)) (hs : zSim X fr P (pc + 3) k) : zSim X fr P pc (xgfI kc n k) := sm_gf (w := fun v => zI v) (fun v => by rw [hw, cond_false]) (fun L S h => by subst hkc; rfl) hin hc hn hN hlink href dg hs
theorem sm_getfieldR [G : zGh] {ci kc n index : Nat} {C ref : String} {T : u_T} {N : Nat} (hkc : 16 + ci = kc) (hw : zisR (zfty ci n) = true) (hin : ∀ w ∈ u_ws C T N, w ∈ ztbl) (hc : zcl[ci]? = some (C, T, N)) (hn : n < N) (hN : N = zN ci) (hlink : Cond.fieldLink X.1 index ref (T n).2.1 (T n).2.2.1 ∈ ztbl) (href : (T n).1 = ref) (dg : decode X.2.1 pc = .ok (.getfield index, 3)) (hs : zSim X fr P (pc + 3) k) : zSim X fr P pc (xgfR kc n k) := sm_gf (w := fun v => zvR v) (fun v => by rw [hw, cond_true]) (fun L S h => by subst hkc; unfold xgfR; simp only [zvR_k]) hin hc hn hN hlink href dg hs
/-- ints of an array, booleans -/
noncomputable def xald1 (kc : Nat) (k : zK d) : zK d := fun L S h => zpI S (fun i S => zpR S (fun r S => zat h r (fun _ _ _ kd len x => cond (Nat.beq kd kc) (cond (Nat.ble len i) false (zF (fun v => k L (zI v :: S) h) (zwd 40 x i))) false)))
theorem sm_ald1 [G : zGh] {kc : Nat} (hkc : kc < 2) (row : ∀ {cA : Nat → ClassId} {D : va_G} {p : Program} {l : Launch} {e : Env} {R : Room} {s : State} {m : MethodId} {args : Array Value} {below : List Frame} {meth : Method} {c : Code} {H : Heap} {locs : List Loc} {cells slots : Nat} {Q : State → Prop} {ls : Array Slot} {rest : List Value} {ws : va_W} {a n q0 : Nat} {f : Nat → Int32} {i : Int32}, p.tables.exec = Jvm.exec → c.code = X.2.1 → va_K D zcl (zty cA) s → va_P D zcl ws H → ws[q0]? = some (a, .inl (cA kc, n, .inl f)) → vp_in i n → W p l e R s m args below meth c H locs cells slots Q (F0 m pc' ls (.int (f i.toNatClampNeg) :: rest)) → W p l e R s m args below meth c H locs cells slots Q (F0 m pc ls (.int i :: .ref a :: rest))) (hs : zSim X fr P pc' k) : zSim X fr P pc (xald1 kc k) := by
  intro Ch cA D ad0 A MC MS p l e s m args below meth c ls st H locs cells slots L S h Cx hk R0
  obtain ⟨ws, hHp, hpre, hP, hD, hS, hL, hst, hcb, hsb⟩ := R0
  obtain ⟨n, S, rfl, hk1⟩ := zpI_t hk
  obtain ⟨r, S, rfl, hk2⟩ := zpR_t hk1
  obtain ⟨i, st, rfl, hi, hst1⟩ := zRepL_I hst
  obtain ⟨o, st, rfl, ho, hst2⟩ := zRepL_R hst1
  obtain ⟨j, kd, len, x, rfl, hg, hk3⟩ := zat_t hk2
  obtain ⟨a, en, rfl, hwi, hcell⟩ := zat_w hHp ho
  rw [hg] at hcell
  have hk3 : cond (Nat.beq kd kc) (cond (Nat.ble len n) false (zF (fun v => k L (zI v :: S) h) (zwd 40 x n))) false = true := hk3
  cases hb : Nat.beq kd kc
  · rw [hb] at hk3
    cases hk3
  · have hb2 := Nat.eq_of_beq_eq_true hb
    subst hb2
    rw [hb, cond_true] at hk3
    cases hbl : Nat.ble len n
    · rw [hbl, cond_false, zF_eq] at hk3
      obtain ⟨hlen, f, rfl, hf⟩ := zCell_i hcell hkc
      obtain ⟨g1, g2, g3⟩ := zi_idx hi.1 hlen hbl
      exact row Cx.1 Cx.2.1 Cx.2.2.2.2.2.1 hP hwi g1 (hs Ch cA D ad0 A MC MS p l e s m args below meth c ls _ H locs cells slots L _ h Cx hk3 ⟨ws, hHp, hpre, hP, hD, hS, hL, ⟨⟨_, rfl, by rw [g2]; exact zIs_a (hf n g3) (zwd_lt _ _ _)⟩, hst2⟩, hcb, hsb⟩)
    · rw [hbl] at hk3
      cases hk3
theorem sm_iaload [G : zGh] (dg : decode X.2.1 pc = .ok (.iaload, 1)) (hs : zSim X fr P (pc + 1) k) : zSim X fr P pc (xald1 0 k) := sm_ald1 (by decide) (fun hx hb hK hP ha hin kk => va_iald hx hb hK hP _ 0 ha rfl hin dg kk) hs
theorem sm_baload [G : zGh] (dg : decode X.2.1 pc = .ok (.baload, 1)) (hs : zSim X fr P (pc + 1) k) : zSim X fr P pc (xald1 1 k) := sm_ald1 (by decide) (fun hx hb hK hP ha hin kk => va_zald hx hb hK hP _ 1 ha rfl hin dg kk) hs
noncomputable def xlal (k : zK d) : zK d := fun L S h => zpI S (fun i S => zpR S (fun r S => zat h r (fun _ _ _ kd len x => cond (Nat.beq kd 2) (cond (Nat.ble len i) false (zF (fun v => k L (zL v :: S) h) (zwd 72 x i))) false)))
theorem sm_laload [G : zGh] (dg : decode X.2.1 pc = .ok (.laload, 1)) (hs : zSim X fr P (pc + 1) k) : zSim X fr P pc (xlal k) := by
  intro Ch cA D ad0 A MC MS p l e s m args below meth c ls st H locs cells slots L S h Cx hk R0
  obtain ⟨ws, hHp, hpre, hP, hD, hS, hL, hst, hcb, hsb⟩ := R0
  obtain ⟨n, S, rfl, hk1⟩ := zpI_t hk
  obtain ⟨r, S, rfl, hk2⟩ := zpR_t hk1
  obtain ⟨i, st, rfl, hi, hst1⟩ := zRepL_I hst
  obtain ⟨o, st, rfl, ho, hst2⟩ := zRepL_R hst1
  obtain ⟨j, kd, len, x, rfl, hg, hk3⟩ := zat_t hk2
  obtain ⟨a, en, rfl, hwi, hcell⟩ := zat_w hHp ho
  rw [hg] at hcell
  have hk3 : cond (Nat.beq kd 2) (cond (Nat.ble len n) false (zF (fun v => k L (zL v :: S) h) (zwd 72 x n))) false = true := hk3
  cases hb : Nat.beq kd 2
  · rw [hb] at hk3
    cases hk3
  · have hb2 := Nat.eq_of_beq_eq_true hb
    subst hb2
    rw [hb, cond_true] at hk3
    cases hbl : Nat.ble len n
    · rw [hbl, cond_false, zF_eq] at hk3
      obtain ⟨hlen, f, rfl, hf⟩ := zCell_j hcell
      obtain ⟨g1, g2, g3⟩ := zi_idx hi.1 hlen hbl
      exact va_lald Cx.1 Cx.2.1 Cx.2.2.2.2.2.1 hP j 2 hwi rfl g1 dg (hs Ch cA D ad0 A MC MS p l e s m args below meth c ls _ H locs cells slots L _ h Cx hk3 ⟨ws, hHp, hpre, hP, hD, hS, hL, ⟨⟨_, rfl, by rw [g2]; exact zJs_of (hf n g3).1 (zwd_lt _ _ _)⟩, hst2⟩, hcb, hsb⟩)
    · rw [hbl] at hk3
      cases hk3
noncomputable def xaal (k : zK d) : zK d := fun L S h => zpI S (fun i S => zpR S (fun r S => zat h r (fun _ _ _ kd len x => cond (Nat.ble 3 kd) (cond (Nat.ble kd 7) (cond (Nat.ble len i) false (zF (fun v => cond (Nat.ble 549755813888 v) (k L (zW (Nat.add 1152921504606846976 v) :: S) h) (k L (zR v :: S) h)) (zwd 40 x i))) false) false)))
theorem sm_aaload [G : zGh] (dg : decode X.2.1 pc = .ok (.aaload, 1)) (hs : zSim X fr P (pc + 1) k) : zSim X fr P pc (xaal k) := by
  intro Ch cA D ad0 A MC MS p l e s m args below meth c ls st H locs cells slots L S h Cx hk R0
  obtain ⟨ws, hHp, hpre, hP, hD, hS, hL, hst, hcb, hsb⟩ := R0
  obtain ⟨n, S, rfl, hk1⟩ := zpI_t hk
  obtain ⟨r, S, rfl, hk2⟩ := zpR_t hk1
  obtain ⟨i, st, rfl, hi, hst1⟩ := zRepL_I hst
  obtain ⟨o, st, rfl, ho, hst2⟩ := zRepL_R hst1
  obtain ⟨j, kd, len, x, rfl, hg, hk3⟩ := zat_t hk2
  obtain ⟨a, en, rfl, hwi, hcell⟩ := zat_w hHp ho
  rw [hg] at hcell
  have hk3 : cond (Nat.ble 3 kd) (cond (Nat.ble kd 7) (cond (Nat.ble len n) false (zF (fun v => cond (Nat.ble 549755813888 v) (k L (zW (Nat.add 1152921504606846976 v) :: S) h) (k L (zR v :: S) h)) (zwd 40 x n))) false) false = true := hk3
  cases hb : Nat.ble 3 kd
  · rw [hb] at hk3
    cases hk3
  · rw [hb, cond_true] at hk3
    cases hb7 : Nat.ble kd 7
    · rw [hb7] at hk3
      cases hk3
    · rw [hb7, cond_true] at hk3
      have q3 := Nat.le_of_ble_eq_true hb
      have q7 := Nat.le_of_ble_eq_true hb7
      cases hbl : Nat.ble len n
      · rw [hbl, cond_false, zF_eq, zvR_k] at hk3
        obtain ⟨hlen, f, rfl, hf⟩ := zCell_r hcell q3 (by omega)
        obtain ⟨g1, g2, g3⟩ := zi_idx hi.1 hlen hbl
        have hty : ∃ ty : FieldType, (zty cA)[kd]? = some (cA kd, ty) ∧ ty.isReference = true := by
          rcases (show kd = 3 ∨ kd = 4 ∨ kd = 5 ∨ kd = 6 ∨ kd = 7 by omega) with rfl | rfl | rfl | rfl | rfl
          · exact ⟨_, rfl, rfl⟩
          · exact ⟨_, rfl, rfl⟩
          · exact ⟨_, rfl, rfl⟩
          · exact ⟨_, rfl, rfl⟩
          · exact ⟨_, rfl, rfl⟩
        obtain ⟨ty, ht, hre⟩ := hty
        have hlt : i.toNatClampNeg < len := by rw [g2]; exact g3
        exact W.aald (v := va_rf (f i.toNatClampNeg)) (ty := ty) Cx.1 Cx.2.1 (hP j _ hwi) ((Cx.2.2.2.2.2.1.2 kd _ ht).1 len (fun j => va_rf (f j))) hre (fun q => by cases q) (by show ¬ (i < 0 ∨ (arrV _ _ _).slots.size ≤ _); rw [arrV_size]; exact g1) (by show (arrV _ _ _).slots[_]? = _; rw [arrV_read _ _ hlt]) rfl rfl dg (hs Ch cA D ad0 A MC MS p l e s m args below meth c ls _ H locs cells slots L _ h Cx hk3 ⟨ws, hHp, hpre, hP, hD, hS, hL, ⟨by rw [g2]; exact zRw_rep (hf n g3), hst2⟩, hcb, hsb⟩)
      · rw [hbl] at hk3
        cases hk3
/-- an array's length -/
noncomputable def xlen (k : zK d) : zK d := fun L S h => zpR S (fun r S => zat h r (fun _ _ _ kd len _ => cond (Nat.ble kd 7) (k L (zI len :: S) h) false))
theorem zi_nI {n : Nat} (h : n < 2147483648) : zi (Int32.ofNat n) = n := zi_ofNat (by omega)
theorem sm_arraylength [G : zGh] (dg : decode X.2.1 pc = .ok (.arraylength, 1)) (hs : zSim X fr P (pc + 1) k) : zSim X fr P pc (xlen k) := by
  intro Ch cA D ad0 A MC MS p l e s m args below meth c ls st H locs cells slots L S h Cx hk R0
  obtain ⟨ws, hHp, hpre, hP, hD, hS, hL, hst, hcb, hsb⟩ := R0
  obtain ⟨r, S, rfl, hk2⟩ := zpR_t hk
  obtain ⟨o, st, rfl, ho, hst2⟩ := zRepL_R hst
  obtain ⟨j, kd, len, x, rfl, hg, hk3⟩ := zat_t hk2
  obtain ⟨a, en, rfl, hwi, hcell⟩ := zat_w hHp ho
  rw [hg] at hcell
  have hk3 : cond (Nat.ble kd 7) (k L (zI len :: S) h) false = true := hk3
  cases hb7 : Nat.ble kd 7
  · rw [hb7] at hk3
    cases hk3
  · rw [hb7, cond_true] at hk3
    have q7 := Nat.le_of_ble_eq_true hb7
    have key : len < 2147483648 ∧ ∃ x : vp_A, x.1 = len ∧ en = .inl (cA kd, x) := by
      rcases (show kd < 2 ∨ kd = 2 ∨ 3 ≤ kd by omega) with q | rfl | q
      · obtain ⟨h1, f, rfl, -⟩ := zCell_i hcell q
        exact ⟨h1, _, rfl, rfl⟩
      · obtain ⟨h1, f, rfl, -⟩ := zCell_j hcell
        exact ⟨h1, _, rfl, rfl⟩
      · obtain ⟨h1, f, rfl, -⟩ := zCell_r hcell q (by omega)
        exact ⟨h1, _, rfl, rfl⟩
    obtain ⟨hlen, y, hy, rfl⟩ := key
    have hty : ∃ ty : FieldType, (zty cA)[kd]? = some (cA kd, ty) := by
      rcases (show kd = 0 ∨ kd = 1 ∨ kd = 2 ∨ kd = 3 ∨ kd = 4 ∨ kd = 5 ∨ kd = 6 ∨ kd = 7 by omega) with rfl | rfl | rfl | rfl | rfl | rfl | rfl | rfl <;> exact ⟨_, rfl⟩
    obtain ⟨ty, ht⟩ := hty
    exact va_alen Cx.1 Cx.2.1 Cx.2.2.2.2.2.1 hP j kd hwi ht (by rw [hy]) dg (hs Ch cA D ad0 A MC MS p l e s m args below meth c ls _ H locs cells slots L _ h Cx hk3 ⟨ws, hHp, hpre, hP, hD, hS, hL, ⟨⟨_, rfl, zIs_e (zi_nI hlen)⟩, hst2⟩, hcb, hsb⟩)
end OPS
