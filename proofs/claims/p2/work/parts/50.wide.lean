/-! arrays at a place that is known within bounds, or one of some arrays that are alike -/
theorem zi_idxR [zGh] {n len : Nat} {i : Int32} (hi : zIs n i) (hlen : len < 2147483648) (h : zhi n ≤ len) : vp_in i len ∧ i.toNatClampNeg = zi i ∧ zi i < len := by
  have hl := Nat.lt_of_lt_of_le (zhi_ok hi) h
  obtain ⟨g1, g2, g3⟩ := zi_idx (i := i) (a := zi i) (fun _ => rfl) hlen (zble_lt hl)
  exact ⟨g1, g2, g3⟩
/-- all of some cells are the same -/
noncomputable def zalr (d : Nat) (t : zT d) (kd len x : Nat) (lo n : Nat) : Bool := Nat.rec (motive := fun _ => Bool) true (fun m r => Prod.rec (motive := fun _ => Bool) (fun kd' v => Prod.rec (motive := fun _ => Bool) (fun len' x' => cond (Nat.beq kd kd') (cond (Nat.beq len len') (cond (Nat.beq x x') r false) false) false) v) (zget d t (Nat.add lo m))) n
theorem zalr_t {d : Nat} {t : zT d} {kd len x lo : Nat} : ∀ {n : Nat}, zalr d t kd len x lo n = true → ∀ m, m < n → zget d t (lo + m) = (kd, len, x)
  | 0, _, m, hm => absurd hm (Nat.not_lt_zero m)
  | n + 1, h, m, hm => by
    have h : Prod.rec (motive := fun _ => Bool) (fun kd' v => Prod.rec (motive := fun _ => Bool) (fun len' x' => cond (Nat.beq kd kd') (cond (Nat.beq len len') (cond (Nat.beq x x') (zalr d t kd len x lo n) false) false) false) v) (zget d t (lo + n)) = true := h
    generalize hc : zget d t (lo + n) = c at h
    obtain ⟨kd', len', x'⟩ := c
    have h : cond (Nat.beq kd kd') (cond (Nat.beq len len') (cond (Nat.beq x x') (zalr d t kd len x lo n) false) false) false = true := h
    obtain ⟨h1, h⟩ := zcnd_t h
    obtain ⟨h2, h⟩ := zcnd_t h
    obtain ⟨h3, h⟩ := zcnd_t h
    rcases Nat.lt_succ_iff_lt_or_eq.mp hm with q | rfl
    · exact zalr_t h m q
    · rw [hc, Nat.eq_of_beq_eq_true h1, Nat.eq_of_beq_eq_true h2, Nat.eq_of_beq_eq_true h3]
noncomputable def zcr {d : Nat} (h : zH d) (S : List zV) (K : Nat → Nat → Nat → List zV → Bool) : Bool := List.rec (motive := fun _ => Bool) false (fun v S _ => Sum.rec (motive := fun _ => Bool) (fun _ => false) (fun u => Sum.rec (motive := fun _ => Bool) (fun r => zat h r (fun _ _ _ kd len x => K kd len x S)) (fun w => Sum.rec (motive := fun _ => Bool) (fun _ => false) (fun m => cond (Nat.ble 1152921504606846976 m) false (Prod.rec (motive := fun _ => Bool) (fun kd v => Prod.rec (motive := fun _ => Bool) (fun len x => cond (zalr d h.1 kd len x (Nat.mod m 1048576) (Nat.sub (Nat.div m 1048576) (Nat.mod m 1048576))) (K kd len x S) false) v) (zget d h.1 (Nat.mod m 1048576)))) w) u) v) S
theorem zcr_t [zGh] [zCh] {d : Nat} {cA : Nat → ClassId} {h : zH d} {ws : va_W} {S : List zV} {st : List Value} {K : Nat → Nat → Nat → List zV → Bool} (hk : zcr h S K = true) (hst : zRepL (zad cA ws) S st) (hH : zHp cA h ws) : ∃ (kd len x : Nat) (S' : List zV) (st' : List Value) (a : Nat) (e : va_E) (j : Nat), K kd len x S' = true ∧ st = .ref a :: st' ∧ zRepL (zad cA ws) S' st' ∧ ws[j]? = some (a, e) ∧ zget d h.1 j = (kd, len, x) ∧ zCell cA (zad cA ws) (kd, len, x) e := by
  match S, hk, hst with
  | .inr (.inl r) :: S, hk, hst =>
    obtain ⟨o, st', rfl, ho, hst2⟩ := zRepL_R hst
    have hk : zat h r (fun _ _ _ kd len x => K kd len x S) = true := hk
    obtain ⟨j, kd, len, x, rfl, hg, hk2⟩ := zat_t hk
    obtain ⟨a, e, rfl, hwi, hcell⟩ := zat_w hH ho
    rw [hg] at hcell
    exact ⟨kd, len, x, S, st', a, e, j, hk2, rfl, hst2, hwi, hg, hcell⟩
  | .inr (.inr (.inr m)) :: S, hk, hst =>
    match st, hst with
    | v :: st', ⟨hv, hst2⟩ =>
      have hk : cond (Nat.ble 1152921504606846976 m) false (Prod.rec (motive := fun _ => Bool) (fun kd v => Prod.rec (motive := fun _ => Bool) (fun len x => cond (zalr d h.1 kd len x (Nat.mod m 1048576) (Nat.sub (Nat.div m 1048576) (Nat.mod m 1048576))) (K kd len x S) false) v) (zget d h.1 (Nat.mod m 1048576))) = true := hk
      cases h1 : Nat.ble 1152921504606846976 m
      · rw [h1, cond_false] at hk
        generalize zget d h.1 (Nat.mod m 1048576) = c at hk
        obtain ⟨kd, len, x⟩ := c
        obtain ⟨h2, hk⟩ := zcnd_t hk
        rcases hv with ⟨-, k, a, g1, g2, g3, rfl⟩ | ⟨g, -⟩
        · obtain ⟨e, he⟩ := zad_at g3
          have hg : zget d h.1 k = (kd, len, x) := by
            have key := zalr_t h2 (k - m % 1048576) (by show k - m % 1048576 < m / 1048576 - m % 1048576; omega)
            have e1 : Nat.mod m 1048576 + (k - m % 1048576) = k := by show m % 1048576 + (k - m % 1048576) = k; omega
            rw [e1] at key
            exact key
          have hcell := hH.2.2 k _ he
          rw [hg] at hcell
          exact ⟨kd, len, x, S, st', a, e, k, hk, rfl, hst2, he, hg, hcell⟩
        · exact absurd (zble_f h1) (by omega)
      · rw [h1] at hk; cases hk
/-- what stands anywhere in an array -/
def zjo (len x : Nat) : Nat := cond (Nat.beq x (zun 40 len (zwd 40 x 0))) (zwd 40 x 0) 4294967296
theorem zun_at {len x j : Nat} (h : Nat.beq x (zun 40 len (zwd 40 x 0)) = true) (hj : j < len) : zwd 40 x j = zwd 40 x 0 := by
  have := congrArg (fun z => zwd 40 z j) (Nat.eq_of_beq_eq_true h)
  exact this.trans (zun_wd 40 len _ j (by decide) (zwd_lt _ _ _) hj)
theorem zjo_ok [zGh] {len x j : Nat} {f : Nat → Int32} (hf : zAI len x f) (hj : j < len) : zIs (zjo len x) (f j) := by
  unfold zjo
  cases h : Nat.beq x (zun 40 len (zwd 40 x 0))
  · exact zIs_u _
  · rw [cond_true, ← zun_at h hj]
    exact zIs_a (hf j hj) (zwd_lt _ _ _)
section OPS
variable {d : Nat} {X : zM} {fr : Nat} {P : zP d} {pc pc' tgt : Nat} {k : zK d}
/-- any reference from a local, and into one -/
noncomputable def xaldV (n : Nat) (k : zK d) : zK d := fun L S h => znth n L (fun v => Sum.rec (motive := fun _ => Bool) (fun _ => false) (fun u => Sum.rec (motive := fun _ => Bool) (fun a => k L (zR a :: S) h) (fun w => Sum.rec (motive := fun _ => Bool) (fun _ => false) (fun m => cond (Nat.beq m 0) false (k L (zW m :: S) h)) w) u) v)
theorem zW_rf [zGh] {ad : zA} {m : Nat} {x : Value} (h : zRep ad (zW m) x) : ∃ o : Option Nat, x = va_rf o := by
  rcases h with ⟨-, k, a, -, -, -, rfl⟩ | ⟨-, rfl⟩
  · exact ⟨some a, rfl⟩
  · exact ⟨_, rfl⟩
theorem sm_aldV [G : zGh] {n : Nat} (row : ∀ {p : Program} {l : Launch} {e : Env} {R : Room} {s : State} {m : MethodId} {args : Array Value} {below : List Frame} {meth : Method} {c : Code} {H : Heap} {locs : List Loc} {cells slots : Nat} {Q : State → Prop} {ls : Array Slot} {rest : List Value} {o : Option Nat}, p.tables.exec = Jvm.exec → c.code = X.2.1 → ls[n]? = some (.val (va_rf o)) → W p l e R s m args below meth c H locs cells slots Q (F0 m pc' ls (va_rf o :: rest)) → W p l e R s m args below meth c H locs cells slots Q (F0 m pc ls rest)) (hs : zSim X fr P pc' k) : zSim X fr P pc (xaldV n k) := by
  intro Ch cA D ad0 A MC MS p l e s m args below meth c ls st H locs cells slots L S h Cx hk R0
  obtain ⟨ws, hHp, hpre, hP, hD, hS, hL, hst, hcb, hsb⟩ := R0
  obtain ⟨v, hv, hk2⟩ := znth_t n hk
  match v, hv, hk2 with
  | .inr (.inl a), hv, hk2 =>
    obtain ⟨x, hx, i, rfl, hi⟩ := zLoc_at hL hv (by intro q; cases q)
    exact row Cx.1 Cx.2.1 hx (hs Ch cA D ad0 A MC MS p l e s m args below meth c ls _ H locs cells slots L _ h Cx hk2 ⟨ws, hHp, hpre, hP, hD, hS, hL, ⟨⟨i, rfl, hi⟩, hst⟩, hcb, hsb⟩)
  | .inr (.inr (.inr w)), hv, hk2 =>
    have hk2 : cond (Nat.beq w 0) false (k L (zW w :: S) h) = true := hk2
    cases hb : Nat.beq w 0
    · rw [hb, cond_false] at hk2
      obtain ⟨x, hx, hr⟩ := zLoc_at hL hv (by intro q; cases q; cases hb)
      obtain ⟨o, rfl⟩ := zW_rf hr
      exact row Cx.1 Cx.2.1 hx (hs Ch cA D ad0 A MC MS p l e s m args below meth c ls _ H locs cells slots L _ h Cx hk2 ⟨ws, hHp, hpre, hP, hD, hS, hL, ⟨hr, hst⟩, hcb, hsb⟩)
    · rw [hb] at hk2; cases hk2
theorem sm_aloadV_n [G : zGh] {n : Nat} {f : Fin 4} (dg : decode X.2.1 pc = .ok (.aload_n f, 1)) (hf : (f : Nat) = n) (hs : zSim X fr P (pc + 1) k) : zSim X fr P pc (xaldV n k) := sm_aldV (fun {_ _ _ _ _ _ _ _ _ _ _ _ _ _ _ _ _ o} hx hb hl kk => by
  cases o with
  | none => exact lv_aload_nN hx hb dg hf hl kk
  | some a => exact lv_aload_n hx hb dg hf hl kk) hs
theorem sm_aloadV [G : zGh] {n : Nat} (dg : decode X.2.1 pc = .ok (.aload n, 2)) (hs : zSim X fr P (pc + 2) k) : zSim X fr P pc (xaldV n k) := sm_aldV (fun {_ _ _ _ _ _ _ _ _ _ _ _ _ _ _ _ _ o} hx hb hl kk => by
  cases o with
  | none => exact lv_aloadN hx hb dg hl kk
  | some a => exact lv_aload hx hb dg hl kk) hs
noncomputable def xastV (n : Nat) (k : zK d) : zK d := fun L S h => List.rec (motive := fun _ => Bool) false (fun v S _ => Sum.rec (motive := fun _ => Bool) (fun _ => false) (fun u => Sum.rec (motive := fun _ => Bool) (fun a => zst n (zR a) L (fun L => k L S h)) (fun w => Sum.rec (motive := fun _ => Bool) (fun _ => false) (fun m => cond (Nat.beq m 0) false (zst n (zW m) L (fun L => k L S h))) w) u) v) S
theorem sm_astV [G : zGh] {n : Nat} (row : ∀ {p : Program} {l : Launch} {e : Env} {R : Room} {s : State} {m : MethodId} {args : Array Value} {below : List Frame} {meth : Method} {c : Code} {H : Heap} {locs : List Loc} {cells slots : Nat} {Q : State → Prop} {ls : Array Slot} {rest : List Value} {o : Option Nat} {nL : Nat} {lv : List (Nat × Value)}, p.tables.exec = Jvm.exec → c.code = X.2.1 → lv_has ls nL lv → n < nL → (∀ ls' : Array Slot, lv_has ls' nL ((n, va_rf o) :: lv.filter (fun q => !(q.1 == n) && !(q.1 + 1 == n && q.2.category == 2))) → W p l e R s m args below meth c H locs cells slots Q (F0 m pc' ls' rest)) → W p l e R s m args below meth c H locs cells slots Q (F0 m pc ls (va_rf o :: rest))) (hs : zSim X fr P pc' k) : zSim X fr P pc (xastV n k) := by
  intro Ch cA D ad0 A MC MS p l e s m args below meth c ls st H locs cells slots L S h Cx hk R0
  obtain ⟨ws, hHp, hpre, hP, hD, hS, hL, hst, hcb, hsb⟩ := R0
  have fin : ∀ (v : zV) (S : List zV) (st : List Value) (o : Option Nat), zst n v L (fun L => k L S h) = true → zRep (zad cA ws) v (va_rf o) → zRepL (zad cA ws) S st → W p l e (zRm fr MC MS) s m args below meth c H locs cells slots (MQ below (zQc P cA D ad0 A) args s MC MS A) (F0 m pc ls (va_rf o :: st)) := by
    intro v S st o hk hv hst
    obtain ⟨L', hlen, hn, hz, hk⟩ := zst_t n hk
    obtain ⟨hLn, lv, hlv, hall⟩ := hL
    refine row Cx.1 Cx.2.1 hlv (by rw [← hLn]; exact hn) (fun ls' hls => ?_)
    exact hs Ch cA D ad0 A MC MS p l e s m args below meth c ls' _ H locs cells slots L' _ h Cx hk ⟨ws, hHp, hpre, hP, hD, hS, zLoc_set1 (by rw [hlen]; exact hLn) hz hall (Or.inr hv) hls, hst, hcb, hsb⟩
  match S, hk, st, hst with
  | .inr (.inl a) :: S, hk, v :: st, ⟨⟨o, hv, hr⟩, hst⟩ =>
    subst hv
    exact fin _ S st o hk ⟨o, rfl, hr⟩ hst
  | .inr (.inr (.inr w)) :: S, hk, v :: st, ⟨hv, hst⟩ =>
    have hk : cond (Nat.beq w 0) false (zst n (zW w) L (fun L => k L S h)) = true := hk
    cases hb : Nat.beq w 0
    · rw [hb, cond_false] at hk
      obtain ⟨o, rfl⟩ := zW_rf hv
      exact fin _ S st o hk hv hst
    · rw [hb] at hk; cases hk
theorem sm_astoreV_n [G : zGh] {n : Nat} {f : Fin 4} (dg : decode X.2.1 pc = .ok (.astore_n f, 1)) (hf : (f : Nat) = n) (hs : zSim X fr P (pc + 1) k) : zSim X fr P pc (xastV n k) := sm_astV (fun {_ _ _ _ _ _ _ _ _ _ _ _ _ _ _ _ _ o _ _} hx hb h hn kk => by
  cases o with
  | none => exact lv_astore_nN hx hb dg hf h hn rfl kk
  | some a => exact lv_astore_n hx hb dg hf h hn rfl kk) hs
theorem sm_astoreV [G : zGh] {n : Nat} (dg : decode X.2.1 pc = .ok (.astore n, 2)) (hs : zSim X fr P (pc + 2) k) : zSim X fr P pc (xastV n k) := sm_astV (fun {_ _ _ _ _ _ _ _ _ _ _ _ _ _ _ _ _ o _ _} hx hb h hn kk => by
  cases o with
  | none => exact lv_astoreN hx hb dg h hn rfl kk
  | some a => exact lv_astore hx hb dg h hn rfl kk) hs
/-- ints and booleans read -/
noncomputable def xalQ (kc : Nat) (k : zK d) : zK d := fun L S h => zpI S (fun n S => zcr h S (fun kd len x S => cond (Nat.beq kd kc) (cond (Nat.ble 4294967296 n) (cond (Nat.ble (zhi n) len) (zF (fun v => k L (zI v :: S) h) (zjo len x)) false) (cond (Nat.ble len n) false (zF (fun v => k L (zI v :: S) h) (zwd 40 x n)))) false))
theorem sm_alQ [G : zGh] {kc : Nat} (hkc : kc < 2) (row : ∀ {cA : Nat → ClassId} {D : va_G} {p : Program} {l : Launch} {e : Env} {R : Room} {s : State} {m : MethodId} {args : Array Value} {below : List Frame} {meth : Method} {c : Code} {H : Heap} {locs : List Loc} {cells slots : Nat} {Q : State → Prop} {ls : Array Slot} {rest : List Value} {ws : va_W} {a n q0 : Nat} {f : Nat → Int32} {i : Int32}, p.tables.exec = Jvm.exec → c.code = X.2.1 → va_K D zcl (zty cA) s → va_P D zcl ws H → ws[q0]? = some (a, .inl (cA kc, n, .inl f)) → vp_in i n → W p l e R s m args below meth c H locs cells slots Q (F0 m pc' ls (.int (f i.toNatClampNeg) :: rest)) → W p l e R s m args below meth c H locs cells slots Q (F0 m pc ls (.int i :: .ref a :: rest))) (hs : zSim X fr P pc' k) : zSim X fr P pc (xalQ kc k) := by
  intro Ch cA D ad0 A MC MS p l e s m args below meth c ls st H locs cells slots L S h Cx hk R0
  obtain ⟨ws, hHp, hpre, hP, hD, hS, hL, hst, hcb, hsb⟩ := R0
  obtain ⟨n, S, rfl, hk1⟩ := zpI_t hk
  obtain ⟨i, st, rfl, hi, hst1⟩ := zRepL_I hst
  obtain ⟨kd, len, x, S', st', a, en, j, hk2, rfl, hst2, hwi, hg, hcell⟩ := zcr_t hk1 hst1 hHp
  obtain ⟨hb, hk3⟩ := zcnd_t hk2
  clear hk2
  have hb2 := Nat.eq_of_beq_eq_true hb
  subst hb2
  obtain ⟨hlen, f, rfl, hf⟩ := zCell_i hcell hkc
  cases hb3 : Nat.ble 4294967296 n
  · rw [hb3, cond_false] at hk3
    cases hbl : Nat.ble len n
    · rw [hbl, cond_false, zF_eq] at hk3
      obtain ⟨g1, g2, g3⟩ := zi_idx hi.1 hlen hbl
      exact row Cx.1 Cx.2.1 Cx.2.2.2.2.2.1 hP hwi g1 (hs Ch cA D ad0 A MC MS p l e s m args below meth c ls _ H locs cells slots L _ h Cx hk3 ⟨ws, hHp, hpre, hP, hD, hS, hL, ⟨⟨_, rfl, by rw [g2]; exact zIs_a (hf n g3) (zwd_lt _ _ _)⟩, hst2⟩, hcb, hsb⟩)
    · rw [hbl] at hk3; cases hk3
  · rw [hb3, cond_true] at hk3
    obtain ⟨hh, hk4⟩ := zcnd_t hk3
    clear hk3
    rw [zF_eq] at hk4
    obtain ⟨g1, g2, g3⟩ := zi_idxR hi hlen (Nat.le_of_ble_eq_true hh)
    exact row Cx.1 Cx.2.1 Cx.2.2.2.2.2.1 hP hwi g1 (hs Ch cA D ad0 A MC MS p l e s m args below meth c ls _ H locs cells slots L _ h Cx hk4 ⟨ws, hHp, hpre, hP, hD, hS, hL, ⟨⟨_, rfl, by rw [g2]; exact zjo_ok hf g3⟩, hst2⟩, hcb, hsb⟩)
theorem sm_ialoadQ [G : zGh] (dg : decode X.2.1 pc = .ok (.iaload, 1)) (hs : zSim X fr P (pc + 1) k) : zSim X fr P pc (xalQ 0 k) := sm_alQ (by decide) (fun hx hb hK hP ha hin kk => va_iald hx hb hK hP _ 0 ha rfl hin dg kk) hs
theorem sm_baloadQ [G : zGh] (dg : decode X.2.1 pc = .ok (.baload, 1)) (hs : zSim X fr P (pc + 1) k) : zSim X fr P pc (xalQ 1 k) := sm_alQ (by decide) (fun hx hb hK hP ha hin kk => va_zald hx hb hK hP _ 1 ha rfl hin dg kk) hs
/-- ints and booleans written where all words are alike -/
noncomputable def xasU (kc : Nat) (g : Nat → Nat) (k : zK d) : zK d := fun L S h => zpI S (fun v S => zpI S (fun n S => zcr h S (fun kd len x S => cond (Nat.beq kd kc) (cond (Nat.ble (zhi n) len) (cond (Nat.beq x (zun 40 len (zwd 40 x 0))) (cond (zsubI (zcap (g v)) (zwd 40 x 0)) (k L S h) false) false) false) false)))
theorem sm_asU [G : zGh] {kc : Nat} {g : Nat → Nat} {Gf : Int32 → Int32} (hkc : kc < 2) (hg : ∀ {a : Nat} {x : Int32}, zIs a x → zIs (g a) (Gf x)) (row : ∀ {cA : Nat → ClassId} {D : va_G} {p : Program} {l : Launch} {e : Env} {R : Room} {s : State} {m : MethodId} {args : Array Value} {below : List Frame} {meth : Method} {c : Code} {H H0 : Heap} {A : Nat → Prop} {locs : List Loc} {cells slots : Nat} {Q : State → Prop} {ls : Array Slot} {rest : List Value} {ws : va_W} {a n q0 : Nat} {f : Nat → Int32} {i x : Int32}, p.tables.exec = Jvm.exec → c.code = X.2.1 → va_K D zcl (zty cA) s → va_P D zcl ws H → va_D A ws → va_S A H0 H locs → ws[q0]? = some (a, .inl (cA kc, n, .inl f)) → vp_in i n → (∀ (H1 : Heap) (locs1 : List Loc), va_P D zcl (ws.set q0 (a, .inl (cA kc, n, .inl (upd f i.toNatClampNeg (Gf x))))) H1 → va_D A (ws.set q0 (a, .inl (cA kc, n, .inl (upd f i.toNatClampNeg (Gf x))))) → va_S A H0 H1 locs1 → W p l e R s m args below meth c H1 locs1 cells slots Q (F0 m pc' ls rest)) → W p l e R s m args below meth c H locs cells slots Q (F0 m pc ls (.int x :: .int i :: .ref a :: rest))) (hs : zSim X fr P pc' k) : zSim X fr P pc (xasU kc g k) := by
  intro Ch cA D ad0 A MC MS p l e s m args below meth c ls st H locs cells slots L S h Cx hk R0
  obtain ⟨ws, hHp, hpre, hP, hD, hS, hL, hst, hcb, hsb⟩ := R0
  obtain ⟨v, S, rfl, hk0⟩ := zpI_t hk
  obtain ⟨n, S, rfl, hk1⟩ := zpI_t hk0
  obtain ⟨y, st, rfl, hy, hst0⟩ := zRepL_I hst
  obtain ⟨i, st, rfl, hi, hst1⟩ := zRepL_I hst0
  obtain ⟨kd, len, x, S', st', a, en, j, hk2, rfl, hst2, hwi, hgt, hcell⟩ := zcr_t hk1 hst1 hHp
  obtain ⟨hb, hk3⟩ := zcnd_t hk2
  obtain ⟨hh, hk4⟩ := zcnd_t hk3
  obtain ⟨hu, hk5⟩ := zcnd_t hk4
  obtain ⟨hsv, hk6⟩ := zcnd_t hk5
  clear hk2 hk3 hk4 hk5
  have hb2 := Nat.eq_of_beq_eq_true hb
  subst hb2
  obtain ⟨hlen, f, rfl, hf⟩ := zCell_i hcell hkc
  obtain ⟨g1, g2, g3⟩ := zi_idxR hi hlen (Nat.le_of_ble_eq_true hh)
  refine row Cx.1 Cx.2.1 Cx.2.2.2.2.2.1 hP hD hS hwi g1 (fun H1 locs1 hP1 hD1 hS1 => ?_)
  have hz := zad_set (cA := cA) (e' := .inl (cA kd, len, .inl (upd f i.toNatClampNeg (Gf y)))) hwi
  have hnew : zAI len x (upd f i.toNatClampNeg (Gf y)) := by
    intro j' hj'
    by_cases q : j' = i.toNatClampNeg
    · subst q
      rw [pk_us, zun_at hu hj']
      exact zsubI_a (zcap_lt _) (zwd_lt _ _ _) hsv (zcap_ok (hg hy))
    · rw [pk_un q]
      exact hf j' hj'
  have hH2 := zHp_set hHp hwi (c' := (kd, len, x)) (e' := .inl (cA kd, len, .inl (upd f i.toNatClampNeg (Gf y)))) (zCell_ik hkc hlen hnew)
  rw [← hgt, zset_get] at hH2
  exact hs Ch cA D ad0 A MC MS p l e s m args below meth c ls _ H1 locs1 cells slots L _ h Cx hk6 ⟨_, hH2, by rw [hz]; exact hpre, hP1, hD1, hS1, by rw [hz]; exact hL, by rw [hz]; exact hst2, hcb, hsb⟩
/-- whether place and array are known -/
noncomputable def zkn (S : List zV) : Bool := zpI S (fun _ S => zpI S (fun n S => zpR S (fun _ _ => Nat.ble n 4294967295)))
noncomputable def xasQ (kc : Nat) (g : Nat → Nat) (k : zK d) : zK d := fun L S h => cond (zkn S) (xast1 kc g k L S h) (xasU kc g k L S h)
theorem sm_or [G : zGh] {b : List zV → Bool} {k1 k2 : zK d} (h1 : zSim X fr P pc k1) (h2 : zSim X fr P pc k2) : zSim X fr P pc (fun L S h => cond (b S) (k1 L S h) (k2 L S h)) := by
  intro Ch cA D ad0 A MC MS p l e s m args below meth c ls st H locs cells slots L S h Cx hk R0
  have hk : cond (b S) (k1 L S h) (k2 L S h) = true := hk
  cases hb : b S
  · rw [hb] at hk
    exact h2 Ch cA D ad0 A MC MS p l e s m args below meth c ls st H locs cells slots L S h Cx hk R0
  · rw [hb] at hk
    exact h1 Ch cA D ad0 A MC MS p l e s m args below meth c ls st H locs cells slots L S h Cx hk R0
theorem sm_iastoreQ [G : zGh] (dg : decode X.2.1 pc = .ok (.iastore, 1)) (hs : zSim X fr P (pc + 1) k) : zSim X fr P pc (xasQ 0 (fun v => v) k) := sm_or (sm_iastore dg hs) (sm_asU (Gf := fun x => x) (by decide) (fun h => h) (fun hx hb hK hP hD hS ha hin kk => va_iast hx hb hK hP hD hS _ 0 ha rfl hin dg kk) hs)
theorem sm_bastoreQ [G : zGh] (dg : decode X.2.1 pc = .ok (.bastore, 1)) (hs : zSim X fr P (pc + 1) k) : zSim X fr P pc (xasQ 1 (fun v => zand v 1) k) := sm_or (sm_bastore dg hs) (sm_asU (Gf := fun x => vp_nar .boolean x) (by decide) (fun {a x} h => by rw [vp_nar_bool]; exact zIs_of (zand_ok h.1 (fun _ => zi_p1)) (zand_le _ _)) (fun hx hb hK hP hD hS ha hin kk => va_zast hx hb hK hP hD hS _ 1 ha rfl hin dg kk) hs)
/-- a row of rows that may lie in any order -/
noncomputable def xaa12 (k : zK d) : zK d := fun L S h => zpI S (fun n S => zpR S (fun r S => zat h r (fun _ _ _ kd len x => cond (Nat.beq kd 12) (cond (Nat.ble (zhi n) len) (cond (Nat.ble 1152921504606846976 x) false (k L (zW x :: S) h)) false) false)))
theorem sm_aa12 [G : zGh] (dg : decode X.2.1 pc = .ok (.aaload, 1)) (hs : zSim X fr P (pc + 1) k) : zSim X fr P pc (xaa12 k) := by
  intro Ch cA D ad0 A MC MS p l e s m args below meth c ls st H locs cells slots L S h Cx hk R0
  obtain ⟨ws, hHp, hpre, hP, hD, hS, hL, hst, hcb, hsb⟩ := R0
  obtain ⟨n, S, rfl, hk1⟩ := zpI_t hk
  obtain ⟨r, S, rfl, hk2⟩ := zpR_t hk1
  obtain ⟨i, st, rfl, hi, hst1⟩ := zRepL_I hst
  obtain ⟨o, st, rfl, ho, hst2⟩ := zRepL_R hst1
  obtain ⟨j, kd, len, x, rfl, hg, hk3⟩ := zat_t hk2
  obtain ⟨a, en, rfl, hwi, hcell⟩ := zat_w hHp ho
  rw [hg] at hcell
  obtain ⟨hb, hk4⟩ := zcnd_t hk3
  obtain ⟨hh, hk5⟩ := zcnd_t hk4
  clear hk3 hk4
  have hb2 := Nat.eq_of_beq_eq_true hb
  subst hb2
  cases hb3 : Nat.ble 1152921504606846976 x
  · rw [hb3, cond_false] at hk5
    obtain ⟨hlen, f, rfl, hf⟩ : len < 2147483648 ∧ ∃ f : Nat → Option Nat, en = .inl (cA 3, len, .inr (.inr (.inr (.inr f)))) ∧ zRs (zad cA ws) len x f := by
      rcases hcell with ⟨g, -⟩ | ⟨g, -⟩ | ⟨-, -, g3, ⟨g4, -⟩ | ⟨-, f, g5, g6⟩⟩ | ⟨-, g, -⟩ | ⟨g, -⟩
      · exact absurd (show 12 < 2 from g) (by decide)
      · exact absurd (show 12 = 2 from g) (by decide)
      · exact absurd (show 12 < 12 from g4) (by decide)
      · exact ⟨g3, f, g5, g6⟩
      · exact absurd (show 12 < 8 from g) (by decide)
      · exact absurd (show 16 ≤ 12 from g) (by decide)
    obtain ⟨g1, g2, g3⟩ := zi_idxR hi hlen (Nat.le_of_ble_eq_true hh)
    obtain ⟨k0, a0, r1, r2, r3, r4⟩ := hf (zi i) g3
    have hlt : i.toNatClampNeg < len := by rw [g2]; exact g3
    exact W.aald (v := va_rf (f i.toNatClampNeg)) (ty := .array .int) Cx.1 Cx.2.1 (hP j _ hwi) ((Cx.2.2.2.2.2.1.2 3 _ rfl).1 len (fun j => va_rf (f j))) rfl (fun q => by cases q) (by show ¬ (i < 0 ∨ (arrV _ _ _).slots.size ≤ _); rw [arrV_size]; exact g1) (by show (arrV _ _ _).slots[_]? = _; rw [arrV_read _ _ hlt]) rfl rfl dg (hs Ch cA D ad0 A MC MS p l e s m args below meth c ls _ H locs cells slots L _ h Cx hk5 ⟨ws, hHp, hpre, hP, hD, hS, hL, ⟨Or.inl ⟨zble_f hb3, k0, a0, r1, r2, r3, by rw [g2, r4]; rfl⟩, hst2⟩, hcb, hsb⟩)
  · rw [hb3] at hk5; cases hk5
noncomputable def zk12 (h : zH d) (S : List zV) : Bool := zpI S (fun _ S => zpR S (fun r _ => zat h r (fun _ _ _ kd _ _ => Nat.beq kd 12)))
noncomputable def xaaQ (k : zK d) : zK d := fun L S h => cond (zk12 h S) (xaa12 k L S h) (xaal k L S h)
theorem sm_or2 [G : zGh] {b : zH d → List zV → Bool} {k1 k2 : zK d} (h1 : zSim X fr P pc k1) (h2 : zSim X fr P pc k2) : zSim X fr P pc (fun L S h => cond (b h S) (k1 L S h) (k2 L S h)) := by
  intro Ch cA D ad0 A MC MS p l e s m args below meth c ls st H locs cells slots L S h Cx hk R0
  have hk : cond (b h S) (k1 L S h) (k2 L S h) = true := hk
  cases hb : b h S
  · rw [hb] at hk
    exact h2 Ch cA D ad0 A MC MS p l e s m args below meth c ls st H locs cells slots L S h Cx hk R0
  · rw [hb] at hk
    exact h1 Ch cA D ad0 A MC MS p l e s m args below meth c ls st H locs cells slots L S h Cx hk R0
theorem sm_aaloadQ [G : zGh] (dg : decode X.2.1 pc = .ok (.aaload, 1)) (hs : zSim X fr P (pc + 1) k) : zSim X fr P pc (xaaQ k) := sm_or2 (sm_aa12 dg hs) (sm_aaload dg hs)
end OPS
