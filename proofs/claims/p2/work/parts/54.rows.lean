/-! rows that lie side by side, at a place within bounds; rows stored; symbols for any number; longs against 0 -/
section OPS
variable {d : Nat} {X : zM} {fr : Nat} {P : zP d} {pc pc' tgt : Nat} {off : Int} {k kt kf : zK d}
noncomputable def xaa3 (k : zK d) : zK d := fun L S h => zpI S (fun n S => zpR S (fun r S => zat h r (fun _ _ _ kd len x => cond (Nat.beq kd 3) (cond (Nat.ble (zhi n) len) (cond (Nat.ble len 1000) (cond (Nat.ble (zwd 40 x 0) 1000000) (cond (zall len (fun j => Nat.beq (zwd 40 x j) (Nat.add (zwd 40 x 0) j))) (cond (Nat.ble 1 (zwd 40 x 0)) (zF (fun v => k L (zW v :: S) h) (Nat.add (Nat.pred (zwd 40 x 0)) (Nat.mul 1048576 (Nat.add (Nat.pred (zwd 40 x 0)) len)))) false) false) false) false) false) false)))
theorem sm_aa3 [G : zGh] (dg : decode X.2.1 pc = .ok (.aaload, 1)) (hs : zSim X fr P (pc + 1) k) : zSim X fr P pc (xaa3 k) := by
  intro Ch cA D ad0 A MC MS p l e s m args below meth c ls st H locs cells slots L S h Cx hk R0
  obtain ⟨ws, hHp, hpre, hP, hD, hS, hL, hst, hcb, hsb⟩ := R0
  obtain ⟨n, S, rfl, hk1⟩ := zpI_t hk
  obtain ⟨r, S, rfl, hk2⟩ := zpR_t hk1
  obtain ⟨i, st, rfl, hi, hst1⟩ := zRepL_I hst
  obtain ⟨o, st, rfl, ho, hst2⟩ := zRepL_R hst1
  obtain ⟨j, kd, len, x, rfl, hg, hk3⟩ := zat_t hk2
  obtain ⟨a, en, rfl, hwi, hcell⟩ := zat_w hHp ho
  rw [hg] at hcell
  obtain ⟨hb, hk4⟩ := zcnd_t hk3
  obtain ⟨hh, hk5⟩ := zcnd_t hk4
  obtain ⟨h1, hk6⟩ := zcnd_t hk5
  obtain ⟨h2, hk7⟩ := zcnd_t hk6
  obtain ⟨h3, hk8⟩ := zcnd_t hk7
  obtain ⟨h4, hk9⟩ := zcnd_t hk8
  clear hk3 hk4 hk5 hk6 hk7 hk8
  rw [zF_eq] at hk9
  have hb2 := Nat.eq_of_beq_eq_true hb
  subst hb2
  obtain ⟨hlen, f, rfl, hf⟩ := zCell_r hcell (by decide) (by decide)
  obtain ⟨g1, g2, g3⟩ := zi_idxR hi hlen (Nat.le_of_ble_eq_true hh)
  have e1 := Nat.le_of_ble_eq_true h1
  have e2 := Nat.le_of_ble_eq_true h2
  have e4 := Nat.le_of_ble_eq_true h4
  have ew : zwd 40 x (zi i) = zwd 40 x 0 + zi i := Nat.eq_of_beq_eq_true (zall_t h3 (zi i) g3)
  have hfi := hf (zi i) g3
  rw [ew] at hfi
  generalize hw0 : zwd 40 x 0 = w at *
  obtain ⟨a0, ha0, hfa⟩ : ∃ a0, (zad cA ws).1[w - 1 + zi i]? = some a0 ∧ f (zi i) = some a0 := by
    rcases hfi with ⟨-, ⟨z, -⟩ | ⟨k0, a0, z1, z2, z3⟩⟩ | ⟨z, -⟩
    · omega
    · have : k0 = w - 1 + zi i := by omega
      rw [this] at z2
      exact ⟨a0, z2, z3⟩
    · omega
  have hlt : i.toNatClampNeg < len := by rw [g2]; exact g3
  have hv : Nat.add (Nat.pred w) (Nat.mul 1048576 (Nat.add (Nat.pred w) len)) = (w - 1) + 1048576 * (w - 1 + len) := rfl
  rw [hv] at hk9
  have m1 : ((w - 1) + 1048576 * (w - 1 + len)) % 1048576 = w - 1 := by omega
  have m2 : ((w - 1) + 1048576 * (w - 1 + len)) / 1048576 = w - 1 + len := by omega
  exact W.aald (v := va_rf (f i.toNatClampNeg)) (ty := .array .int) Cx.1 Cx.2.1 (hP j _ hwi) ((Cx.2.2.2.2.2.1.2 3 _ rfl).1 len (fun j => va_rf (f j))) rfl (fun q => by cases q) (by show ¬ (i < 0 ∨ (arrV _ _ _).slots.size ≤ _); rw [arrV_size]; exact g1) (by show (arrV _ _ _).slots[_]? = _; rw [arrV_read _ _ hlt]) rfl rfl dg (hs Ch cA D ad0 A MC MS p l e s m args below meth c ls _ H locs cells slots L _ h Cx hk9 ⟨ws, hHp, hpre, hP, hD, hS, hL, ⟨Or.inl ⟨by omega, w - 1 + zi i, a0, by rw [m1]; omega, by rw [m2]; omega, ha0, by rw [g2, hfa]; rfl⟩, hst2⟩, hcb, hsb⟩)
noncomputable def zk3 (h : zH d) (S : List zV) : Bool := zpI S (fun n S => cond (Nat.ble 4294967296 n) (zpR S (fun r _ => zat h r (fun _ _ _ kd _ _ => Nat.beq kd 3))) false)
noncomputable def xaaT (k : zK d) : zK d := fun L S h => cond (zk3 h S) (xaa3 k L S h) (xaaQ k L S h)
theorem sm_aaloadT [G : zGh] (dg : decode X.2.1 pc = .ok (.aaload, 1)) (hs : zSim X fr P (pc + 1) k) : zSim X fr P pc (xaaT k) := sm_or2 (sm_aa3 dg hs) (sm_aaloadQ dg hs)
/-- dup2 of a reference and a place -/
noncomputable def zp1V (S : List zV) (k : zV → List zV → Bool) : Bool := List.rec (motive := fun _ => Bool) false (fun v t _ => Sum.rec (motive := fun _ => Bool) (fun n => k (zI n) t) (fun u => Sum.rec (motive := fun _ => Bool) (fun n => k (zR n) t) (fun w => Sum.rec (motive := fun _ => Bool) (fun _ => false) (fun m => k (zW m) t) w) u) v) S
theorem zp1V_t [G : zGh] {S : List zV} {k : zV → List zV → Bool} (h : zp1V S k = true) : ∃ v t, S = v :: t ∧ (∀ ad x, zRep ad v x → x.category = 1) ∧ k v t = true := by
  match S, h with
  | .inl n :: t, h => exact ⟨_, t, rfl, fun ad x ⟨i, e, _⟩ => by rw [e]; rfl, h⟩
  | .inr (.inl n) :: t, h => exact ⟨_, t, rfl, fun ad x ⟨o, e, _⟩ => by rw [e]; cases o <;> rfl, h⟩
  | .inr (.inr (.inr n)) :: t, h => exact ⟨_, t, rfl, fun ad x hx => by obtain ⟨o, rfl⟩ := zW_rf hx; cases o <;> rfl, h⟩
noncomputable def xdup2V (k : zK d) : zK d := fun L S h => zp1V S (fun v t => zp1V t (fun w u => k L (v :: w :: v :: w :: u) h))
theorem sm_dup2V [G : zGh] (dg : decode X.2.1 pc = .ok (.dup2, 1)) (hs : zSim X fr P (pc + 1) k) : zSim X fr P pc (xdup2V k) := sm_go (fun ad L S h st hk hst => by
  obtain ⟨v, S, rfl, hv, hk1⟩ := zp1V_t hk
  obtain ⟨w, S, rfl, hw, hk2⟩ := zp1V_t hk1
  obtain ⟨x, st, rfl, hx, hst⟩ := zRepL_c hst
  obtain ⟨y, st, rfl, hy, hst⟩ := zRepL_c hst
  exact ⟨_, [x, y], [x, y, x, y], st, hk2, rfl, (fun hx' hb kk => lv_dup2_11 hx' hb dg (hv _ _ hx) (hw _ _ hy) kk), ⟨hx, hy, hx, hy, hst⟩⟩) hs
/-- a row into rows that may lie in any order -/
noncomputable def xas12 (k : zK d) : zK d := fun L S h => List.rec (motive := fun _ => Bool) false (fun v S0 _ => Sum.rec (motive := fun _ => Bool) (fun _ => false) (fun u => Sum.rec (motive := fun _ => Bool) (fun r => zcr h S (fun kv _ _ _ => cond (Nat.beq kv 0) (zpI S0 (fun n S1 => zpR S1 (fun ra S2 => zat h ra (fun _ _ _ kd len x => cond (Nat.beq kd 12) (cond (Nat.ble (zhi n) len) (cond (Nat.ble (Nat.succ (Nat.mod x 1048576)) r) (cond (Nat.ble r (Nat.div x 1048576)) (k L S2 h) false) false) false) false)))) false)) (fun w => Sum.rec (motive := fun _ => Bool) (fun _ => false) (fun m => zcr h S (fun kv _ _ _ => cond (Nat.beq kv 0) (zpI S0 (fun n S1 => zpR S1 (fun ra S2 => zat h ra (fun _ _ _ kd len x => cond (Nat.beq kd 12) (cond (Nat.ble (zhi n) len) (cond (Nat.beq m x) (k L S2 h) false) false) false)))) false)) w) u) v) S
theorem zcr_t2 [zGh] [zCh] {cA : Nat → ClassId} {h : zH d} {ws : va_W} {v : zV} {S : List zV} {st : List Value} {K : Nat → Nat → Nat → List zV → Bool} (hk : zcr h (v :: S) K = true) (hst : zRepL (zad cA ws) (v :: S) st) (hH : zHp cA h ws) : ∃ (kd len x : Nat) (st' : List Value) (a : Nat) (e : va_E) (j : Nat), K kd len x S = true ∧ st = .ref a :: st' ∧ zRepL (zad cA ws) S st' ∧ ws[j]? = some (a, e) ∧ zCell cA (zad cA ws) (kd, len, x) e ∧ (v = zR (j + 1) ∨ ∃ m, v = zW m ∧ m % 1048576 ≤ j ∧ j < m / 1048576) := by
  match v, hk, hst with
  | .inr (.inl r), hk, hst =>
    obtain ⟨o, st', rfl, ho, hst2⟩ := zRepL_R hst
    have hk : zat h r (fun _ _ _ kd len x => K kd len x S) = true := hk
    obtain ⟨j, kd, len, x, rfl, hg, hk2⟩ := zat_t hk
    obtain ⟨a, e, rfl, hwi, hcell⟩ := zat_w hH ho
    rw [hg] at hcell
    exact ⟨kd, len, x, st', a, e, j, hk2, rfl, hst2, hwi, hcell, Or.inl rfl⟩
  | .inr (.inr (.inr m)), hk, hst =>
    match st, hst with
    | v :: st', ⟨hv, hst2⟩ =>
      have hk : cond (Nat.ble 1152921504606846976 m) false (Prod.rec (motive := fun _ => Bool) (fun kd v => Prod.rec (motive := fun _ => Bool) (fun len x => cond (zalr d h.1 kd len x (Nat.mod m 1048576) (Nat.sub (Nat.div m 1048576) (Nat.mod m 1048576))) (K kd len x S) false) v) (zget d h.1 (Nat.mod m 1048576))) = true := hk
      cases h1 : Nat.ble 1152921504606846976 m
      · rw [h1, cond_false] at hk
        generalize zget d h.1 (Nat.mod m 1048576) = c at hk
        obtain ⟨kd, len, x⟩ := c
        obtain ⟨h2, hk⟩ := zcnd_t hk
        rcases hv with ⟨-, k, a, g1, g2, g3, rfl⟩ | ⟨g, -⟩
        · obtain ⟨e, he⟩ := zad_at g3
          have hg : zget d h.1 k = (kd, len, x) := by
            have key := zalr_t h2 (k - m % 1048576) (by show k - m % 1048576 < m / 1048576 - m % 1048576; omega)
            have e1 : Nat.mod m 1048576 + (k - m % 1048576) = k := by show m % 1048576 + (k - m % 1048576) = k; omega
            rw [e1] at key
            exact key
          have hcell := hH.2.2 k _ he
          rw [hg] at hcell
          exact ⟨kd, len, x, st', a, e, k, hk, rfl, hst2, he, hcell, Or.inr ⟨m, rfl, g1, g2⟩⟩
        · exact absurd (zble_f h1) (by omega)
      · rw [h1] at hk; cases hk
theorem sm_as12 [G : zGh] (dg : decode X.2.1 pc = .ok (.aastore, 1)) (hs : zSim X fr P (pc + 1) k) : zSim X fr P pc (xas12 k) := by
  intro Ch cA D ad0 A MC MS p l e s m args below meth c ls st H locs cells slots L S h Cx hk R0
  obtain ⟨ws, hHp, hpre, hP, hD, hS, hL, hst, hcb, hsb⟩ := R0
  have fin : ∀ (v : zV) (S0 : List zV) (st : List Value), zRepL (zad cA ws) (v :: S0) st → zcr h (v :: S0) (fun kv _ _ _ => cond (Nat.beq kv 0) (zpI S0 (fun n S1 => zpR S1 (fun ra S2 => zat h ra (fun _ _ _ kd len x => cond (Nat.beq kd 12) (cond (Nat.ble (zhi n) len) (cond (Nat.ble 0 0) (k L S2 h) false) false) false)))) false) = true → (∀ (n ra j0 len x : Nat) (S2 : List zV), S0 = zI n :: zR ra :: S2 → ra = j0 + 1 → zget d h.1 j0 = (12, len, x) → ∀ j, (v = zR (j + 1) ∨ ∃ m, v = zW m ∧ m % 1048576 ≤ j ∧ j < m / 1048576) → x % 1048576 ≤ j ∧ j < x / 1048576) → W p l e (zRm fr MC MS) s m args below meth c H locs cells slots (MQ below (zQc P cA D ad0 A) args s MC MS A) (F0 m pc ls st) := by
    intro v S0 st hst hk hrng
    obtain ⟨kv, lenv, xv, st1, av, ev, jv, hk1, rfl, hst1, hwv, hcv, hvj⟩ := zcr_t2 hk hst hHp
    obtain ⟨q1, hk2⟩ := zcnd_t hk1
    have ekv := Nat.eq_of_beq_eq_true q1
    subst ekv
    obtain ⟨hlv, fv, rfl, -⟩ := zCell_i hcv (by decide)
    obtain ⟨n, S1, e1, hk3⟩ := zpI_t hk2
    subst e1
    obtain ⟨ra, S2, e2, hk4⟩ := zpR_t hk3
    subst e2
    obtain ⟨i, st2, rfl, hi, hst2⟩ := zRepL_I hst1
    obtain ⟨o, st3, rfl, ho, hst3⟩ := zRepL_R hst2
    obtain ⟨j, kd, len, x, rfl, hgt, hk5⟩ := zat_t hk4
    obtain ⟨a, en, rfl, hwi, hcell⟩ := zat_w hHp ho
    rw [hgt] at hcell
    obtain ⟨q2, hk6⟩ := zcnd_t hk5
    obtain ⟨q3, hk7⟩ := zcnd_t hk6
    obtain ⟨-, hk8⟩ := zcnd_t hk7
    clear hk1 hk2 hk3 hk4 hk5 hk6 hk7
    have ekd := Nat.eq_of_beq_eq_true q2
    subst ekd
    obtain ⟨r1, r2⟩ := hrng n (j + 1) j len x S2 rfl rfl hgt jv hvj
    obtain ⟨hlen, f, rfl, hf⟩ : len < 2147483648 ∧ ∃ f : Nat → Option Nat, en = .inl (cA 3, len, .inr (.inr (.inr (.inr f)))) ∧ zRs (zad cA ws) len x f := by
      rcases hcell with ⟨g, -⟩ | ⟨g, -⟩ | ⟨-, -, g3, ⟨g4, -⟩ | ⟨-, f, g5, g6⟩⟩ | ⟨-, g, -⟩ | ⟨g, -⟩
      · exact absurd (show 12 < 2 from g) (by decide)
      · exact absurd (show 12 = 2 from g) (by decide)
      · exact absurd (show 12 < 12 from g4) (by decide)
      · exact ⟨g3, f, g5, g6⟩
      · exact absurd (show 12 < 8 from g) (by decide)
      · exact absurd (show 16 ≤ 12 from g) (by decide)
    obtain ⟨g1, g2, g3⟩ := zi_idxR hi hlen (Nat.le_of_ble_eq_true q3)
    obtain ⟨kA, k1, k2⟩ := zcompI Cx.2.2.2.2.2.1 Cx.2.2.2.2.2.2.2.2.2.2.2.2.2.2.1
    obtain ⟨kC, hkC⟩ : ∃ kC : Class, s.vm.classes[cA 0]? = some kC := by
      obtain ⟨-, kk, hkk, -⟩ := (Cx.2.2.2.2.2.1.2 0 _ rfl).1 0 (fun _ => .null)
      exact ⟨kk, hkk⟩
    have h0 : ¬ i < 0 := fun q => g1 (Or.inl q)
    have hlt : i.toNatClampNeg < len := by rw [g2]; exact g3
    refine W.aast Cx.1 Cx.2.1 (hP j _ hwi) (fun q h => by cases h) (fun h => by cases h) k1 k2 rfl hkC ⟨h0, by show _ < (arrV _ _ _).slots.size; rw [arrV_size]; exact hlt⟩ (hP jv _ hwv) (fun q h => by cases h) hkC (va_asg s.vm (cA 0)) rfl rfl dg fun H1 e1 z oq => ?_
    have hP1 : va_P D zcl (ws.set j (a, .inl (cA 3, len, .inr (.inr (.inr (.inr (va_up f i.toNatClampNeg (some av)))))))) H1 := by
      refine hP.set hD hwi ?_ oq
      show H1[a]? = some (vp_cell _ _)
      rw [e1]
      rw [vp_cell_q, vp_cell_q, arrV_store]
      congr 2
      funext q
      by_cases hq : q = i.toNatClampNeg
      · subst hq
        simp [updV, va_up, va_rf]
      · simp [updV, va_up, hq]
    have hz := zad_set (cA := cA) (e' := .inl (cA 3, len, .inr (.inr (.inr (.inr (va_up f i.toNatClampNeg (some av))))))) hwi
    have hnew : zCell cA (zad cA ws) (12, len, x) (.inl (cA 3, len, .inr (.inr (.inr (.inr (va_up f i.toNatClampNeg (some av))))))) := by
      refine Or.inr (Or.inr (Or.inl ⟨(by decide : 8 ≤ 12), (by decide : 12 < 16), hlen, Or.inr ⟨rfl, _, rfl, fun j' hj' => ?_⟩⟩))
      by_cases hq : j' = i.toNatClampNeg
      · refine ⟨jv, av, r1, r2, ?_, by simp [va_up, hq]⟩
        show (ws.map (fun q => q.1))[jv]? = some av
        rw [List.getElem?_map, hwv]
        rfl
      · obtain ⟨k0, a0, y1, y2, y3, y4⟩ := hf j' hj'
        exact ⟨k0, a0, y1, y2, y3, by simp [va_up, hq]; exact y4⟩
    have hH2 := zHp_set hHp hwi hnew
    rw [← hgt, zset_get] at hH2
    exact hs Ch cA D ad0 A MC MS p l e s m args below meth c ls _ H1 _ cells slots L _ h Cx hk8 ⟨_, hH2, by rw [hz]; exact hpre, hP1, hD.set hwi, hS.put z oq (hD.2 j _ hwi), by rw [hz]; exact hL, by rw [hz]; exact hst3, hcb, hsb⟩
  have key : ∀ (v : zV) (S0 : List zV) (t : Nat → Nat → Bool), zcr h (v :: S0) (fun kv _ _ _ => cond (Nat.beq kv 0) (zpI S0 (fun n S1 => zpR S1 (fun ra S2 => zat h ra (fun _ _ _ kd len x => cond (Nat.beq kd 12) (cond (Nat.ble (zhi n) len) (cond (t len x) (k L S2 h) false) false) false)))) false) = true → zRepL (zad cA ws) (v :: S0) st → zcr h (v :: S0) (fun kv _ _ _ => cond (Nat.beq kv 0) (zpI S0 (fun n S1 => zpR S1 (fun ra S2 => zat h ra (fun _ _ _ kd len x => cond (Nat.beq kd 12) (cond (Nat.ble (zhi n) len) (cond (Nat.ble 0 0) (k L S2 h) false) false) false)))) false) = true ∧ ∀ (n ra j0 len x : Nat) (S2 : List zV), S0 = zI n :: zR ra :: S2 → ra = j0 + 1 → zget d h.1 j0 = (12, len, x) → t len x = true := by
    intro v S0 t hk hst
    have strip : ∀ kv, cond (Nat.beq kv 0) (zpI S0 (fun n S1 => zpR S1 (fun ra S2 => zat h ra (fun _ _ _ kd len x => cond (Nat.beq kd 12) (cond (Nat.ble (zhi n) len) (cond (t len x) (k L S2 h) false) false) false)))) false = true → cond (Nat.beq kv 0) (zpI S0 (fun n S1 => zpR S1 (fun ra S2 => zat h ra (fun _ _ _ kd len x => cond (Nat.beq kd 12) (cond (Nat.ble (zhi n) len) (cond (Nat.ble 0 0) (k L S2 h) false) false) false)))) false = true ∧ ∀ (n ra j0 len x : Nat) (S2 : List zV), S0 = zI n :: zR ra :: S2 → ra = j0 + 1 → zget d h.1 j0 = (12, len, x) → t len x = true := by
      intro kv hk
      obtain ⟨q1, hk2⟩ := zcnd_t hk
      obtain ⟨n, S1, e1, hk3⟩ := zpI_t hk2
      subst e1
      obtain ⟨ra, S2, e2, hk4⟩ := zpR_t hk3
      subst e2
      obtain ⟨j, kd, len, x, rfl, hgt, hk5⟩ := zat_t hk4
      obtain ⟨q2, hk6⟩ := zcnd_t hk5
      obtain ⟨q3, hk7⟩ := zcnd_t hk6
      obtain ⟨q4, hk8⟩ := zcnd_t hk7
      refine ⟨?_, ?_⟩
      · rw [q1, cond_true]
        show zat h (j + 1) (fun _ _ _ kd len x => cond (Nat.beq kd 12) (cond (Nat.ble (zhi n) len) (cond (Nat.ble 0 0) (k L S2 h) false) false) false) = true
        show Prod.rec (motive := fun _ => Bool) (fun kd v => Prod.rec (motive := fun _ => Bool) (fun len x => cond (Nat.beq kd 12) (cond (Nat.ble (zhi n) len) (cond (Nat.ble 0 0) (k L S2 h) false) false) false) v) (zget d h.1 j) = true
        rw [hgt]
        show cond (Nat.beq kd 12) (cond (Nat.ble (zhi n) len) (cond (Nat.ble 0 0) (k L S2 h) false) false) false = true
        rw [q2, q3]
        exact hk8
      · intro n' ra' j0 len' x' S2' e1 e2 e3
        cases e1
        have ej : j = j0 := by omega
        subst ej
        rw [hgt] at e3
        cases e3
        exact q4
    match v, hk with
    | .inr (.inl r), hk =>
      have hk : zat h r (fun _ _ _ kv _ _ => cond (Nat.beq kv 0) (zpI S0 (fun n S1 => zpR S1 (fun ra S2 => zat h ra (fun _ _ _ kd len x => cond (Nat.beq kd 12) (cond (Nat.ble (zhi n) len) (cond (t len x) (k L S2 h) false) false) false)))) false) = true := hk
      obtain ⟨j, kd, len, x, rfl, hg, hk2⟩ := zat_t hk
      obtain ⟨g1, g2⟩ := strip kd hk2
      refine ⟨?_, g2⟩
      show Prod.rec (motive := fun _ => Bool) (fun kv v => Prod.rec (motive := fun _ => Bool) (fun _ _ => cond (Nat.beq kv 0) (zpI S0 (fun n S1 => zpR S1 (fun ra S2 => zat h ra (fun _ _ _ kd len x => cond (Nat.beq kd 12) (cond (Nat.ble (zhi n) len) (cond (Nat.ble 0 0) (k L S2 h) false) false) false)))) false) v) (zget d h.1 j) = true
      rw [hg]
      exact g1
    | .inr (.inr (.inr m)), hk =>
      have hk : cond (Nat.ble 1152921504606846976 m) false (Prod.rec (motive := fun _ => Bool) (fun kd v => Prod.rec (motive := fun _ => Bool) (fun len x => cond (zalr d h.1 kd len x (Nat.mod m 1048576) (Nat.sub (Nat.div m 1048576) (Nat.mod m 1048576))) (cond (Nat.beq kd 0) (zpI S0 (fun n S1 => zpR S1 (fun ra S2 => zat h ra (fun _ _ _ kd len x => cond (Nat.beq kd 12) (cond (Nat.ble (zhi n) len) (cond (t len x) (k L S2 h) false) false) false)))) false) false) v) (zget d h.1 (Nat.mod m 1048576))) = true := hk
      show cond (Nat.ble 1152921504606846976 m) false (Prod.rec (motive := fun _ => Bool) (fun kd v => Prod.rec (motive := fun _ => Bool) (fun len x => cond (zalr d h.1 kd len x (Nat.mod m 1048576) (Nat.sub (Nat.div m 1048576) (Nat.mod m 1048576))) (cond (Nat.beq kd 0) (zpI S0 (fun n S1 => zpR S1 (fun ra S2 => zat h ra (fun _ _ _ kd len x => cond (Nat.beq kd 12) (cond (Nat.ble (zhi n) len) (cond (Nat.ble 0 0) (k L S2 h) false) false) false)))) false) false) v) (zget d h.1 (Nat.mod m 1048576))) = true ∧ _
      cases h1 : Nat.ble 1152921504606846976 m
      · rw [h1, cond_false] at hk
        rw [cond_false]
        generalize zget d h.1 (Nat.mod m 1048576) = c0 at hk ⊢
        obtain ⟨kd, len, x⟩ := c0
        obtain ⟨h2, hk2⟩ := zcnd_t hk
        obtain ⟨g1, g2⟩ := strip kd hk2
        refine ⟨?_, g2⟩
        show cond (zalr d h.1 kd len x (Nat.mod m 1048576) (Nat.sub (Nat.div m 1048576) (Nat.mod m 1048576))) _ false = true
        rw [h2]
        exact g1
      · rw [h1] at hk; cases hk
  match S, hk, hst with
  | .inr (.inl r) :: S0, hk, hst =>
    obtain ⟨g1, g2⟩ := key (zR r) S0 (fun _ x => cond (Nat.ble (Nat.succ (Nat.mod x 1048576)) r) (Nat.ble r (Nat.div x 1048576)) false) (by
      have e : (fun (kv : Nat) (_ _ : Nat) (_ : List zV) => cond (Nat.beq kv 0) (zpI S0 (fun n S1 => zpR S1 (fun ra S2 => zat h ra (fun _ _ _ kd len x => cond (Nat.beq kd 12) (cond (Nat.ble (zhi n) len) (cond (cond (Nat.ble (Nat.succ (Nat.mod x 1048576)) r) (Nat.ble r (Nat.div x 1048576)) false) (k L S2 h) false) false) false)))) false) = (fun (kv : Nat) (_ _ : Nat) (_ : List zV) => cond (Nat.beq kv 0) (zpI S0 (fun n S1 => zpR S1 (fun ra S2 => zat h ra (fun _ _ _ kd len x => cond (Nat.beq kd 12) (cond (Nat.ble (zhi n) len) (cond (Nat.ble (Nat.succ (Nat.mod x 1048576)) r) (cond (Nat.ble r (Nat.div x 1048576)) (k L S2 h) false) false) false) false)))) false) := by
        have ee : ∀ (x : Nat) (S2 : List zV), cond (cond (Nat.ble (Nat.succ (Nat.mod x 1048576)) r) (Nat.ble r (Nat.div x 1048576)) false) (k L S2 h) false = cond (Nat.ble (Nat.succ (Nat.mod x 1048576)) r) (cond (Nat.ble r (Nat.div x 1048576)) (k L S2 h) false) false := by
          intro x S2
          cases Nat.ble (Nat.succ (Nat.mod x 1048576)) r <;> rfl
        simp only [ee]
      rw [e]
      exact hk) hst
    refine fin (zR r) S0 st hst g1 (fun n ra j0 len x S2 e1 e2 e3 j hj => ?_)
    obtain ⟨y1, y2⟩ := zcnd_t (g2 n ra j0 len x S2 e1 e2 e3)
    have y1' : x % 1048576 + 1 ≤ r := Nat.le_of_ble_eq_true y1
    have y2' : r ≤ x / 1048576 := Nat.le_of_ble_eq_true y2
    rcases hj with z | ⟨m, z, -⟩
    · cases z
      omega
    · cases z
  | .inr (.inr (.inr w)) :: S0, hk, hst =>
    obtain ⟨g1, g2⟩ := key (zW w) S0 (fun _ x => Nat.beq w x) hk hst
    refine fin (zW w) S0 st hst g1 (fun n ra j0 len x S2 e1 e2 e3 j hj => ?_)
    have y := Nat.eq_of_beq_eq_true (g2 n ra j0 len x S2 e1 e2 e3)
    rcases hj with z | ⟨m, z, z1, z2⟩
    · cases z
    · cases z
      rw [← y]
      exact ⟨z1, z2⟩
/-- whether the rows may lie in any order -/
noncomputable def zks (h : zH d) (S : List zV) : Bool := List.rec (motive := fun _ => Bool) false (fun _ S _ => zk12 h S) S
noncomputable def xaasT (k : zK d) : zK d := fun L S h => cond (zks h S) (xas12 k L S h) (xaas 3 0 k L S h)
theorem sm_aastoreT [G : zGh] (dg : decode X.2.1 pc = .ok (.aastore, 1)) (hs : zSim X fr P (pc + 1) k) : zSim X fr P pc (xaasT k) := sm_or2 (sm_as12 dg hs) (sm_aastoreI dg hs)
end OPS
