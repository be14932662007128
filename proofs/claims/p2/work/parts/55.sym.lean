/-! a number that becomes a symbol; a long against 0; a bound from another local -/
section OPS
variable {d : Nat} {X : zM} {fr : Nat} {P : zP d} {pc pc' tgt : Nat} {off : Int} {k kt kf : zK d}
theorem zRepL_G {G G' : zGh} {ad : zA} {j : Nat} (hG : ∀ m, m < j → @zg G' m = @zg G m) : ∀ {S : List zV} {st : List Value}, zsfL j S = true → @zRepL G ad S st → @zRepL G' ad S st
  | [], [], _, _ => trivial
  | [], _ :: _, _, h => by cases h
  | _ :: _, [], _, h => by cases h
  | v :: S, x :: st, hf, h => by
    have hf : cond (zsf j v) (zsfL j S) false = true := hf
    obtain ⟨h1, h2⟩ := zcnd_t hf
    exact ⟨zRep_G hG h1 h.1, zRepL_G hG h2 h.2⟩
noncomputable def xsym (i j : Nat) (k : zK d) : zK d := fun L S h => znth i L (fun v => Sum.rec (motive := fun _ => Bool) (fun n => cond (Nat.ble (zhi n) 2147483648) (cond (zsfL j S) (zex i L (fun R => cond (zsfL j R) (zF (fun c => zin i (zI c) R (fun L => k L S h)) (zsy j (zlo n) (zhi n))) false)) false) false) (fun _ => false) v)
theorem zsubL_refl_ok {G : zGh} {ad : zA} {nL : Nat} {L : List zV} {ls : Array Slot} (h : @zLoc G ad nL L ls) : @zLoc G ad nL L ls := h
theorem sm_sym [G : zGh] {i j : Nat} (hj : j < 65536) (hs : ∀ G' : zGh, (∀ m, m < j → @zg G' m = @zg G m) → @zSim G' d X fr P pc k) (hj0 : 0 < j := by decide) : zSim X fr P pc (xsym i j k) := by
  intro Ch cA D ad0 A MC MS p l e s m args below meth c ls st H locs cells slots L S h Cx hk R0
  obtain ⟨ws, hHp, hpre, hP, hD, hS, hL, hst, hcb, hsb⟩ := R0
  obtain ⟨v, hv, hk2⟩ := znth_t i hk
  match v, hv, hk2 with
  | .inl n, hv, hk2 =>
    obtain ⟨q1, hk3⟩ := zcnd_t hk2
    obtain ⟨q2, hk4⟩ := zcnd_t hk3
    obtain ⟨R, hk5, r1, r2, r3⟩ := zex_t i hk4
    obtain ⟨q3, hk6⟩ := zcnd_t hk5
    rw [zF_eq] at hk6
    obtain ⟨L0, hk7, l1, l2, l3, l4⟩ := zin_t i hk6
    obtain ⟨iu, hls, hiu⟩ : ∃ iu : Int32, ls[i]? = some (.val (.int iu)) ∧ zIs n iu := by
      obtain ⟨-, lv, hlv, a3⟩ := hL
      rcases a3 i _ hv with z | ⟨x, hx, iu, rfl, hiu⟩
      · cases z
      · exact ⟨iu, hlv.2.2 _ hx, hiu⟩
    have hG : ∀ m, m < j → @zg (zgu G j (zi iu)) m = @zg G m := fun m hm => zgu_ne G _ (by omega)
    obtain ⟨a1, lv, a2, a3⟩ := hL
    have hL0 : @zLoc (zgu G j (zi iu)) (zad cA ws) X.2.2.1 L0 ls := by
      refine ⟨by omega, lv, a2, fun m' w hw => ?_⟩
      have key : ∀ p q : Nat, R[p]? = some w → R[p]? = L[q]? → w = zU ∨ ∃ x : Value, (q, x) ∈ lv ∧ @zRep (zgu G j (zi iu)) (zad cA ws) w x := by
        intro p q e1 e2
        rw [e1] at e2
        rcases a3 q w e2.symm with z | ⟨x, hx, hr⟩
        · exact Or.inl z
        · exact Or.inr ⟨x, hx, zRep_G hG (zsfL_t q3 w (List.mem_of_getElem? e1)) hr⟩
      rcases Nat.lt_trichotomy m' i with hlt | heq | hgt
      · exact key m' m' (by rw [← l3 m' hlt]; exact hw) (r2 m' hlt)
      · subst heq
        rw [l2] at hw
        cases hw
        rcases a3 m' _ hv with z | ⟨x, hx, iv, rfl, h2⟩
        · cases z
        · have hl2 := a2.2.2 _ hx
          rw [show ((m', Value.int iv) : Nat × Value).1 = m' from rfl] at hl2
          rw [hls] at hl2
          cases hl2
          exact Or.inr ⟨_, hx, iu, rfl, @zsy_ok (zgu G j (zi iu)) j (zlo n) (zhi n) iu (zlo_ok hiu) (zhi_ok hiu) (Nat.le_of_ble_eq_true q1) (by rw [Nat.mod_eq_of_lt hj, Nat.div_eq_of_lt hj, zgu_same]; rfl)⟩
      · obtain ⟨m2, rfl⟩ : ∃ m2, m' = m2 + 1 := ⟨m' - 1, by omega⟩
        exact key m2 (m2 + 1) (by rw [← l4 m2 (by omega)]; exact hw) (r3 m2 (by omega))
    exact hs (zgu G j (zi iu)) hG Ch cA D ad0 A MC MS p l e s m args below meth c ls st H locs cells slots L0 S h (zCx_G (hG 0 hj0) Cx) hk7 ⟨ws, hHp, hpre, hP, hD, hS, hL0, zRepL_G hG q2 hst, hcb, hsb⟩
/-- a long local against 0 -/
theorem sm_lz [G : zGh] {n : Nat} {z0 : Fin 2} (row1 : ∀ {p : Program} {l : Launch} {e : Env} {R : Room} {s : State} {m : MethodId} {args : Array Value} {below : List Frame} {meth : Method} {c : Code} {H : Heap} {locs : List Loc} {cells slots : Nat} {Q : State → Prop} {ls : Array Slot} {rest : List Value} {x : Int64}, p.tables.exec = Jvm.exec → c.code = X.2.1 → ls[n]? = some (.val (.long x)) → W p l e R s m args below meth c H locs cells slots Q (F0 m pc' ls (.long x :: rest)) → W p l e R s m args below meth c H locs cells slots Q (F0 m pc ls rest)) (d2 : decode X.2.1 pc' = .ok (.lconst z0, 1)) (ez : (z0 : Nat) = 0) (d3 : decode X.2.1 (pc' + 1) = .ok (.lcmp, 1)) (d4 : decode X.2.1 (pc' + 1 + 1) = .ok (.ifCond .eq off, 3)) (ht : ((pc' + 1 + 1 : Nat) : Int) + off = (tgt : Int)) (h1 : zSim X fr P tgt kt) (h2 : zSim X fr P (pc' + 1 + 1 + 3) kf) : zSim X fr P pc (xlz n kt kf) := by
  intro Ch cA D ad0 A MC MS p l e s m args below meth c ls st H locs cells slots L S h Cx hk R0
  obtain ⟨ws, hHp, hpre, hP, hD, hS, hL, hst, hcb, hsb⟩ := R0
  obtain ⟨v, hv, hk2⟩ := znth_t n hk
  match v, hv, hk2 with
  | .inr (.inr (.inl a)), hv, hk2 =>
    obtain ⟨x, hx, i, rfl, hi⟩ := zLoc_at hL hv (by intro q; cases q)
    have hk2 : cond (Nat.ble 18446744073709551616 a) (and (kt L S h) (zst (Nat.succ n) zU L (fun L => zst n (zL 1606938044258990275541962092341162602527285592350703190540288) L (fun L => kf L S h)))) (cond (Nat.beq a 0) (kt L S h) (kf L S h)) = true := hk2
    have e0 : Int64.ofNat ((z0 : Nat)) = 0 := by rw [ez]; rfl
    have key : (i = 0 → kt L S h = true) ∧ (¬ i = 0 → kf L S h = true ∨ zst (Nat.succ n) zU L (fun L => zst n (zL 1606938044258990275541962092341162602527285592350703190540288) L (fun L => kf L S h)) = true) := by
      cases hb : Nat.ble 18446744073709551616 a
      · rw [hb, cond_false] at hk2
        have hia := hi.1 (zble_f hb)
        cases hb0 : Nat.beq a 0
        · rw [hb0, cond_false] at hk2
          refine ⟨fun q => ?_, fun _ => Or.inl hk2⟩
          rw [q, zj_z] at hia
          rw [← hia] at hb0
          exact absurd hb0 (by decide)
        · rw [hb0, cond_true] at hk2
          refine ⟨fun _ => hk2, fun q => absurd (zj_inj (i := i) (j := 0) ?_) q⟩
          rw [hia, Nat.eq_of_beq_eq_true hb0]
          rfl
      · rw [hb, cond_true, Bool.and_eq_true] at hk2
        exact ⟨fun _ => hk2.1, fun _ => Or.inr hk2.2⟩
    refine row1 Cx.1 Cx.2.1 hx ?_
    refine lv_lconst Cx.1 Cx.2.1 d2 rfl ?_
    refine W.lcmp Cx.1 Cx.2.1 d3 ?_
    refine lv_if_eq Cx.1 Cx.2.1 d4 ht (fun hq => ?_) (fun hq => ?_)
    · have hz : i = 0 := by
        rw [e0] at hq
        unfold lg_cmp at hq
        by_cases c1 : 0 < i
        · rw [if_pos c1] at hq; exact absurd hq (by decide)
        · rw [if_neg c1] at hq
          by_cases c2 : i = 0
          · exact c2
          · rw [if_neg c2] at hq; exact absurd hq (by decide)
      exact h1 Ch cA D ad0 A MC MS p l e s m args below meth c ls _ H locs cells slots L _ h Cx (key.1 hz) ⟨ws, hHp, hpre, hP, hD, hS, hL, hst, hcb, hsb⟩
    · have hz : ¬ i = 0 := fun q => hq (by
        rw [e0, q]
        rfl)
      rcases key.2 hz with g | g
      · exact h2 Ch cA D ad0 A MC MS p l e s m args below meth c ls _ H locs cells slots L _ h Cx g ⟨ws, hHp, hpre, hP, hD, hS, hL, hst, hcb, hsb⟩
      · obtain ⟨L1, y1, y2, y3, g⟩ := zst_t (Nat.succ n) g
        obtain ⟨L2, w1, w2, w3, g⟩ := zst_t n g
        obtain ⟨b1, lv, b2, b3⟩ := hL
        have hL2 : zLoc (zad cA ws) X.2.2.1 L2 ls := by
          refine ⟨by omega, lv, b2, fun q w hw => ?_⟩
          rw [w3 q] at hw
          unfold zsta at hw
          by_cases c1 : q = n
          · rw [if_pos c1] at hw
            cases hw
            rw [c1]
            rcases b3 n _ hv with z | ⟨x, hx', i', rfl, hi'⟩
            · cases z
            · have hl2 := b2.2.2 _ hx'
              rw [show ((n, Value.long i') : Nat × Value).1 = n from rfl, hx] at hl2
              cases hl2
              refine Or.inr ⟨_, hx', i, rfl, fun z => absurd z (by decide), fun _ => ?_⟩
              have hp : 0 < zj i := Nat.pos_of_ne_zero (fun z => hz (zj_inj (by rw [z]; rfl)))
              have hl := zj_lt i
              exact ⟨by show 1 ≤ zj i; omega, by show zj i < 18446744073709551616; omega⟩
          · rw [if_neg c1] at hw
            have y3q := y3 q
            unfold zsta at y3q
            have rest : ∀ u, L1[q]? = some u → u = zU ∨ ∃ x : Value, (q, x) ∈ lv ∧ zRep (zad cA ws) u x := by
              intro u hu
              rw [y3q] at hu
              by_cases c2 : q = Nat.succ n
              · rw [if_pos c2] at hu
                cases hu
                exact Or.inl rfl
              · rw [if_neg c2] at hu
                by_cases c3 : q + 1 = Nat.succ n
                · exact absurd (show q = n by omega) c1
                · rw [if_neg c3] at hu
                  exact b3 q u hu
            by_cases c4 : q + 1 = n
            · rw [if_pos c4] at hw
              obtain ⟨u, hu, hw2⟩ := Option.map_eq_some_iff.mp hw
              rcases rest u hu with z | ⟨x, hx', hr⟩
              · rw [z] at hw2
                exact Or.inl hw2.symm
              · match u, hr, hw2 with
                | .inl b, hr, hw2 => exact Or.inr ⟨x, hx', by rw [← hw2]; exact hr⟩
                | .inr (.inl b), hr, hw2 => exact Or.inr ⟨x, hx', by rw [← hw2]; exact hr⟩
                | .inr (.inr (.inl b)), hr, hw2 => exact Or.inl hw2.symm
                | .inr (.inr (.inr b)), hr, hw2 => exact Or.inr ⟨x, hx', by rw [← hw2]; exact hr⟩
            · rw [if_neg c4] at hw
              exact rest w hw
        exact h2 Ch cA D ad0 A MC MS p l e s m args below meth c ls _ H locs cells slots L2 _ h Cx g ⟨ws, hHp, hpre, hP, hD, hS, hL2, hst, hcb, hsb⟩
theorem sm_lz_n [G : zGh] {n : Nat} {z0 : Fin 2} {f : Fin 4} (d1 : decode X.2.1 pc = .ok (.lload_n f, 1)) (hf : (f : Nat) = n) (d2 : decode X.2.1 (pc + 1) = .ok (.lconst z0, 1)) (ez : (z0 : Nat) = 0) (d3 : decode X.2.1 (pc + 1 + 1) = .ok (.lcmp, 1)) (d4 : decode X.2.1 (pc + 1 + 1 + 1) = .ok (.ifCond .eq off, 3)) (ht : ((pc + 1 + 1 + 1 : Nat) : Int) + off = (tgt : Int)) (h1 : zSim X fr P tgt kt) (h2 : zSim X fr P (pc + 1 + 1 + 1 + 3) kf) : zSim X fr P pc (xlz n kt kf) := sm_lz (fun hx hb hl kk => lv_lload_n hx hb d1 hf hl kk) d2 ez d3 d4 ht h1 h2
end OPS
section OPS
variable {d : Nat} {X : zM} {fr : Nat} {P : zP d} {pc : Nat} {k : zK d}
noncomputable def xdvT (k : zK d) : zK d := fun L S h => cond (zkl S) (xbinjN zdivj k L S h) (xdvQ k L S h)
theorem sm_ldivT [G : zGh] (dg : decode X.2.1 pc = .ok (.ldiv, 1)) (hs : zSim X fr P (pc + 1) k) : zSim X fr P pc (xdvT k) := sm_ldivQ dg hs
end OPS
section WEAK
variable {d : Nat}
noncomputable def wkB (i j : Nat) (w : zWk d) : zWk d := fun L h K => znth j L (fun v => Sum.rec (motive := fun _ => Bool) (fun n => zF (fun c => zst i (zI c) L (fun L => w L h K)) (zrg 0 (zhi n))) (fun _ => false) v)
theorem wkB_ok {i j : Nat} {w : zWk d} (hw : zWkOK w) : zWkOK (wkB i j w) := fun L h K hk => by
  obtain ⟨v, hv, hk2⟩ := znth_t j hk
  match v, hk2 with
  | .inl n, hk2 =>
    have hk2 : zF (fun c => zst i (zI c) L (fun L => w L h K)) (zrg 0 (zhi n)) = true := hk2
    rw [zF_eq] at hk2
    obtain ⟨L', -, -, -, hk3⟩ := zst_t i (k := fun L => w L h K) hk2
    exact hw _ _ _ hk3
end WEAK
/-- one summary or another -/
noncomputable def zor2 {d : Nat} (f g : List zV → zH d → zP d → Bool) : List zV → zH d → zP d → Bool := fun as h P => or (f as h P) (g as h P)
theorem zMet_or {d : Nat} {X : zM} {y : MethodName} {fr : Nat} {f g : List zV → zH d → zP d → Bool} (hf : zMet X y fr f) (hg : zMet X y fr g) : zMet X y fr (zor2 f g) := fun l cA D ws av as h P sz hk => by
  have hk : or (f as h P) (g as h P) = true := hk
  rw [Bool.or_eq_true] at hk
  rcases hk with hk | hk
  · exact hf l cA D ws av as h P sz hk
  · exact hg l cA D ws av as h P sz hk
/-- more frames than are needed -/
theorem zfalse {d : Nat} {X : zM} {y : MethodName} {fr : Nat} : zMet (d := d) X y fr (fun _ _ _ => false) := fun l cA D ws av as h P sz hk => by cases hk
/-- a callee sees no symbols -/
def zst1 (n : Nat) : Nat := cond (Nat.ble 4294967296 (Nat.mod n 4722366482869645213696)) (Nat.mod n 4722366482869645213696) 4294967296
theorem zst1_ok [zGh] {n : Nat} {i : Int32} (h : zIs n i) : zIs (zst1 n) i := by
  unfold zst1
  cases hb : Nat.ble 4294967296 (Nat.mod n 4722366482869645213696)
  · exact zIs_u i
  · rw [cond_true, zmod_n]
    have hl : 4294967296 ≤ n % 4722366482869645213696 := Nat.le_of_ble_eq_true hb
    have hm := Nat.mod_lt n (show 0 < 4722366482869645213696 by decide)
    have e1 : n % 4722366482869645213696 % 1099511627776 = n % 1099511627776 := by omega
    have e2 : n % 4722366482869645213696 / 1099511627776 % 4294967296 = n / 1099511627776 % 4294967296 := by omega
    refine ⟨fun q => absurd q (by omega), fun q1 q2 => ?_, ?_, fun q => absurd q (by omega)⟩
    · rw [e1] at q1 q2 ⊢
      exact h.2.1 q1 q2
    · rw [e2]
      exact h.2.2.1
noncomputable def zstp (as : List zV) : (List zV → Bool) → Bool := List.rec (motive := fun _ => (List zV → Bool) → Bool) (fun K => K []) (fun v _ r K => Sum.rec (motive := fun _ => Bool) (fun n => cond (Nat.ble 4722366482869645213696 n) (zF (fun m => r (fun t => K (zI m :: t))) (zst1 n)) (r (fun t => K (v :: t)))) (fun _ => r (fun t => K (v :: t))) v) as
theorem zstp_t [zGh] {ad : zA} : ∀ {as : List zV} {av : List Value} {K : List zV → Bool}, zstp as K = true → zRepL ad as av → ∃ as', K as' = true ∧ zRepL ad as' av
  | [], [], K, h, _ => ⟨[], h, trivial⟩
  | [], _ :: _, K, h, hr => by cases hr
  | _ :: _, [], K, h, hr => by cases hr
  | .inl n :: as, x :: av, K, h, hr => by
    have h : cond (Nat.ble 4722366482869645213696 n) (zF (fun m => zstp as (fun t => K (zI m :: t))) (zst1 n)) (zstp as (fun t => K (zI n :: t))) = true := h
    cases hb : Nat.ble 4722366482869645213696 n
    · rw [hb, cond_false] at h
      obtain ⟨as', h1, h2⟩ := zstp_t (K := fun t => K (zI n :: t)) h hr.2
      exact ⟨_, h1, hr.1, h2⟩
    · rw [hb, cond_true, zF_eq] at h
      obtain ⟨as', h1, h2⟩ := zstp_t (K := fun t => K (zI (zst1 n) :: t)) h hr.2
      obtain ⟨i, e, hi⟩ := hr.1
      exact ⟨_, h1, ⟨i, e, zst1_ok hi⟩, h2⟩
  | .inr u :: as, x :: av, K, h, hr => by
    have h : zstp as (fun t => K (Sum.inr u :: t)) = true := h
    obtain ⟨as', h1, h2⟩ := zstp_t (K := fun t => K (Sum.inr u :: t)) h hr.2
    exact ⟨_, h1, hr.1, h2⟩
noncomputable def zstr {d : Nat} (f : List zV → zH d → zP d → Bool) : List zV → zH d → zP d → Bool := fun as h P => zstp as (fun as => f as h P)
theorem zMet_str {d : Nat} {X : zM} {y : MethodName} {fr : Nat} {f : List zV → zH d → zP d → Bool} (hf : zMet X y fr f) : zMet X y fr (zstr f) := fun l cA D ws av as h P sz hk has hH => by
  obtain ⟨as', h1, h2⟩ := zstp_t (K := fun as => f as h P) hk has
  exact hf l cA D ws av as' h P sz h1 h2 hH
