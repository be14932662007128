/-! instructions: the machine of numbers does as the machine -/
theorem zLoc_at [zGh] {ad : zA} {nL n : Nat} {L : List zV} {ls : Array Slot} {v : zV} (h : zLoc ad nL L ls) (hv : L[n]? = some v) (hu : v ≠ zU) : ∃ x : Value, ls[n]? = some (.val x) ∧ zRep ad v x := by
  obtain ⟨-, lv, hlv, hall⟩ := h
  rcases hall n v hv with q | ⟨x, hx, hr⟩
  · exact absurd q hu
  · exact ⟨x, hlv.2.2 _ hx, hr⟩
theorem zLoc_set1 [zGh] {ad : zA} {nL n : Nat} {L L' : List zV} {ls' : Array Slot} {lv : List (Nat × Value)} {v : zV} {x : Value} (hlen : L'.length = nL) (hz : ∀ i, L'[i]? = zsta n v L i) (hlv : ∀ (i : Nat) (w : zV), L[i]? = some w → w = zU ∨ ∃ x : Value, (i, x) ∈ lv ∧ zRep ad w x) (hrep : v = zU ∨ zRep ad v x)
    (hls : lv_has ls' nL ((n, x) :: lv.filter (fun q => !(q.1 == n) && !(q.1 + 1 == n && q.2.category == 2)))) : zLoc ad nL L' ls' := by
  refine ⟨hlen, _, hls, fun i w hw => ?_⟩
  rw [hz i] at hw
  unfold zsta at hw
  by_cases h1 : i = n
  · rw [if_pos h1] at hw
    cases hw
    rcases hrep with q | q
    · exact Or.inl q
    · exact Or.inr ⟨x, by rw [h1]; exact List.mem_cons_self, q⟩
  · rw [if_neg h1] at hw
    by_cases h2 : i + 1 = n
    · rw [if_pos h2] at hw
      obtain ⟨u, hu, hw2⟩ := Option.map_eq_some_iff.mp hw
      match u, hu, hw2 with
      | .inl a, hu, hw2 =>
        have hw2 : zI a = w := hw2
        subst hw2
        rcases hlv i _ hu with q | ⟨x', hx', hr⟩
        · cases q
        · refine Or.inr ⟨x', List.mem_cons_of_mem _ (List.mem_filter.mpr ⟨hx', ?_⟩), hr⟩
          obtain ⟨y, rfl, -⟩ := hr
          simp [h1, Value.category]
      | .inr (.inl a), hu, hw2 =>
        have hw2 : zR a = w := hw2
        subst hw2
        rcases hlv i _ hu with q | ⟨x', hx', hr⟩
        · cases q
        · refine Or.inr ⟨x', List.mem_cons_of_mem _ (List.mem_filter.mpr ⟨hx', ?_⟩), hr⟩
          obtain ⟨y, rfl, -⟩ := hr
          cases y <;> simp [h1, Value.category, va_rf]
      | .inr (.inr (.inl a)), hu, hw2 =>
        have hw2 : zU = w := hw2
        exact Or.inl hw2.symm
      | .inr (.inr (.inr a)), hu, hw2 =>
        have hw2 : zW a = w := hw2
        subst hw2
        rcases hlv i _ hu with q | ⟨x', hx', hr⟩
        · exact Or.inl q
        · refine Or.inr ⟨x', List.mem_cons_of_mem _ (List.mem_filter.mpr ⟨hx', ?_⟩), hr⟩
          rcases hr with ⟨-, k0, a0, -, -, -, rfl⟩ | ⟨-, rfl⟩
          · simp [h1, Value.category]
          · generalize zop ad.2 (a - 1152921504606846976) = o
            cases o <;> simp [h1, Value.category, va_rf]
    · rw [if_neg h2] at hw
      rcases hlv i _ hw with q | ⟨x', hx', hr⟩
      · exact Or.inl q
      · refine Or.inr ⟨x', List.mem_cons_of_mem _ (List.mem_filter.mpr ⟨hx', ?_⟩), hr⟩
        simp [h1, h2]
/-- what a row of the kit does to the top of the stack: from st0 at pc to st1 at pc' -/
def zGo (X : zM) (pc pc' : Nat) (st0 st1 : List Value) : Prop := ∀ {p : Program} {l : Launch} {e : Env} {R : Room} {s : State} {m : MethodId} {args : Array Value} {below : List Frame} {meth : Method} {c : Code} {H : Heap} {locs : List Loc} {cells slots : Nat} {Q : State → Prop} {ls : Array Slot} {rest : List Value},
  p.tables.exec = Jvm.exec → c.code = X.2.1 → W p l e R s m args below meth c H locs cells slots Q (F0 m pc' ls (st1 ++ rest)) → W p l e R s m args below meth c H locs cells slots Q (F0 m pc ls (st0 ++ rest))
section OPS
variable {d : Nat} {X : zM} {fr : Nat} {P : zP d} {pc pc' : Nat} {k kt kf : zK d}
noncomputable def xild (n : Nat) (k : zK d) : zK d := fun L S h => znth n L (fun v => Sum.rec (motive := fun _ => Bool) (fun a => k L (zI a :: S) h) (fun _ => false) v)
noncomputable def xald (n : Nat) (k : zK d) : zK d := fun L S h => znth n L (fun v => Sum.rec (motive := fun _ => Bool) (fun _ => false) (fun u => Sum.rec (motive := fun _ => Bool) (fun a => k L (zR a :: S) h) (fun _ => false) u) v)
noncomputable def xlld (n : Nat) (k : zK d) : zK d := fun L S h => znth n L (fun v => Sum.rec (motive := fun _ => Bool) (fun _ => false) (fun u => Sum.rec (motive := fun _ => Bool) (fun _ => false) (fun w => Sum.rec (motive := fun _ => Bool) (fun a => k L (zL a :: S) h) (fun _ => false) w) u) v)
theorem sm_ild [G : zGh] {n : Nat} (row : ∀ {p : Program} {l : Launch} {e : Env} {R : Room} {s : State} {m : MethodId} {args : Array Value} {below : List Frame} {meth : Method} {c : Code} {H : Heap} {locs : List Loc} {cells slots : Nat} {Q : State → Prop} {ls : Array Slot} {rest : List Value} {x : Int32}, p.tables.exec = Jvm.exec → c.code = X.2.1 → ls[n]? = some (.val (.int x)) → W p l e R s m args below meth c H locs cells slots Q (F0 m pc' ls (.int x :: rest)) → W p l e R s m args below meth c H locs cells slots Q (F0 m pc ls rest)) (hs : zSim X fr P pc' k) : zSim X fr P pc (xild n k) := by
  intro Ch cA D ad0 A MC MS p l e s m args below meth c ls st H locs cells slots L S h Cx hk R0
  obtain ⟨ws, hHp, hpre, hP, hD, hS, hL, hst, hcb, hsb⟩ := R0
  obtain ⟨v, hv, hk2⟩ := znth_t n hk
  match v, hv, hk2 with
  | .inl a, hv, hk2 =>
    obtain ⟨x, hx, i, rfl, hi⟩ := zLoc_at hL hv (by intro q; cases q)
    exact row Cx.1 Cx.2.1 hx (hs Ch cA D ad0 A MC MS p l e s m args below meth c ls _ H locs cells slots L _ h Cx hk2 ⟨ws, hHp, hpre, hP, hD, hS, hL, ⟨⟨i, rfl, hi⟩, hst⟩, hcb, hsb⟩)
theorem sm_iload_n [G : zGh] {n : Nat} {f : Fin 4} (dg : decode X.2.1 pc = .ok (.iload_n f, 1)) (hf : (f : Nat) = n) (hs : zSim X fr P (pc + 1) k) : zSim X fr P pc (xild n k) := sm_ild (fun hx hb hl kk => lv_iload_n hx hb dg hf hl kk) hs
theorem sm_iload [G : zGh] {n : Nat} (dg : decode X.2.1 pc = .ok (.iload n, 2)) (hs : zSim X fr P (pc + 2) k) : zSim X fr P pc (xild n k) := sm_ild (fun hx hb hl kk => lv_iload hx hb dg hl kk) hs
theorem sm_lld [G : zGh] {n : Nat} (row : ∀ {p : Program} {l : Launch} {e : Env} {R : Room} {s : State} {m : MethodId} {args : Array Value} {below : List Frame} {meth : Method} {c : Code} {H : Heap} {locs : List Loc} {cells slots : Nat} {Q : State → Prop} {ls : Array Slot} {rest : List Value} {x : Int64}, p.tables.exec = Jvm.exec → c.code = X.2.1 → ls[n]? = some (.val (.long x)) → W p l e R s m args below meth c H locs cells slots Q (F0 m pc' ls (.long x :: rest)) → W p l e R s m args below meth c H locs cells slots Q (F0 m pc ls rest)) (hs : zSim X fr P pc' k) : zSim X fr P pc (xlld n k) := by
  intro Ch cA D ad0 A MC MS p l e s m args below meth c ls st H locs cells slots L S h Cx hk R0
  obtain ⟨ws, hHp, hpre, hP, hD, hS, hL, hst, hcb, hsb⟩ := R0
  obtain ⟨v, hv, hk2⟩ := znth_t n hk
  match v, hv, hk2 with
  | .inr (.inr (.inl a)), hv, hk2 =>
    obtain ⟨x, hx, i, rfl, hi⟩ := zLoc_at hL hv (by intro q; cases q)
    exact row Cx.1 Cx.2.1 hx (hs Ch cA D ad0 A MC MS p l e s m args below meth c ls _ H locs cells slots L _ h Cx hk2 ⟨ws, hHp, hpre, hP, hD, hS, hL, ⟨⟨i, rfl, hi⟩, hst⟩, hcb, hsb⟩)
theorem sm_lload_n [G : zGh] {n : Nat} {f : Fin 4} (dg : decode X.2.1 pc = .ok (.lload_n f, 1)) (hf : (f : Nat) = n) (hs : zSim X fr P (pc + 1) k) : zSim X fr P pc (xlld n k) := sm_lld (fun hx hb hl kk => lv_lload_n hx hb dg hf hl kk) hs
theorem sm_lload [G : zGh] {n : Nat} (dg : decode X.2.1 pc = .ok (.lload n, 2)) (hs : zSim X fr P (pc + 2) k) : zSim X fr P pc (xlld n k) := sm_lld (fun hx hb hl kk => lv_lload hx hb dg hl kk) hs
theorem sm_ald [G : zGh] {n : Nat} (row : ∀ {p : Program} {l : Launch} {e : Env} {R : Room} {s : State} {m : MethodId} {args : Array Value} {below : List Frame} {meth : Method} {c : Code} {H : Heap} {locs : List Loc} {cells slots : Nat} {Q : State → Prop} {ls : Array Slot} {rest : List Value} {o : Option Nat}, p.tables.exec = Jvm.exec → c.code = X.2.1 → ls[n]? = some (.val (va_rf o)) → W p l e R s m args below meth c H locs cells slots Q (F0 m pc' ls (va_rf o :: rest)) → W p l e R s m args below meth c H locs cells slots Q (F0 m pc ls rest)) (hs : zSim X fr P pc' k) : zSim X fr P pc (xald n k) := by
  intro Ch cA D ad0 A MC MS p l e s m args below meth c ls st H locs cells slots L S h Cx hk R0
  obtain ⟨ws, hHp, hpre, hP, hD, hS, hL, hst, hcb, hsb⟩ := R0
  obtain ⟨v, hv, hk2⟩ := znth_t n hk
  match v, hv, hk2 with
  | .inr (.inl a), hv, hk2 =>
    obtain ⟨x, hx, i, rfl, hi⟩ := zLoc_at hL hv (by intro q; cases q)
    exact row Cx.1 Cx.2.1 hx (hs Ch cA D ad0 A MC MS p l e s m args below meth c ls _ H locs cells slots L _ h Cx hk2 ⟨ws, hHp, hpre, hP, hD, hS, hL, ⟨⟨i, rfl, hi⟩, hst⟩, hcb, hsb⟩)
theorem sm_aload_n [G : zGh] {n : Nat} {f : Fin 4} (dg : decode X.2.1 pc = .ok (.aload_n f, 1)) (hf : (f : Nat) = n) (hs : zSim X fr P (pc + 1) k) : zSim X fr P pc (xald n k) := sm_ald (fun {_ _ _ _ _ _ _ _ _ _ _ _ _ _ _ _ _ o} hx hb hl kk => by
  cases o with
  | none => exact lv_aload_nN hx hb dg hf hl kk
  | some a => exact lv_aload_n hx hb dg hf hl kk) hs
theorem sm_aload [G : zGh] {n : Nat} (dg : decode X.2.1 pc = .ok (.aload n, 2)) (hs : zSim X fr P (pc + 2) k) : zSim X fr P pc (xald n k) := sm_ald (fun {_ _ _ _ _ _ _ _ _ _ _ _ _ _ _ _ _ o} hx hb hl kk => by
  cases o with
  | none => exact lv_aloadN hx hb dg hl kk
  | some a => exact lv_aload hx hb dg hl kk) hs
/-- stores -/
noncomputable def xist (n : Nat) (k : zK d) : zK d := fun L S h => zpI S (fun a S => zst n (zI a) L (fun L => k L S h))
noncomputable def xast (n : Nat) (k : zK d) : zK d := fun L S h => zpR S (fun a S => zst n (zR a) L (fun L => k L S h))
noncomputable def xlst (n : Nat) (k : zK d) : zK d := fun L S h => zpL S (fun a S => zst (Nat.succ n) zU L (fun L => zst n (zL a) L (fun L => k L S h)))
theorem sm_ist [G : zGh] {n : Nat} (row : ∀ {p : Program} {l : Launch} {e : Env} {R : Room} {s : State} {m : MethodId} {args : Array Value} {below : List Frame} {meth : Method} {c : Code} {H : Heap} {locs : List Loc} {cells slots : Nat} {Q : State → Prop} {ls : Array Slot} {rest : List Value} {x : Int32} {nL : Nat} {lv : List (Nat × Value)}, p.tables.exec = Jvm.exec → c.code = X.2.1 → lv_has ls nL lv → n < nL → (∀ ls' : Array Slot, lv_has ls' nL ((n, Value.int x) :: lv.filter (fun q => !(q.1 == n) && !(q.1 + 1 == n && q.2.category == 2))) → W p l e R s m args below meth c H locs cells slots Q (F0 m pc' ls' rest)) → W p l e R s m args below meth c H locs cells slots Q (F0 m pc ls (.int x :: rest))) (hs : zSim X fr P pc' k) : zSim X fr P pc (xist n k) := by
  intro Ch cA D ad0 A MC MS p l e s m args below meth c ls st H locs cells slots L S h Cx hk R0
  obtain ⟨ws, hHp, hpre, hP, hD, hS, hL, hst, hcb, hsb⟩ := R0
  obtain ⟨a, S, rfl, hk⟩ := zpI_t hk
  obtain ⟨x, st, rfl, hx, hst⟩ := zRepL_I hst
  obtain ⟨L', hlen, hn, hz, hk⟩ := zst_t n hk
  obtain ⟨hLn, lv, hlv, hall⟩ := hL
  refine row Cx.1 Cx.2.1 hlv (by rw [← hLn]; exact hn) (fun ls' hls => ?_)
  exact hs Ch cA D ad0 A MC MS p l e s m args below meth c ls' _ H locs cells slots L' _ h Cx hk ⟨ws, hHp, hpre, hP, hD, hS, zLoc_set1 (by rw [hlen]; exact hLn) hz hall (Or.inr ⟨x, rfl, hx⟩) hls, hst, hcb, hsb⟩
theorem sm_istore_n [G : zGh] {n : Nat} {f : Fin 4} (dg : decode X.2.1 pc = .ok (.istore_n f, 1)) (hf : (f : Nat) = n) (hs : zSim X fr P (pc + 1) k) : zSim X fr P pc (xist n k) := sm_ist (fun hx hb h hn kk => lv_istore_n hx hb dg hf h hn rfl kk) hs
theorem sm_istore [G : zGh] {n : Nat} (dg : decode X.2.1 pc = .ok (.istore n, 2)) (hs : zSim X fr P (pc + 2) k) : zSim X fr P pc (xist n k) := sm_ist (fun hx hb h hn kk => lv_istore hx hb dg h hn rfl kk) hs
theorem sm_ast [G : zGh] {n : Nat} (row : ∀ {p : Program} {l : Launch} {e : Env} {R : Room} {s : State} {m : MethodId} {args : Array Value} {below : List Frame} {meth : Method} {c : Code} {H : Heap} {locs : List Loc} {cells slots : Nat} {Q : State → Prop} {ls : Array Slot} {rest : List Value} {o : Option Nat} {nL : Nat} {lv : List (Nat × Value)}, p.tables.exec = Jvm.exec → c.code = X.2.1 → lv_has ls nL lv → n < nL → (∀ ls' : Array Slot, lv_has ls' nL ((n, va_rf o) :: lv.filter (fun q => !(q.1 == n) && !(q.1 + 1 == n && q.2.category == 2))) → W p l e R s m args below meth c H locs cells slots Q (F0 m pc' ls' rest)) → W p l e R s m args below meth c H locs cells slots Q (F0 m pc ls (va_rf o :: rest))) (hs : zSim X fr P pc' k) : zSim X fr P pc (xast n k) := by
  intro Ch cA D ad0 A MC MS p l e s m args below meth c ls st H locs cells slots L S h Cx hk R0
  obtain ⟨ws, hHp, hpre, hP, hD, hS, hL, hst, hcb, hsb⟩ := R0
  obtain ⟨a, S, rfl, hk⟩ := zpR_t hk
  obtain ⟨x, st, rfl, hx, hst⟩ := zRepL_R hst
  obtain ⟨L', hlen, hn, hz, hk⟩ := zst_t n hk
  obtain ⟨hLn, lv, hlv, hall⟩ := hL
  refine row Cx.1 Cx.2.1 hlv (by rw [← hLn]; exact hn) (fun ls' hls => ?_)
  exact hs Ch cA D ad0 A MC MS p l e s m args below meth c ls' _ H locs cells slots L' _ h Cx hk ⟨ws, hHp, hpre, hP, hD, hS, zLoc_set1 (by rw [hlen]; exact hLn) hz hall (Or.inr ⟨x, rfl, hx⟩) hls, hst, hcb, hsb⟩
theorem sm_astore_n [G : zGh] {n : Nat} {f : Fin 4} (dg : decode X.2.1 pc = .ok (.astore_n f, 1)) (hf : (f : Nat) = n) (hs : zSim X fr P (pc + 1) k) : zSim X fr P pc (xast n k) := sm_ast (fun {_ _ _ _ _ _ _ _ _ _ _ _ _ _ _ _ _ o _ _} hx hb h hn kk => by
  cases o with
  | none => exact lv_astore_nN hx hb dg hf h hn rfl kk
  | some a => exact lv_astore_n hx hb dg hf h hn rfl kk) hs
theorem sm_astore [G : zGh] {n : Nat} (dg : decode X.2.1 pc = .ok (.astore n, 2)) (hs : zSim X fr P (pc + 2) k) : zSim X fr P pc (xast n k) := sm_ast (fun {_ _ _ _ _ _ _ _ _ _ _ _ _ _ _ _ _ o _ _} hx hb h hn kk => by
  cases o with
  | none => exact lv_astoreN hx hb dg h hn rfl kk
  | some a => exact lv_astore hx hb dg h hn rfl kk) hs
theorem sm_lst [G : zGh] {n : Nat} (row : ∀ {p : Program} {l : Launch} {e : Env} {R : Room} {s : State} {m : MethodId} {args : Array Value} {below : List Frame} {meth : Method} {c : Code} {H : Heap} {locs : List Loc} {cells slots : Nat} {Q : State → Prop} {ls : Array Slot} {rest : List Value} {x : Int64} {nL : Nat} {lv : List (Nat × Value)}, p.tables.exec = Jvm.exec → c.code = X.2.1 → lv_has ls nL lv → n + 1 < nL → (∀ ls' : Array Slot, lv_has ls' nL ((n, Value.long x) :: lv.filter (fun q => !(q.1 == n) && (!(q.1 == n + 1) && !(q.1 + 1 == n && q.2.category == 2)))) → W p l e R s m args below meth c H locs cells slots Q (F0 m pc' ls' rest)) → W p l e R s m args below meth c H locs cells slots Q (F0 m pc ls (.long x :: rest))) (hs : zSim X fr P pc' k) : zSim X fr P pc (xlst n k) := by
  intro Ch cA D ad0 A MC MS p l e s m args below meth c ls st H locs cells slots L S h Cx hk R0
  obtain ⟨ws, hHp, hpre, hP, hD, hS, hL, hst, hcb, hsb⟩ := R0
  obtain ⟨a, S, rfl, hk⟩ := zpL_t hk
  obtain ⟨x, st, rfl, hx, hst⟩ := zRepL_L hst
  have hk : zst (n + 1) zU L (fun L => zst n (zL a) L (fun L => k L S h)) = true := hk
  obtain ⟨L1, hlen1, hn1, hz1, hk⟩ := zst_t (n + 1) hk
  have hk : zst n (zL a) L1 (fun L => k L S h) = true := hk
  obtain ⟨L', hlen, hn, hz, hk⟩ := zst_t n hk
  obtain ⟨hLn, lv, hlv, hall⟩ := hL
  refine row Cx.1 Cx.2.1 hlv (by rw [← hLn]; exact hn1) (fun ls' hls => ?_)
  refine hs Ch cA D ad0 A MC MS p l e s m args below meth c ls' _ H locs cells slots L' _ h Cx hk ⟨ws, hHp, hpre, hP, hD, hS, ⟨by rw [hlen, hlen1]; exact hLn, _, hls, fun i w hw => ?_⟩, hst, hcb, hsb⟩
  rw [hz i] at hw
  unfold zsta at hw
  by_cases h1 : i = n
  · rw [if_pos h1] at hw
    cases hw
    exact Or.inr ⟨_, by rw [h1]; exact List.mem_cons_self, x, rfl, hx⟩
  · rw [if_neg h1] at hw
    have hz1 := hz1 i
    unfold zsta at hz1
    by_cases h3 : i = n + 1
    · rw [if_neg (by omega)] at hw
      rw [if_pos h3] at hz1
      rw [hz1] at hw
      cases hw
      exact Or.inl rfl
    · rw [if_neg h3, if_neg (by omega)] at hz1
      by_cases h2 : i + 1 = n
      · rw [if_pos h2, hz1] at hw
        obtain ⟨u, hu, hw2⟩ := Option.map_eq_some_iff.mp hw
        match u, hu, hw2 with
        | .inl a, hu, hw2 =>
          have hw2 : zI a = w := hw2
          subst hw2
          rcases hall i _ hu with q | ⟨x', hx', hr⟩
          · cases q
          · refine Or.inr ⟨x', List.mem_cons_of_mem _ (List.mem_filter.mpr ⟨hx', ?_⟩), hr⟩
            obtain ⟨y, rfl, -⟩ := hr
            simp [h1, h3, Value.category]
        | .inr (.inl a), hu, hw2 =>
          have hw2 : zR a = w := hw2
          subst hw2
          rcases hall i _ hu with q | ⟨x', hx', hr⟩
          · cases q
          · refine Or.inr ⟨x', List.mem_cons_of_mem _ (List.mem_filter.mpr ⟨hx', ?_⟩), hr⟩
            obtain ⟨y, rfl, -⟩ := hr
            cases y <;> simp [h1, h3, Value.category, va_rf]
        | .inr (.inr (.inl a)), hu, hw2 =>
          have hw2 : zU = w := hw2
          exact Or.inl hw2.symm
        | .inr (.inr (.inr a)), hu, hw2 =>
          have hw2 : zW a = w := hw2
          subst hw2
          rcases hall i _ hu with q | ⟨x', hx', hr⟩
          · exact Or.inl q
          · refine Or.inr ⟨x', List.mem_cons_of_mem _ (List.mem_filter.mpr ⟨hx', ?_⟩), hr⟩
            rcases hr with ⟨-, k0, a0, -, -, -, rfl⟩ | ⟨-, rfl⟩
            · simp [h1, h3, Value.category]
            · generalize zop (zad cA ws).2 (a - 1152921504606846976) = o
              cases o <;> simp [h1, h3, Value.category, va_rf]
      · rw [if_neg h2, hz1] at hw
        rcases hall i _ hw with q | ⟨x', hx', hr⟩
        · exact Or.inl q
        · refine Or.inr ⟨x', List.mem_cons_of_mem _ (List.mem_filter.mpr ⟨hx', ?_⟩), hr⟩
          simp [h1, h2, h3]
theorem sm_lstore_n [G : zGh] {n : Nat} {f : Fin 4} (dg : decode X.2.1 pc = .ok (.lstore_n f, 1)) (hf : (f : Nat) = n) (hs : zSim X fr P (pc + 1) k) : zSim X fr P pc (xlst n k) := sm_lst (fun hx hb h hn kk => lv_lstore_n hx hb dg hf h hn rfl kk) hs
theorem sm_lstore [G : zGh] {n : Nat} (dg : decode X.2.1 pc = .ok (.lstore n, 2)) (hs : zSim X fr P (pc + 2) k) : zSim X fr P pc (xlst n k) := sm_lst (fun hx hb h hn kk => lv_lstore hx hb dg h hn rfl kk) hs
/-- iinc -/
noncomputable def xinc (n v : Nat) (k : zK d) : zK d := fun L S h => znth n L (fun u => Sum.rec (motive := fun _ => Bool) (fun a => zF (fun w => zst n (zI w) L (fun L => k L S h)) (zadd a v)) (fun _ => false) u)
theorem sm_iinc [G : zGh] {n v : Nat} {z : Int} (dg : decode X.2.1 pc = .ok (.iinc n z, 3)) (hz : zi (Int32.ofInt z) = v) (hs : zSim X fr P (pc + 3) k) : zSim X fr P pc (xinc n v k) := by
  intro Ch cA D ad0 A MC MS p l e s m args below meth c ls st H locs cells slots L S h Cx hk R0
  obtain ⟨ws, hHp, hpre, hP, hD, hS, hL, hst, hcb, hsb⟩ := R0
  obtain ⟨u, hu, hk2⟩ := znth_t n hk
  match u, hu, hk2 with
  | .inl a, hu, hk2 =>
    have hk2 : zF (fun w => zst n (zI w) L (fun L => k L S h)) (zadd a v) = true := hk2
    rw [zF_eq] at hk2
    obtain ⟨L', hlen, hn, hz2, hk2⟩ := zst_t n hk2
    obtain ⟨hLn, lv, hlv, hall⟩ := hL
    rcases hall n _ hu with q | ⟨x, hx, i, rfl, hi⟩
    · cases q
    · obtain ⟨j, hj⟩ := List.getElem?_of_mem hx
      refine lv_iinc (k := j) Cx.1 Cx.2.1 dg hlv hj rfl (by rw [← hLn]; exact hn) rfl (fun ls' hls => ?_)
      exact hs Ch cA D ad0 A MC MS p l e s m args below meth c ls' _ H locs cells slots L' _ h Cx hk2 ⟨ws, hHp, hpre, hP, hD, hS, zLoc_set1 (by rw [hlen]; exact hLn) hz2 hall (Or.inr ⟨_, rfl, zIs_of (zadd_ok hi.1 (fun _ => hz)) (zadd_le _ _)⟩) hls, hst, hcb, hsb⟩
end OPS
