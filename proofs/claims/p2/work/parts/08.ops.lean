/-! branches one by one, loops, joins, returns -/
theorem ze_ge (x y : Int32) : tge (zi x) (zi y) = true ↔ y ≤ x := zlei_ok
theorem ze_le (x y : Int32) : tle (zi x) (zi y) = true ↔ x ≤ y := zlei_ok
theorem ze_eq (x y : Int32) : Nat.beq (zi x) (zi y) = true ↔ x = y := ⟨fun h => zi_inj (Nat.eq_of_beq_eq_true h), fun h => by rw [h, Nat.beq_refl]⟩
theorem ze_0ge (x : Int32) : t0ge (zi x) = true ↔ ¬ x < 0 := by
  unfold t0ge
  rw [zble_iff, Int32.lt_iff_toInt_lt]
  have h0 : (0 : Int32).toInt = 0 := rfl
  rw [h0]
  rcases zi_cases x with ⟨c1, c2⟩ | ⟨c1, c2⟩ <;> have := zi_lt x <;> omega
theorem ze_0le (x : Int32) : t0le (zi x) = true ↔ x ≤ 0 := by
  unfold t0le
  rw [Int32.le_iff_toInt_le]
  have h0 : (0 : Int32).toInt = 0 := rfl
  rw [h0]
  have hl := zi_lt x
  cases hb : Nat.beq (zi x) 0
  · have hne : zi x ≠ 0 := fun q => (by rw [q] at hb; cases hb)
    rw [cond_false, zble_iff]
    rcases zi_cases x with ⟨c1, c2⟩ | ⟨c1, c2⟩ <;> omega
  · have he : zi x = 0 := Nat.eq_of_beq_eq_true hb
    rw [cond_true]
    rcases zi_cases x with ⟨c1, c2⟩ | ⟨c1, c2⟩ <;> simp <;> omega
theorem ze_0eq (x : Int32) : t0eq (zi x) = true ↔ x = 0 := ⟨fun h => zi_zero.mp (Nat.eq_of_beq_eq_true h), fun h => by unfold t0eq; rw [zi_zero.mpr h]; rfl⟩
section OPS
variable {d : Nat} {X : zM} {fr : Nat} {P : zP d} {pc pc' tgt : Nat} {off : Int} {k kt kf : zK d}
theorem sm_icmp_ge [G : zGh] (dg : decode X.2.1 pc = .ok (.if_icmp .ge off, 3)) (ht : (pc : Int) + off = (tgt : Int)) (h1 : zSim X fr P tgt kt) (h2 : zSim X fr P (pc + 3) kf) : zSim X fr P pc (xcmp tge kt kf) := sm_cmp ze_ge (fun hx hb a b => lv_icmp_ge hx hb dg ht a b) h1 h2
theorem sm_icmp_lt [G : zGh] (dg : decode X.2.1 pc = .ok (.if_icmp .lt off, 3)) (ht : (pc : Int) + off = (tgt : Int)) (h1 : zSim X fr P tgt kt) (h2 : zSim X fr P (pc + 3) kf) : zSim X fr P pc (xcmp tge kf kt) := sm_cmp ze_ge (fun hx hb a b => lv_icmp_lt hx hb dg ht (fun q => b (Int32.not_le.mpr q)) (fun q => a (Int32.not_lt.mp q))) h2 h1
theorem sm_icmp_gt [G : zGh] (dg : decode X.2.1 pc = .ok (.if_icmp .gt off, 3)) (ht : (pc : Int) + off = (tgt : Int)) (h1 : zSim X fr P tgt kt) (h2 : zSim X fr P (pc + 3) kf) : zSim X fr P pc (xcmp tle kf kt) := sm_cmp ze_le (fun hx hb a b => lv_icmp_gt hx hb dg ht (fun q => b (Int32.not_le.mpr q)) (fun q => a (Int32.not_lt.mp q))) h2 h1
theorem sm_icmp_le [G : zGh] (dg : decode X.2.1 pc = .ok (.if_icmp .le off, 3)) (ht : (pc : Int) + off = (tgt : Int)) (h1 : zSim X fr P tgt kt) (h2 : zSim X fr P (pc + 3) kf) : zSim X fr P pc (xcmp tle kt kf) := sm_cmp ze_le (fun hx hb a b => lv_icmp_le hx hb dg ht a b) h1 h2
theorem sm_icmp_eq [G : zGh] (dg : decode X.2.1 pc = .ok (.if_icmp .eq off, 3)) (ht : (pc : Int) + off = (tgt : Int)) (h1 : zSim X fr P tgt kt) (h2 : zSim X fr P (pc + 3) kf) : zSim X fr P pc (xcmp Nat.beq kt kf) := sm_cmp ze_eq (fun hx hb a b => lv_icmp_eq hx hb dg ht a b) h1 h2
theorem sm_icmp_ne [G : zGh] (dg : decode X.2.1 pc = .ok (.if_icmp .ne off, 3)) (ht : (pc : Int) + off = (tgt : Int)) (h1 : zSim X fr P tgt kt) (h2 : zSim X fr P (pc + 3) kf) : zSim X fr P pc (xcmp Nat.beq kf kt) := sm_cmp ze_eq (fun hx hb a b => lv_icmp_ne hx hb dg ht b (fun q => a q)) h2 h1
theorem sm_if_ge [G : zGh] (dg : decode X.2.1 pc = .ok (.ifCond .ge off, 3)) (ht : (pc : Int) + off = (tgt : Int)) (h1 : zSim X fr P tgt kt) (h2 : zSim X fr P (pc + 3) kf) : zSim X fr P pc (xif0 t0ge kt kf) := sm_if0 ze_0ge (fun hx hb a b => lv_if_ge hx hb dg ht (fun q => a (Int32.not_lt.mpr q)) (fun q => b (fun z => q (Int32.not_lt.mp z)))) h1 h2
theorem sm_if_lt [G : zGh] (dg : decode X.2.1 pc = .ok (.ifCond .lt off, 3)) (ht : (pc : Int) + off = (tgt : Int)) (h1 : zSim X fr P tgt kt) (h2 : zSim X fr P (pc + 3) kf) : zSim X fr P pc (xif0 t0ge kf kt) := sm_if0 ze_0ge (fun hx hb a b => lv_if_lt hx hb dg ht (fun q => b (fun z => z q)) (fun q => a q)) h2 h1
theorem sm_if_le [G : zGh] (dg : decode X.2.1 pc = .ok (.ifCond .le off, 3)) (ht : (pc : Int) + off = (tgt : Int)) (h1 : zSim X fr P tgt kt) (h2 : zSim X fr P (pc + 3) kf) : zSim X fr P pc (xif0 t0le kt kf) := sm_if0 ze_0le (fun hx hb a b => lv_if_le hx hb dg ht a b) h1 h2
theorem sm_if_gt [G : zGh] (dg : decode X.2.1 pc = .ok (.ifCond .gt off, 3)) (ht : (pc : Int) + off = (tgt : Int)) (h1 : zSim X fr P tgt kt) (h2 : zSim X fr P (pc + 3) kf) : zSim X fr P pc (xif0 t0le kf kt) := sm_if0 ze_0le (fun hx hb a b => lv_if_gt hx hb dg ht (fun q => b (Int32.not_le.mpr q)) (fun q => a (Int32.not_lt.mp q))) h2 h1
theorem sm_if_eq [G : zGh] (dg : decode X.2.1 pc = .ok (.ifCond .eq off, 3)) (ht : (pc : Int) + off = (tgt : Int)) (h1 : zSim X fr P tgt kt) (h2 : zSim X fr P (pc + 3) kf) : zSim X fr P pc (xif0 t0eq kt kf) := sm_if0 ze_0eq (fun hx hb a b => lv_if_eq hx hb dg ht a b) h1 h2
theorem sm_if_ne [G : zGh] (dg : decode X.2.1 pc = .ok (.ifCond .ne off, 3)) (ht : (pc : Int) + off = (tgt : Int)) (h1 : zSim X fr P tgt kt) (h2 : zSim X fr P (pc + 3) kf) : zSim X fr P pc (xif0 t0eq kf kt) := sm_if0 ze_0eq (fun hx hb a b => lv_if_ne hx hb dg ht b (fun q => a q)) h2 h1
theorem sm_goto [G : zGh] (dg : decode X.2.1 pc = .ok (.goto off, 3)) (ht : (pc : Int) + off = (tgt : Int)) (hs : zSim X fr P tgt k) : zSim X fr P pc k := by
  intro Ch cA D ad0 A MC MS p l e s m args below meth c ls st H locs cells slots L S h Cx hk R0
  exact lv_goto Cx.1 Cx.2.1 dg ht (hs Ch cA D ad0 A MC MS p l e s m args below meth c ls st H locs cells slots L S h Cx hk R0)
noncomputable def xnn (kt kf : zK d) : zK d := fun L S h => zpR S (fun a S => cond (Nat.beq a 0) (kf L S h) (kt L S h))
theorem sm_ifnonnull [G : zGh] (dg : decode X.2.1 pc = .ok (.ifnonnull off, 3)) (ht : (pc : Int) + off = (tgt : Int)) (h1 : zSim X fr P tgt kt) (h2 : zSim X fr P (pc + 3) kf) : zSim X fr P pc (xnn kt kf) := by
  intro Ch cA D ad0 A MC MS p l e s m args below meth c ls st H locs cells slots L S h Cx hk R0
  obtain ⟨ws, hHp, hpre, hP, hD, hS, hL, hst, hcb, hsb⟩ := R0
  obtain ⟨a, S, rfl, hk1⟩ := zpR_t hk
  obtain ⟨x, st, rfl, hx, hst2⟩ := zRepL_R hst
  have hk2 : cond (Nat.beq a 0) (kf L S h) (kt L S h) = true := hk1
  rcases hx with ⟨rfl, rfl⟩ | ⟨j, b, rfl, hb, rfl⟩
  · exact lv_ifnonnullN Cx.1 Cx.2.1 dg (h2 Ch cA D ad0 A MC MS p l e s m args below meth c ls _ H locs cells slots L _ h Cx hk2 ⟨ws, hHp, hpre, hP, hD, hS, hL, hst2, hcb, hsb⟩)
  · exact lv_ifnonnull Cx.1 Cx.2.1 dg ht (h1 Ch cA D ad0 A MC MS p l e s m args below meth c ls _ H locs cells slots L _ h Cx hk2 ⟨ws, hHp, hpre, hP, hD, hS, hL, hst2, hcb, hsb⟩)
/-- a loop's head, with fuel; a join -/
noncomputable def xloop (body : zK d → zK d) (fuel : Nat) : zK d := Nat.rec (motive := fun _ => zK d) (fun _ _ _ => false) (fun _ r => body r) fuel
theorem sm_loop [G : zGh] {body : zK d → zK d} (hb : ∀ r, zSim X fr P pc r → zSim X fr P pc (body r)) : ∀ fuel, zSim X fr P pc (xloop body fuel)
  | 0 => by
    intro Ch cA D ad0 A MC MS p l e s m args below meth c ls st H locs cells slots L S h Cx hk R0
    cases hk
  | n + 1 => hb _ (sm_loop hb n)
noncomputable def xjoin (c : zK d) (f : zK d → zK d) : zK d := f c
theorem sm_join [G : zGh] {c : zK d} {f : zK d → zK d} (hc : zSim X fr P pc' c) (hf : ∀ r, zSim X fr P pc' r → zSim X fr P pc (f r)) : zSim X fr P pc (xjoin c f) := hf c hc
/-- returns -/
noncomputable def xiret (P : zP d) : zK d := fun _ S h => zpI S (fun a T => List.rec (motive := fun _ => Bool) (cond (Nat.ble 1099511627776 a) false (P (zI a) h)) (fun _ _ _ => false) T)
noncomputable def xzret (P : zP d) : zK d := fun _ S h => zpI S (fun a T => List.rec (motive := fun _ => Bool) (cond (Nat.ble 2 a) false (P (zI a) h)) (fun _ _ _ => false) T)
noncomputable def xlret (P : zP d) : zK d := fun _ S h => zpL S (fun a T => List.rec (motive := fun _ => Bool) (P (zL a) h) (fun _ _ _ => false) T)
noncomputable def xaret (P : zP d) : zK d := fun _ S h => zpR S (fun a T => List.rec (motive := fun _ => Bool) (P (zR a) h) (fun _ _ _ => false) T)
noncomputable def xvret (P : zP d) : zK d := fun _ S h => List.rec (motive := fun _ => Bool) (P zU h) (fun _ _ _ => false) S
theorem zvaF {A : Nat → Prop} {s t : State} {H : Heap} {locs : List Loc} (hS : va_S A s.heap H locs) (ht : t.heap = H) : va_F A s t := ⟨by rw [ht]; exact hS.1, fun q h1 h2 => by rw [ht]; exact hS.2.1 q h1 h2⟩
theorem sm_ireturn [G : zGh] (dg : decode X.2.1 pc = .ok (.ireturn, 1)) (hr : X.2.2.2.1 = some .int) : zSim X fr P pc (xiret P) := by
  intro Ch cA D ad0 A MC MS p l e s m args below meth c ls st H locs cells slots L S h Cx hk R0
  obtain ⟨ws, hHp, hpre, hP, hD, hS, hL, hst, hcb, hsb⟩ := R0
  obtain ⟨a, T, rfl, hk1⟩ := zpI_t hk
  obtain ⟨x, st, rfl, hx, hst⟩ := zRepL_I hst
  match T, st, hk1, hst with
  | [], [], hk1, _ =>
    have hk1 : cond (Nat.ble 1099511627776 a) false (P (zI a) h) = true := hk1
    cases hb : Nat.ble 1099511627776 a
    case true => rw [hb] at hk1; cases hk1
    rw [hb, cond_false] at hk1
    refine W.widen (k := MC) (n := MS) (by omega) (by omega) ?_
    exact W.iret Cx.1 Cx.2.1 (by rw [Cx.2.2.2.2.2.2.2.1]; exact hr) (fun t ht _ => ⟨⟨Ch, zI a, h, ws, _, rfl, Or.inr ⟨_, rfl, fun G1 => ⟨x, rfl, zIs_any (G := G) hx (zble_f hb) G1⟩⟩, hk1, hHp, hpre, by rw [ht]; exact hP, hD⟩, zvaF hS ht⟩) hS.2.2 dg Cx.2.2.2.2.2.2.2.2.1.1
theorem zi_bool {a : Nat} {x : Int32} (hx : a < 4294967296 → zi x = a) (h : Nat.ble 2 a = false) : x = 0 ∨ x = 1 := by
  have h1 := zble_f h
  have e := hx (by omega)
  rcases (show a = 0 ∨ a = 1 by omega) with rfl | rfl
  · exact Or.inl (zi_inj (by rw [e]; rfl))
  · exact Or.inr (zi_inj (by rw [e]; rfl))
theorem sm_zreturn [G : zGh] (dg : decode X.2.1 pc = .ok (.ireturn, 1)) (hr : X.2.2.2.1 = some .boolean) : zSim X fr P pc (xzret P) := by
  intro Ch cA D ad0 A MC MS p l e s m args below meth c ls st H locs cells slots L S h Cx hk R0
  obtain ⟨ws, hHp, hpre, hP, hD, hS, hL, hst, hcb, hsb⟩ := R0
  obtain ⟨a, T, rfl, hk1⟩ := zpI_t hk
  obtain ⟨x, st, rfl, hx, hst⟩ := zRepL_I hst
  match T, st, hk1, hst with
  | [], [], hk1, _ =>
    have hk1 : cond (Nat.ble 2 a) false (P (zI a) h) = true := hk1
    cases hb : Nat.ble 2 a
    · rw [hb, cond_false] at hk1
      refine W.widen (k := MC) (n := MS) (by omega) (by omega) ?_
      exact W.zret (ty := .boolean) Cx.1 Cx.2.1 (by rw [Cx.2.2.2.2.2.2.2.1]; exact hr) (by rcases zi_bool hx.1 hb with rfl | rfl <;> rfl) (fun t ht _ => ⟨⟨Ch, zI a, h, ws, _, rfl, Or.inr ⟨_, rfl, fun G1 => ⟨x, rfl, zIs_any (G := G) hx (by have := zble_f hb; omega) G1⟩⟩, hk1, hHp, hpre, by rw [ht]; exact hP, hD⟩, zvaF hS ht⟩) hS.2.2 dg Cx.2.2.2.2.2.2.2.2.1.1
    · rw [hb] at hk1
      cases hk1
theorem sm_lreturn [G : zGh] (dg : decode X.2.1 pc = .ok (.lreturn, 1)) (hr : X.2.2.2.1 = some .long) : zSim X fr P pc (xlret P) := by
  intro Ch cA D ad0 A MC MS p l e s m args below meth c ls st H locs cells slots L S h Cx hk R0
  obtain ⟨ws, hHp, hpre, hP, hD, hS, hL, hst, hcb, hsb⟩ := R0
  obtain ⟨a, T, rfl, hk1⟩ := zpL_t hk
  obtain ⟨x, st, rfl, hx, hst⟩ := zRepL_L hst
  match T, st, hk1, hst with
  | [], [], hk1, _ =>
    refine W.widen (k := MC) (n := MS) (by omega) (by omega) ?_
    exact W.lret Cx.1 Cx.2.1 (by rw [Cx.2.2.2.2.2.2.2.1]; exact hr) (fun t ht _ => ⟨⟨Ch, zL a, h, ws, _, rfl, Or.inr ⟨_, rfl, fun _ => ⟨x, rfl, hx⟩⟩, hk1, hHp, hpre, by rw [ht]; exact hP, hD⟩, zvaF hS ht⟩) hS.2.2 dg Cx.2.2.2.2.2.2.2.2.1.1
theorem sm_areturn [G : zGh] {rt : FieldType} (dg : decode X.2.1 pc = .ok (.areturn, 1)) (hr : X.2.2.2.1 = some rt) (hrt : (∃ n, rt = .object n) ∨ ∃ t, rt = .array t) : zSim X fr P pc (xaret P) := by
  intro Ch cA D ad0 A MC MS p l e s m args below meth c ls st H locs cells slots L S h Cx hk R0
  obtain ⟨ws, hHp, hpre, hP, hD, hS, hL, hst, hcb, hsb⟩ := R0
  obtain ⟨a, T, rfl, hk1⟩ := zpR_t hk
  obtain ⟨x, st, rfl, hx, hst⟩ := zRepL_R hst
  match T, st, hk1, hst with
  | [], [], hk1, _ =>
    refine W.widen (k := MC) (n := MS) (by omega) (by omega) ?_
    exact W.aret Cx.1 Cx.2.1 (by rw [Cx.2.2.2.2.2.2.2.1]; exact hr) hrt (by cases x with
      | none => exact Or.inl rfl
      | some b => exact Or.inr ⟨b, rfl⟩) (fun t ht _ => ⟨⟨Ch, zR a, h, ws, _, rfl, Or.inr ⟨_, rfl, fun _ => ⟨x, rfl, hx⟩⟩, hk1, hHp, hpre, by rw [ht]; exact hP, hD⟩, zvaF hS ht⟩) hS.2.2 dg Cx.2.2.2.2.2.2.2.2.1.1
theorem sm_vreturn [G : zGh] (dg : decode X.2.1 pc = .ok (.return_, 1)) (hr : X.2.2.2.1 = none) : zSim X fr P pc (xvret P) := by
  intro Ch cA D ad0 A MC MS p l e s m args below meth c ls st H locs cells slots L S h Cx hk R0
  obtain ⟨ws, hHp, hpre, hP, hD, hS, hL, hst, hcb, hsb⟩ := R0
  match S, st, hk, hst with
  | [], [], hk1, _ =>
    refine W.widen (k := MC) (n := MS) (by omega) (by omega) ?_
    exact W.vret Cx.1 Cx.2.1 (by rw [Cx.2.2.2.2.2.2.2.1]; exact hr) (fun t ht _ => ⟨⟨Ch, zU, h, ws, _, rfl, Or.inl ⟨rfl, rfl⟩, hk1, hHp, hpre, by rw [ht]; exact hP, hD⟩, zvaF hS ht⟩) hS.2.2 dg Cx.2.2.2.2.2.2.2.2.1.1
end OPS
