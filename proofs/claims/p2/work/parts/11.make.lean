/-! cells made -/
theorem zad_push {cA : Nat → ClassId} (ws : va_W) (q : Nat) (e : va_E) : zad cA (ws ++ [(q, e)]) = (ws.map (fun q => q.1) ++ [q], cA) := by
  show ((ws ++ [(q, e)]).map (fun q => q.1), cA) = _
  rw [List.map_append]
  rfl
theorem zad_new {cA : Nat → ClassId} {ws : va_W} {q n : Nat} {e : va_E} (h : ws.length = n) : (zad cA (ws ++ [(q, e)])).1[n]? = some q := by
  rw [zad_push, ← h]
  show (ws.map (fun q => q.1) ++ [q])[ws.length]? = some q
  rw [← List.length_map (f := fun q : Nat × va_E => q.1), List.getElem?_concat_length]
theorem zPre_push {cA : Nat → ClassId} (ws : va_W) (q : Nat) (e : va_E) : zPre (zad cA ws) (zad cA (ws ++ [(q, e)])) := ⟨⟨[q], by rw [zad_push]⟩, rfl⟩
theorem zHp_push [zCh] {d : Nat} {cA : Nat → ClassId} {h : zH d} {ws : va_W} (hH : zHp cA h ws) {q : Nat} {e : va_E} {c : zC} {b : Nat × Nat} (hn : h.2.1 < 2 ^ d) (hc : zCell cA (zad cA (ws ++ [(q, e)])) c e) : zHp cA (zset d h.1 h.2.1 c, (h.2.1 + 1, b)) (ws ++ [(q, e)]) := by
  refine ⟨by rw [List.length_append, hH.1]; rfl, hn, fun i x hi => ?_⟩
  by_cases hl : i < ws.length
  · rw [List.getElem?_append_left hl] at hi
    show zCell cA _ (zget d (zset d h.1 h.2.1 c) i) x.2
    rw [zget_set_ne d _ _ _ _ hn (Nat.lt_of_lt_of_le (by rw [← hH.1]; exact hl) hH.2.1) (by have := hH.1; omega)]
    exact zCell_mono (zPre_push ws q e) (hH.2.2 i x hi)
  · have hb : i < (ws ++ [(q, e)]).length := (List.getElem?_eq_some_iff.mp hi).1
    rw [List.length_append] at hb
    have hb : i < ws.length + 1 := hb
    have hie : i = ws.length := by omega
    subst hie
    rw [List.getElem?_concat_length] at hi
    cases hi
    show zCell cA _ (zget d (zset d h.1 h.2.1 c) ws.length) e
    rw [hH.1, zget_set_same d _ _ _ hn]
    exact hc
theorem zLoc_mono [zGh] {ad ad' : zA} (hp : zPre ad ad') {nL : Nat} {L : List zV} {ls : Array Slot} (h : zLoc ad nL L ls) : zLoc ad' nL L ls := by
  obtain ⟨h1, lv, h2, h3⟩ := h
  exact ⟨h1, lv, h2, fun i v hv => (h3 i v hv).imp id (fun ⟨x, a, b⟩ => ⟨x, a, zRep_mono hp b⟩)⟩
theorem zwd_zero (b i : Nat) : zwd b 0 i = 0 := by
  unfold zwd
  show (0 >>> (b * i)) % 2 ^ b = 0
  rw [Nat.zero_shiftRight, Nat.zero_mod]
/-- a cell behind the others, with what is left of the room -/
noncomputable def zmk {d : Nat} (h : zH d) (need : Nat) (c : zC) (k : Nat → zH d → Bool) : Bool := Prod.rec (motive := fun _ => Bool) (fun t u => Prod.rec (motive := fun _ => Bool) (fun n w => Prod.rec (motive := fun _ => Bool) (fun bc bs => cond (Nat.ble 1 bc) (cond (Nat.ble need bs) (cond (Nat.ble (Nat.pow 2 d) n) false (zsetK d t n c (fun t => zF (fun n => zF (fun bc => zF (fun bs => k n (t, (n, (bc, bs)))) (Nat.sub bs need)) (Nat.sub bc 1)) (Nat.succ n)))) false) false) w) u) h
theorem zmk_t {d : Nat} {h : zH d} {need : Nat} {c : zC} {k : Nat → zH d → Bool} (hk : zmk h need c k = true) : 1 ≤ h.2.2.1 ∧ need ≤ h.2.2.2 ∧ h.2.1 < 2 ^ d ∧ k (h.2.1 + 1) (zset d h.1 h.2.1 c, (h.2.1 + 1, (h.2.2.1 - 1, h.2.2.2 - need))) = true := by
  obtain ⟨t, n, bc, bs⟩ := h
  have hk : cond (Nat.ble 1 bc) (cond (Nat.ble need bs) (cond (Nat.ble (Nat.pow 2 d) n) false (zsetK d t n c (fun t => zF (fun n => zF (fun bc => zF (fun bs => k n (t, (n, (bc, bs)))) (Nat.sub bs need)) (Nat.sub bc 1)) (Nat.succ n)))) false) false = true := hk
  cases h1 : Nat.ble 1 bc
  · rw [h1] at hk; cases hk
  · cases h2 : Nat.ble need bs
    · rw [h1, h2] at hk; cases hk
    · cases h3 : Nat.ble (Nat.pow 2 d) n
      · rw [h1, h2, h3, cond_true, cond_true, cond_false, zsetK_eq, zF_eq, zF_eq, zF_eq] at hk
        exact ⟨Nat.le_of_ble_eq_true h1, Nat.le_of_ble_eq_true h2, zble_f h3, hk⟩
      · rw [h1, h2, h3] at hk; cases hk
theorem va_RA_inj {s : State} {c1 c2 : ClassId} {ty : FieldType} (h1 : va_RA s c1 ty) (h2 : va_RA s c2 ty) : c1 = c2 := by
  cases ty with
  | object C =>
    obtain ⟨_, _, _, _, _, e1⟩ := h1
    obtain ⟨_, _, _, _, _, e2⟩ := h2
    exact Option.some.inj (e1.symm.trans e2)
  | _ => exact Option.some.inj (Eq.trans (Eq.symm h1) h2)
theorem va_K_last {D : va_G} {cl : List vw_C} {tys : List (ClassId × FieldType)} {s : State} {cA : ClassId} {ty : FieldType} (h : va_K D cl (tys ++ [(cA, ty)]) s) : va_RA s cA ty := (h.2 tys.length (cA, ty) (by rw [List.getElem?_concat_length])).2
section OPS
variable {d : Nat} {X : zM} {fr : Nat} {P : zP d} {pc pc' tgt : Nat} {k : zK d}
noncomputable def xnew (kc N : Nat) (k : zK d) : zK d := fun L S h => zmk h N (kc, N, 0) (fun r h => k L (zR r :: S) h)
theorem zdef [zCh] (t : FieldType) (ad : zA) (h : t = .int ∨ zisR t = true) : zRepC ad (cond (zisR t) (zR 0) (zI 0)) (defaultValue t) := by
  rcases h with rfl | h
  · exact ⟨0, rfl, ⟨⟨fun _ => rfl, fun q => absurd q (by omega)⟩, fun q => absurd q (by decide)⟩, fun q => absurd q (by omega), fun q => absurd q (by omega)⟩
  · rw [h, cond_true]
    cases t <;> first | exact ⟨none, rfl, Or.inl ⟨by decide, Or.inl ⟨rfl, rfl⟩⟩⟩ | cases h
theorem sm_new [G : zGh] {ci kc index : Nat} {C : String} {T : u_T} {N : Nat} {ty0 : Nat → FieldType} (hkc : 16 + ci = kc) (hN : N = zN ci) (hfty : ∀ j, j < N → ty0 j = zfty ci j) (hall : ∀ j, j < N → zfty ci j = .int ∨ zisR (zfty ci j) = true) (hin : ∀ w ∈ u_ws C T N, w ∈ ztbl) (hty : ∀ k, k < N → parseFieldDescriptor (T k).2.2.1 = some (ty0 k)) (hc : zcl[ci]? = some (C, T, N)) (hcl : Cond.classLink X.1 index C ∈ ztbl) (hinst : Cond.instantiable C N ∈ ztbl) (hini : Cond.initialized C ∈ ztbl) (dg : decode X.2.1 pc = .ok (.new index, 3)) (hs : zSim X fr P (pc + 3) k) : zSim X fr P pc (xnew kc N k) := by
  subst hkc
  intro Ch cA D ad0 A MC MS p l e s m args below meth c ls st H locs cells slots L S h Cx hk R0
  obtain ⟨ws, hHp, hpre, hP, hD, hS, hL, hst, hcb, hsb⟩ := R0
  obtain ⟨h1, h2, h3, hk⟩ := zmk_t hk
  refine va_new (fs := (List.range N).map (fun j => defaultValue (ty0 j))) Cx.1 Cx.2.1 Cx.2.2.2.2.1 hin ty0 hty Cx.2.2.2.1 (Cx.2.2.2.2.1 _ hcl) (Cx.2.2.2.2.1 _ hinst) (Cx.2.2.2.2.1 _ hini) Cx.2.2.2.2.2.1 hP hD hS Cx.2.2.2.2.2.2.1 hc (fun j hj => ?_) (by show cells + 1 ≤ MC; omega) (by show slots + N ≤ MS; omega) dg (fun q H1 hP1 hD1 hS1 => ?_)
  · show _ = ((List.range N).map (fun j => defaultValue (ty0 j))).getD j .null
    rw [List.getD_eq_getElem?_getD, List.getElem?_map, List.getElem?_range hj]
    rfl
  · have hp := zPre_push (cA := cA) ws q (.inr (ci, (List.range N).map (fun j => defaultValue (ty0 j))))
    refine hs Ch cA D ad0 A MC MS p l e s m args below meth c ls _ H1 locs _ _ L _ _ Cx hk ⟨_, zHp_push hHp h3 (zCell_ok (by rw [List.length_map, List.length_range]; exact hN) (fun j v hj => ?_)), zPre_trans hpre hp, hP1, hD1, hS1, zLoc_mono hp hL, ⟨⟨some q, rfl, Or.inr ⟨h.2.1, q, rfl, zad_new hHp.1, rfl⟩⟩, zRepL_mono hp hst⟩, by show cells + 1 + (h.2.2.1 - 1) ≤ MC; omega, by show slots + N + (h.2.2.2 - N) ≤ MS; omega⟩
    have hj2 : j < N := by
      have := (List.getElem?_eq_some_iff.mp hj).1
      rw [List.length_map, List.length_range] at this
      exact this
    rw [List.getElem?_map, List.getElem?_range hj2] at hj
    cases hj
    unfold zFl
    rw [zwd_zero]
    show zRepC _ _ (defaultValue (ty0 j))
    rw [hfty j hj2]
    exact zdef _ _ (hall j hj2)
/-- new int[n], long[n], boolean[n] -/
noncomputable def xnwa (kc : Nat) (k : zK d) : zK d := fun L S h => zpI S (fun n S => cond (Nat.ble n 100000) (zmk h n (kc, n, 0) (fun r h => k L (zR r :: S) h)) false)
theorem zi_len {i : Int32} {n : Nat} (hi : n < 4294967296 → zi i = n) (h : n ≤ 100000) : ¬ i < 0 ∧ i.toNatClampNeg = n := by
  have e := hi (by omega)
  have h2 : i.toInt = (n : Int) := by
    rcases zi_cases i with ⟨c1, c2⟩ | ⟨c1, c2⟩ <;> omega
  refine ⟨fun q => ?_, by show i.toInt.toNat = n; omega⟩
  rw [Int32.lt_iff_toInt_lt] at q
  have h0 : (0 : Int32).toInt = 0 := rfl
  omega
theorem sm_newarray [G : zGh] {kc : Nat} {atype : ArrayType} {ty : FieldType} (dg : decode X.2.1 pc = .ok (.newarray atype, 2)) (hty : newarray.typeOf atype = ty) (hk2 : kc < 3) (hT : ∀ cA, (zty cA)[kc]? = some (cA kc, ty)) (harr : Cond.arrayClass ty ∈ ztbl) (hcb0 : componentBytes ty ≤ 8)
    (hcell : ∀ [zCh] (cA : Nat → ClassId) (ad : zA) (n : Nat), n < 2147483648 → ∃ a0 : vp_A, a0.1 = n ∧ (∀ c : ClassId, vp_cell c a0 = arrV c n (fun _ => defaultValue ty)) ∧ zCell cA ad (kc, n, 0) (.inl (cA kc, a0))) (hs : zSim X fr P (pc + 2) k) : zSim X fr P pc (xnwa kc k) := by
  intro Ch cA D ad0 A MC MS p l e s m args below meth c ls st H locs cells slots L S h Cx hk R0
  obtain ⟨ws, hHp, hpre, hP, hD, hS, hL, hst, hcb, hsb⟩ := R0
  obtain ⟨n, S, rfl, hk1⟩ := zpI_t hk
  obtain ⟨i, st, rfl, hi, hst1⟩ := zRepL_I hst
  have hk1 : cond (Nat.ble n 100000) (zmk h n (kc, n, 0) (fun r h => k L (zR r :: S) h)) false = true := hk1
  cases hb : Nat.ble n 100000
  · rw [hb] at hk1; cases hk1
  · rw [hb, cond_true] at hk1
    have hn := Nat.le_of_ble_eq_true hb
    obtain ⟨h1, h2, h3, hk3⟩ := zmk_t hk1
    obtain ⟨g1, g2⟩ := zi_len hi.1 hn
    obtain ⟨a0, e0, ha0, -⟩ := hcell cA ([], cA) n (by omega)
    subst hty
    refine va_newa (atype := atype) (a0 := a0) Cx.1 Cx.2.1 (Cx.2.2.2.2.1 _ harr) rfl Cx.2.2.2.2.2.1 hP hD hS Cx.2.2.2.2.2.2.1 ha0 g1 g2 (Nat.le_trans (Nat.mul_le_mul hn hcb0) (by decide)) (by show cells + 1 ≤ MC; omega) (by show slots + n ≤ MS; omega) dg (fun q cA1 H1 hK1 hP1 hD1 hS1 => ?_)
    have hce : cA1 = cA kc := va_RA_inj (va_K_last hK1) (Cx.2.2.2.2.2.1.2 kc _ (hT cA)).2
    subst hce
    obtain ⟨a1, e1, ha1, hc1⟩ := hcell cA (zad cA (ws ++ [(q, .inl (cA kc, a0))])) n (by omega)
    have hp := zPre_push (cA := cA) ws q (.inl (cA kc, a0))
    have hca : vp_cell (cA kc) a0 = vp_cell (cA kc) a1 := (ha0 _).trans (ha1 _).symm
    have hP2 : va_P D zcl (ws ++ [(q, .inl (cA kc, a1))]) H1 := by
      intro j x hj
      by_cases hl : j < ws.length
      · exact hP1 j x (by rw [List.getElem?_append_left hl] at hj ⊢; exact hj)
      · have hb := (List.getElem?_eq_some_iff.mp hj).1
        rw [List.length_append] at hb
        have hb : j < ws.length + 1 := hb
        have hje : j = ws.length := by omega
        subst hje
        rw [List.getElem?_concat_length] at hj
        cases hj
        have := hP1 ws.length (q, .inl (cA kc, a0)) (by rw [List.getElem?_concat_length])
        show H1[q]? = some (vp_cell (cA kc) a1)
        rw [← hca]
        exact this
    have hz : zad cA (ws ++ [(q, .inl (cA kc, a1))]) = zad cA (ws ++ [(q, .inl (cA kc, a0))]) := by rw [zad_push, zad_push]
    have hD2 : va_D A (ws ++ [(q, .inl (cA kc, a1))]) := by
      have lift : ∀ (j : Nat) (x : Nat × va_E), (ws ++ [(q, .inl (cA kc, a1))])[j]? = some x → ∃ y, (ws ++ [(q, .inl (cA kc, a0))])[j]? = some y ∧ y.1 = x.1 := by
        intro j x hj
        have h5 : (zad cA (ws ++ [(q, .inl (cA kc, a1))])).1[j]? = some x.1 := by show (List.map (fun q => q.1) (ws ++ [(q, .inl (cA kc, a1))]))[j]? = some x.1; rw [List.getElem?_map, hj]; rfl
        rw [hz] at h5
        obtain ⟨e5, h6⟩ := zad_at h5
        exact ⟨_, h6, rfl⟩
      refine ⟨fun a b x y hx hy hxy => ?_, fun j x hj => ?_⟩
      · obtain ⟨x', hx', ex⟩ := lift a x hx
        obtain ⟨y', hy', ey⟩ := lift b y hy
        exact hD1.1 a b x' y' hx' hy' (by rw [ex, ey]; exact hxy)
      · obtain ⟨x', hx', ex⟩ := lift j x hj
        rw [← ex]
        exact hD1.2 j x' hx'
    exact hs Ch cA D ad0 A MC MS p l e s m args below meth c ls _ H1 locs _ _ L _ _ Cx hk3 ⟨_, zHp_push hHp h3 (by rw [hz]; exact hc1), by rw [hz]; exact zPre_trans hpre hp, hP2, hD2, hS1, by rw [hz]; exact zLoc_mono hp hL, by rw [hz]; exact ⟨⟨some q, rfl, Or.inr ⟨h.2.1, q, rfl, zad_new hHp.1, rfl⟩⟩, zRepL_mono hp hst1⟩, by show cells + 1 + (h.2.2.1 - 1) ≤ MC; omega, by show slots + n + (h.2.2.2 - n) ≤ MS; omega⟩
theorem sm_newI [G : zGh] (dg : decode X.2.1 pc = .ok (.newarray .int, 2)) (harr : Cond.arrayClass .int ∈ ztbl) (hs : zSim X fr P (pc + 2) k) : zSim X fr P pc (xnwa 0 k) := sm_newarray (ty := .int) dg rfl (by decide) (fun _ => rfl) harr (by decide) (fun cA ad n hn => ⟨(n, .inl (fun _ => 0)), rfl, fun _ => rfl, zCell_ik (by decide) hn (fun j _ => by rw [zwd_zero]; exact ⟨fun _ => rfl, fun q => absurd q (by omega)⟩)⟩) hs
theorem sm_newZ [G : zGh] (dg : decode X.2.1 pc = .ok (.newarray .boolean, 2)) (harr : Cond.arrayClass .boolean ∈ ztbl) (hs : zSim X fr P (pc + 2) k) : zSim X fr P pc (xnwa 1 k) := sm_newarray (ty := .boolean) dg rfl (by decide) (fun _ => rfl) harr (by decide) (fun cA ad n hn => ⟨(n, .inl (fun _ => 0)), rfl, fun _ => rfl, zCell_ik (by decide) hn (fun j _ => by rw [zwd_zero]; exact ⟨fun _ => rfl, fun q => absurd q (by omega)⟩)⟩) hs
theorem sm_newJ [G : zGh] (dg : decode X.2.1 pc = .ok (.newarray .long, 2)) (harr : Cond.arrayClass .long ∈ ztbl) (hs : zSim X fr P (pc + 2) k) : zSim X fr P pc (xnwa 2 k) := sm_newarray (ty := .long) dg rfl (by decide) (fun _ => rfl) harr (by decide) (fun cA ad n hn => ⟨(n, .inr (.inl (fun _ => 0))), rfl, fun _ => rfl, zCell_jk hn (fun j _ => by rw [zwd_zero]; exact ⟨fun _ => rfl, fun q => absurd q (by decide)⟩)⟩) hs
/-- new C[n] -/
theorem sm_anewarray [G : zGh] {kc index : Nat} {C : String} (h3 : 3 ≤ kc) (h16 : kc < 8) (hT : ∀ cA, (zty cA)[kc]? = some (cA kc, .object C)) (hcl : Cond.classLink X.1 index C ∈ ztbl) (hov : ∀ s, zEx s → va_AO C s) (dg : decode X.2.1 pc = .ok (.anewarray index, 3)) (hs : zSim X fr P (pc + 3) k) : zSim X fr P pc (xnwa kc k) := by
  intro Ch cA D ad0 A MC MS p l e s m args below meth c ls st H locs cells slots L S h Cx hk R0
  obtain ⟨ws, hHp, hpre, hP, hD, hS, hL, hst, hcb, hsb⟩ := R0
  obtain ⟨n, S, rfl, hk1⟩ := zpI_t hk
  obtain ⟨i, st, rfl, hi, hst1⟩ := zRepL_I hst
  have hk1 : cond (Nat.ble n 100000) (zmk h n (kc, n, 0) (fun r h => k L (zR r :: S) h)) false = true := hk1
  cases hb : Nat.ble n 100000
  · rw [hb] at hk1; cases hk1
  · rw [hb, cond_true] at hk1
    have hn := Nat.le_of_ble_eq_true hb
    obtain ⟨h1, h2, h4, hk3⟩ := zmk_t hk1
    obtain ⟨g1, g2⟩ := zi_len hi.1 hn
    refine va_newq Cx.1 Cx.2.1 Cx.2.2.2.1 (Cx.2.2.2.2.1 _ hcl) (hov _ Cx.2.2.2.2.2.2.2.2.2.2.2) Cx.2.2.2.2.2.1 hP hD hS Cx.2.2.2.2.2.2.1 g1 g2 (by omega) (by show cells + 1 ≤ MC; omega) (by show slots + n ≤ MS; omega) dg (fun q cA1 H1 hK1 hP1 hD1 hS1 => ?_)
    have hce : cA1 = cA kc := va_RA_inj (va_K_last hK1) (Cx.2.2.2.2.2.1.2 kc _ (hT cA)).2
    subst hce
    have hp := zPre_push (cA := cA) ws q (.inl (cA kc, n, .inr (.inr (.inr (.inr (fun _ => none))))))
    exact hs Ch cA D ad0 A MC MS p l e s m args below meth c ls _ H1 locs _ _ L _ _ Cx hk3 ⟨_, zHp_push hHp h4 (zCell_rk h3 h16 (by omega) (fun j _ => by rw [zwd_zero]; exact Or.inl ⟨by decide, Or.inl ⟨rfl, rfl⟩⟩)), zPre_trans hpre hp, hP1, hD1, hS1, zLoc_mono hp hL, ⟨⟨some q, rfl, Or.inr ⟨h.2.1, q, rfl, zad_new hHp.1, rfl⟩⟩, zRepL_mono hp hst1⟩, by show cells + 1 + (h.2.2.1 - 1) ≤ MC; omega, by show slots + n + (h.2.2.2 - n) ≤ MS; omega⟩
end OPS
