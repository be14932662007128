/-! new int[n][m], new long[n][m] -/
/-- numbers from a on, n of them, packed -/
noncomputable def zseq (a n : Nat) : Nat := Nat.rec (motive := fun _ => Nat) 0 (fun i x => zup 40 x i (Nat.add a i)) n
theorem zseq_wd (a : Nat) : ∀ (n i : Nat), i < n → a + n < 2 ^ 40 → zwd 40 (zseq a n) i = a + i
  | 0, i, h, _ => absurd h (by omega)
  | n + 1, i, h, hb => by
    show zwd 40 (zup 40 (zseq a n) n (a + n)) i = a + i
    by_cases q : i = n
    · subst q
      rw [zwd_up_same _ _ _ _ (by omega)]
    · rw [zwd_up_ne _ _ _ _ _ (by omega) (fun z => q z.symm)]
      exact zseq_wd a n i (by omega) (by omega)
noncomputable def zrow {d : Nat} (ki m : Nat) (n : Nat) : zH d → (zH d → Bool) → Bool := Nat.rec (motive := fun _ => zH d → (zH d → Bool) → Bool) (fun h k => k h) (fun _ r h k => zmk h m (ki, m, 0) (fun _ h => r h k)) n
theorem zrow_t [zCh] {d : Nat} {cA : Nat → ClassId} {ki m : Nat} {e : va_E} (he : ∀ ad, zCell cA ad (ki, m, 0) e) : ∀ (n : Nat) (h : zH d) (ws : va_W) (qs : List Nat) {k : zH d → Bool}, qs.length = n → zHp cA h ws → zrow ki m n h k = true → n ≤ h.2.2.1 ∧ n * m ≤ h.2.2.2 ∧ ∃ h' : zH d, k h' = true ∧ zHp cA h' (ws ++ qs.map (fun a => (a, e))) ∧ h'.2.2.1 = h.2.2.1 - n ∧ h'.2.2.2 = h.2.2.2 - n * m
  | 0, h, ws, [], k, _, hH, hk => ⟨Nat.zero_le _, by omega, h, hk, by simpa using hH, rfl, by simp⟩
  | n + 1, h, ws, q :: qs, k, hl, hH, hk => by
    have hk : zmk h m (ki, m, 0) (fun _ h => zrow ki m n h k) = true := hk
    obtain ⟨h1, h2, h3, hk⟩ := zmk_t hk
    have hH2 := zHp_push (q := q) (e := e) (c := (ki, m, 0)) (b := (h.2.2.1 - 1, h.2.2.2 - m)) hH h3 (he _)
    obtain ⟨g1, g2, h', g3, g4, g5, g6⟩ := zrow_t he n _ (ws ++ [(q, e)]) qs (by simpa using hl) hH2 hk
    have g1 : n ≤ h.2.2.1 - 1 := g1
    have g2 : n * m ≤ h.2.2.2 - m := g2
    have g5 : h'.2.2.1 = h.2.2.1 - 1 - n := g5
    have g6 : h'.2.2.2 = h.2.2.2 - m - n * m := g6
    refine ⟨by omega, by rw [Nat.succ_mul]; omega, h', g3, ?_, by omega, by rw [Nat.succ_mul]; omega⟩
    rw [List.map_cons, List.append_cons]
    exact g4
section OPS
variable {d : Nat} {X : zM} {fr : Nat} {P : zP d} {pc : Nat} {k : zK d}
noncomputable def xmna (kc ki : Nat) (k : zK d) : zK d := fun L S h => zpI S (fun m S => zpI S (fun n S => cond (Nat.ble n 1000) (cond (Nat.ble m 1000) (zmk h n (kc, n, 0) (fun r h => zrow ki m n h (fun h => Prod.rec (motive := fun _ => Bool) (fun t u => zF (fun x => zsetK d t (Nat.pred r) (kc, n, x) (fun t => k L (zR r :: S) (t, u))) (zseq (Nat.succ r) n)) h))) false) false))
theorem sm_mna [G : zGh] {kc ki index : Nat} {ty : FieldType} (h3 : 3 ≤ kc) (h16 : kc < 8) (hTc : ∀ cA, (zty cA)[kc]? = some (cA kc, .array ty)) (hTi : ∀ cA, (zty cA)[ki]? = some (cA ki, ty)) (hprim : ∀ (s : State) (c : ClassId), va_RA s c ty → s.vm.findClass (FieldType.array ty).toString = some c) (hcb0 : componentBytes ty ≤ 8) (hdf : fits ty (defaultValue ty) = true) (hdd : (defaultValue ty).isDefault = true)
    (hz : ∀ m : Nat, m < 2147483648 → ∃ z : vp_A, (∀ c : ClassId, Jvm.Free.Multi.innerC c m (defaultValue ty) = vp_cell c z) ∧ ∀ [zCh] (cA : Nat → ClassId) (ad : zA), zCell cA ad (ki, m, 0) (.inl (cA ki, z)))
    (hcl : Cond.classLink X.1 index ("[" ++ (FieldType.array ty).toString) ∈ ztbl) (harr : Cond.arrayClass ty ∈ ztbl) (hov : ∀ s, zEx s → va_AOA ty s) (hd40 : d ≤ 30) (dg : decode X.2.1 pc = .ok (.multianewarray index 2, 4)) (hs : zSim X fr P (pc + 4) k) : zSim X fr P pc (xmna kc ki k) := by
  intro Ch cA D ad0 A MC MS p l e s m args below meth c ls st H locs cells slots L S h Cx hk R0
  obtain ⟨ws, hHp, hpre, hP, hD, hS, hL, hst, hcb, hsb⟩ := R0
  obtain ⟨mm, S, rfl, hk1⟩ := zpI_t hk
  obtain ⟨n, S, rfl, hk2⟩ := zpI_t hk1
  obtain ⟨im, st, rfl, him, hst1⟩ := zRepL_I hst
  obtain ⟨i, st, rfl, hi, hst2⟩ := zRepL_I hst1
  have hk2 : cond (Nat.ble n 1000) (cond (Nat.ble mm 1000) (zmk h n (kc, n, 0) (fun r h => zrow ki mm n h (fun h => Prod.rec (motive := fun _ => Bool) (fun t u => zF (fun x => zsetK d t (Nat.pred r) (kc, n, x) (fun t => k L (zR r :: S) (t, u))) (zseq (Nat.succ r) n)) h))) false) false = true := hk2
  cases hb1 : Nat.ble n 1000
  · rw [hb1] at hk2; cases hk2
  · cases hb2 : Nat.ble mm 1000
    · rw [hb1, hb2] at hk2; cases hk2
    · rw [hb1, hb2, cond_true, cond_true] at hk2
      have hn := Nat.le_of_ble_eq_true hb1
      have hm := Nat.le_of_ble_eq_true hb2
      obtain ⟨g1, g2, g3, hk3⟩ := zmk_t hk2
      obtain ⟨a1, a2⟩ := zi_len hi.1 (by omega)
      obtain ⟨c1, c2⟩ := zi_len him.1 (by omega)
      obtain ⟨z, hz1, hz2⟩ := hz mm (by omega)
      -- how many rows there is room for
      have hroom : n ≤ h.2.2.1 - 1 ∧ n * mm ≤ h.2.2.2 - n := by
        have := zrow_t (cA := cA) (e := .inl (cA ki, z)) (fun ad => hz2 cA ad) n _ (ws ++ [(0, .inl (cA kc, n, .inr (.inr (.inr (.inr (fun _ => none))))))]) (List.replicate n 0) (List.length_replicate ..) (zHp_push hHp g3 (zCell_rk h3 h16 (by omega) (fun j _ => by rw [zwd_zero]; exact Or.inl ⟨by decide, Or.inl ⟨rfl, rfl⟩⟩))) hk3
        exact ⟨this.1, this.2.1⟩
      have hP0 : va_P D zcl (ws ++ va_pl [] (fun _ => (.inl (cA ki, z) : va_E))) H := by
        show va_P D zcl (ws ++ []) H
        rw [List.append_nil]
        exact hP
      have hD0 : va_D A (ws ++ va_pl [] (fun _ => (.inl (cA ki, z) : va_E))) := by
        show va_D A (ws ++ [])
        rw [List.append_nil]
        exact hD
      refine va_mna (ty := ty) (cy := cA ki) (z := z) (N' := n) (K' := mm) Cx.1 Cx.2.1 Cx.2.2.2.1 (Cx.2.2.2.2.1 _ hcl) (hov _ Cx.2.2.2.2.2.2.2.2.2.2.2) (Cx.2.2.2.2.1 _ harr) (hprim s _ (Cx.2.2.2.2.2.1.2 ki _ (hTi cA)).2) Cx.2.2.2.2.2.1 hP0 hD0 hS Cx.2.2.2.2.2.2.1 a1 c1 a2 c2 (by omega) (Nat.le_trans (Nat.mul_le_mul hm hcb0) (by decide)) (by omega) hdf hdd (by show cells + (1 + n) ≤ MC; omega) (by show slots + (n + n * mm) ≤ MS; omega) hz1 dg (fun q r cA1 H1 _ _ hK1 hP1 hD1 hS1 => ?_)
      have hce : cA1 = cA kc := va_RA_inj (va_K_last hK1) (Cx.2.2.2.2.2.1.2 kc _ (hTc cA)).2
      subst hce
      have hrows : va_pl ([] ++ (List.range n).map r) (vr_up (fun _ => (.inl (cA ki, z) : va_E)) ((List.range n).map r) (.inl (cA ki, z))) = ((List.range n).map r).map (fun a => (a, (.inl (cA ki, z) : va_E))) := by
        unfold va_pl
        rw [List.nil_append]
        apply List.map_congr_left
        intro a ha
        rw [vr_up_in ha]
      rw [hrows] at hP1 hD1
      -- the outer one without its rows, the rows, the outer one with them
      have hq0 := zHp_push (q := q) (e := .inl (cA kc, n, .inr (.inr (.inr (.inr (fun _ => none)))))) (c := (kc, n, 0)) (b := (h.2.2.1 - 1, h.2.2.2 - n)) hHp g3 (zCell_rk h3 h16 (by omega) (fun j _ => by rw [zwd_zero]; exact Or.inl ⟨by decide, Or.inl ⟨rfl, rfl⟩⟩))
      obtain ⟨-, -, h', hk4, hH2, e1, e2⟩ := zrow_t (cA := cA) (e := .inl (cA ki, z)) (fun ad => hz2 cA ad) n _ _ ((List.range n).map r) (by simp) hq0 hk3
      have e1 : h'.2.2.1 = h.2.2.1 - 1 - n := e1
      have e2 : h'.2.2.2 = h.2.2.2 - n - n * mm := e2
      have hk4 : zF (fun x => zsetK d h'.1 h.2.1 (kc, n, x) (fun t => k L (zR (h.2.1 + 1) :: S) (t, h'.2))) (zseq (h.2.1 + 1 + 1) n) = true := hk4
      rw [zF_eq, zsetK_eq] at hk4
      have hix : h.2.1 = ws.length := hHp.1.symm
      have hget : ((ws ++ [(q, (.inl (cA kc, n, .inr (.inr (.inr (.inr (fun _ => none))))) : va_E))]) ++ ((List.range n).map r).map (fun a => (a, (.inl (cA ki, z) : va_E))))[h.2.1]? = some (q, .inl (cA kc, n, .inr (.inr (.inr (.inr (fun _ => none)))))) := by
        rw [hix, List.getElem?_append_left (by simp), List.getElem?_concat_length]
      have hset : ((ws ++ [(q, (.inl (cA kc, n, .inr (.inr (.inr (.inr (fun _ => none))))) : va_E))]) ++ ((List.range n).map r).map (fun a => (a, (.inl (cA ki, z) : va_E)))).set h.2.1 (q, .inl (cA kc, n, .inr (.inr (.inr (.inr (fun i => if i < n then some (r i) else none)))))) = (ws ++ [(q, (.inl (cA kc, n, .inr (.inr (.inr (.inr (fun i => if i < n then some (r i) else none))))) : va_E))]) ++ ((List.range n).map r).map (fun a => (a, (.inl (cA ki, z) : va_E))) := by
        rw [hix, List.set_append_left _ _ (by simp), List.set_append_right _ _ (Nat.le_refl _), Nat.sub_self]
        rfl
      have hz4 := zad_set (cA := cA) (e' := .inl (cA kc, n, .inr (.inr (.inr (.inr (fun i => if i < n then some (r i) else none)))))) hget
      have hcn2 : ∀ j, j < n → h.2.1 + 1 + 1 + j < 549755813888 := by
        intro j hj
        have : h.2.1 < 2 ^ d := g3
        have h30 : 2 ^ d ≤ 2 ^ 30 := Nat.pow_le_pow_right (by decide) hd40
        have : (2 : Nat) ^ 30 + 4000 < 549755813888 := by decide
        omega
      have hcnt : h.2.1 + 2 + n < 2 ^ 40 := by
        have : h.2.1 < 2 ^ d := g3
        have h30 : 2 ^ d ≤ 2 ^ 30 := Nat.pow_le_pow_right (by decide) hd40
        have : (2 : Nat) ^ 30 + 2000 < 2 ^ 40 := by decide
        omega
      have hH3 := zHp_set hH2 hget (c' := (kc, n, zseq (h.2.1 + 1 + 1) n)) (zCell_rk (f := fun i => if i < n then some (r i) else none) h3 h16 (by omega) (fun j hj => by
        rw [zseq_wd _ _ _ hj (by omega)]
        show zRw _ _ (if j < n then some (r j) else none)
        rw [if_pos hj]
        refine Or.inl ⟨hcn2 j hj, Or.inr ⟨h.2.1 + 1 + j, r j, by omega, ?_, rfl⟩⟩
        show (List.map (fun q : Nat × va_E => q.1) _)[_]? = _
        rw [List.map_append, hix, List.getElem?_append_right (by simp), List.map_map, List.getElem?_map]
        have : ws.length + 1 + j - (List.map (fun q : Nat × va_E => q.1) (ws ++ [(q, (.inl (cA kc, n, .inr (.inr (.inr (.inr (fun _ => none))))) : va_E))])).length = j := by simp
        rw [this, List.getElem?_map, List.getElem?_range hj]
        rfl))
      rw [hset] at hH3 hz4
      have hp0 := zPre_push (cA := cA) ws q (.inl (cA kc, n, .inr (.inr (.inr (.inr (fun i => if i < n then some (r i) else none))))))
      have hp : zPre (zad cA ws) (zad cA ((ws ++ [(q, (.inl (cA kc, n, .inr (.inr (.inr (.inr (fun i => if i < n then some (r i) else none))))) : va_E))]) ++ ((List.range n).map r).map (fun a => (a, (.inl (cA ki, z) : va_E))))) := by
        refine zPre_trans hp0 ⟨⟨(((List.range n).map r).map (fun a => (a, (.inl (cA ki, z) : va_E)))).map (fun q => q.1), ?_⟩, rfl⟩
        show List.map (fun q : Nat × va_E => q.1) _ = List.map (fun q : Nat × va_E => q.1) _ ++ _
        rw [List.map_append]
      refine hs Ch cA D ad0 A MC MS p l e s m args below meth c ls _ H1 locs _ _ L _ _ Cx hk4 ⟨_, hH3, zPre_trans hpre hp, hP1, hD1, hS1, zLoc_mono hp hL, ⟨⟨some q, rfl, Or.inr ⟨h.2.1, q, rfl, ?_, rfl⟩⟩, zRepL_mono hp hst2⟩, ?_, ?_⟩
      · show (List.map (fun q : Nat × va_E => q.1) _)[_]? = _
        rw [List.getElem?_map, hix, List.getElem?_append_left (by simp), List.getElem?_concat_length]
        rfl
      · show cells + 1 + n + h'.2.2.1 ≤ MC
        omega
      · show slots + n + n * mm + h'.2.2.2 ≤ MS
        omega
theorem sm_mnaI [G : zGh] {index : Nat} (hcl : Cond.classLink X.1 index "[[I" ∈ ztbl) (harr : Cond.arrayClass .int ∈ ztbl) (hd40 : d ≤ 30) (dg : decode X.2.1 pc = .ok (.multianewarray index 2, 4)) (hs : zSim X fr P (pc + 4) k) : zSim X fr P pc (xmna 3 0 k) := sm_mna (ty := .int) (by decide) (by decide) (fun _ => rfl) (fun _ => rfl) (fun s c h => h) (by decide) rfl rfl (fun m hm => ⟨(m, .inl (fun _ => 0)), fun c => arrV_new c m (.int 0), fun cA ad => zCell_ik (by decide) hm (fun j _ => by rw [zwd_zero]; exact ⟨fun _ => rfl, fun q => absurd q (by omega)⟩)⟩) (by show Cond.classLink X.1 index ("[" ++ (FieldType.array .int).toString) ∈ ztbl; exact hcl) harr (fun _ h => h.2.2.2.1) hd40 dg hs
theorem sm_mnaJ [G : zGh] {index : Nat} (hcl : Cond.classLink X.1 index "[[J" ∈ ztbl) (harr : Cond.arrayClass .long ∈ ztbl) (hd40 : d ≤ 30) (dg : decode X.2.1 pc = .ok (.multianewarray index 2, 4)) (hs : zSim X fr P (pc + 4) k) : zSim X fr P pc (xmna 4 2 k) := sm_mna (ty := .long) (by decide) (by decide) (fun _ => rfl) (fun _ => rfl) (fun s c h => h) (by decide) rfl rfl (fun m hm => ⟨(m, .inr (.inl (fun _ => 0))), fun c => arrV_new c m (.long 0), fun cA ad => zCell_jk hm (fun j _ => by rw [zwd_zero]; exact ⟨fun _ => rfl, fun q => absurd q (by decide)⟩)⟩) (by show Cond.classLink X.1 index ("[" ++ (FieldType.array .long).toString) ∈ ztbl; exact hcl) harr (fun _ h => h.2.2.2.2.1) hd40 dg hs
end OPS
