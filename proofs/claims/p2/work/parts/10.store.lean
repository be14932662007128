/-! the heap written -/
theorem zAI_up {len x n v : Nat} {f : Nat → Int32} {i : Int32} (hf : zAI len x f) (hi : zIa (zcap v) i) : zAI len (zup 40 x n (zcap v)) (upd f n i) := by
  intro j hj
  by_cases q : j = n
  · subst q
    rw [zwd_up_same _ _ _ _ (zcap_lt v), pk_us]
    exact hi
  · rw [zwd_up_ne _ _ _ _ _ (zcap_lt v) (fun z => q z.symm), pk_un q]
    exact hf j hj
theorem zcapj_ne (v : Nat) : ¬ zcapj v = 18446744073709551617 := by
  unfold zcapj
  cases h : Nat.ble 18446744073709551616 v
  · have := zble_f h
    rw [cond_false]
    omega
  · rw [cond_true]; decide
theorem zAJ_up {len x n v : Nat} {f : Nat → Int64} {i : Int64} (hf : zAJ len x f) (hi : v < 18446744073709551616 → zj i = v) : zAJ len (zup 72 x n (zcapj v)) (vp_updL f n i) := by
  intro j hj
  by_cases q : j = n
  · subst q
    rw [zwd_up_same _ _ _ _ (zcapj_lt v), pk_uLs]
    exact ⟨zcapj_ok hi, fun z => absurd z (zcapj_ne v)⟩
  · rw [zwd_up_ne _ _ _ _ _ (zcapj_lt v) (fun z => q z.symm), pk_uLn q]
    exact hf j hj
theorem zAR_up {ad : zA} {len x n v : Nat} {f : Nat → Option Nat} {o : Option Nat} (hv : v < 549755813888) (hf : zAR ad len x f) (ho : zRf ad v o) : zAR ad len (zup 40 x n v) (va_up f n o) := by
  intro j hj
  by_cases q : j = n
  · subst q
    rw [zwd_up_same _ _ _ _ (Nat.lt_trans hv (by decide))]
    simp only [va_up, if_pos]
    exact Or.inl ⟨hv, ho⟩
  · rw [zwd_up_ne _ _ _ _ _ (Nat.lt_trans hv (by decide)) (fun z => q z.symm)]
    simp only [va_up, if_neg q]
    exact hf j hj
theorem zCell_ik [zCh] {cA : Nat → ClassId} {ad : zA} {kd len x : Nat} {f : Nat → Int32} (hk : kd < 2) (hl : len < 2147483648) (hf : zAI len x f) : zCell cA ad (kd, len, x) (.inl (cA kd, len, .inl f)) := Or.inl ⟨hk, hl, f, rfl, hf⟩
theorem zCell_jk [zCh] {cA : Nat → ClassId} {ad : zA} {len x : Nat} {f : Nat → Int64} (hl : len < 2147483648) (hf : zAJ len x f) : zCell cA ad (2, len, x) (.inl (cA 2, len, .inr (.inl f))) := Or.inr (Or.inl ⟨rfl, hl, f, rfl, hf⟩)
theorem zCell_rk [zCh] {cA : Nat → ClassId} {ad : zA} {kd len x : Nat} {f : Nat → Option Nat} (h3 : 3 ≤ kd) (h16 : kd < 8) (hl : len < 2147483648) (hf : zAR ad len x f) : zCell cA ad (kd, len, x) (.inl (cA kd, len, .inr (.inr (.inr (.inr f))))) := Or.inr (Or.inr (Or.inr (Or.inl ⟨h3, h16, hl, f, rfl, hf⟩)))
theorem zCell_ok [zCh] {cA : Nat → ClassId} {ad : zA} {ci len x : Nat} {fs : List Value} (hl : fs.length = zN ci) (hf : ∀ k v, fs[k]? = some v → zFl ad ci k (zwd 40 x k) v) : zCell cA ad (16 + ci, len, x) (.inr (ci, fs)) := by
  refine Or.inr (Or.inr (Or.inr (Or.inr ⟨Nat.le_add_right 16 ci, fs, ?_, ?_, ?_⟩)))
  · show Sum.inr (ci, fs) = Sum.inr (16 + ci - 16, fs)
    rw [Nat.add_sub_cancel_left]
  · show fs.length = zN (16 + ci - 16)
    rw [Nat.add_sub_cancel_left]
    exact hl
  · show ∀ k v, fs[k]? = some v → zFl ad (16 + ci - 16) k (zwd 40 x k) v
    rw [Nat.add_sub_cancel_left]
    exact hf
theorem zFl_up [zCh] {ad : zA} {ci x n w : Nat} {fs : List Value} {y : Value} (hw : w < 2 ^ 40) (hf : ∀ k v, fs[k]? = some v → zFl ad ci k (zwd 40 x k) v) (hy : zFl ad ci n w y) : ∀ k v, (fs.set n y)[k]? = some v → zFl ad ci k (zwd 40 (zup 40 x n w) k) v := by
  intro k v hk
  rw [List.getElem?_set] at hk
  by_cases q : n = k
  · subst q
    rw [if_pos rfl] at hk
    rw [zwd_up_same _ _ _ _ hw]
    by_cases hl : n < fs.length
    · rw [if_pos hl] at hk
      cases hk
      exact hy
    · rw [if_neg hl] at hk
      cases hk
  · rw [if_neg q] at hk
    rw [zwd_up_ne _ _ _ _ _ hw q]
    exact hf k v hk
section OPS
variable {d : Nat} {X : zM} {fr : Nat} {P : zP d} {pc pc' tgt : Nat} {k : zK d}
noncomputable def xast1 (kc : Nat) (g : Nat → Nat) (k : zK d) : zK d := fun L S h => zpI S (fun v S => zpI S (fun i S => zpR S (fun r S => zat h r (fun t u j kd len x => cond (Nat.beq kd kc) (cond (Nat.ble len i) false (zF (fun y => zsetK d t j (kd, len, y) (fun t => k L S (t, u))) (zup 40 x i (zcap (g v))))) false))))
theorem sm_ast1 [G : zGh] {kc : Nat} {g : Nat → Nat} {Gf : Int32 → Int32} (hkc : kc < 2) (hg : ∀ {a : Nat} {x : Int32}, zIs a x → zIs (g a) (Gf x)) (row : ∀ {cA : Nat → ClassId} {D : va_G} {p : Program} {l : Launch} {e : Env} {R : Room} {s : State} {m : MethodId} {args : Array Value} {below : List Frame} {meth : Method} {c : Code} {H H0 : Heap} {A : Nat → Prop} {locs : List Loc} {cells slots : Nat} {Q : State → Prop} {ls : Array Slot} {rest : List Value} {ws : va_W} {a n q0 : Nat} {f : Nat → Int32} {i x : Int32}, p.tables.exec = Jvm.exec → c.code = X.2.1 → va_K D zcl (zty cA) s → va_P D zcl ws H → va_D A ws → va_S A H0 H locs → ws[q0]? = some (a, .inl (cA kc, n, .inl f)) → vp_in i n → (∀ (H1 : Heap) (locs1 : List Loc), va_P D zcl (ws.set q0 (a, .inl (cA kc, n, .inl (upd f i.toNatClampNeg (Gf x))))) H1 → va_D A (ws.set q0 (a, .inl (cA kc, n, .inl (upd f i.toNatClampNeg (Gf x))))) → va_S A H0 H1 locs1 → W p l e R s m args below meth c H1 locs1 cells slots Q (F0 m pc' ls rest)) → W p l e R s m args below meth c H locs cells slots Q (F0 m pc ls (.int x :: .int i :: .ref a :: rest))) (hs : zSim X fr P pc' k) : zSim X fr P pc (xast1 kc g k) := by
  intro Ch cA D ad0 A MC MS p l e s m args below meth c ls st H locs cells slots L S h Cx hk R0
  obtain ⟨ws, hHp, hpre, hP, hD, hS, hL, hst, hcb, hsb⟩ := R0
  obtain ⟨v, S, rfl, hk0⟩ := zpI_t hk
  obtain ⟨n, S, rfl, hk1⟩ := zpI_t hk0
  obtain ⟨r, S, rfl, hk2⟩ := zpR_t hk1
  obtain ⟨y, st, rfl, hy, hst0⟩ := zRepL_I hst
  obtain ⟨i, st, rfl, hi, hst1⟩ := zRepL_I hst0
  obtain ⟨o, st, rfl, ho, hst2⟩ := zRepL_R hst1
  obtain ⟨j, kd, len, x, rfl, hgt, hk3⟩ := zat_t hk2
  obtain ⟨a, en, rfl, hwi, hcell⟩ := zat_w hHp ho
  rw [hgt] at hcell
  have hk3 : cond (Nat.beq kd kc) (cond (Nat.ble len n) false (zF (fun y => zsetK d h.1 j (kd, len, y) (fun t => k L S (t, h.2))) (zup 40 x n (zcap (g v))))) false = true := hk3
  cases hb : Nat.beq kd kc
  · rw [hb] at hk3
    cases hk3
  · have hb2 := Nat.eq_of_beq_eq_true hb
    subst hb2
    rw [hb, cond_true] at hk3
    cases hbl : Nat.ble len n
    · rw [hbl, cond_false, zF_eq, zsetK_eq] at hk3
      obtain ⟨hlen, f, rfl, hf⟩ := zCell_i hcell hkc
      obtain ⟨g1, g2, g3⟩ := zi_idx hi.1 hlen hbl
      refine row Cx.1 Cx.2.1 Cx.2.2.2.2.2.1 hP hD hS hwi g1 (fun H1 locs1 hP1 hD1 hS1 => ?_)
      have hz := zad_set (cA := cA) (e' := .inl (cA kd, len, .inl (upd f i.toNatClampNeg (Gf y)))) hwi
      exact hs Ch cA D ad0 A MC MS p l e s m args below meth c ls _ H1 locs1 cells slots L _ _ Cx hk3 ⟨_, zHp_set hHp hwi (zCell_ik hkc hlen (by rw [g2]; exact zAI_up hf (zcap_ok (hg hy)))), by rw [hz]; exact hpre, hP1, hD1, hS1, by rw [hz]; exact hL, by rw [hz]; exact hst2, hcb, hsb⟩
    · rw [hbl] at hk3
      cases hk3
theorem sm_iastore [G : zGh] (dg : decode X.2.1 pc = .ok (.iastore, 1)) (hs : zSim X fr P (pc + 1) k) : zSim X fr P pc (xast1 0 (fun v => v) k) := sm_ast1 (Gf := fun x => x) (by decide) (fun h => h) (fun hx hb hK hP hD hS ha hin kk => va_iast hx hb hK hP hD hS _ 0 ha rfl hin dg kk) hs
theorem vp_nar_bool (x : Int32) : vp_nar .boolean x = x &&& 1 := rfl
theorem sm_bastore [G : zGh] (dg : decode X.2.1 pc = .ok (.bastore, 1)) (hs : zSim X fr P (pc + 1) k) : zSim X fr P pc (xast1 1 (fun v => zand v 1) k) := sm_ast1 (Gf := fun x => vp_nar .boolean x) (by decide) (fun {a x} h => by rw [vp_nar_bool]; exact zIs_of (zand_ok h.1 (fun _ => zi_p1)) (zand_le _ _)) (fun hx hb hK hP hD hS ha hin kk => va_zast hx hb hK hP hD hS _ 1 ha rfl hin dg kk) hs
noncomputable def xlas (k : zK d) : zK d := fun L S h => zpL S (fun v S => zpI S (fun i S => zpR S (fun r S => zat h r (fun t u j kd len x => cond (Nat.beq kd 2) (cond (Nat.ble len i) false (zF (fun y => zsetK d t j (kd, len, y) (fun t => k L S (t, u))) (zup 72 x i (zcapj v)))) false))))
theorem sm_lastore [G : zGh] (dg : decode X.2.1 pc = .ok (.lastore, 1)) (hs : zSim X fr P (pc + 1) k) : zSim X fr P pc (xlas k) := by
  intro Ch cA D ad0 A MC MS p l e s m args below meth c ls st H locs cells slots L S h Cx hk R0
  obtain ⟨ws, hHp, hpre, hP, hD, hS, hL, hst, hcb, hsb⟩ := R0
  obtain ⟨v, S, rfl, hk0⟩ := zpL_t hk
  obtain ⟨n, S, rfl, hk1⟩ := zpI_t hk0
  obtain ⟨r, S, rfl, hk2⟩ := zpR_t hk1
  obtain ⟨y, st, rfl, hy, hst0⟩ := zRepL_L hst
  obtain ⟨i, st, rfl, hi, hst1⟩ := zRepL_I hst0
  obtain ⟨o, st, rfl, ho, hst2⟩ := zRepL_R hst1
  obtain ⟨j, kd, len, x, rfl, hgt, hk3⟩ := zat_t hk2
  obtain ⟨a, en, rfl, hwi, hcell⟩ := zat_w hHp ho
  rw [hgt] at hcell
  have hk3 : cond (Nat.beq kd 2) (cond (Nat.ble len n) false (zF (fun y => zsetK d h.1 j (kd, len, y) (fun t => k L S (t, h.2))) (zup 72 x n (zcapj v)))) false = true := hk3
  cases hb : Nat.beq kd 2
  · rw [hb] at hk3
    cases hk3
  · have hb2 := Nat.eq_of_beq_eq_true hb
    subst hb2
    rw [hb, cond_true] at hk3
    cases hbl : Nat.ble len n
    · rw [hbl, cond_false, zF_eq, zsetK_eq] at hk3
      obtain ⟨hlen, f, rfl, hf⟩ := zCell_j hcell
      obtain ⟨g1, g2, g3⟩ := zi_idx hi.1 hlen hbl
      refine va_last Cx.1 Cx.2.1 Cx.2.2.2.2.2.1 hP hD hS j 2 hwi rfl g1 dg (fun H1 locs1 hP1 hD1 hS1 => ?_)
      have hz := zad_set (cA := cA) (e' := .inl (cA 2, len, .inr (.inl (vp_updL f i.toNatClampNeg y)))) hwi
      exact hs Ch cA D ad0 A MC MS p l e s m args below meth c ls _ H1 locs1 cells slots L _ _ Cx hk3 ⟨_, zHp_set hHp hwi (zCell_jk hlen (by rw [g2]; exact zAJ_up hf hy.1)), by rw [hz]; exact hpre, hP1, hD1, hS1, by rw [hz]; exact hL, by rw [hz]; exact hst2, hcb, hsb⟩
    · rw [hbl] at hk3
      cases hk3
/-- an object into an array of its class -/
noncomputable def xaas (kc ko : Nat) (k : zK d) : zK d := fun L S h => zpR S (fun v S => zpI S (fun i S => zpR S (fun r S => zat h v (fun _ _ _ kv _ _ => cond (Nat.beq kv ko) (zat h r (fun t u j kd len x => cond (Nat.beq kd kc) (cond (Nat.ble len i) false (cond (Nat.ble 549755813888 v) false (zF (fun y => zsetK d t j (kd, len, y) (fun t => k L S (t, u))) (zup 40 x i v)))) false)) false))))
theorem sm_aastore [G : zGh] {kc ko ci : Nat} {rc : vw_C} (h3 : 3 ≤ kc) (h16 : kc < 8) (hko : 16 + ci = ko) (hc : zcl[ci]? = some rc) (hty : ∀ cA, (zty cA)[kc]? = some (cA kc, .object rc.1)) (dg : decode X.2.1 pc = .ok (.aastore, 1)) (hs : zSim X fr P (pc + 1) k) : zSim X fr P pc (xaas kc ko k) := by
  subst hko
  intro Ch cA D ad0 A MC MS p l e s m args below meth c ls st H locs cells slots L S h Cx hk R0
  obtain ⟨ws, hHp, hpre, hP, hD, hS, hL, hst, hcb, hsb⟩ := R0
  obtain ⟨v, S, rfl, hk0⟩ := zpR_t hk
  obtain ⟨n, S, rfl, hk1⟩ := zpI_t hk0
  obtain ⟨r, S, rfl, hk2⟩ := zpR_t hk1
  obtain ⟨y, st, rfl, hy, hst0⟩ := zRepL_R hst
  obtain ⟨i, st, rfl, hi, hst1⟩ := zRepL_I hst0
  obtain ⟨o, st, rfl, ho, hst2⟩ := zRepL_R hst1
  obtain ⟨jv, kv, lenv, xv, rfl, hgv, hk3⟩ := zat_t hk2
  have hk3 : cond (Nat.beq kv (16 + ci)) (zat h r (fun t u j kd len x => cond (Nat.beq kd kc) (cond (Nat.ble len n) false (cond (Nat.ble 549755813888 (jv + 1)) false (zF (fun y => zsetK d t j (kd, len, y) (fun t => k L S (t, u))) (zup 40 x n (jv + 1))))) false)) false = true := hk3
  cases hbv : Nat.beq kv (16 + ci)
  · rw [hbv] at hk3
    cases hk3
  · rw [hbv, cond_true] at hk3
    obtain ⟨av, ev, rfl, hwv, hcv⟩ := zat_w hHp hy
    rw [hgv] at hcv
    obtain ⟨fs, rfl, hlenv, hflv⟩ := zCell_obj hcv (Nat.eq_of_beq_eq_true hbv)
    obtain ⟨j, kd, len, x, rfl, hgt, hk4⟩ := zat_t hk3
    obtain ⟨a, en, rfl, hwi, hcell⟩ := zat_w hHp ho
    rw [hgt] at hcell
    have hk4 : cond (Nat.beq kd kc) (cond (Nat.ble len n) false (cond (Nat.ble 549755813888 (jv + 1)) false (zF (fun y => zsetK d h.1 j (kd, len, y) (fun t => k L S (t, h.2))) (zup 40 x n (jv + 1))))) false = true := hk4
    cases hb : Nat.beq kd kc
    · rw [hb] at hk4
      cases hk4
    · have hb2 := Nat.eq_of_beq_eq_true hb
      subst hb2
      rw [hb, cond_true] at hk4
      cases hbl : Nat.ble len n
      · rw [hbl, cond_false] at hk4
        cases hbw : Nat.ble 549755813888 (jv + 1)
        · rw [hbw, cond_false, zF_eq, zsetK_eq] at hk4
          obtain ⟨hlen, f, rfl, hf⟩ := zCell_r hcell h3 h16
          obtain ⟨g1, g2, g3⟩ := zi_idx hi.1 hlen hbl
          refine va_astq Cx.1 Cx.2.1 Cx.2.2.2.2.2.1 hP hD hS j kd jv ci hwi (hty cA) hwv hc g1 dg (fun H1 locs1 hP1 hD1 hS1 => ?_)
          have hz := zad_set (cA := cA) (e' := .inl (cA kd, len, .inr (.inr (.inr (.inr (va_up f i.toNatClampNeg (some av))))))) hwi
          exact hs Ch cA D ad0 A MC MS p l e s m args below meth c ls _ H1 locs1 cells slots L _ _ Cx hk4 ⟨_, zHp_set hHp hwi (zCell_rk h3 h16 hlen (by rw [g2]; exact zAR_up (zble_f hbw) hf hy)), by rw [hz]; exact hpre, hP1, hD1, hS1, by rw [hz]; exact hL, by rw [hz]; exact hst2, hcb, hsb⟩
        · rw [hbw] at hk4
          cases hk4
      · rw [hbl] at hk4
        cases hk4
/-- fields written -/
noncomputable def xpfI (kc n : Nat) (k : zK d) : zK d := fun L S h => zpI S (fun v S => zpR S (fun r S => zat h r (fun t u j kd len x => cond (Nat.beq kd kc) (zF (fun y => zsetK d t j (kd, len, y) (fun t => k L S (t, u))) (zup 40 x n (zcap v))) false)))
noncomputable def xpfR (kc n : Nat) (k : zK d) : zK d := fun L S h => zpR S (fun v S => zpR S (fun r S => zat h r (fun t u j kd len x => cond (Nat.beq kd kc) (cond (Nat.ble 549755813888 v) false (zF (fun y => zsetK d t j (kd, len, y) (fun t => k L S (t, u))) (zup 40 x n v))) false)))
/-- what a row of the kit does at putfield -/
def zPut (X : zM) (pc ci n : Nat) (ty : FieldType) : Prop := ∀ [zGh] {cA : Nat → ClassId} {D : va_G} {p : Program} {l : Launch} {e : Env} {R : Room} {s : State} {m : MethodId} {args : Array Value} {below : List Frame} {meth : Method} {c : Code} {H H0 : Heap} {A : Nat → Prop} {locs : List Loc} {cells slots : Nat} {Q : State → Prop} {ls : Array Slot} {rest : List Value} {ws : va_W} {a q0 : Nat} {fs : List Value} {v : Value}, zCx X cA D p s m args meth c A → va_P D zcl ws H → va_D A ws → va_S A H0 H locs → ws[q0]? = some (a, .inr (ci, fs)) → narrow ty v = v → fits ty v = true → n < fs.length →
  (∀ (H1 : Heap) (locs1 : List Loc), va_P D zcl (ws.set q0 (a, .inr (ci, fs.set n v))) H1 → va_D A (ws.set q0 (a, .inr (ci, fs.set n v))) → va_S A H0 H1 locs1 → W p l e R s m args below meth c H1 locs1 cells slots Q (F0 m (pc + 3) ls rest)) → W p l e R s m args below meth c H locs cells slots Q (F0 m pc ls (v :: .ref a :: rest))
theorem zput {ci n index : Nat} {C : String} {T : u_T} {N : Nat} {ty0 : Nat → FieldType} {ty : FieldType} (hin : ∀ w ∈ u_ws C T N, w ∈ ztbl) (hty : ∀ k, k < N → parseFieldDescriptor (T k).2.2.1 = some (ty0 k)) (hnm : ∀ a, a < N → ∀ b, b < N → a ≠ b → (T a).2.1 ≠ (T b).2.1) (hc : zcl[ci]? = some (C, T, N)) (hn : n < N) (hlink : Cond.fieldLink X.1 index (T n).1 (T n).2.1 (T n).2.2.1 ∈ ztbl) (ht : ty0 n = ty) (hfin : (T n).2.2.2 = false) (dg : decode X.2.1 pc = .ok (.putfield index, 3)) : zPut X pc ci n ty :=
  fun Cx hP hD hS he hna hfi hl kk => va_put Cx.1 Cx.2.1 Cx.2.2.2.2.1 hin ty0 hty hnm Cx.2.2.2.1 Cx.2.2.2.2.2.1 hP hD hS _ he hc n hn (Cx.2.2.2.2.1 _ hlink) (fun _ h => h) hfin (by rw [← ht]; exact hty n hn) hna hfi hl dg kk
theorem zputF {ci n index : Nat} {C : String} {T : u_T} {N : Nat} {ty0 : Nat → FieldType} {ty : FieldType} (hin : ∀ w ∈ u_ws C T N, w ∈ ztbl) (hty : ∀ k, k < N → parseFieldDescriptor (T k).2.2.1 = some (ty0 k)) (hnm : ∀ a, a < N → ∀ b, b < N → a ≠ b → (T a).2.1 ≠ (T b).2.1) (hc : zcl[ci]? = some (C, T, N)) (hn : n < N) (hlink : Cond.fieldLink X.1 index (T n).1 (T n).2.1 (T n).2.2.1 ∈ ztbl) (ht : ty0 n = ty) (hfin : (T n).2.2.2 = true) (hname : X.2.2.2.2 = "<init>") (hdecl : (T n).1 = X.1) (dg : decode X.2.1 pc = .ok (.putfield index, 3)) : zPut X pc ci n ty :=
  fun Cx hP hD hS he hna hfi hl kk => va_putF Cx.1 Cx.2.1 Cx.2.2.2.2.1 hin ty0 hty hnm Cx.2.2.2.1 Cx.2.2.2.2.2.1 hP hD hS _ he hc n hn (Cx.2.2.2.2.1 _ hlink) (fun _ h => h) hfin (Cx.2.2.2.2.2.2.2.2.2.1.trans hname) hdecl (by rw [← ht]; exact hty n hn) hna hfi hl dg kk
theorem sm_putI [G : zGh] {ci kc n : Nat} {ty : FieldType} (hkc : 16 + ci = kc) (hn : n < zN ci) (hz : zisR (zfty ci n) = false) (hty : ty = .int) (row : zPut X pc ci n ty) (hs : zSim X fr P (pc + 3) k) : zSim X fr P pc (xpfI kc n k) := by
  subst hkc
  subst hty
  intro Ch cA D ad0 A MC MS p l e s m args below meth c ls st H locs cells slots L S h Cx hk R0
  obtain ⟨ws, hHp, hpre, hP, hD, hS, hL, hst, hcb, hsb⟩ := R0
  obtain ⟨v, S, rfl, hk1⟩ := zpI_t hk
  obtain ⟨r, S, rfl, hk2⟩ := zpR_t hk1
  obtain ⟨y, st, rfl, hy, hst1⟩ := zRepL_I hst
  obtain ⟨o, st, rfl, ho, hst2⟩ := zRepL_R hst1
  obtain ⟨j, kd, len, x, rfl, hgt, hk3⟩ := zat_t hk2
  obtain ⟨a, en, rfl, hwi, hcell⟩ := zat_w hHp ho
  rw [hgt] at hcell
  have hk3 : cond (Nat.beq kd (16 + ci)) (zF (fun y => zsetK d h.1 j (kd, len, y) (fun t => k L S (t, h.2))) (zup 40 x n (zcap v))) false = true := hk3
  cases hb : Nat.beq kd (16 + ci)
  · rw [hb] at hk3
    cases hk3
  · have hb2 := Nat.eq_of_beq_eq_true hb
    rw [hb, cond_true, zF_eq, zsetK_eq, hb2] at hk3
    obtain ⟨fs, rfl, hlen, hfl⟩ := zCell_obj hcell hb2
    refine row Cx hP hD hS hwi rfl rfl (by rw [hlen]; exact hn) (fun H1 locs1 hP1 hD1 hS1 => ?_)
    have hz2 := zad_set (cA := cA) (e' := .inr (ci, fs.set n (.int y))) hwi
    exact hs Ch cA D ad0 A MC MS p l e s m args below meth c ls _ H1 locs1 cells slots L _ _ Cx hk3 ⟨_, zHp_set hHp hwi (zCell_ok (by rw [List.length_set]; exact hlen) (zFl_up (zcap_lt v) hfl (by unfold zFl; rw [hz, cond_false]; exact ⟨y, rfl, ⟨zcap_ok hy, fun q => absurd q (Nat.ne_of_lt (zcap_lt39 v))⟩, fun q => absurd q (Nat.not_lt.mpr (Nat.le_of_lt (zcap_lt39 v))), fun q => absurd q (Nat.not_le.mpr (zcap_lt38 v))⟩))), by rw [hz2]; exact hpre, hP1, hD1, hS1, by rw [hz2]; exact hL, by rw [hz2]; exact hst2, hcb, hsb⟩
theorem sm_putR [G : zGh] {ci kc n : Nat} {ty : FieldType} (hkc : 16 + ci = kc) (hn : n < zN ci) (hz : zisR (zfty ci n) = true) (hty : zisR ty = true) (row : zPut X pc ci n ty) (hs : zSim X fr P (pc + 3) k) : zSim X fr P pc (xpfR kc n k) := by
  subst hkc
  intro Ch cA D ad0 A MC MS p l e s m args below meth c ls st H locs cells slots L S h Cx hk R0
  obtain ⟨ws, hHp, hpre, hP, hD, hS, hL, hst, hcb, hsb⟩ := R0
  obtain ⟨v, S, rfl, hk1⟩ := zpR_t hk
  obtain ⟨r, S, rfl, hk2⟩ := zpR_t hk1
  obtain ⟨y, st, rfl, hy, hst1⟩ := zRepL_R hst
  obtain ⟨o, st, rfl, ho, hst2⟩ := zRepL_R hst1
  obtain ⟨j, kd, len, x, rfl, hgt, hk3⟩ := zat_t hk2
  obtain ⟨a, en, rfl, hwi, hcell⟩ := zat_w hHp ho
  rw [hgt] at hcell
  have hk3 : cond (Nat.beq kd (16 + ci)) (cond (Nat.ble 549755813888 v) false (zF (fun y => zsetK d h.1 j (kd, len, y) (fun t => k L S (t, h.2))) (zup 40 x n v))) false = true := hk3
  cases hb : Nat.beq kd (16 + ci)
  · rw [hb] at hk3
    cases hk3
  · have hb2 := Nat.eq_of_beq_eq_true hb
    rw [hb, cond_true] at hk3
    cases hbw : Nat.ble 549755813888 v
    · rw [hbw, cond_false, zF_eq, zsetK_eq, hb2] at hk3
      obtain ⟨fs, rfl, hlen, hfl⟩ := zCell_obj hcell hb2
      have hnf : narrow ty (va_rf y) = va_rf y ∧ fits ty (va_rf y) = true := by
        cases ty <;> first | (cases y <;> exact ⟨rfl, rfl⟩) | (cases hty)
      refine row Cx hP hD hS hwi hnf.1 hnf.2 (by rw [hlen]; exact hn) (fun H1 locs1 hP1 hD1 hS1 => ?_)
      have hz2 := zad_set (cA := cA) (e' := .inr (ci, fs.set n (va_rf y))) hwi
      exact hs Ch cA D ad0 A MC MS p l e s m args below meth c ls _ H1 locs1 cells slots L _ _ Cx hk3 ⟨_, zHp_set hHp hwi (zCell_ok (by rw [List.length_set]; exact hlen) (zFl_up (Nat.lt_trans (zble_f hbw) (by decide)) hfl (by unfold zFl; rw [hz, cond_true]; exact ⟨y, rfl, Or.inl ⟨zble_f hbw, hy⟩⟩))), by rw [hz2]; exact hpre, hP1, hD1, hS1, by rw [hz2]; exact hL, by rw [hz2]; exact hst2, hcb, hsb⟩
    · rw [hbw] at hk3
      cases hk3
end OPS
