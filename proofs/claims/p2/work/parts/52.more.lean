/-! two fields compared, and what is then known; rows stored in any order; a divisor that isn't 0 -/
def zbw (m : Nat) : Nat := cond (Nat.ble 2147483648 m) 4294967296 (cond (Nat.beq m 0) 4294967296 (Nat.add 4294967296 m))
theorem zbw_lt (m : Nat) : zbw m < 549755813888 := by
  unfold zbw
  cases h : Nat.ble 2147483648 m
  · have := zble_f h
    rw [cond_false]
    cases Nat.beq m 0
    · show 4294967296 + m < 549755813888
      omega
    · rw [cond_true]; decide
  · rw [cond_true]; decide
theorem zbw_lt38 (m : Nat) : zbw m < 274877906944 := by
  unfold zbw
  cases h : Nat.ble 2147483648 m
  · have := zble_f h
    rw [cond_false]
    cases Nat.beq m 0
    · show 4294967296 + m < 274877906944
      omega
    · rw [cond_true]; decide
  · rw [cond_true]; decide
theorem zbw_ok {m : Nat} {i : Int32} (h : zi i < m) : zIa (zbw m) i := by
  unfold zbw
  have un : zIa 4294967296 i := ⟨fun q => absurd q (Nat.lt_irrefl _), fun q => absurd q (Nat.lt_irrefl _)⟩
  cases h1 : Nat.ble 2147483648 m
  · rw [cond_false]
    cases h2 : Nat.beq m 0
    · show zIa (4294967296 + m) i
      exact ⟨fun q => absurd q (by omega), fun _ _ => by omega⟩
    · exact un
  · exact un
section OPS
variable {d : Nat} {X : zM} {fr : Nat} {P : zP d} {pc pc' tgt : Nat} {off : Int} {k kt kf : zK d}
noncomputable def xfc (kc n1 n2 : Nat) (kt kf : zK d) : zK d := fun L S h => znth 0 L (fun v => Sum.rec (motive := fun _ => Bool) (fun _ => false) (fun u => Sum.rec (motive := fun _ => Bool) (fun r => zat h r (fun t u j kd len x => cond (Nat.beq kd kc) (Nat.rec (motive := fun _ => Bool) (kf L S h) (fun m _ => Nat.rec (motive := fun _ => Bool) (kt L S h) (fun _ _ => and (kt L S h) (zF (fun y => zsetK d t j (kd, len, y) (fun t => kf L S (t, u))) (zup 40 x n1 (zbw (Nat.min (zhi (zwd 40 x n1)) (rhLt (zwd 40 x n1) (zwd 40 x n2))))))) m) (tgeR (zwd 40 x n1) (zwd 40 x n2))) false)) (fun _ => false) u) v)
theorem sm_fcmp [G : zGh] {ci kc n1 n2 ix1 ix2 : Nat} {C rf1 rf2 : String} {T : u_T} {N : Nat} {f1 f2 : Fin 4} (hkc : 16 + ci = kc) (hz1 : zisR (zfty ci n1) = false) (hz2 : zisR (zfty ci n2) = false) (hin : ∀ w ∈ u_ws C T N, w ∈ ztbl) (hc : zcl[ci]? = some (C, T, N)) (hn1 : n1 < N) (hn2 : n2 < N) (hN : N = zN ci) (hl1 : Cond.fieldLink X.1 ix1 rf1 (T n1).2.1 (T n1).2.2.1 ∈ ztbl) (hr1 : (T n1).1 = rf1) (hl2 : Cond.fieldLink X.1 ix2 rf2 (T n2).2.1 (T n2).2.2.1 ∈ ztbl) (hr2 : (T n2).1 = rf2)
    (d1 : decode X.2.1 pc = .ok (.aload_n f1, 1)) (e1 : (f1 : Nat) = 0) (d2 : decode X.2.1 (pc + 1) = .ok (.getfield ix1, 3)) (d3 : decode X.2.1 (pc + 1 + 3) = .ok (.aload_n f2, 1)) (e2 : (f2 : Nat) = 0) (d4 : decode X.2.1 (pc + 1 + 3 + 1) = .ok (.getfield ix2, 3)) (d5 : decode X.2.1 (pc + 1 + 3 + 1 + 3) = .ok (.if_icmp .ge off, 3)) (ht : ((pc + 1 + 3 + 1 + 3 : Nat) : Int) + off = (tgt : Int)) (h1 : zSim X fr P tgt kt) (h2 : zSim X fr P (pc + 1 + 3 + 1 + 3 + 3) kf) : zSim X fr P pc (xfc kc n1 n2 kt kf) := by
  subst hkc
  intro Ch cA D ad0 A MC MS p l e s m args below meth c ls st H locs cells slots L S h Cx hk R0
  obtain ⟨ws, hHp, hpre, hP, hD, hS, hL, hst, hcb, hsb⟩ := R0
  obtain ⟨v, hv, hk2⟩ := znth_t 0 hk
  match v, hv, hk2 with
  | .inr (.inl r), hv, hk2 =>
    obtain ⟨x0, hx0, o, rfl, ho⟩ := zLoc_at hL hv (by intro q; cases q)
    obtain ⟨j, kd, len, x, rfl, hg, hk3⟩ := zat_t hk2
    obtain ⟨a, en, rfl, hwi, hcell⟩ := zat_w hHp ho
    rw [hg] at hcell
    obtain ⟨hb, hk4⟩ := zcnd_t hk3
    clear hk2 hk3
    have ekd := Nat.eq_of_beq_eq_true hb
    obtain ⟨fs, rfl, hlen, hfl⟩ := zCell_obj hcell ekd
    have fld : ∀ n, n < N → zisR (zfty ci n) = false → ∃ i : Int32, fs[n]? = some (.int i) ∧ zIs (zwd 40 x n) i := by
      intro n hn hz
      have hlt : n < fs.length := by rw [hlen, ← hN]; exact hn
      have hv : fs[n]? = some fs[n] := List.getElem?_eq_getElem hlt
      have hf := hfl n _ hv
      unfold zFl at hf
      rw [hz, cond_false] at hf
      obtain ⟨i, e1, e2, -⟩ := hf
      exact ⟨i, by rw [hv, e1], zIs_a e2.1 (zwd_lt _ _ _)⟩
    obtain ⟨i1, v1, z1⟩ := fld n1 hn1 hz1
    obtain ⟨i2, v2, z2⟩ := fld n2 hn2 hz2
    refine lv_aload_n Cx.1 Cx.2.1 d1 e1 hx0 ?_
    refine va_get (rest := st) Cx.1 Cx.2.1 Cx.2.2.2.2.1 hin Cx.2.2.2.1 Cx.2.2.2.2.2.1 hP j hwi hc n1 hn1 (Cx.2.2.2.2.1 _ hl1) (fun x hx => by rw [← hr1]; exact hx) v1 d2 ?_
    refine lv_aload_n Cx.1 Cx.2.1 d3 e2 hx0 ?_
    refine va_get (rest := .int i1 :: st) Cx.1 Cx.2.1 Cx.2.2.2.2.1 hin Cx.2.2.2.1 Cx.2.2.2.2.2.1 hP j hwi hc n2 hn2 (Cx.2.2.2.2.1 _ hl2) (fun x hx => by rw [← hr2]; exact hx) v2 d4 ?_
    have key : (i2 ≤ i1 → kt L S h = true) ∧ (¬ i2 ≤ i1 → kf L S h = true ∨ kf L S (zset d h.1 j (kd, len, zup 40 x n1 (zbw (Nat.min (zhi (zwd 40 x n1)) (rhLt (zwd 40 x n1) (zwd 40 x n2))))), h.2) = true) := by
      rcases zT3_t hk4 with ⟨q0, g⟩ | ⟨q1, g⟩ | g
      · exact ⟨fun z => absurd z ((tgeR_ok z1 z2).2 q0), fun _ => Or.inl g⟩
      · exact ⟨fun _ => g, fun z => absurd ((tgeR_ok z1 z2).1 q1) z⟩
      · rw [Bool.and_eq_true, zF_eq, zsetK_eq] at g
        exact ⟨fun _ => g.1, fun _ => Or.inr g.2⟩
    refine lv_icmp_ge Cx.1 Cx.2.1 d5 ht (fun hq => ?_) (fun hq => ?_)
    · exact h1 Ch cA D ad0 A MC MS p l e s m args below meth c ls _ H locs cells slots L _ h Cx (key.1 hq) ⟨ws, hHp, hpre, hP, hD, hS, hL, hst, hcb, hsb⟩
    · rcases key.2 hq with g | g
      · exact h2 Ch cA D ad0 A MC MS p l e s m args below meth c ls _ H locs cells slots L _ h Cx g ⟨ws, hHp, hpre, hP, hD, hS, hL, hst, hcb, hsb⟩
      · have hlt : zi i1 < Nat.min (zhi (zwd 40 x n1)) (rhLt (zwd 40 x n1) (zwd 40 x n2)) := Nat.lt_min.mpr ⟨zhi_ok z1, (rb_lt z1 z2 hq).2⟩
        have hcell2 : zCell cA (zad cA ws) (16 + ci, len, zup 40 x n1 (zbw (Nat.min (zhi (zwd 40 x n1)) (rhLt (zwd 40 x n1) (zwd 40 x n2))))) (.inr (ci, fs)) := zCell_ok hlen (fun q v hv => by
          by_cases hq : n1 = q
          · subst hq
            rw [zwd_up_same _ _ _ _ (Nat.lt_trans (zbw_lt _) (by decide))]
            rw [v1] at hv
            cases hv
            unfold zFl
            rw [hz1, cond_false]
            exact ⟨i1, rfl, ⟨zbw_ok hlt, fun z => absurd z (Nat.ne_of_lt (zbw_lt _))⟩, fun z => absurd z (Nat.not_lt.mpr (Nat.le_of_lt (zbw_lt _))), fun z => absurd z (Nat.not_le.mpr (zbw_lt38 _))⟩
          · rw [zwd_up_ne _ _ _ _ _ (Nat.lt_trans (zbw_lt _) (by decide)) hq]
            exact hfl q v hv)
        rw [← ekd] at hcell2
        have hH2 := zHp_set hHp hwi hcell2
        have hse : ws.set j (a, .inr (ci, fs)) = ws := by
          apply List.ext_getElem?
          intro q
          rw [List.getElem?_set]
          by_cases hq2 : j = q
          · subst hq2
            rw [if_pos rfl, if_pos (List.getElem?_eq_some_iff.mp hwi).1, hwi]
          · rw [if_neg hq2]
        rw [hse] at hH2
        exact h2 Ch cA D ad0 A MC MS p l e s m args below meth c ls _ H locs cells slots L _ _ Cx g ⟨ws, hH2, hpre, hP, hD, hS, hL, hst, hcb, hsb⟩
/-- a long local against 0: kt where it is 0 -/
noncomputable def xlz (n : Nat) (kt kf : zK d) : zK d := fun L S h => znth n L (fun v => Sum.rec (motive := fun _ => Bool) (fun _ => false) (fun u => Sum.rec (motive := fun _ => Bool) (fun _ => false) (fun w => Sum.rec (motive := fun _ => Bool) (fun a => cond (Nat.ble 18446744073709551616 a) (and (kt L S h) (zst (Nat.succ n) zU L (fun L => zst n (zL 1606938044258990275541962092341162602527285592350703190540288) L (fun L => kf L S h)))) (cond (Nat.beq a 0) (kt L S h) (kf L S h))) (fun _ => false) w) u) v)
/-- quotients of longs, also by one that isn't 0 and else not known -/
noncomputable def xdvQ (k : zK d) : zK d := fun L S h => zpL S (fun b S => zpL S (fun a S => cond (Nat.ble 4722366482869645213696 b) (cond (Nat.ble 1 (Nat.mod (Nat.div b 4722366482869645213696) 18446744073709551616)) (k L (zL 18446744073709551616 :: S) h) false) false))
theorem sm_dvU [G : zGh] (dg : decode X.2.1 pc = .ok (.ldiv, 1)) (hs : zSim X fr P (pc + 1) k) : zSim X fr P pc (xdvQ k) := sm_go (fun ad L S h st hk hst => by
  obtain ⟨b, S, rfl, hk1⟩ := zpL_t hk
  obtain ⟨a, S, rfl, hk2⟩ := zpL_t hk1
  obtain ⟨y, st, rfl, hy, hst⟩ := zRepL_L hst
  obtain ⟨x, st, rfl, hx, hst⟩ := zRepL_L hst
  obtain ⟨c1, hk3⟩ := zcnd_t hk2
  obtain ⟨c2, hk4⟩ := zcnd_t hk3
  have hy2 := (hy.2 (Nat.le_of_ble_eq_true c1)).1
  have c2' : 1 ≤ b / 4722366482869645213696 % 18446744073709551616 := Nat.le_of_ble_eq_true c2
  have hne : ¬ y = 0 := fun q => by rw [q, zj_z] at hy2; omega
  exact ⟨_, [.long y, .long x], [.long (x / y)], st, hk4, rfl, (fun hx hb kk => lv_ldiv hx hb dg hne kk), ⟨⟨_, rfl, zJs_of (fun q => absurd q (Nat.lt_irrefl _)) (by decide)⟩, hst⟩⟩) hs
noncomputable def zkl (S : List zV) : Bool := zpL S (fun b _ => Nat.ble b 18446744073709551615)
theorem sm_ldivQ [G : zGh] (dg : decode X.2.1 pc = .ok (.ldiv, 1)) (hs : zSim X fr P (pc + 1) k) : zSim X fr P pc (fun L S h => cond (zkl S) (xbinjN zdivj k L S h) (xdvQ k L S h)) := sm_or (sm_ldiv dg hs) (sm_dvU dg hs)
/-- a number that is marked, read -/
noncomputable def xgfM (kc n : Nat) (k : zK d) : zK d := fun L S h => zpR S (fun r S => zat h r (fun _ _ _ kd _ x => cond (Nat.beq kd kc) (zF (fun v => k L (zI v :: S) h) (cond (Nat.beq (zwd 40 x n) 549755813888) 4294968017 (zwd 40 x n))) false))
theorem sm_getfieldM [G : zGh] {ci kc n index : Nat} {C ref : String} {T : u_T} {N : Nat} (hkc : 16 + ci = kc) (hw : zisR (zfty ci n) = false) (hin : ∀ w ∈ u_ws C T N, w ∈ ztbl) (hc : zcl[ci]? = some (C, T, N)) (hn : n < N) (hN : N = zN ci) (hlink : Cond.fieldLink X.1 index ref (T n).2.1 (T n).2.2.1 ∈ ztbl) (href : (T n).1 = ref) (dg : decode X.2.1 pc = .ok (.getfield index, 3)) (hs : zSim X fr P (pc + 3) k) : zSim X fr P pc (xgfM kc n k) := by
  subst hkc
  intro Ch cA D ad0 A MC MS p l e s m args below meth c ls st H locs cells slots L S h Cx hk R0
  obtain ⟨ws, hHp, hpre, hP, hD, hS, hL, hst, hcb, hsb⟩ := R0
  obtain ⟨r, S, rfl, hk1⟩ := zpR_t hk
  obtain ⟨o, st, rfl, ho, hst2⟩ := zRepL_R hst
  obtain ⟨i, kd, len, x, rfl, hg, hk2⟩ := zat_t hk1
  obtain ⟨a, en, rfl, hwi, hcell⟩ := zat_w hHp ho
  rw [hg] at hcell
  obtain ⟨hb, hk3⟩ := zcnd_t hk2
  clear hk2
  rw [zF_eq] at hk3
  obtain ⟨fs, rfl, hlen, hfl⟩ := zCell_obj hcell (Nat.eq_of_beq_eq_true hb)
  have hlt : n < fs.length := by rw [hlen, ← hN]; exact hn
  have hv : fs[n]? = some fs[n] := List.getElem?_eq_getElem hlt
  have hf := hfl n _ hv
  unfold zFl at hf
  rw [hw, cond_false] at hf
  obtain ⟨iv, e1, e2, -⟩ := hf
  have hz : zIs (cond (Nat.beq (zwd 40 x n) 549755813888) 4294968017 (zwd 40 x n)) iv := by
    cases hq : Nat.beq (zwd 40 x n) 549755813888
    · exact zIs_a e2.1 (zwd_lt _ _ _)
    · obtain ⟨u1, u2⟩ := e2.2 (Nat.eq_of_beq_eq_true hq)
      rw [cond_true]
      exact zIs_a ⟨fun q => absurd q (by decide), fun _ _ => by omega⟩ (by decide)
  exact va_get (rest := st) Cx.1 Cx.2.1 Cx.2.2.2.2.1 hin Cx.2.2.2.1 Cx.2.2.2.2.2.1 hP i hwi hc n hn (Cx.2.2.2.2.1 _ hlink) (fun x hx => by rw [← href]; exact hx) hv dg (hs Ch cA D ad0 A MC MS p l e s m args below meth c ls _ H locs cells slots L _ h Cx hk3 ⟨ws, hHp, hpre, hP, hD, hS, hL, ⟨⟨iv, e1, hz⟩, hst2⟩, hcb, hsb⟩)
end OPS
