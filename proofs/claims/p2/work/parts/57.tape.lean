/-! the place moves on, is compared; loops over it -/
section OPS
variable {d : Nat} {X : zM} {fr : Nat} {P : zP d} {pc pc' tgt : Nat} {off : Int} {k kt kf : zK d}
noncomputable def xai (kc n : Nat) (k : zK d) : zK d := fun L S h => znth 0 L (fun v => Sum.rec (motive := fun _ => Bool) (fun _ => false) (fun u => Sum.rec (motive := fun _ => Bool) (fun r => zat h r (fun t u j kd len x => cond (Nat.beq kd kc) (cond (Nat.beq (zwd 40 x n) 274877906945) (zF (fun y => zsetK d t j (kd, len, y) (fun t => k L S (t, u))) (zup 40 x n 274877906944)) false) false)) (fun _ => false) u) v)
noncomputable def xaiT (kc n : Nat) (k : zK d) : zK d := fun L S h => znth 0 L (fun v => Sum.rec (motive := fun _ => Bool) (fun _ => false) (fun u => Sum.rec (motive := fun _ => Bool) (fun r => zat h r (fun t u j kd len x => cond (Nat.beq kd kc) (cond (Nat.beq (zwd 40 x n) 274877906945) (cond (zsf0L L) (cond (zsf0L S) (zF (fun y => zsetK d t j (kd, len, y) (fun t1 => cond (zngH t1 u.1) (zF (fun z => zsetK d t1 j (kd, len, z) (fun t2 => k L S (t2, u))) (zup 40 y n 274877906944)) false)) (zup 40 x n 4294967296)) false) false) false) false)) (fun _ => false) u) v)
/-- what the six instructions do -/
theorem at_six [G : zGh] {ci n ix1 : Nat} {C rf1 : String} {T : u_T} {N : Nat} {f1 : Fin 4} {n1 : Int} (hin : ∀ w ∈ u_ws C T N, w ∈ ztbl) (hc : zcl[ci]? = some (C, T, N)) (hn : n < N) (hl1 : Cond.fieldLink X.1 ix1 rf1 (T n).2.1 (T n).2.2.1 ∈ ztbl) (hr1 : (T n).1 = rf1)
    (d1 : decode X.2.1 pc = .ok (.aload_n f1, 1)) (e1 : (f1 : Nat) = 0) (d2 : decode X.2.1 (pc + 1) = .ok (.dup, 1)) (d3 : decode X.2.1 (pc + 1 + 1) = .ok (.getfield ix1, 3)) (d4 : decode X.2.1 (pc + 1 + 1 + 3) = .ok (.iconst n1, 1)) (d5 : decode X.2.1 (pc + 1 + 1 + 3 + 1) = .ok (.iadd, 1)) (row : zPut X (pc + 1 + 1 + 3 + 1 + 1) ci n .int)
    {cA : Nat → ClassId} {D : va_G} {p : Program} {l : Launch} {e : Env} {R : Room} {s : State} {m : MethodId} {args : Array Value} {below : List Frame} {meth : Method} {c : Code} {H : Heap} {A : Nat → Prop} {locs : List Loc} {cells slots : Nat} {Q : State → Prop} {ls : Array Slot} {st : List Value} {ws : va_W} {a q0 : Nat} {fs : List Value} {i : Int32}
    (Cx : zCx X cA D p s m args meth c A) (hP : va_P D zcl ws H) (hD : va_D A ws) (hS : va_S A s.heap H locs) (hwi : ws[q0]? = some (a, .inr (ci, fs))) (hv : fs[n]? = some (.int i)) (hx : ls[0]? = some (.val (.ref a)))
    (kk : ∀ (H1 : Heap) (locs1 : List Loc), va_P D zcl (ws.set q0 (a, .inr (ci, fs.set n (.int (i + Int32.ofInt n1))))) H1 → va_D A (ws.set q0 (a, .inr (ci, fs.set n (.int (i + Int32.ofInt n1))))) → va_S A s.heap H1 locs1 → W p l e R s m args below meth c H1 locs1 cells slots Q (F0 m (pc + 1 + 1 + 3 + 1 + 1 + 3) ls st)) : W p l e R s m args below meth c H locs cells slots Q (F0 m pc ls st) := by
  refine lv_aload_n Cx.1 Cx.2.1 d1 e1 hx ?_
  refine lv_dup Cx.1 Cx.2.1 d2 rfl ?_
  refine va_get (rest := .ref a :: st) Cx.1 Cx.2.1 Cx.2.2.2.2.1 hin Cx.2.2.2.1 Cx.2.2.2.2.2.1 hP q0 hwi hc n hn (Cx.2.2.2.2.1 _ hl1) (fun x hx => by rw [← hr1]; exact hx) hv d3 ?_
  refine lv_iconst Cx.1 Cx.2.1 d4 rfl ?_
  refine lv_iadd Cx.1 Cx.2.1 d5 ?_
  exact row Cx hP hD hS hwi rfl rfl (List.getElem?_eq_some_iff.mp hv).1 kk
theorem zi_succ {i j : Int32} (hj : zi j = 1) (hi : zi i ≤ 199) : zi (i + j) = zi i + 1 := by
  rw [zi_add, hj, Nat.mod_eq_of_lt (by omega)]
theorem sm_ai [G : zGh] {ci kc n ix1 : Nat} {C rf1 : String} {T : u_T} {N : Nat} {f1 : Fin 4} {n1 : Int} (hkc : 16 + ci = kc) (hz : zisR (zfty ci n) = false) (hN : N = zN ci) (h1 : zi (Int32.ofInt n1) = 1) (hin : ∀ w ∈ u_ws C T N, w ∈ ztbl) (hc : zcl[ci]? = some (C, T, N)) (hn : n < N) (hl1 : Cond.fieldLink X.1 ix1 rf1 (T n).2.1 (T n).2.2.1 ∈ ztbl) (hr1 : (T n).1 = rf1)
    (d1 : decode X.2.1 pc = .ok (.aload_n f1, 1)) (e1 : (f1 : Nat) = 0) (d2 : decode X.2.1 (pc + 1) = .ok (.dup, 1)) (d3 : decode X.2.1 (pc + 1 + 1) = .ok (.getfield ix1, 3)) (d4 : decode X.2.1 (pc + 1 + 1 + 3) = .ok (.iconst n1, 1)) (d5 : decode X.2.1 (pc + 1 + 1 + 3 + 1) = .ok (.iadd, 1)) (row : zPut X (pc + 1 + 1 + 3 + 1 + 1) ci n .int) (hs : zSim X fr P (pc + 1 + 1 + 3 + 1 + 1 + 3) k) : zSim X fr P pc (xai kc n k) := by
  subst hkc
  intro Ch cA D ad0 A MC MS p l e s m args below meth c ls st H locs cells slots L S h Cx hk R0
  obtain ⟨ws, hHp, hpre, hP, hD, hS, hL, hst, hcb, hsb⟩ := R0
  obtain ⟨v, hv, hk2⟩ := znth_t 0 hk
  match v, hv, hk2 with
  | .inr (.inl r), hv, hk2 =>
    obtain ⟨x0, hx0, o, rfl, ho⟩ := zLoc_at hL hv (by intro q; cases q)
    obtain ⟨j, kd, len, x, rfl, hg, hk3⟩ := zat_t hk2
    obtain ⟨a, en, rfl, hwi, hcell⟩ := zat_w hHp ho
    rw [hg] at hcell
    obtain ⟨hb, hk3⟩ := zcnd_t hk3
    obtain ⟨hw, hk3⟩ := zcnd_t hk3
    rw [zF_eq, zsetK_eq] at hk3
    have ekd := Nat.eq_of_beq_eq_true hb
    have ew := Nat.eq_of_beq_eq_true hw
    obtain ⟨fs, rfl, hlen, hfl⟩ := zCell_obj hcell ekd
    have hlt : n < fs.length := by rw [hlen, ← hN]; exact hn
    have hv1 : fs[n]? = some fs[n] := List.getElem?_eq_getElem hlt
    have hf := hfl n _ hv1
    unfold zFl at hf
    rw [hz, cond_false, ew] at hf
    obtain ⟨i, g1, g2, -, g4⟩ := hf
    obtain ⟨u1, u2, u3, -⟩ := g4 (by decide) (by decide)
    have u2 := u2 (by decide)
    have u3 := u3 rfl
    have hs1 := zi_succ h1 u3
    refine at_six hin hc hn hl1 hr1 d1 e1 d2 d3 d4 d5 row Cx hP hD hS hwi (by rw [hv1, g1]) hx0 (fun H1 locs1 hP1 hD1 hS1 => ?_)
    have hz2 := zad_set (cA := cA) (e' := .inr (ci, fs.set n (.int (i + Int32.ofInt n1)))) hwi
    rw [ekd] at hk3
    have hl2 := zi_lt (i + Int32.ofInt n1)
    exact hs Ch cA D ad0 A MC MS p l e s m args below meth c ls _ H1 locs1 cells slots L _ _ Cx hk3 ⟨_, zHp_set hHp hwi (zCell_ok (by rw [List.length_set]; exact hlen) (zFl_up (by decide) hfl (by unfold zFl; rw [hz, cond_false]; exact ⟨_, rfl, ⟨⟨fun q => absurd q (by decide), fun _ _ => by omega⟩, fun q => absurd q (by decide)⟩, fun q => absurd q (by decide), fun _ _ => ⟨by omega, fun _ => by omega, fun q => absurd q (by decide), fun q => absurd q (by decide)⟩⟩))), by rw [hz2]; exact hpre, hP1, hD1, hS1, by rw [hz2]; exact hL, by rw [hz2]; exact hst, hcb, hsb⟩
/-- T rises with the place -/
theorem sm_aiT [G : zGh] {ci kc n ix1 : Nat} {C rf1 : String} {T : u_T} {N : Nat} {f1 : Fin 4} {n1 : Int} (hkc : 16 + ci = kc) (hz : zisR (zfty ci n) = false) (hN : N = zN ci) (h1 : zi (Int32.ofInt n1) = 1) (hin : ∀ w ∈ u_ws C T N, w ∈ ztbl) (hc : zcl[ci]? = some (C, T, N)) (hn : n < N) (hl1 : Cond.fieldLink X.1 ix1 rf1 (T n).2.1 (T n).2.2.1 ∈ ztbl) (hr1 : (T n).1 = rf1)
    (d1 : decode X.2.1 pc = .ok (.aload_n f1, 1)) (e1 : (f1 : Nat) = 0) (d2 : decode X.2.1 (pc + 1) = .ok (.dup, 1)) (d3 : decode X.2.1 (pc + 1 + 1) = .ok (.getfield ix1, 3)) (d4 : decode X.2.1 (pc + 1 + 1 + 3) = .ok (.iconst n1, 1)) (d5 : decode X.2.1 (pc + 1 + 1 + 3 + 1) = .ok (.iadd, 1)) (row : zPut X (pc + 1 + 1 + 3 + 1 + 1) ci n .int) (hs : ∀ G' : zGh, @zg G' 0 = @zg G 0 + 1 → (∀ m, 0 < m → @zg G' m = @zg G m) → @zSim G' d X fr P (pc + 1 + 1 + 3 + 1 + 1 + 3) k) : zSim X fr P pc (xaiT kc n k) := by
  subst hkc
  intro Ch cA D ad0 A MC MS p l e s m args below meth c ls st H locs cells slots L S h Cx hk R0
  obtain ⟨ws, hHp, hpre, hP, hD, hS, hL, hst, hcb, hsb⟩ := R0
  obtain ⟨v, hv, hk2⟩ := znth_t 0 hk
  match v, hv, hk2 with
  | .inr (.inl r), hv, hk2 =>
    obtain ⟨x0, hx0, o, rfl, ho⟩ := zLoc_at hL hv (by intro q; cases q)
    obtain ⟨j, kd, len, x, rfl, hg, hk3⟩ := zat_t hk2
    obtain ⟨a, en, rfl, hwi, hcell⟩ := zat_w hHp ho
    rw [hg] at hcell
    obtain ⟨hb, hk3⟩ := zcnd_t hk3
    obtain ⟨hw, hk3⟩ := zcnd_t hk3
    obtain ⟨s1, hk3⟩ := zcnd_t hk3
    obtain ⟨s2, hk3⟩ := zcnd_t hk3
    rw [zF_eq, zsetK_eq] at hk3
    obtain ⟨s3, hk3⟩ := zcnd_t hk3
    rw [zF_eq, zsetK_eq] at hk3
    have ekd := Nat.eq_of_beq_eq_true hb
    have ew := Nat.eq_of_beq_eq_true hw
    obtain ⟨fs, rfl, hlen, hfl⟩ := zCell_obj hcell ekd
    have hlt : n < fs.length := by rw [hlen, ← hN]; exact hn
    have hv1 : fs[n]? = some fs[n] := List.getElem?_eq_getElem hlt
    have hf := hfl n _ hv1
    unfold zFl at hf
    rw [hz, cond_false, ew] at hf
    obtain ⟨i, g1, g2, -, g4⟩ := hf
    obtain ⟨u1, u2, u3, -⟩ := g4 (by decide) (by decide)
    have hT0 : @Eq Nat (cA 20) (zg 0) := Cx.2.2.2.2.2.2.2.2.1.2
    have u2 : zg 0 ≤ zi i := by rw [← hT0]; exact u2 (by decide)
    have u3 := u3 rfl
    have hs1 := zi_succ h1 u3
    refine at_six hin hc hn hl1 hr1 d1 e1 d2 d3 d4 d5 row Cx hP hD hS hwi (by rw [hv1, g1]) hx0 (fun H1 locs1 hP1 hD1 hS1 => ?_)
    -- no word of T but this one
    have hcell1 : zCell cA (zad cA ws) (16 + ci, len, zup 40 x n 4294967296) (.inr (ci, fs)) := zCell_ok hlen (fun q v hvq => by
      by_cases hq : n = q
      · subst hq
        rw [zwd_up_same _ _ _ _ (by decide)]
        rw [hv1] at hvq
        cases hvq
        unfold zFl
        rw [hz, cond_false]
        exact ⟨i, g1, ⟨⟨fun z => absurd z (by decide), fun z => absurd z (by decide)⟩, fun z => absurd z (by decide)⟩, fun z => absurd z (by decide), fun z => absurd z (by decide)⟩
      · rw [zwd_up_ne _ _ _ _ _ (by decide) hq]
        exact hfl q v hvq)
    have hH1 := zHp_cl hHp hwi (by rw [ekd]; exact hcell1 : zCell cA (zad cA ws) (kd, len, zup 40 x n 4294967296) (.inr (ci, fs)))
    have hne := zcT2_ne cA (zg 0 + 1)
    have hH2 : zHp (zcT2 cA (zg 0 + 1)) (zset d h.1 j (kd, len, zup 40 x n 4294967296), h.2) ws := zHp_ng hne s3 hH1
    have hcell2 : zCell (zcT2 cA (zg 0 + 1)) (zad (zcT2 cA (zg 0 + 1)) ws) (16 + ci, len, zup 40 x n 4294967296) (.inr (ci, fs)) := by
      have := hH2.2.2 j _ hwi
      have hjl : j < 2 ^ d := Nat.lt_of_lt_of_le (by rw [← hHp.1]; exact (List.getElem?_eq_some_iff.mp hwi).1) hHp.2.1
      rw [zget_set_same d _ _ _ hjl, ekd] at this
      exact this
    obtain ⟨fs', efs, -, hfl2⟩ := zCell_obj hcell2 rfl
    cases efs
    have hl2 := zi_lt (i + Int32.ofInt n1)
    have hH3 := zHp_set (e' := .inr (ci, fs.set n (.int (i + Int32.ofInt n1)))) hH2 hwi (zCell_ok (len := len) (x := zup 40 (zup 40 x n 4294967296) n 274877906944) (by rw [List.length_set]; exact hlen) (zFl_up (by decide) hfl2 (by
      unfold zFl
      rw [hz, cond_false]
      refine ⟨_, rfl, ⟨⟨fun q => absurd q (by decide), fun _ _ => by omega⟩, fun q => absurd q (by decide)⟩, fun q => absurd q (by decide), fun _ _ => ⟨by omega, fun _ => ?_, fun q => absurd q (by decide), fun q => absurd q (by decide)⟩⟩
      show zcT2 cA (zg 0 + 1) 20 ≤ _
      rw [zcT2_20]
      omega)))
    have hz2 := zad_set (cA := zcT2 cA (zg 0 + 1)) (e' := .inr (ci, fs.set n (.int (i + Int32.ofInt n1)))) hwi
    have hg0 : ∀ m, 0 < m → @zg (zgu G 0 (zg 0 + 1)) m = @zg G m := fun m hm => zgu_ne G _ (by omega)
    have e0 : ad0.2 = cA := hpre.2.symm
    refine W_post (fun o t hq => zQc_dn (cA' := zcT2 cA (zg 0 + 1)) (fun w hw => (hne w hw).symm) (by rw [zcT2_20, hT0]; exact Nat.le_succ _) e0 hq) ?_
    rw [ekd] at hk3
    exact hs (zgu G 0 (zg 0 + 1)) (zgu_same G 0 _) hg0 Ch (zcT2 cA (zg 0 + 1)) D (ad0.1, zcT2 cA (zg 0 + 1)) A MC MS p l e s m args below meth c ls _ H1 locs1 cells slots L _ _ (zCx_T hne (by rw [zcT2_20, zgu_same]) Cx) hk3 ⟨_, by rw [ekd] at hH3; exact hH3, by rw [hz2]; exact ⟨hpre.1, rfl⟩, hP1, hD1, hS1, by rw [hz2]; exact zLoc_G0 hg0 s1 (zLoc_T hne hL), by rw [hz2]; exact zRepL_G0 hg0 s2 (zRepL_T hne hst), hcb, hsb⟩
/-- is it still on the tape: behind that it is at most 199 -/
def zisT (w : Nat) : Bool := cond (Nat.ble 274877906944 w) (Nat.ble w 274877906945) false
theorem zisT_t {w : Nat} (h : zisT w = true) : 274877906944 ≤ w ∧ w < 274877906946 := by
  unfold zisT at h
  obtain ⟨h1, h2⟩ := zcnd_t h
  have h2 := Nat.le_of_ble_eq_true h2
  exact ⟨Nat.le_of_ble_eq_true h1, by omega⟩
theorem zlt_T {i1 i2 : Int32} (hq : ¬ i2 ≤ i1) (h1 : zi i1 ≤ 200) (h2 : zi i2 < 201) : zi i1 ≤ 199 := by
  have h := Int32.lt_iff_toInt_lt.mp (Int32.not_le.mp hq)
  rw [zi_toInt, zi_toInt, if_pos (by omega), if_pos (by omega)] at h
  omega
theorem zHp_w1 [zCh] {cA : Nat → ClassId} {h : zH d} {ws : va_W} {j kd ci n len x a : Nat} {fs : List Value} {i : Int32} (hHp : zHp cA h ws) (hwi : ws[j]? = some (a, .inr (ci, fs))) (ekd : kd = 16 + ci) (hlen : fs.length = zN ci) (hfl : ∀ k v, fs[k]? = some v → zFl (zad cA ws) ci k (zwd 40 x k) v) (hz : zisR (zfty ci n) = false) (hv : fs[n]? = some (.int i)) (hw : zisT (zwd 40 x n) = true) (hi : zi i ≤ 199) : zHp cA (zset d h.1 j (kd, len, zup 40 x n 274877906945), h.2) ws := by
  refine zHp_cl hHp hwi ?_
  rw [ekd]
  refine zCell_ok hlen (fun q v hvq => ?_)
  by_cases hq : n = q
  · subst hq
    rw [zwd_up_same _ _ _ _ (by decide)]
    have hf := hfl n _ hv
    rw [hv] at hvq
    cases hvq
    unfold zFl at hf ⊢
    rw [hz, cond_false] at hf ⊢
    obtain ⟨i', g1, g2, -, g4⟩ := hf
    cases g1
    obtain ⟨w1, w2⟩ := zisT_t hw
    obtain ⟨u1, u2, -⟩ := g4 w1 (by omega)
    exact ⟨i, rfl, ⟨⟨fun z => absurd z (by decide), fun _ _ => by omega⟩, fun z => absurd z (by decide)⟩, fun z => absurd z (by decide), fun _ _ => ⟨u1, fun _ => u2 w2, fun _ => hi, fun z => absurd z (by decide)⟩⟩
  · rw [zwd_up_ne _ _ _ _ _ (by decide) hq]
    exact hfl q v hvq
noncomputable def xfcT (kc n1 n2 : Nat) (kt kf : zK d) : zK d := fun L S h => znth 0 L (fun v => Sum.rec (motive := fun _ => Bool) (fun _ => false) (fun u => Sum.rec (motive := fun _ => Bool) (fun r => zat h r (fun t u j kd len x => cond (Nat.beq kd kc) (cond (zisT (zwd 40 x n1)) (cond (Nat.ble (zhi (zwd 40 x n2)) 201) (cond (kt L S h) (zF (fun y => zsetK d t j (kd, len, y) (fun t => kf L S (t, u))) (zup 40 x n1 274877906945)) false) false) false) false)) (fun _ => false) u) v)
theorem sm_fcT [G : zGh] {ci kc n1 n2 ix1 ix2 : Nat} {C rf1 rf2 : String} {T : u_T} {N : Nat} {f1 f2 : Fin 4} (hkc : 16 + ci = kc) (hz1 : zisR (zfty ci n1) = false) (hz2 : zisR (zfty ci n2) = false) (hin : ∀ w ∈ u_ws C T N, w ∈ ztbl) (hc : zcl[ci]? = some (C, T, N)) (hn1 : n1 < N) (hn2 : n2 < N) (hN : N = zN ci) (hl1 : Cond.fieldLink X.1 ix1 rf1 (T n1).2.1 (T n1).2.2.1 ∈ ztbl) (hr1 : (T n1).1 = rf1) (hl2 : Cond.fieldLink X.1 ix2 rf2 (T n2).2.1 (T n2).2.2.1 ∈ ztbl) (hr2 : (T n2).1 = rf2)
    (d1 : decode X.2.1 pc = .ok (.aload_n f1, 1)) (e1 : (f1 : Nat) = 0) (d2 : decode X.2.1 (pc + 1) = .ok (.getfield ix1, 3)) (d3 : decode X.2.1 (pc + 1 + 3) = .ok (.aload_n f2, 1)) (e2 : (f2 : Nat) = 0) (d4 : decode X.2.1 (pc + 1 + 3 + 1) = .ok (.getfield ix2, 3)) (d5 : decode X.2.1 (pc + 1 + 3 + 1 + 3) = .ok (.if_icmp .ge off, 3)) (ht : ((pc + 1 + 3 + 1 + 3 : Nat) : Int) + off = (tgt : Int)) (h1 : zSim X fr P tgt kt) (h2 : zSim X fr P (pc + 1 + 3 + 1 + 3 + 3) kf) : zSim X fr P pc (xfcT kc n1 n2 kt kf) := by
  subst hkc
  intro Ch cA D ad0 A MC MS p l e s m args below meth c ls st H locs cells slots L S h Cx hk R0
  obtain ⟨ws, hHp, hpre, hP, hD, hS, hL, hst, hcb, hsb⟩ := R0
  obtain ⟨v, hv, hk2⟩ := znth_t 0 hk
  match v, hv, hk2 with
  | .inr (.inl r), hv, hk2 =>
    obtain ⟨x0, hx0, o, rfl, ho⟩ := zLoc_at hL hv (by intro q; cases q)
    obtain ⟨j, kd, len, x, rfl, hg, hk3⟩ := zat_t hk2
    obtain ⟨a, en, rfl, hwi, hcell⟩ := zat_w hHp ho
    rw [hg] at hcell
    obtain ⟨hb, hk3⟩ := zcnd_t hk3
    obtain ⟨hw1, hk3⟩ := zcnd_t hk3
    obtain ⟨hw2, hk3⟩ := zcnd_t hk3
    obtain ⟨hkt, hkf⟩ := zcnd_t hk3
    rw [zF_eq, zsetK_eq] at hkf
    have ekd := Nat.eq_of_beq_eq_true hb
    obtain ⟨fs, rfl, hlen, hfl⟩ := zCell_obj hcell ekd
    have fld : ∀ n, n < N → zisR (zfty ci n) = false → ∃ i : Int32, fs[n]? = some (.int i) ∧ zRepC (zad cA ws) (zI (zwd 40 x n)) (.int i) := by
      intro n hn hz
      have hlt : n < fs.length := by rw [hlen, ← hN]; exact hn
      have hv : fs[n]? = some fs[n] := List.getElem?_eq_getElem hlt
      have hf := hfl n _ hv
      unfold zFl at hf
      rw [hz, cond_false] at hf
      obtain ⟨i, e1, e2⟩ := id hf
      exact ⟨i, by rw [hv, e1], by rw [e1] at hf; exact hf⟩
    obtain ⟨i1, v1, z1⟩ := fld n1 hn1 hz1
    obtain ⟨i2, v2, z2⟩ := fld n2 hn2 hz2
    refine lv_aload_n Cx.1 Cx.2.1 d1 e1 hx0 ?_
    refine va_get (rest := st) Cx.1 Cx.2.1 Cx.2.2.2.2.1 hin Cx.2.2.2.1 Cx.2.2.2.2.2.1 hP j hwi hc n1 hn1 (Cx.2.2.2.2.1 _ hl1) (fun x hx => by rw [← hr1]; exact hx) v1 d2 ?_
    refine lv_aload_n Cx.1 Cx.2.1 d3 e2 hx0 ?_
    refine va_get (rest := .int i1 :: st) Cx.1 Cx.2.1 Cx.2.2.2.2.1 hin Cx.2.2.2.1 Cx.2.2.2.2.2.1 hP j hwi hc n2 hn2 (Cx.2.2.2.2.1 _ hl2) (fun x hx => by rw [← hr2]; exact hx) v2 d4 ?_
    refine lv_icmp_ge Cx.1 Cx.2.1 d5 ht (fun hq => ?_) (fun hq => ?_)
    · exact h1 Ch cA D ad0 A MC MS p l e s m args below meth c ls _ H locs cells slots L _ h Cx hkt ⟨ws, hHp, hpre, hP, hD, hS, hL, hst, hcb, hsb⟩
    · obtain ⟨i1', q1, q2, -, q4⟩ := z1
      cases q1
      obtain ⟨w1, w2⟩ := zisT_t hw1
      obtain ⟨u1, -⟩ := q4 w1 (by omega)
      obtain ⟨i2', p1, p2, -, -⟩ := z2
      cases p1
      have hlt2 : zi i2 < 201 := Nat.lt_of_lt_of_le (zhi_ok (zIs_a p2.1 (zwd_lt _ _ _))) (Nat.le_of_ble_eq_true hw2)
      exact h2 Ch cA D ad0 A MC MS p l e s m args below meth c ls _ H locs cells slots L _ _ Cx hkf ⟨ws, zHp_w1 hHp hwi ekd hlen hfl hz1 v1 hw1 (zlt_T hq u1 hlt2), hpre, hP, hD, hS, hL, hst, hcb, hsb⟩
/-- the same, where the length is a field of a field -/
noncomputable def xfcU (kc n1 n2 kc2 n3 : Nat) (kt kf : zK d) : zK d := fun L S h => znth 0 L (fun v => Sum.rec (motive := fun _ => Bool) (fun _ => false) (fun u => Sum.rec (motive := fun _ => Bool) (fun r => zat h r (fun t u j kd len x => cond (Nat.beq kd kc) (cond (zisT (zwd 40 x n1)) (cond (Nat.ble 549755813888 (zwd 40 x n2)) false (zat h (zwd 40 x n2) (fun _ _ _ kd2 _ x2 => cond (Nat.beq kd2 kc2) (cond (Nat.ble (zhi (zwd 40 x2 n3)) 201) (cond (kt L S h) (zF (fun y => zsetK d t j (kd, len, y) (fun t => kf L S (t, u))) (zup 40 x n1 274877906945)) false) false) false))) false) false)) (fun _ => false) u) v)
theorem sm_fcU [G : zGh] {ci kc ci2 kc2 n1 n2 n3 ix1 ix2 ix3 : Nat} {C rf1 rf2 C2 rf3 : String} {T T2 : u_T} {N N2 : Nat} {f1 f2 : Fin 4} (hkc : 16 + ci = kc) (hkc2 : 16 + ci2 = kc2) (hz1 : zisR (zfty ci n1) = false) (hz2 : zisR (zfty ci n2) = true) (hz3 : zisR (zfty ci2 n3) = false) (hin : ∀ w ∈ u_ws C T N, w ∈ ztbl) (hc : zcl[ci]? = some (C, T, N)) (hn1 : n1 < N) (hn2 : n2 < N) (hN : N = zN ci) (hin2 : ∀ w ∈ u_ws C2 T2 N2, w ∈ ztbl) (hc2 : zcl[ci2]? = some (C2, T2, N2)) (hn3 : n3 < N2) (hN2 : N2 = zN ci2) (hl1 : Cond.fieldLink X.1 ix1 rf1 (T n1).2.1 (T n1).2.2.1 ∈ ztbl) (hr1 : (T n1).1 = rf1) (hl2 : Cond.fieldLink X.1 ix2 rf2 (T n2).2.1 (T n2).2.2.1 ∈ ztbl) (hr2 : (T n2).1 = rf2) (hl3 : Cond.fieldLink X.1 ix3 rf3 (T2 n3).2.1 (T2 n3).2.2.1 ∈ ztbl) (hr3 : (T2 n3).1 = rf3)
    (d1 : decode X.2.1 pc = .ok (.aload_n f1, 1)) (e1 : (f1 : Nat) = 0) (d2 : decode X.2.1 (pc + 1) = .ok (.getfield ix1, 3)) (d3 : decode X.2.1 (pc + 1 + 3) = .ok (.aload_n f2, 1)) (e2 : (f2 : Nat) = 0) (d4 : decode X.2.1 (pc + 1 + 3 + 1) = .ok (.getfield ix2, 3)) (d4b : decode X.2.1 (pc + 1 + 3 + 1 + 3) = .ok (.getfield ix3, 3)) (d5 : decode X.2.1 (pc + 1 + 3 + 1 + 3 + 3) = .ok (.if_icmp .ge off, 3)) (ht : ((pc + 1 + 3 + 1 + 3 + 3 : Nat) : Int) + off = (tgt : Int)) (h1 : zSim X fr P tgt kt) (h2 : zSim X fr P (pc + 1 + 3 + 1 + 3 + 3 + 3) kf) : zSim X fr P pc (xfcU kc n1 n2 kc2 n3 kt kf) := by
  subst hkc
  subst hkc2
  intro Ch cA D ad0 A MC MS p l e s m args below meth c ls st H locs cells slots L S h Cx hk R0
  obtain ⟨ws, hHp, hpre, hP, hD, hS, hL, hst, hcb, hsb⟩ := R0
  obtain ⟨v, hv, hk2⟩ := znth_t 0 hk
  match v, hv, hk2 with
  | .inr (.inl r), hv, hk2 =>
    obtain ⟨x0, hx0, o, rfl, ho⟩ := zLoc_at hL hv (by intro q; cases q)
    obtain ⟨j, kd, len, x, rfl, hg, hk3⟩ := zat_t hk2
    obtain ⟨a, en, rfl, hwi, hcell⟩ := zat_w hHp ho
    rw [hg] at hcell
    obtain ⟨hb, hk3⟩ := zcnd_t hk3
    obtain ⟨hw1, hk3⟩ := zcnd_t hk3
    have ekd := Nat.eq_of_beq_eq_true hb
    obtain ⟨fs, rfl, hlen, hfl⟩ := zCell_obj hcell ekd
    cases hbw : Nat.ble 549755813888 (zwd 40 x n2)
    case true => rw [hbw] at hk3; cases hk3
    rw [hbw, cond_false] at hk3
    obtain ⟨j2, kd2, len2, x2, ej2, hg2, hk4⟩ := zat_t hk3
    obtain ⟨hb2, hk4⟩ := zcnd_t hk4
    obtain ⟨hw2, hk4⟩ := zcnd_t hk4
    obtain ⟨hkt, hkf⟩ := zcnd_t hk4
    rw [zF_eq, zsetK_eq] at hkf
    have ekd2 := Nat.eq_of_beq_eq_true hb2
    have hl1' : n1 < fs.length := by rw [hlen, ← hN]; exact hn1
    have hl2' : n2 < fs.length := by rw [hlen, ← hN]; exact hn2
    have f1v : fs[n1]? = some fs[n1] := List.getElem?_eq_getElem hl1'
    have f2v : fs[n2]? = some fs[n2] := List.getElem?_eq_getElem hl2'
    have g1 := hfl n1 _ f1v
    have g2 := hfl n2 _ f2v
    unfold zFl at g1 g2
    rw [hz1, cond_false] at g1
    rw [hz2, cond_true] at g2
    obtain ⟨i1, q1, q2, -, q4⟩ := g1
    obtain ⟨o2, p1, p2⟩ := g2
    rcases p2 with ⟨-, p2⟩ | ⟨p2, -⟩
    case inr => exact absurd p2 (Nat.not_le.mpr (zble_f hbw))
    rw [ej2] at p2
    obtain ⟨a2, en2, rfl, hwi2, hcell2⟩ := zat_w hHp p2
    rw [hg2] at hcell2
    obtain ⟨fs2, rfl, hlen2, hfl2⟩ := zCell_obj hcell2 ekd2
    have hl3' : n3 < fs2.length := by rw [hlen2, ← hN2]; exact hn3
    have f3v : fs2[n3]? = some fs2[n3] := List.getElem?_eq_getElem hl3'
    have g3 := hfl2 n3 _ f3v
    unfold zFl at g3
    rw [hz3, cond_false] at g3
    obtain ⟨i3, r1, r2, -, -⟩ := g3
    refine lv_aload_n Cx.1 Cx.2.1 d1 e1 hx0 ?_
    refine va_get (rest := st) Cx.1 Cx.2.1 Cx.2.2.2.2.1 hin Cx.2.2.2.1 Cx.2.2.2.2.2.1 hP j hwi hc n1 hn1 (Cx.2.2.2.2.1 _ hl1) (fun x hx => by rw [← hr1]; exact hx) (by rw [f1v, q1] : fs[n1]? = some (.int i1)) d2 ?_
    refine lv_aload_n Cx.1 Cx.2.1 d3 e2 hx0 ?_
    refine va_get (rest := .int i1 :: st) Cx.1 Cx.2.1 Cx.2.2.2.2.1 hin Cx.2.2.2.1 Cx.2.2.2.2.2.1 hP j hwi hc n2 hn2 (Cx.2.2.2.2.1 _ hl2) (fun x hx => by rw [← hr2]; exact hx) (by rw [f2v, p1] : fs[n2]? = some (va_rf (some a2))) d4 ?_
    refine va_get (rest := .int i1 :: st) Cx.1 Cx.2.1 Cx.2.2.2.2.1 hin2 Cx.2.2.2.1 Cx.2.2.2.2.2.1 hP j2 hwi2 hc2 n3 hn3 (Cx.2.2.2.2.1 _ hl3) (fun x hx => by rw [← hr3]; exact hx) (by rw [f3v, r1] : fs2[n3]? = some (.int i3)) d4b ?_
    refine lv_icmp_ge Cx.1 Cx.2.1 d5 ht (fun hq => ?_) (fun hq => ?_)
    · exact h1 Ch cA D ad0 A MC MS p l e s m args below meth c ls _ H locs cells slots L _ h Cx hkt ⟨ws, hHp, hpre, hP, hD, hS, hL, hst, hcb, hsb⟩
    · obtain ⟨w1, w2⟩ := zisT_t hw1
      obtain ⟨u1, -⟩ := q4 w1 (by omega)
      have hlt2 : zi i3 < 201 := Nat.lt_of_lt_of_le (zhi_ok (zIs_a r2.1 (zwd_lt _ _ _))) (Nat.le_of_ble_eq_true hw2)
      exact h2 Ch cA D ad0 A MC MS p l e s m args below meth c ls _ H locs cells slots L _ _ Cx hkf ⟨ws, zHp_w1 hHp hwi ekd hlen hfl hz1 (by rw [f1v, q1]) hw1 (zlt_T hq u1 hlt2), hpre, hP, hD, hS, hL, hst, hcb, hsb⟩
/-- known where T has risen -/
def zSimU [G : zGh] {d : Nat} (j : Nat) (X : zM) (fr : Nat) (P : zP d) (pc : Nat) (k : zK d) : Prop := ∀ G2 : zGh, @zg G 0 < @zg G2 0 → (∀ m, 0 < m → m < j → @zg G2 m = @zg G m) → @zSim G2 d X fr P pc k
theorem zSimU.mv {G G' : zGh} {j j' : Nat} (h : @zSimU G d j X fr P pc k) (hG : ∀ m, m < j' → @zg G' m = @zg G m) (hj : j ≤ j') (h0 : 0 < j := by decide) : @zSimU G' d j X fr P pc k := fun G2 h2 h3 => h G2 (by rw [← hG 0 (by omega)]; exact h2) (fun m m0 mj => (h3 m m0 mj).trans (hG m (by omega)))
theorem zSimU.up {G G' : zGh} {j : Nat} (h : @zSimU G d j X fr P pc k) (h0 : @zg G' 0 = @zg G 0 + 1) (hm : ∀ m, 0 < m → @zg G' m = @zg G m) (hj : 0 < j := by decide) : @zSimJ G' d j X fr P pc k := fun G3 h3 => h G3 (by rw [h3 0 hj, h0]; omega) (fun m m0 mj => (h3 m mj).trans (hm m m0))
/-- a cell with a word that speaks of T -/
noncomputable def zatw (kc n b : Nat) (h : zH d) : Bool := cond (Nat.ble (Nat.succ b) h.2.1) (Prod.rec (motive := fun _ => Bool) (fun kd v => Prod.rec (motive := fun _ => Bool) (fun _ x => cond (Nat.beq kd kc) (zisT (zwd 40 x n)) false) v) (zget d h.1 b)) false
theorem zatw_t [zCh] {ci kc n b : Nat} {h : zH d} {cA : Nat → ClassId} {ws : va_W} (hkc : 16 + ci = kc) (hz : zisR (zfty ci n) = false) (hn : n < zN ci) (hk : zatw kc n b h = true) (hH : zHp cA h ws) : @LE.le Nat _ (cA 20) 200 := by
  obtain ⟨h1, hk⟩ := zcnd_t hk
  have hb : b < ws.length := by rw [hH.1]; exact Nat.le_of_ble_eq_true h1
  have hc := hH.2.2 b _ (List.getElem?_eq_getElem hb)
  generalize zget d h.1 b = cc at hk hc
  obtain ⟨kd, len, x⟩ := cc
  have hk : cond (Nat.beq kd kc) (zisT (zwd 40 x n)) false = true := hk
  obtain ⟨h2, h3⟩ := zcnd_t hk
  obtain ⟨fs, e1, hlen, hfl⟩ := zCell_obj (ci := ci) hc (by rw [hkc]; exact Nat.eq_of_beq_eq_true h2)
  have hlt : n < fs.length := by rw [hlen]; exact hn
  have hf := hfl n _ (List.getElem?_eq_getElem hlt)
  unfold zFl at hf
  rw [hz, cond_false] at hf
  obtain ⟨i, -, -, -, g4⟩ := hf
  obtain ⟨w1, w2⟩ := zisT_t h3
  obtain ⟨u1, u2, -⟩ := g4 w1 (by omega)
  have u2 : cA 20 ≤ zi i := u2 w2
  exact Nat.le_trans u2 u1
noncomputable def zat0 (L : List zV) (K : Nat → Bool) : Bool := znth 0 L (fun v => Sum.rec (motive := fun _ => Bool) (fun _ => false) (fun u => Sum.rec (motive := fun _ => Bool) (fun r => Nat.rec (motive := fun _ => Bool) false (fun b _ => K b) r) (fun _ => false) u) v)
theorem zat0_t {L : List zV} {K : Nat → Bool} (h : zat0 L K = true) : ∃ b, K b = true := by
  obtain ⟨v, -, hk⟩ := znth_t 0 h
  match v, hk with
  | .inr (.inl (b + 1)), hk => exact ⟨b, hk⟩
noncomputable def xlpA (kc n : Nat) (wk : zWk d) (body : zK d → zK d) : zK d := fun L S h => List.rec (motive := fun _ => Bool) (wk L h (fun L0 h0 => cond (zsubL true L L0) (cond (zsubH h h0) (cond (zat0 L0 (fun b => zatw kc n b h0)) (body (xchk L0 [] h0) L0 [] h0) false) false) false)) (fun _ _ _ => false) S
/-- a loop in each turn of which the place moves on -/
theorem sm_lpA [G : zGh] {ci kc n : Nat} {wk : zWk d} {body : zK d → zK d} (hkc : 16 + ci = kc) (hz : zisR (zfty ci n) = false) (hn : n < zN ci) (hwk : zWkOK wk) (hb : ∀ (G' : zGh) (r : zK d), @zSimU G' d 1 X fr P pc r → @zSim G' d X fr P pc (body r)) : zSim X fr P pc (xlpA kc n wk body) := by
  intro Ch cA D ad0 A MC MS p l e s m args below meth c ls st H locs cells slots L S h Cx hk R
  match S, hk, R with
  | [], hk, R =>
    obtain ⟨L0, h0, hk⟩ := hwk _ _ _ hk
    obtain ⟨c1, hk⟩ := zcnd_t hk
    obtain ⟨c2, hk⟩ := zcnd_t hk
    obtain ⟨c3, hk⟩ := zcnd_t hk
    obtain ⟨b, c3⟩ := zat0_t c3
    have claim : ∀ (N : Nat) (G' : zGh), 201 ≤ @zg G' 0 + N → @zSim G' d X fr P pc (xchk L0 [] h0) := by
      intro N
      induction N with
      | zero =>
        intro G' hN Ch cA D ad0 A MC MS p l e s m args below meth c ls st H locs cells slots L S h Cx hk R
        obtain ⟨-, hk⟩ := zcnd_t hk
        obtain ⟨-, hk⟩ := zcnd_t hk
        obtain ⟨ws, hHp, -⟩ := R
        have q := zatw_t hkc hz hn c3 (zsubH_ok hk hHp)
        have q2 : cA 20 = @zg G' 0 := Cx.2.2.2.2.2.2.2.2.1.2
        rw [q2] at q
        omega
      | succ N ih =>
        intro G' hN
        exact @sm_chk d X fr P pc _ G' L0 [] h0 (hb G' (xchk L0 [] h0) (fun G2 hlt _ => ih G2 (by omega))) hk
    refine claim 201 G (by omega) Ch cA D ad0 A MC MS p l e s m args below meth c ls st H locs cells slots L [] h Cx ?_ R
    show cond (zsubL true L L0) (cond (zsubL false [] []) (zsubH h h0) false) false = true
    rw [c1, c2]
    rfl
end OPS
