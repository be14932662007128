/-! a product's test: a[i] != 0 && abs(b[i]) > LIMIT / abs(a[i]) -/
theorem zabs_ne {x : Int64} (h : ¬ x = 0) : ¬ (if 0 < x then x else -x) = 0 := by
  by_cases q : 0 < x
  · rw [if_pos q]
    exact h
  · rw [if_neg q]
    intro e
    have e2 : -(-x) = -(0 : Int64) := by rw [e]
    exact h (by simpa using e2)
section OPS
variable {d : Nat} {X : zM} {fr : Nat} {P : zP d} {pc tgt : Nat} {off off2 : Int} {k kt kf : zK d}
noncomputable def xmck (n1 n2 n3 : Nat) (kt kf : zK d) : zK d := fun L S h => List.rec (motive := fun _ => Bool) (znth n1 L (fun v => zpR [v] (fun r1 _ => zat h r1 (fun _ _ _ kd1 len1 _ => cond (Nat.beq kd1 2) (znth n2 L (fun v => zpR [v] (fun r2 _ => zat h r2 (fun _ _ _ kd2 len2 _ => cond (Nat.beq kd2 2) (znth n3 L (fun v => zpI [v] (fun i _ => cond (Nat.ble len1 i) false (cond (Nat.ble len2 i) false (cond (kt L [] h) (kf L [] h) false))))) false)))) false)))) (fun _ _ _ => false) S
theorem sm_mck [G : zGh] {n1 n2 n3 ix ixl : Nat} {f1 f2 f3 f4 f5 f6 : Fin 4} {z0 : Fin 2} {w : Int64}
    (d1 : decode X.2.1 pc = .ok (.aload_n f1, 1)) (e1 : (f1 : Nat) = n1) (d2 : decode X.2.1 (pc + 1) = .ok (.iload_n f2, 1)) (e2 : (f2 : Nat) = n3) (d3 : decode X.2.1 (pc + 1 + 1) = .ok (.laload, 1)) (d4 : decode X.2.1 (pc + 1 + 1 + 1) = .ok (.lconst z0, 1)) (ez : (z0 : Nat) = 0) (d5 : decode X.2.1 (pc + 1 + 1 + 1 + 1) = .ok (.lcmp, 1)) (d6 : decode X.2.1 (pc + 1 + 1 + 1 + 1 + 1) = .ok (.ifCond .eq off, 3)) (ht : ((pc + 1 + 1 + 1 + 1 + 1 : Nat) : Int) + off = (tgt : Int))
    (d7 : decode X.2.1 (pc + 1 + 1 + 1 + 1 + 1 + 3) = .ok (.aload_n f3, 1)) (e3 : (f3 : Nat) = n2) (d8 : decode X.2.1 (pc + 1 + 1 + 1 + 1 + 1 + 3 + 1) = .ok (.iload_n f4, 1)) (e4 : (f4 : Nat) = n3) (d9 : decode X.2.1 (pc + 1 + 1 + 1 + 1 + 1 + 3 + 1 + 1) = .ok (.laload, 1)) (d10 : decode X.2.1 (pc + 1 + 1 + 1 + 1 + 1 + 3 + 1 + 1 + 1) = .ok (.invokestatic ix, 3)) (d11 : decode X.2.1 (pc + 1 + 1 + 1 + 1 + 1 + 3 + 1 + 1 + 1 + 3) = .ok (.ldc2_w ixl, 3)) (hc : Jvm.Cond.constantLong X.1 ixl w ∈ ztbl)
    (d12 : decode X.2.1 (pc + 1 + 1 + 1 + 1 + 1 + 3 + 1 + 1 + 1 + 3 + 3) = .ok (.aload_n f5, 1)) (e5 : (f5 : Nat) = n1) (d13 : decode X.2.1 (pc + 1 + 1 + 1 + 1 + 1 + 3 + 1 + 1 + 1 + 3 + 3 + 1) = .ok (.iload_n f6, 1)) (e6 : (f6 : Nat) = n3) (d14 : decode X.2.1 (pc + 1 + 1 + 1 + 1 + 1 + 3 + 1 + 1 + 1 + 3 + 3 + 1 + 1) = .ok (.laload, 1)) (d15 : decode X.2.1 (pc + 1 + 1 + 1 + 1 + 1 + 3 + 1 + 1 + 1 + 3 + 3 + 1 + 1 + 1) = .ok (.invokestatic ix, 3)) (d16 : decode X.2.1 (pc + 1 + 1 + 1 + 1 + 1 + 3 + 1 + 1 + 1 + 3 + 3 + 1 + 1 + 1 + 3) = .ok (.ldiv, 1)) (d17 : decode X.2.1 (pc + 1 + 1 + 1 + 1 + 1 + 3 + 1 + 1 + 1 + 3 + 3 + 1 + 1 + 1 + 3 + 1) = .ok (.lcmp, 1)) (d18 : decode X.2.1 (pc + 1 + 1 + 1 + 1 + 1 + 3 + 1 + 1 + 1 + 3 + 3 + 1 + 1 + 1 + 3 + 1 + 1) = .ok (.ifCond .le off2, 3)) (ht2 : ((pc + 1 + 1 + 1 + 1 + 1 + 3 + 1 + 1 + 1 + 3 + 3 + 1 + 1 + 1 + 3 + 1 + 1 : Nat) : Int) + off2 = (tgt : Int))
    (hlink : Cond.methodLink X.1 ix Lib.MathLoose.abs_long.x ∈ ztbl) (hstat : Cond.static Lib.MathLoose.abs_long.x ∈ ztbl) (hini : Cond.initialized "java/lang/Math" ∈ ztbl) (hcode : Cond.code Lib.MathLoose.abs_long.x Lib.MathLoose.abs_long.code 2 (some .long) ∈ ztbl) (hfr : 1 ≤ fr)
    (h1 : zSim X fr P tgt kt) (h2 : zSim X fr P (pc + 1 + 1 + 1 + 1 + 1 + 3 + 1 + 1 + 1 + 3 + 3 + 1 + 1 + 1 + 3 + 1 + 1 + 3) kf) : zSim X fr P pc (xmck n1 n2 n3 kt kf) := by
  intro Ch cA D ad0 A MC MS p l e s m args below meth c ls st H locs cells slots L S h Cx hk R0
  obtain ⟨ws, hHp, hpre, hP, hD, hS, hL, hst, hcb, hsb⟩ := R0
  match S, hk, st, hst with
  | [], hk, [], _ =>
    obtain ⟨v1, hv1, k1⟩ := znth_t n1 hk
    obtain ⟨r1, t1, q1, k2⟩ := zpR_t k1
    cases q1
    obtain ⟨j1, kd1, len1, x1, rfl, hg1, k3⟩ := zat_t k2
    obtain ⟨b1, k4⟩ := zcnd_t k3
    obtain ⟨v2, hv2, k5⟩ := znth_t n2 k4
    obtain ⟨r2, t2, q2, k6⟩ := zpR_t k5
    cases q2
    obtain ⟨j2, kd2, len2, x2, rfl, hg2, k7⟩ := zat_t k6
    obtain ⟨b2, k8⟩ := zcnd_t k7
    obtain ⟨v3, hv3, k9⟩ := znth_t n3 k8
    obtain ⟨iv, t3, q3, k10⟩ := zpI_t k9
    cases q3
    clear k1 k2 k3 k4 k5 k6 k7 k8 k9
    cases bl1 : Nat.ble len1 iv
    case true => rw [bl1] at k10; cases k10
    rw [bl1, cond_false] at k10
    cases bl2 : Nat.ble len2 iv
    case true => rw [bl2] at k10; cases k10
    rw [bl2, cond_false] at k10
    obtain ⟨hkt, hkf⟩ := zcnd_t k10
    clear k10 hk
    have eb1 := Nat.eq_of_beq_eq_true b1
    have eb2 := Nat.eq_of_beq_eq_true b2
    subst eb1
    subst eb2
    obtain ⟨y1, hy1, o1, rfl, ho1⟩ := zLoc_at hL hv1 (by intro q; cases q)
    obtain ⟨y2, hy2, o2, rfl, ho2⟩ := zLoc_at hL hv2 (by intro q; cases q)
    obtain ⟨y3, hy3, i, rfl, hi⟩ := zLoc_at hL hv3 (by intro q; cases q)
    obtain ⟨a1, en1, rfl, hw1, hc1⟩ := zat_w hHp ho1
    obtain ⟨a2, en2, rfl, hw2, hc2⟩ := zat_w hHp ho2
    rw [hg1] at hc1
    rw [hg2] at hc2
    obtain ⟨hl1, g1, rfl, -⟩ := zCell_j hc1
    obtain ⟨hl2, g2, rfl, -⟩ := zCell_j hc2
    obtain ⟨i1, i2, i3⟩ := zi_idx hi.1 hl1 bl1
    obtain ⟨k1, k2, k3⟩ := zi_idx hi.1 hl2 bl2
    have yes : W p l e (zRm fr MC MS) s m args below meth c H locs cells slots (MQ below (zQc P cA D ad0 A) args s MC MS A) (F0 m tgt ls []) := h1 Ch cA D ad0 A MC MS p l e s m args below meth c ls _ H locs cells slots L _ h Cx hkt ⟨ws, hHp, hpre, hP, hD, hS, hL, trivial, hcb, hsb⟩
    have hml : c.maxLocals = ls.size := by rw [Cx.2.2.1]; exact hL.2.choose_spec.1.1.symm
    have e0 : Int64.ofNat ((z0 : Nat)) = 0 := by rw [ez]; rfl
    refine lv_aload_n Cx.1 Cx.2.1 d1 e1 hy1 ?_
    refine lv_iload_n Cx.1 Cx.2.1 d2 e2 hy3 ?_
    refine va_lald Cx.1 Cx.2.1 Cx.2.2.2.2.2.1 hP j1 2 hw1 rfl i1 d3 ?_
    refine lv_lconst Cx.1 Cx.2.1 d4 rfl ?_
    refine W.lcmp Cx.1 Cx.2.1 d5 ?_
    refine lv_if_eq Cx.1 Cx.2.1 d6 ht (fun _ => yes) (fun hq => ?_)
    have hz : ¬ g1 i.toNatClampNeg = 0 := fun q => hq (by
      rw [e0, q]
      rfl)
    refine lv_aload_n Cx.1 Cx.2.1 d7 e3 hy2 ?_
    refine lv_iload_n Cx.1 Cx.2.1 d8 e4 hy3 ?_
    refine va_lald Cx.1 Cx.2.1 Cx.2.2.2.2.2.1 hP j2 2 hw2 rfl k1 d9 ?_
    refine va_mabs_long Cx.1 Cx.2.1 hml Cx.2.2.2.1 (Cx.2.2.2.2.1 _ hlink) (Cx.2.2.2.2.1 _ hstat) (Cx.2.2.2.2.1 _ hini) (Cx.2.2.2.2.1 _ hcode) hfr (by show 0 + 13 ≤ 64 * fr; omega) (by show cells ≤ MC; omega) (by show slots ≤ MS; omega) d10 ?_
    refine lv_ldc2 Cx.1 Cx.2.1 Cx.2.2.2.1 (Cx.2.2.2.2.1 _ hc) d11 ?_
    refine lv_aload_n Cx.1 Cx.2.1 d12 e5 hy1 ?_
    refine lv_iload_n Cx.1 Cx.2.1 d13 e6 hy3 ?_
    refine va_lald Cx.1 Cx.2.1 Cx.2.2.2.2.2.1 hP j1 2 hw1 rfl i1 d14 ?_
    refine va_mabs_long Cx.1 Cx.2.1 hml Cx.2.2.2.1 (Cx.2.2.2.2.1 _ hlink) (Cx.2.2.2.2.1 _ hstat) (Cx.2.2.2.2.1 _ hini) (Cx.2.2.2.2.1 _ hcode) hfr (by show 2 + (2 + 0) + 13 ≤ 64 * fr; omega) (by show cells ≤ MC; omega) (by show slots ≤ MS; omega) d15 ?_
    refine lv_ldiv Cx.1 Cx.2.1 d16 (zabs_ne hz) ?_
    refine W.lcmp Cx.1 Cx.2.1 d17 ?_
    refine lv_if_le Cx.1 Cx.2.1 d18 ht2 (fun _ => yes) (fun _ => ?_)
    exact h2 Ch cA D ad0 A MC MS p l e s m args below meth c ls _ H locs cells slots L _ h Cx hkf ⟨ws, hHp, hpre, hP, hD, hS, hL, trivial, hcb, hsb⟩
/-- a local below m cut into cases -/
noncomputable def xcutE (i m : Nat) (k : zK d) : zK d := fun L S h => znth i L (fun v => Sum.rec (motive := fun _ => Bool) (fun n => cond (Nat.ble (zhi n) m) (zF (fun c => zcutL i L (fun L => k L S h) c) (zhi n)) false) (fun _ => false) v)
theorem sm_cutE [G : zGh] {i m0 : Nat} (hs : zSim X fr P pc k) : zSim X fr P pc (xcutE i m0 k) := by
  intro Ch cA D ad0 A MC MS p l e s m args below meth c ls st H locs cells slots L S h Cx hk R0
  obtain ⟨ws, hHp, hpre, hP, hD, hS, hL, hst, hcb, hsb⟩ := R0
  obtain ⟨v, hv, hk2⟩ := znth_t i hk
  match v, hv, hk2 with
  | .inl n, hv, hk2 =>
    obtain ⟨b1, b3⟩ := zcnd_t hk2
    rw [zF_eq] at b3
    obtain ⟨iu, hls, hiu⟩ : ∃ iu : Int32, ls[i]? = some (.val (.int iu)) ∧ zIs n iu := by
      obtain ⟨-, lv, hlv, a3⟩ := id hL
      rcases a3 i _ hv with z | ⟨x, hx, iu, rfl, hiu⟩
      · cases z
      · exact ⟨iu, hlv.2.2 _ hx, hiu⟩
    have q : zi iu < zhi n := zhi_ok hiu
    obtain ⟨L', l1, l2, l3, l4⟩ := zst_t i (zcutL_t b3 (zi iu) q)
    exact hs Ch cA D ad0 A MC MS p l e s m args below meth c ls st H locs cells slots L' S h Cx l4 ⟨ws, hHp, hpre, hP, hD, hS, zLoc_st hL hv l3 l1 (fun iv hl _ => by rw [hls] at hl; cases hl; exact zIs_e rfl), hst, hcb, hsb⟩
end OPS
section OPS
variable {d : Nat} {X : zM} {fr : Nat} {P : zP d} {pc : Nat} {k : zK d}
/-- a switch whose number isn't known: all ways -/
noncomputable def zlsA (L S : List zV) (h : zH d) (ks : List (Nat × zK d)) : Bool := List.rec (motive := fun _ => Bool) true (fun q _ r => cond (q.2 L S h) r false) ks
theorem zlsA_t {a : Nat} {b : Bool} {L S : List zV} {h : zH d} (hb : b = true) : ∀ {ks : List (Nat × zK d)}, zlsA L S h ks = true → zls a b L S h ks = true
  | [], _ => hb
  | (n, k) :: ks, hk => by
    have hk : cond (k L S h) (zlsA L S h ks) false = true := hk
    obtain ⟨h1, h2⟩ := zcnd_t hk
    show cond (Nat.beq a n) (k L S h) (zls a b L S h ks) = true
    cases Nat.beq a n
    · exact zlsA_t hb h2
    · exact h1
noncomputable def xlswU (ks : List (Nat × zK d)) (kd : zK d) : zK d := fun L S h => zpI S (fun a S => cond (kd L S h) (zlsA L S h ks) false)
theorem sm_lswU [G : zGh] {len tdf : Nat} {dflt : Int} {ps : Array (Int × Int)} {ks : List (Nat × zK d)} {kd : zK d} (ts : List (Nat × Nat)) (dg : decode X.2.1 pc = .ok (.lookupswitch dflt ps, len)) (hinc : (ps.toList.zip (ps.toList.drop 1)).all (fun (a, next) => a.1 < next.1) = true) (hlk : zlk pc ps.toList ts = true) (hkey : ks.map (fun q => q.1) = ts.map (fun q => q.1)) (hdf : (pc : Int) + dflt = (tdf : Int)) (hkd : zSim X fr P tdf kd) (hks : ∀ (i n t : Nat) (k : zK d), ts[i]? = some (n, t) → ks[i]? = some (n, k) → zSim X fr P t k) : zSim X fr P pc (xlswU ks kd) := by
  intro Ch cA D ad0 A MC MS p l e s m args below meth c ls st H locs cells slots L S h Cx hk R0
  obtain ⟨ws, hHp, hpre, hP, hD, hS, hL, hst, hcb, hsb⟩ := R0
  obtain ⟨a, S, rfl, hk1⟩ := zpI_t hk
  obtain ⟨x, st, rfl, hx, hst1⟩ := zRepL_I hst
  obtain ⟨h1, h2⟩ := zcnd_t hk1
  obtain ⟨tgt, k, g1, g2, g3⟩ := zls_t (a := zi x) rfl hdf hkd ps.toList ts ks hlk hkey hks (zlsA_t h1 h2)
  exact lv_lookup Cx.1 Cx.2.1 dg hinc rfl g1 (g2 Ch cA D ad0 A MC MS p l e s m args below meth c ls _ H locs cells slots L _ h Cx g3 ⟨ws, hHp, hpre, hP, hD, hS, hL, hst1, hcb, hsb⟩)
/-- a local of any number cut into cases -/
noncomputable def xcutLR (i m : Nat) (k : zK d) : zK d := fun L S h => znth i L (fun v => Sum.rec (motive := fun _ => Bool) (fun _ => cond (Nat.ble m 1000) (cond (zcutL i L (fun L => k L S h) m) (cond (zF (fun c => zst i (zI c) L (fun L => k L S h)) (Nat.add 6442450944 (Nat.mul 1099511627776 m))) (zst i (zI 2361183241439117574144) L (fun L => k L S h)) false) false) false) (fun _ => false) v)
theorem sm_cutLR [G : zGh] {i m0 : Nat} (hs : zSim X fr P pc k) : zSim X fr P pc (xcutLR i m0 k) := by
  intro Ch cA D ad0 A MC MS p l e s m args below meth c ls st H locs cells slots L S h Cx hk R0
  obtain ⟨ws, hHp, hpre, hP, hD, hS, hL, hst, hcb, hsb⟩ := R0
  obtain ⟨v, hv, hk2⟩ := znth_t i hk
  match v, hv, hk2 with
  | .inl n, hv, hk2 =>
    obtain ⟨b0, hk2⟩ := zcnd_t hk2
    obtain ⟨b1, hk2⟩ := zcnd_t hk2
    obtain ⟨b2, b3⟩ := zcnd_t hk2
    rw [zF_eq] at b2
    have b0 := Nat.le_of_ble_eq_true b0
    obtain ⟨iu, hls, hiu⟩ : ∃ iu : Int32, ls[i]? = some (.val (.int iu)) ∧ zIs n iu := by
      obtain ⟨-, lv, hlv, a3⟩ := id hL
      rcases a3 i _ hv with z | ⟨x, hx, iu, rfl, hiu⟩
      · cases z
      · exact ⟨iu, hlv.2.2 _ hx, hiu⟩
    have hlt2 := zi_lt iu
    rcases Nat.lt_or_ge (zi iu) m0 with q | q
    · obtain ⟨L', l1, l2, l3, l4⟩ := zst_t i (zcutL_t b1 (zi iu) q)
      exact hs Ch cA D ad0 A MC MS p l e s m args below meth c ls st H locs cells slots L' S h Cx l4 ⟨ws, hHp, hpre, hP, hD, hS, zLoc_st hL hv l3 l1 (fun iv hl _ => by rw [hls] at hl; cases hl; exact zIs_e rfl), hst, hcb, hsb⟩
    · rcases Nat.lt_or_ge (zi iu) 2147483648 with q2 | q2
      · obtain ⟨L', l1, l2, l3, l4⟩ := zst_t i b2
        exact hs Ch cA D ad0 A MC MS p l e s m args below meth c ls st H locs cells slots L' S h Cx l4 ⟨ws, hHp, hpre, hP, hD, hS, zLoc_st hL hv l3 l1 (fun iv hl _ => by
          rw [hls] at hl
          cases hl
          show zIs (6442450944 + 1099511627776 * m0) iu
          exact ⟨fun z => absurd z (by omega), fun _ _ => by omega, by omega, fun z => absurd z (by omega)⟩), hst, hcb, hsb⟩
      · obtain ⟨L', l1, l2, l3, l4⟩ := zst_t i b3
        exact hs Ch cA D ad0 A MC MS p l e s m args below meth c ls st H locs cells slots L' S h Cx l4 ⟨ws, hHp, hpre, hP, hD, hS, zLoc_st hL hv l3 l1 (fun iv hl _ => by
          rw [hls] at hl
          cases hl
          exact ⟨fun z => absurd z (by decide), fun z => absurd z (by decide), by omega, fun z => absurd z (by decide)⟩), hst, hcb, hsb⟩
end OPS
section OPS
variable {d : Nat} {X : zM} {fr : Nat} {P : zP d} {pc : Nat} {k : zK d}
noncomputable def xlswV (ks : List (Nat × zK d)) (kd : zK d) : zK d := fun L S h => zpI S (fun a _ => cond (Nat.ble 4294967296 a) (xlswU ks kd L S h) (xlsw ks kd L S h))
theorem sm_lswV [G : zGh] {len tdf : Nat} {dflt : Int} {ps : Array (Int × Int)} {ks : List (Nat × zK d)} {kd : zK d} (ts : List (Nat × Nat)) (dg : decode X.2.1 pc = .ok (.lookupswitch dflt ps, len)) (hinc : (ps.toList.zip (ps.toList.drop 1)).all (fun (a, next) => a.1 < next.1) = true) (hlk : zlk pc ps.toList ts = true) (hkey : ks.map (fun q => q.1) = ts.map (fun q => q.1)) (hdf : (pc : Int) + dflt = (tdf : Int)) (hkd : zSim X fr P tdf kd) (hks : ∀ (i n t : Nat) (k : zK d), ts[i]? = some (n, t) → ks[i]? = some (n, k) → zSim X fr P t k) : zSim X fr P pc (xlswV ks kd) := by
  intro Ch cA D ad0 A MC MS p l e s m args below meth c ls st H locs cells slots L S h Cx hk R0
  obtain ⟨a, S', rfl, hk1⟩ := zpI_t hk
  cases hb : Nat.ble 4294967296 a
  · rw [hb, cond_false] at hk1
    exact sm_lsw ts dg hinc hlk hkey hdf hkd hks Ch cA D ad0 A MC MS p l e s m args below meth c ls st H locs cells slots L _ h Cx hk1 R0
  · rw [hb, cond_true] at hk1
    exact sm_lswU ts dg hinc hlk hkey hdf hkd hks Ch cA D ad0 A MC MS p l e s m args below meth c ls st H locs cells slots L _ h Cx hk1 R0
end OPS
