/-! a loop that counts its turns; contracts: from a bound to T and back, several ends -/
section OPS
variable {d : Nat} {X : zM} {fr : Nat} {P : zP d} {pc pc' tgt : Nat} {off : Int} {k kt kf : zK d}
noncomputable def xlpS (i j kc n : Nat) (wk : zWk d) (body : zK d → zK d) : zK d := fun L S h => List.rec (motive := fun _ => Bool) (znth i L (fun v => Sum.rec (motive := fun _ => Bool) (fun n0 => cond (Nat.beq n0 0) (wk L h (fun L1 h0 => zex i L1 (fun R0 => zex i L (fun R => cond (zsubL true R R0) (cond (zsfL j R0) (cond (zsubH h h0) (zF (fun c => zin i (zI c) R0 (fun L0 => cond (zat0 L0 (fun b => zatw kc n b h0)) (body (zbk i j 8589934592 R0 h0) L0 [] h0) false)) (zsy j 0 201)) false) false) false)))) false) (fun _ => false) v)) (fun _ _ _ => false) S
theorem lpS_claim {ci kc n i j b : Nat} {R0 L0 : List zV} {h0 : zH d} {body : zK d → zK d} (hj0 : 0 < j) (hj : j < 65536) (hkc : 16 + ci = kc) (hz : zisR (zfty ci n) = false) (hn : n < zN ci) (c3 : zatw kc n b h0 = true) (q1 : L0.length = R0.length + 1) (q2 : L0[i]? = some (zI (zsy j 0 201))) (q3 : ∀ m : Nat, m < i → L0[m]? = R0[m]?) (q4 : ∀ m : Nat, i ≤ m → L0[m + 1]? = R0[m]?) (hf : zsfL j R0 = true)
    (hb : ∀ (G' : zGh) (r : zK d), @zSimU G' d (j + 1) X fr P pc r → @zSim G' d X fr P pc (body r)) (hk0 : body (zbk i j 8589934592 R0 h0) L0 [] h0 = true) : ∀ (N : Nat) (G' : zGh), 201 ≤ @zg G' 0 + N → @zg G' j ≤ @zg G' 0 →
    ∀ (Ch : zCh) (cA : Nat → ClassId) (D : va_G) (ad0 : zA) (A : Nat → Prop) (MC MS : Nat) (p : Program) (l : Launch) (e : Env) (s : State) (m : MethodId) (args : Array Value) (below : List Frame) (meth : Method) (c : Code) (ls : Array Slot) (st : List Value) (H : Heap) (locs : List Loc) (cells slots : Nat),
    @zCx G' X cA D p s m args meth c A → @zRel G' Ch d cA D ad0 A MC MS s X.2.2.1 L0 [] h0 ls st H locs cells slots → W p l e (zRm fr MC MS) s m args below meth c H locs cells slots (MQ below (zQc P cA D ad0 A) args s MC MS A) (F0 m pc ls st) := by
  intro N
  induction N with
  | zero =>
    intro G' hN _ Ch cA D ad0 A MC MS p l e s m args below meth c ls st H locs cells slots Cx R
    obtain ⟨ws, hHp, -⟩ := R
    have q := zatw_t hkc hz hn c3 hHp
    have q2 : cA 20 = @zg G' 0 := Cx.2.2.2.2.2.2.2.2.1.2
    rw [q2] at q
    omega
  | succ N ih =>
    intro G' hN hle Ch cA D ad0 A MC MS p l e s m args below meth c ls st H locs cells slots Cx R
    refine hb G' (zbk i j 8589934592 R0 h0) ?_ Ch cA D ad0 A MC MS p l e s m args below meth c ls st H locs cells slots L0 [] h0 Cx hk0 R
    intro G2 hlt hm Ch2 cA2 D2 ad2 A2 MC2 MS2 p2 l2 e2 s2 m2 args2 below2 meth2 c2 ls2 st2 H2 locs2 cells2 slots2 L S h Cx2 hk R2
    obtain ⟨rfl, nn, R1, g1, g2, -, g4, g5, g6, g7, g8⟩ := zbk_t hk
    obtain ⟨ws, hHp, hpre, hP, hD, hS, hL, hst, hcb, hsb⟩ := R2
    have hH0 := zsubH_ok g8 hHp
    have q200 := zatw_t hkc hz hn c3 hH0
    have qT : cA2 20 = @zg G2 0 := Cx2.2.2.2.2.2.2.2.2.1.2
    rw [qT] at q200
    have ej : @zg G2 j = @zg G' j := hm j hj0 (Nat.lt_succ_self j)
    have hval : ∀ iv : Int32, @zIs G2 nn iv → zi iv = @zg G2 j + 1 := by
      intro iv hzz
      have hnn : 4722366482869645213696 ≤ nn := by omega
      have e1 := hzz.2.2.2 hnn
      have e2 : (j + 65536) % 65536 = j := by omega
      have e3 : (j + 65536) / 65536 = 1 := by omega
      rw [g2, e2, e3] at e1
      exact e1
    have hG3 : ∀ m, m < j → @zg (zgu G2 j (@zg G2 j + 1)) m = @zg G2 m := fun m hm => zgu_ne G2 _ (by omega)
    have z0 : @zg (zgu G2 j (@zg G2 j + 1)) 0 = @zg G2 0 := hG3 0 hj0
    have zj : @zg (zgu G2 j (@zg G2 j + 1)) j = @zg G2 j + 1 := zgu_same G2 j _
    obtain ⟨-, z2, z3, -⟩ := zsubH_t g8
    match st2, hst with
    | [], _ =>
      exact ih (zgu G2 j (@zg G2 j + 1)) (by rw [z0]; omega) (by rw [z0, zj]; omega) Ch2 cA2 D2 ad2 A2 MC2 MS2 p2 l2 e2 s2 m2 args2 below2 meth2 c2 ls2 [] H2 locs2 cells2 slots2 (zCx_G z0 Cx2)
        ⟨ws, hH0, hpre, hP, hD, hS, zLoc_new hL g4 g5 g6 q1 q2 q3 q4 g7 hf hG3 g1 (fun iv _ hzz => by
          have y1 := hval iv hzz
          exact @zsy_ok (zgu G2 j (@zg G2 j + 1)) j 0 201 iv (Nat.zero_le _) (by omega) (by decide) (by rw [Nat.mod_eq_of_lt hj, Nat.div_eq_of_lt hj, zj]; exact y1)), trivial, by omega, by omega⟩
theorem sm_lpS [G : zGh] {ci kc n i j : Nat} {wk : zWk d} {body : zK d → zK d} (hj0 : 0 < j) (hj : j < 65536) (hkc : 16 + ci = kc) (hz : zisR (zfty ci n) = false) (hn : n < zN ci) (hwk : zWkOK wk) (hb : ∀ (G' : zGh) (r : zK d), @zSimU G' d (j + 1) X fr P pc r → @zSim G' d X fr P pc (body r)) : zSim X fr P pc (xlpS i j kc n wk body) := by
  intro Ch cA D ad0 A MC MS p l e s m args below meth c ls st H locs cells slots L S h Cx hk R
  obtain ⟨ws, hHp, hpre, hP, hD, hS, hL, hst, hcb, hsb⟩ := R
  match S, hk, hst with
  | [], hk, hst =>
    obtain ⟨v, hv, hk2⟩ := znth_t i hk
    match v, hv, hk2 with
    | .inl n0, hv, hk2 =>
      obtain ⟨e0, hk3⟩ := zcnd_t hk2
      obtain ⟨L1, h0, hk4⟩ := hwk _ _ _ hk3
      obtain ⟨R0, hk5, -⟩ := zex_t i hk4
      obtain ⟨R, hk6, r1, r2, r3⟩ := zex_t i hk5
      obtain ⟨h3, hk6⟩ := zcnd_t hk6
      obtain ⟨h4, hk6⟩ := zcnd_t hk6
      obtain ⟨h5, hk6⟩ := zcnd_t hk6
      rw [zF_eq] at hk6
      obtain ⟨L0, hk7, q1, q2, q3, q4⟩ := zin_t i hk6
      obtain ⟨c3, hk7⟩ := zcnd_t hk7
      obtain ⟨b, c3⟩ := zat0_t c3
      obtain ⟨-, z2, z3, -⟩ := zsubH_t h5
      have e0 := Nat.eq_of_beq_eq_true e0
      have hz0 : ∀ iu : Int32, zIs n0 iu → zi iu = 0 := fun iu hiu => by
        have := hiu.1 (by omega)
        omega
      have hg0 : @zg (zgu G j 0) 0 = @zg G 0 := zgu_ne G _ (by omega)
      match st, hst with
      | [], _ =>
        exact lpS_claim hj0 hj hkc hz hn c3 q1 q2 q3 q4 h4 hb hk7 201 (zgu G j 0) (by omega) (by rw [zgu_same]; exact Nat.zero_le _) Ch cA D ad0 A MC MS p l e s m args below meth c ls [] H locs cells slots (zCx_G hg0 Cx)
          ⟨ws, zsubH_ok h5 hHp, hpre, hP, hD, hS, zLoc_new hL r1 r2 r3 q1 q2 q3 q4 h3 h4 (fun m hm => zgu_ne G 0 (by omega)) hv (fun iv _ hzz => by
            have y1 := hz0 iv hzz
            exact @zsy_ok (zgu G j 0) j 0 201 iv (Nat.zero_le _) (by omega) (by decide) (by rw [Nat.mod_eq_of_lt hj, Nat.div_eq_of_lt hj, zgu_same]; exact y1)), trivial, by omega, by omega⟩
end OPS
section MET
variable {d : Nat}
/-- several ends -/
noncomputable def zrkL (outs : List (zV × zH d)) : zP d := fun r h => List.rec (motive := fun _ => Bool) false (fun e _ rr => Prod.rec (motive := fun _ => Bool) (fun r1 h1 => cond (zrk r1 h1 r h) true rr) e) outs
noncomputable def zoall (P : zP d) (outs : List (zV × zH d)) : Bool := List.rec (motive := fun _ => Bool) true (fun e _ rr => Prod.rec (motive := fun _ => Bool) (fun r1 h1 => cond (P r1 h1) rr false) e) outs
theorem zrkL_t {P : zP d} {r : zV} {h : zH d} : ∀ {outs : List (zV × zH d)}, zrkL outs r h = true → zoall P outs = true → ∃ r1 h1, zrk r1 h1 r h = true ∧ P r1 h1 = true
  | [], hk, _ => by cases hk
  | (r1, h1) :: outs, hk, ha => by
    have hk : cond (zrk r1 h1 r h) true (zrkL outs r h) = true := hk
    have ha : cond (P r1 h1) (zoall P outs) false = true := ha
    obtain ⟨a1, a2⟩ := zcnd_t ha
    cases q : zrk r1 h1 r h
    · rw [q, cond_false] at hk
      exact zrkL_t hk a2
    · exact ⟨r1, h1, q, a1⟩
noncomputable def zocs (as0 : List zV) (h0 : zH d) (outs : List (zV × zH d)) : List zV → zH d → zP d → Bool := fun as h P => cond (zsubL false as as0) (cond (Nat.beq h0.2.2.1 h.2.2.1) (cond (Nat.beq h0.2.2.2 h.2.2.2) (cond (zsubH h h0) (zoall P outs) false) false) false) false
theorem zMet_oc {X : zM} {y : MethodName} {fr : Nat} {f : List zV → zH d → zP d → Bool} (hM : zMet X y fr f) {as0 : List zV} {h0 : zH d} {outs : List (zV × zH d)} (hev : f as0 h0 (zrkL outs) = true) : zMet X y fr (zocs as0 h0 outs) := by
  intro G Ch l cA D ws av as h P sz hg has hH hT
  obtain ⟨c1, hg⟩ := zcnd_t hg
  obtain ⟨c2, hg⟩ := zcnd_t hg
  obtain ⟨c3, hg⟩ := zcnd_t hg
  obtain ⟨c4, hg⟩ := zcnd_t hg
  have e2 := Nat.eq_of_beq_eq_true c2
  have e3 := Nat.eq_of_beq_eq_true c3
  have hm := hM l cA D ws av as0 h0 (zrkL outs) sz hev (zsubL_S c1 has) (zsubH_ok c4 hH) hT
  rw [e2, e3] at hm
  refine Met_mono hm (fun _ _ q => q) ?_ (fun _ q => q)
  rintro b st o t - ⟨⟨Ch', r, hh, ws', ov, rfl, hov, hk, hHp', hpre', hP', hD'⟩, hF⟩
  obtain ⟨r1, h1, hk1, hp1⟩ := zrkL_t hk hg
  obtain ⟨hsb, hrr⟩ := zrk_t hk1
  refine ⟨⟨Ch', r1, h1, ws', ov, rfl, ?_, hp1, zsubH_ok hsb hHp', hpre', hP', hD'⟩, hF⟩
  rcases hrr with ⟨g1, g2⟩ | ⟨g1, g2⟩
  · subst g2
    rw [g1]
    exact hov
  · rcases hov with ⟨-, z⟩ | ⟨x, z1, z2⟩
    · rw [z] at g2
      exact absurd g2 (fun q => zsubV_nU q)
    · refine Or.inr ⟨x, z1, fun G' => ?_⟩
      rcases @zsubV_ok G' false _ _ _ _ g2 (z2 G') with ⟨q, -⟩ | q
      · cases q
      · exact q
/-- a bound becomes a word of T, and a bound again -/
noncomputable def zent (kc n j : Nat) (K : zH d → Bool) (h : zH d) : Bool := Prod.rec (motive := fun _ => Bool) (fun t u => Prod.rec (motive := fun _ => Bool) (fun kd v => Prod.rec (motive := fun _ => Bool) (fun len x => cond (Nat.ble (Nat.succ j) u.1) (cond (Nat.beq kd kc) (cond (zisT (zwd 40 x n)) (zF (fun y => zsetK d t j (kd, len, y) (fun t => cond (zngH t u.1) (K (t, u)) false)) (zup 40 x n (zgT (zwd 40 x n)))) false) false) false) v) (zget d t j)) h
theorem zent_t {kc n j : Nat} {K : zH d → Bool} {h : zH d} (hk : zent kc n j K h = true) : ∃ len x, j < h.2.1 ∧ zget d h.1 j = (kc, len, x) ∧ zisT (zwd 40 x n) = true ∧ zngH (zset d h.1 j (kc, len, zup 40 x n (zgT (zwd 40 x n)))) h.2.1 = true ∧ K (zset d h.1 j (kc, len, zup 40 x n (zgT (zwd 40 x n))), h.2) = true := by
  obtain ⟨t, u⟩ := h
  have hk : Prod.rec (motive := fun _ => Bool) (fun kd v => Prod.rec (motive := fun _ => Bool) (fun len x => cond (Nat.ble (Nat.succ j) u.1) (cond (Nat.beq kd kc) (cond (zisT (zwd 40 x n)) (zF (fun y => zsetK d t j (kd, len, y) (fun t => cond (zngH t u.1) (K (t, u)) false)) (zup 40 x n (zgT (zwd 40 x n)))) false) false) false) v) (zget d t j) = true := hk
  generalize hg : zget d t j = cc at hk
  obtain ⟨kd, len, x⟩ := cc
  have hk : cond (Nat.ble (Nat.succ j) u.1) (cond (Nat.beq kd kc) (cond (zisT (zwd 40 x n)) (zF (fun y => zsetK d t j (kd, len, y) (fun t => cond (zngH t u.1) (K (t, u)) false)) (zup 40 x n (zgT (zwd 40 x n)))) false) false) false = true := hk
  obtain ⟨c1, hk1⟩ := zcnd_t hk
  obtain ⟨c2, hk2⟩ := zcnd_t hk1
  obtain ⟨c3, hk3⟩ := zcnd_t hk2
  rw [zF_eq, zsetK_eq] at hk3
  obtain ⟨c4, hk4⟩ := zcnd_t hk3
  have e2 := Nat.eq_of_beq_eq_true c2
  subst e2
  exact ⟨len, x, Nat.le_of_ble_eq_true c1, rfl, c3, c4, hk4⟩
noncomputable def zenT (kc n : Nat) (f : List zV → zH d → zP d → Bool) : List zV → zH d → zP d → Bool := fun as h P => zpR as (fun r _ => zat h r (fun t u j kd len x => cond (Nat.beq kd kc) (cond (zsfL 0 as) (cond (zngH t u.1) (cond (Nat.ble (zhi (zwd 40 x n)) 201) (zF (fun y => zsetK d t j (kd, len, y) (fun t => f as (t, u) (fun r h => zent kc n j (P r) h))) (zup 40 x n 274877906944)) false) false) false) false))
theorem zMet_en {X : zM} {y : MethodName} {fr ci kc n : Nat} {f : List zV → zH d → zP d → Bool} (hkc : 16 + ci = kc) (hz : zisR (zfty ci n) = false) (hn : n < zN ci) (hM : zMet X y fr f) : zMet X y fr (zenT kc n f) := by
  subst hkc
  intro G Ch l cA D ws av as h P sz hg has hH hT
  obtain ⟨r, as', rfl, hg⟩ := zpR_t hg
  obtain ⟨o, av', rfl, ho, has'⟩ := zRepL_R has
  obtain ⟨j, kd, len, x, rfl, hgt, hg⟩ := zat_t hg
  obtain ⟨a, en, rfl, hwi, hcell⟩ := zat_w hH ho
  rw [hgt] at hcell
  obtain ⟨c1, hg⟩ := zcnd_t hg
  obtain ⟨c2, hg⟩ := zcnd_t hg
  obtain ⟨c3, hg⟩ := zcnd_t hg
  obtain ⟨c4, hg⟩ := zcnd_t hg
  rw [zF_eq, zsetK_eq] at hg
  have ekd := Nat.eq_of_beq_eq_true c1
  have c4 := Nat.le_of_ble_eq_true c4
  have hne := zcT2_ne cA 0
  have hH2 : zHp (zcT2 cA 0) h ws := zHp_ng hne c3 hH
  have hcell2 := hH2.2.2 j _ hwi
  rw [hgt] at hcell2
  obtain ⟨fs, rfl, hlen, hfl⟩ := zCell_obj hcell2 ekd
  have hH3 : zHp (zcT2 cA 0) (zset d h.1 j (kd, len, zup 40 x n 274877906944), h.2) ws := by
    refine zHp_cl hH2 hwi ?_
    rw [ekd]
    refine zCell_ok hlen (fun q v hvq => ?_)
    by_cases hq : n = q
    · subst hq
      rw [zwd_up_same _ _ _ _ (by decide)]
      have hf := hfl n _ hvq
      unfold zFl at hf ⊢
      rw [hz, cond_false] at hf ⊢
      obtain ⟨i, g1, g2, -, -⟩ := hf
      have hlt : zi i < 201 := Nat.lt_of_lt_of_le (@zhi_ok G _ _ (@zIs_a G _ _ g2.1 (zwd_lt _ _ _))) c4
      refine ⟨i, g1, ⟨⟨fun z => absurd z (by decide), fun _ _ => by omega⟩, fun z => absurd z (by decide)⟩, fun z => absurd z (by decide), fun _ _ => ⟨by omega, fun _ => ?_, fun z => absurd z (by decide), fun z => absurd z (by decide)⟩⟩
      show zcT2 cA 0 20 ≤ zi i
      rw [zcT2_20]
      exact Nat.zero_le _
    · rw [zwd_up_ne _ _ _ _ _ (by decide) hq]
      exact hfl q v hvq
  have has2 : @zRepL (zgu G 0 0) (zad (zcT2 cA 0) ws) (zR (j + 1) :: as') (va_rf (some a) :: av') := zRepL_G (G := G) (fun m hm => absurd hm (Nat.not_lt_zero m)) c2 (zRepL_T hne has)
  have hm := @hM (zgu G 0 0) Ch l (zcT2 cA 0) D ws (va_rf (some a) :: av') (zR (j + 1) :: as') (zset d h.1 j (kd, len, zup 40 x n 274877906944), h.2) (fun r h => zent (16 + ci) n j (P r) h) sz hg has2 hH3 (by rw [zcT2_20, zgu_same])
  refine Met_mono hm ?_ ?_ (fun _ q => q)
  · rintro a s ⟨e0, e1, hP, hK, hD, hst, hex⟩
    exact ⟨e0, e1, hP, by rw [zty_T hne]; exact hK, hD, hst, hex⟩
  · rintro b st o t - ⟨⟨Ch', r, hh, ws', ov, rfl, hov, hk, hHp', hpre', hP', hD'⟩, hF⟩
    obtain ⟨len2, x2, k1, k2, k3, k4, k5⟩ := zent_t hk
    have hjw : j < ws'.length := by rw [hHp'.1]; exact k1
    obtain ⟨a', e'⟩ : Nat × va_E := ws'[j]
    have hwj : ∃ a' e', ws'[j]? = some (a', e') := ⟨ws'[j].1, ws'[j].2, List.getElem?_eq_getElem hjw⟩
    obtain ⟨a', e', hwj⟩ := hwj
    have hc := hHp'.2.2 j _ hwj
    rw [k2] at hc
    obtain ⟨fs2, rfl, hlen2, hfl2⟩ := @zCell_obj Ch' _ _ _ _ _ ci _ hc rfl
    have hH5 : @zHp Ch' d (zcT2 cA 0) (zset d hh.1 j (16 + ci, len2, zup 40 x2 n (zgT (zwd 40 x2 n))), hh.2) ws' := by
      refine @zHp_cl d Ch' _ _ _ _ _ _ _ hHp' hwj ?_
      refine @zCell_ok Ch' _ _ _ _ _ _ hlen2 (fun q v hvq => ?_)
      have hw40 : zgT (zwd 40 x2 n) < 2 ^ 40 ∧ (zgT (zwd 40 x2 n) = 4294967496 ∨ zgT (zwd 40 x2 n) = 4294967497) := by
        obtain ⟨w1, w2⟩ := zisT_t k3
        have : zwd 40 x2 n = 274877906944 ∨ zwd 40 x2 n = 274877906945 := by omega
        rcases this with e | e
        · rw [e]; exact ⟨by decide, Or.inr rfl⟩
        · rw [e]; exact ⟨by decide, Or.inl rfl⟩
      by_cases hq : n = q
      · subst hq
        rw [zwd_up_same _ _ _ _ hw40.1]
        have hf := hfl2 n _ hvq
        unfold zFl at hf ⊢
        rw [hz, cond_false] at hf ⊢
        obtain ⟨i, g1, g2, -, g4⟩ := hf
        have hzi := @zgT_ok G _ _ i (zwd_lt _ _ _) g2.1 g4
        obtain ⟨hw1, hw2⟩ := hw40
        rcases hw2 with e | e
        · rw [e] at hzi ⊢
          exact ⟨i, g1, ⟨⟨hzi.1, fun _ _ => hzi.2.1 (by decide) (by decide)⟩, fun z => absurd z (by decide)⟩, fun z => absurd z (by decide), fun z => absurd z (by decide)⟩
        · rw [e] at hzi ⊢
          exact ⟨i, g1, ⟨⟨hzi.1, fun _ _ => hzi.2.1 (by decide) (by decide)⟩, fun z => absurd z (by decide)⟩, fun z => absurd z (by decide), fun z => absurd z (by decide)⟩
      · rw [zwd_up_ne _ _ _ _ _ hw40.1 hq]
        exact hfl2 q v hvq
    have hH6 : @zHp Ch' d cA (zset d hh.1 j (16 + ci, len2, zup 40 x2 n (zgT (zwd 40 x2 n))), hh.2) ws' := @zHp_ng Ch' d (zcT2 cA 0) cA (fun w hw => (hne w hw).symm) _ _ k4 hH5
    refine ⟨⟨Ch', r, _, ws', ov, rfl, ?_, k5, hH6, ⟨hpre'.1, rfl⟩, hP', hD'⟩, hF⟩
    rcases hov with z | ⟨x, z1, z2⟩
    · exact Or.inl z
    · exact Or.inr ⟨x, z1, fun G => zRep_T (fun w hw => (hne w hw).symm) (z2 G)⟩
end MET
