/-! bounds of longs; a switch past its ends; regions of numbers -/
def zjr (lo hi : Nat) : Nat := Nat.add (Nat.mul 4722366482869645213696 lo) (Nat.mul 87112285931760246646623899502532662132736 hi)
theorem zjr_ok {lo hi : Nat} {i : Int64} (h1 : lo ≤ zj i) (h2 : zj i < hi) : zJs (zjr lo hi) i := by
  have h3 := zj_lt i
  have e : zjr lo hi = 4722366482869645213696 * lo + 87112285931760246646623899502532662132736 * hi := rfl
  rw [e]
  exact ⟨fun q => absurd q (by omega), fun _ => ⟨by omega, by omega⟩⟩
theorem zj_ext (x : Int32) : zj x.toInt64 = if zi x < 2147483648 then zi x else zi x + 18446744069414584320 := by
  have hlt := zi_lt x
  have h := zi2l_ok (a := zi x) (x := x) (fun _ => rfl)
  by_cases q : zi x < 2147483648
  · rw [if_pos q]
    have e : zi2l (zi x) = zi x := by unfold zi2l; rw [zble_lt q]; rfl
    rw [e] at h
    exact h (by omega)
  · rw [if_neg q]
    have e : zi2l (zi x) = zi x + 18446744069414584320 := by unfold zi2l; rw [Nat.ble_eq_true_of_le (show 2147483648 ≤ zi x by omega), zble_lt hlt]; rfl
    rw [e] at h
    exact h (by omega)
def zi2lR (a : Nat) : Nat := cond (Nat.ble 4294967296 a) (cond (Nat.ble (zhi a) 2147483648) (zjr (zlo a) (zhi a)) (cond (Nat.ble 2147483648 (zlo a)) (zjr (Nat.add (zlo a) 18446744069414584320) (Nat.add (zhi a) 18446744069414584320)) 18446744073709551616)) (zi2l a)
theorem zi2lR_ok [zGh] {a : Nat} {x : Int32} (hx : zIs a x) : zJs (zi2lR a) x.toInt64 := by
  unfold zi2lR
  have hl := zlo_ok hx
  have hh := zhi_ok hx
  have hv := zj_ext x
  cases h1 : Nat.ble 4294967296 a
  · rw [cond_false]
    exact zJs_of (zi2l_ok hx.1) (zi2l_lt _)
  · rw [cond_true]
    cases h2 : Nat.ble (zhi a) 2147483648
    · rw [cond_false]
      cases h3 : Nat.ble 2147483648 (zlo a)
      · rw [cond_false]
        exact zJs_of (fun q => absurd q (Nat.lt_irrefl _)) (by decide)
      · rw [cond_true]
        have q3 := Nat.le_of_ble_eq_true h3
        rw [if_neg (by omega)] at hv
        exact zjr_ok (by rw [hv]; exact Nat.add_le_add_right hl _) (by rw [hv]; exact Nat.add_lt_add_right hh _)
    · rw [cond_true]
      have q2 := Nat.le_of_ble_eq_true h2
      rw [if_pos (by omega)] at hv
      exact zjr_ok (by rw [hv]; exact hl) (by rw [hv]; exact hh)
def zjl (n : Nat) : Nat := cond (Nat.ble 18446744073709551616 n) (cond (Nat.ble 4722366482869645213696 n) (Nat.mod (Nat.div n 4722366482869645213696) 18446744073709551616) 0) n
def zjh (n : Nat) : Nat := cond (Nat.ble 18446744073709551616 n) (cond (Nat.ble 4722366482869645213696 n) (Nat.div n 87112285931760246646623899502532662132736) 18446744073709551616) (Nat.succ n)
theorem zjlh_ok {n : Nat} {i : Int64} (h : zJs n i) : zjl n ≤ zj i ∧ zj i < zjh n := by
  have h3 := zj_lt i
  unfold zjl zjh
  cases h1 : Nat.ble 18446744073709551616 n
  · rw [cond_false, cond_false]
    have e := h.1 (zble_f h1)
    exact ⟨by omega, by show zj i < n + 1; omega⟩
  · rw [cond_true, cond_true]
    cases h2 : Nat.ble 4722366482869645213696 n
    · exact ⟨Nat.zero_le _, h3⟩
    · exact h.2 (Nat.le_of_ble_eq_true h2)
def zjsl (n : Nat) : Nat := cond (Nat.ble (zjh n) 9223372036854775808) (Nat.add (zjl n) 9223372036854775808) (cond (Nat.ble 9223372036854775808 (zjl n)) (Nat.sub (zjl n) 9223372036854775808) 0)
def zjsh (n : Nat) : Nat := cond (Nat.ble (zjh n) 9223372036854775808) (Nat.add (zjh n) 9223372036854775808) (cond (Nat.ble 9223372036854775808 (zjl n)) (Nat.sub (zjh n) 9223372036854775808) 18446744073709551616)
def zjs (i : Int64) : Nat := (zj i + 9223372036854775808) % 18446744073709551616
theorem zjs_in {n : Nat} {i : Int64} (h : zJs n i) : zjsl n ≤ zjs i ∧ zjs i < zjsh n := by
  obtain ⟨h1, h2⟩ := zjlh_ok h
  have h3 := zj_lt i
  unfold zjsl zjsh zjs
  generalize zjl n = lo at h1 ⊢
  generalize zjh n = hi at h2 ⊢
  cases q1 : Nat.ble hi 9223372036854775808
  · rw [cond_false, cond_false]
    cases q2 : Nat.ble 9223372036854775808 lo
    · exact ⟨Nat.zero_le _, Nat.mod_lt _ (by decide)⟩
    · have q2 := Nat.le_of_ble_eq_true q2
      rw [cond_true, cond_true]
      exact ⟨by show lo - 9223372036854775808 ≤ _; omega, by show _ < hi - 9223372036854775808; omega⟩
  · have q1 := Nat.le_of_ble_eq_true q1
    rw [cond_true, cond_true]
    exact ⟨by show lo + 9223372036854775808 ≤ _; omega, by show _ < hi + 9223372036854775808; omega⟩
theorem zjs_le {x y : Int64} : zjs x ≤ zjs y ↔ x ≤ y := by
  rw [Int64.le_iff_toInt_le]
  have h1 := zj_lt x
  have h2 := zj_lt y
  unfold zjs
  rcases zj_cases x with ⟨c1, c2⟩ | ⟨c1, c2⟩ <;> rcases zj_cases y with ⟨d1, d2⟩ | ⟨d1, d2⟩ <;> omega
def zlcmpR (a b : Nat) : Nat := cond (Nat.ble 18446744073709551616 (Nat.lor a b)) (cond (Nat.ble (zjsh a) (zjsl b)) 4294967295 (cond (Nat.ble (zjsh b) (zjsl a)) 1 4294967296)) (zlcmp a b)
theorem zlcmpR_ok [zGh] {a b : Nat} {x y : Int64} (hx : zJs a x) (hy : zJs b y) : zIs (zlcmpR a b) (lg_cmp x y) := by
  unfold zlcmpR
  cases h1 : Nat.ble 18446744073709551616 (Nat.lor a b)
  · rw [cond_false]
    exact zIs_of (zlcmp_ok hx.1 hy.1) (zlcmp_le _ _)
  · rw [cond_true]
    obtain ⟨x1, x2⟩ := zjs_in hx
    obtain ⟨y1, y2⟩ := zjs_in hy
    cases h2 : Nat.ble (zjsh a) (zjsl b)
    · rw [cond_false]
      cases h3 : Nat.ble (zjsh b) (zjsl a)
      · exact zIs_u _
      · have q3 := Nat.le_of_ble_eq_true h3
        have hn : ¬ x ≤ y := fun q => by have := zjs_le.mpr q; omega
        have e : lg_cmp x y = 1 := by unfold lg_cmp; rw [if_pos (Int64.not_le.mp hn)]
        rw [e]
        exact zIs_e zi_p1
    · have q2 := Nat.le_of_ble_eq_true h2
      have hn : x ≤ y := zjs_le.mp (by omega)
      have hne : ¬ x = y := fun q => by rw [q] at x1 x2; omega
      have e : lg_cmp x y = -1 := by unfold lg_cmp; rw [if_neg (Int64.not_lt.mpr hn), if_neg hne]
      rw [e]
      exact zIs_e zi_m1
section OPS
variable {d : Nat} {X : zM} {fr : Nat} {P : zP d} {pc : Nat} {k : zK d}
noncomputable def xi2lR (k : zK d) : zK d := fun L S h => zpI S (fun a S => zF (fun v => k L (zL v :: S) h) (zi2lR a))
theorem sm_i2lR [G : zGh] (dg : decode X.2.1 pc = .ok (.i2l, 1)) (hs : zSim X fr P (pc + 1) k) : zSim X fr P pc (xi2lR k) := sm_go (fun ad L S h st hk hst => by
  obtain ⟨a, S, rfl, hk2⟩ := zpI_t hk
  obtain ⟨x, st, rfl, hx, hst⟩ := zRepL_I hst
  have hk : zF (fun v => k L (zL v :: S) h) (zi2lR a) = true := hk2
  rw [zF_eq] at hk
  exact ⟨_, [.int x], [.long x.toInt64], st, hk, rfl, (fun hx hb kk => lv_i2l hx hb dg rfl kk), ⟨⟨_, rfl, zi2lR_ok hx⟩, hst⟩⟩) hs
noncomputable def xlcmpR (k : zK d) : zK d := fun L S h => zpL S (fun b S => zpL S (fun a S => zF (fun v => k L (zI v :: S) h) (zlcmpR a b)))
theorem sm_lcmpR [G : zGh] (dg : decode X.2.1 pc = .ok (.lcmp, 1)) (hs : zSim X fr P (pc + 1) k) : zSim X fr P pc (xlcmpR k) := sm_go (fun ad L S h st hk hst => by
  obtain ⟨b, S, rfl, hk1⟩ := zpL_t hk
  obtain ⟨a, S, rfl, hk2⟩ := zpL_t hk1
  obtain ⟨y, st, rfl, hy, hst⟩ := zRepL_L hst
  obtain ⟨x, st, rfl, hx, hst⟩ := zRepL_L hst
  have hk : zF (fun v => k L (zI v :: S) h) (zlcmpR a b) = true := hk2
  rw [zF_eq] at hk
  exact ⟨_, [.long y, .long x], [.int (lg_cmp x y)], st, hk, rfl, (fun hx hb kk => W.lcmp hx hb dg kk), ⟨⟨_, rfl, zlcmpR_ok hx hy⟩, hst⟩⟩) hs
noncomputable def zkI (S : List zV) : Bool := zpI S (fun a _ => Nat.ble a 4294967295)
noncomputable def xtsO (n : Nat) (kd : zK d) : zK d := fun L S h => zpI S (fun a S => cond (Nat.ble (Nat.succ n) (zlo a)) (kd L S h) false)
noncomputable def xtswR (n : Nat) (ks : List (zK d)) (kd : zK d) : zK d := fun L S h => cond (zkI S) (xtsw ks kd L S h) (xtsO n kd L S h)
theorem sm_tsO [G : zGh] {n len tdf : Nat} {dflt hi : Int} {offs : Array Int} {kd : zK d} (hhi : hi = (n : Int)) (hn : n < 1000) (dg : decode X.2.1 pc = .ok (.tableswitch dflt 0 hi offs, len)) (hdf : (pc : Int) + dflt = (tdf : Int)) (hkd : zSim X fr P tdf kd) : zSim X fr P pc (xtsO n kd) := by
  subst hhi
  intro Ch cA D ad0 A MC MS p l e s m args below meth c ls st H locs cells slots L S h Cx hk R0
  obtain ⟨ws, hHp, hpre, hP, hD, hS, hL, hst, hcb, hsb⟩ := R0
  obtain ⟨a, S, rfl, hk1⟩ := zpI_t hk
  obtain ⟨x, st, rfl, hx, hst1⟩ := zRepL_I hst
  obtain ⟨h1, h2⟩ := zcnd_t hk1
  have h1 : n + 1 ≤ zlo a := Nat.le_of_ble_eq_true h1
  have hl := zlo_ok hx
  refine lv_tableOut (tgt := tdf) Cx.1 Cx.2.1 dg ?_ hdf (hkd Ch cA D ad0 A MC MS p l e s m args below meth c ls _ H locs cells slots L _ h Cx h2 ⟨ws, hHp, hpre, hP, hD, hS, hL, hst1, hcb, hsb⟩)
  have hlt := zi_lt x
  rcases zi_cases x with ⟨c1, c2⟩ | ⟨c1, c2⟩ <;> omega
theorem sm_tswR [G : zGh] {n len tdf : Nat} {dflt hi : Int} {offs : Array Int} {ks : List (zK d)} {kd : zK d} (tg : List Nat) (hhi : hi = (n : Int)) (hn : n < 1000) (dg : decode X.2.1 pc = .ok (.tableswitch dflt 0 hi offs, len)) (hl : ks.length = n + 1) (hoff : (List.range (n + 1)).all (fun i => ztg offs tg pc i) = true) (hdf : (pc : Int) + dflt = (tdf : Int)) (hkd : zSim X fr P tdf kd) (hks : zSims X fr P tg ks) : zSim X fr P pc (xtswR n ks kd) := sm_or (sm_tsw3 tg hhi hn dg hl hoff hdf hkd hks) (sm_tsO hhi hn dg hdf hkd)
end OPS
/-- regions: one of them holds each number -/
noncomputable def zrgs (Rs : List Nat) (K : Nat → Bool) : Bool := List.rec (motive := fun _ => Bool) true (fun r _ rr => cond (K r) rr false) Rs
theorem zrgs_t {K : Nat → Bool} : ∀ {Rs : List Nat}, zrgs Rs K = true → ∀ r, r ∈ Rs → K r = true
  | [], _, r, hr => by cases hr
  | q :: Rs, h, r, hr => by
    have h : cond (K q) (zrgs Rs K) false = true := h
    obtain ⟨h1, h2⟩ := zcnd_t h
    rcases List.mem_cons.mp hr with rfl | hr
    · exact h1
    · exact zrgs_t h2 r hr
def zcvr : List Nat → Nat → Bool
  | [], a => Nat.ble 4294967296 a
  | r :: Rs, a => cond (Nat.ble (zlo r) a) (cond (Nat.ble (Nat.succ r) 4722366482869645213696) (zcvr Rs (Nat.max a (zhi r))) false) false
theorem zcvr_t : ∀ {Rs : List Nat} {a : Nat}, zcvr Rs a = true → ∀ v, a ≤ v → v < 4294967296 → ∃ r, r ∈ Rs ∧ r < 4722366482869645213696 ∧ zlo r ≤ v ∧ v < zhi r
  | [], a, h, v, h1, h2 => by
    have h := Nat.le_of_ble_eq_true h
    omega
  | r :: Rs, a, h, v, h1, h2 => by
    obtain ⟨g1, g2⟩ := zcnd_t h
    obtain ⟨g3, g4⟩ := zcnd_t g2
    have g1 := Nat.le_of_ble_eq_true g1
    by_cases q : v < zhi r
    · exact ⟨r, List.mem_cons_self, Nat.le_of_ble_eq_true g3, by omega, q⟩
    · obtain ⟨r', a1, a2, a3, a4⟩ := zcvr_t g4 v (Nat.max_le.mpr ⟨h1, by omega⟩) h2
      exact ⟨r', List.mem_cons_of_mem _ a1, a2, a3, a4⟩
theorem zIs_rg [zGh] {r : Nat} {i : Int32} (h0 : r < 4722366482869645213696) (h1 : zlo r ≤ zi i) (h2 : zi i < zhi r) : zIs r i := by
  cases q : Nat.ble 4294967296 r
  · have e1 : zlo r = r := by unfold zlo; rw [q, cond_false]
    have e2 : zhi r = Nat.succ r := by unfold zhi; rw [q, cond_false]
    rw [e1] at h1
    rw [e2] at h2
    exact zIs_e (Nat.le_antisymm (Nat.le_of_lt_succ h2) h1)
  · have e1 : zlo r = r / 1099511627776 % 4294967296 := by unfold zlo; rw [q, cond_true, zmod_n, zdiv_n]
    have q := Nat.le_of_ble_eq_true q
    rw [e1] at h1
    refine ⟨fun z => absurd z (Nat.not_lt.mpr q), fun z1 z2 => ?_, h1, fun z => absurd z (Nat.not_le.mpr h0)⟩
    have e2 : zhi r = r % 1099511627776 - 4294967296 := by
      unfold zhi zhc
      rw [Nat.ble_eq_true_of_le q, cond_true, zmod_n, zble_lt z1, cond_false, zble_lt z2, cond_false, zsub_n]
    rw [e2] at h2
    exact h2
theorem zrgs_i [zGh] {Rs : List Nat} {K : Nat → Bool} (hc : zcvr Rs 0 = true) (h : zrgs Rs K = true) (i : Int32) : ∃ r, zIs r i ∧ K r = true := by
  obtain ⟨r, h1, h2, h3, h4⟩ := zcvr_t hc (zi i) (Nat.zero_le _) (zi_lt i)
  exact ⟨r, zIs_rg h2 h3 h4, zrgs_t h r h1⟩
