/-! Math.floorMod; a switch by keys; arrays of arrays where the tree isn't too deep -/
theorem zxor_hi {a b : Nat} (ha : 2147483648 ≤ a) (ha2 : a < 4294967296) (hb : b < 2147483648) : 2147483648 ≤ Nat.xor a b := by
  have h1 : (a ^^^ b).testBit 31 = true := by
    rw [Nat.testBit_xor, Nat.testBit_lt_two_pow (show b < 2 ^ 31 by omega)]
    have : a.testBit 31 = true := by
      rw [Nat.testBit_eq_decide_div_mod_eq]
      exact decide_eq_true (by have : a / 2 ^ 31 = 1 := by omega
                               rw [this])
    rw [this]
    rfl
  exact Nat.ge_two_pow_of_testBit h1
theorem zxor_lo {a b : Nat} (ha : a < 2147483648) (hb : b < 2147483648) : Nat.xor a b < 2147483648 := Nat.xor_lt_two_pow (n := 31) ha hb
theorem zi_ge {x : Int32} : 0 ≤ x ↔ zi x < 2147483648 := by
  rw [Int32.le_iff_toInt_le]
  have h0 : (0 : Int32).toInt = 0 := rfl
  rw [h0]
  have := zi_lt x
  rcases zi_cases x with ⟨c1, c2⟩ | ⟨c1, c2⟩ <;> omega
/-- a rest that isn't below 0, of a number and a known one above 0 -/
def zfmod (a b : Nat) : Nat := cond (Nat.ble 4294967296 a) 4294967296 (cond (Nat.ble 2147483648 a) (Nat.mod (Nat.sub b (Nat.mod (Nat.sub 4294967296 a) b)) b) (Nat.mod a b))
theorem zremI {x y : Int32} (hx : 2147483648 ≤ zi x) (hy : zi y < 2147483648) (hy0 : 0 < zi y) : zi (x - x / y * y) = (4294967296 - (4294967296 - zi x) % zi y) % 4294967296 := by
  have hxl := zi_lt x
  have hq : (x / y).toInt = -(((4294967296 - zi x) / zi y : Nat) : Int) := by
    have hyi : y.toInt = (zi y : Int) := by rcases zi_cases y with ⟨c1, c2⟩ | ⟨c1, c2⟩ <;> omega
    have hxi : x.toInt = -((4294967296 - zi x : Nat) : Int) := by rcases zi_cases x with ⟨c1, c2⟩ | ⟨c1, c2⟩ <;> omega
    rw [Int32.toInt_div, hyi, hxi, Int.neg_tdiv, ← Int.ofNat_tdiv]
    have hle : (4294967296 - zi x) / zi y ≤ 2147483648 := Nat.le_trans (Nat.div_le_self _ _) (by omega)
    generalize (4294967296 - zi x) / zi y = q at hle ⊢
    apply Int.bmod_eq_of_le
    · show -(((4294967296 : Int)) / 2) ≤ _
      omega
    · show _ < ((4294967296 : Int) + 1) / 2
      omega
  have hz : zi (x / y) = (4294967296 - (4294967296 - zi x) / zi y) % 4294967296 := by
    have := zi_lt (x / y)
    have hle : (4294967296 - zi x) / zi y ≤ 2147483648 := Nat.le_trans (Nat.div_le_self _ _) (by omega)
    rcases zi_cases (x / y) with ⟨c1, c2⟩ | ⟨c1, c2⟩ <;> omega
  rw [zi_sub, zi_mul, hz]
  generalize hA : 4294967296 - zi x = A at *
  have e1 := Nat.mod_add_div A (zi y)
  have hqle : A / zi y * zi y ≤ A := Nat.div_mul_le_self A (zi y)
  rw [Nat.mul_comm] at e1
  generalize A / zi y = q at *
  generalize hm : q * zi y = m at *
  have hA0 : 0 < A := by omega
  have hA1 : A ≤ 2147483648 := by omega
  have hmod := Nat.mod_lt A hy0
  have hkey : (4294967296 - q) % 4294967296 * zi y % 4294967296 = (4294967296 - m) % 4294967296 := by
    by_cases h0 : q = 0
    · subst h0
      have : m = 0 := by rw [← hm, Nat.zero_mul]
      subst this
      simp
    · have hq1 : q ≤ A := by rw [← hm] at hqle; exact Nat.le_trans (Nat.le_mul_of_pos_right q hy0) hqle
      rw [Nat.mod_eq_of_lt (show 4294967296 - q < 4294967296 by omega), Nat.sub_mul, hm]
      have : 4294967296 * zi y - m = (4294967296 - m) + 4294967296 * (zi y - 1) := by
        have h5 : 4294967296 * zi y = 4294967296 * (zi y - 1) + 4294967296 := by omega
        omega
      rw [this, Nat.add_mul_mod_self_left]
  rw [hkey]
  omega
theorem zfmod_ok {a b : Nat} {x y : Int32} (hx : a < 4294967296 → zi x = a) (hy : zi y = b) (hb : 0 < b) (hb2 : b < 2147483648) : zfmod a b < 4294967296 → zi (Jvm.Free.MCB.fmod x y) = zfmod a b := by
  unfold zfmod
  cases hA : Nat.ble 4294967296 a
  · intro _
    have e := hx (zble_f hA)
    rw [cond_false]
    have hne : ¬ y = 0 := fun q => by rw [q, zi_z] at hy; omega
    unfold Jvm.Free.MCB.fmod Jvm.Free.MCB.remI
    cases hB : Nat.ble 2147483648 a
    · have ha := zble_f hB
      rw [cond_false, if_pos (zi_ge.mpr (by rw [zi_xor, e, hy]; exact zxor_lo ha hb2))]
      have := zrem_ok (a := a) (b := b) hx (fun _ => hy)
      unfold zrem at this
      have hl : Nat.ble 2147483648 (Nat.lor a b) = false := by
        cases h : Nat.ble 2147483648 (Nat.lor a b)
        · rfl
        · exact absurd (Nat.le_of_ble_eq_true h) (Nat.not_le.mpr (Nat.or_lt_two_pow (n := 31) ha hb2))
      rw [hl, cond_false] at this
      exact this (Nat.lt_trans (Nat.mod_lt _ hb) (by omega))
    · have ha := Nat.le_of_ble_eq_true hB
      rw [cond_true, if_neg (fun q => absurd (zi_ge.mp q) (by rw [zi_xor, e, hy]; exact Nat.not_lt.mpr (zxor_hi ha (zble_f hA) hb2)))]
      have hr := zremI (x := x) (y := y) (by omega) (by omega) (by omega)
      rw [e, hy] at hr
      have hm := Nat.mod_lt (4294967296 - a) hb
      show _ = (b - (4294967296 - a) % b) % b
      generalize (4294967296 - a) % b = r at *
      by_cases h0 : r = 0
      · subst h0
        have hz : zi (x - x / y * y) = 0 := by rw [hr]
        rw [if_pos (zi_zero.mp hz), hz]
        simp
      · have hz : zi (x - x / y * y) = 4294967296 - r := by rw [hr]; omega
        rw [if_neg (fun q => by rw [q, zi_z] at hz; omega), zi_add, hz, hy]
        rw [Nat.mod_eq_of_lt (show b - r < b by omega)]
        omega
  · intro q
    exact absurd q (Nat.lt_irrefl _)
theorem zfmod_le {a b : Nat} (hb : 0 < b) (hb2 : b < 2147483648) : zfmod a b ≤ 4294967296 := by
  unfold zfmod
  cases Nat.ble 4294967296 a
  · cases Nat.ble 2147483648 a
    · exact Nat.le_trans (Nat.le_of_lt (Nat.mod_lt _ hb)) (by omega)
    · exact Nat.le_trans (Nat.le_of_lt (Nat.mod_lt _ hb)) (by omega)
  · exact Nat.le_refl _
section FM
variable {p : Program} {l : Launch} {e : Env} {R : Room} {s : State} {m : MethodId} {args : Array Value} {below : List Frame} {meth : Method} {c : Code} {H : Heap} {locs : List Loc} {cells slots : Nat} {Q : State → Prop}
variable {pc : Nat} {ls : Array Slot} {rest : List Value}
theorem zfm {cc : ByteArray} (hexec : p.tables.exec = Jvm.exec) (hb : c.code = cc) (hml : c.maxLocals = ls.size) {own : String} {index : Nat} (hown : s.vm.findClass own = some m.cls) (hlink : (Cond.methodLink own index Jvm.Free.MCB.FloorMod.yN).before args s = true) (hstat : (Cond.static Jvm.Free.MCB.FloorMod.yN).before args s = true) (hini : (Cond.initialized "java/lang/Math").before args s = true) (hcode : Jvm.Free.MCB.FloorMod.tab.before args s = true)
    (hframes : 1 ≤ R.frames) (hlocals : (rest.map fun v => v.category).sum + 14 ≤ R.locals) (hc : cells ≤ R.cells) (hs : slots ≤ R.slots) {x y : Int32} (hy : y ≠ 0) (hdg : decode cc pc = .ok (.invokestatic index, 3))
    (kk : W p l e R s m args below meth c H locs cells slots Q (F0 m (pc + 3) ls (.int (Jvm.Free.MCB.fmod x y) :: rest))) : W p l e R s m args below meth c H locs cells slots Q (F0 m pc ls (.int y :: .int x :: rest)) := by
  intro T hT X
  obtain ⟨mF, hnF⟩ := Cond.code_named hcode
  obtain ⟨methF, cF, hmF, -, -, -, -, -, -, hsF⟩ := Cond.code_spec hnF hcode
  obtain ⟨r3, vm3, ⟨T3, L3, c3, n3⟩, hW3, X3, ⟨⟨hh3, hL3, hc3, hn3⟩, hv3⟩, st⟩ := X.staticBack hexec (own := own) (index := index) (y := Jvm.Free.MCB.FloorMod.yN) hown hlink hstat hini hnF hmF hsF (by decide)
    (Jvm.Free.MCB.FloorMod.pays (len := 3) (W := (rest.map fun v => v.category).sum) (by omega) (by omega) hcode hini)
    (g := F0 m pc ls (.int y :: .int x :: rest)) rfl (by rw [hml]) (Steps.refl _) (argsL := [.int x, .int y]) (rest := rest)
    (fun sig hs => by rw [show parseMethodDescriptor Jvm.Free.MCB.FloorMod.yN.desc = some ⟨[.int, .int], some .int⟩ from by decide +kernel] at hs; rw [← Option.some.inj hs]; rfl) rfl (by show 2 * 0 + _ ≤ _; omega) (by rw [hb]; exact hdg)
    (fun vmx hWx => ⟨hc, hs, (x, y), rfl, hy⟩)
  have hr3 := hv3 (x, y) ⟨rfl, hy⟩
  dsimp only [Pt.U, Pt.locs, Pt.cells, Pt.slots] at X3 hh3 hL3 hc3 hn3 hr3 st
  subst hr3 hL3 hc3 hn3
  obtain ⟨t, a1, b1⟩ := kk T3 (hh3.trans hT) X3
  exact ⟨t, st.trans a1, b1⟩
end FM
def zlk (pc : Nat) : List (Int × Int) → List (Nat × Nat) → Bool
  | [], [] => true
  | (k, o) :: ps, (n, t) :: ts => decide (k = (n : Int)) && decide (n < 2147483648) && decide ((pc : Int) + o = (t : Int)) && zlk pc ps ts
  | _, _ => false
section OPS
variable {d : Nat} {X : zM} {fr : Nat} {P : zP d} {pc : Nat} {k : zK d}
noncomputable def xfm (k : zK d) : zK d := fun L S h => zpI S (fun b S => zpI S (fun a S => zle4 S (cond (Nat.beq b 0) false (cond (Nat.ble 2147483648 b) false (zF (fun v => k L (zI v :: S) h) (zfmod a b))))))
theorem sm_fm [G : zGh] {index : Nat} (hlink : Cond.methodLink X.1 index Jvm.Free.MCB.FloorMod.yN ∈ ztbl) (hstat : Cond.static Jvm.Free.MCB.FloorMod.yN ∈ ztbl) (hini : Cond.initialized "java/lang/Math" ∈ ztbl) (hcode : Jvm.Free.MCB.FloorMod.tab ∈ ztbl) (hfr : 1 ≤ fr) (dg : decode X.2.1 pc = .ok (.invokestatic index, 3)) (hs : zSim X fr P (pc + 3) k) : zSim X fr P pc (xfm k) := by
  intro Ch cA D ad0 A MC MS p l e s m args below meth c ls st H locs cells slots L S h Cx hk R0
  obtain ⟨ws, hHp, hpre, hP, hD, hS, hL, hst, hcb, hsb⟩ := R0
  obtain ⟨b, S, rfl, hk1⟩ := zpI_t hk
  obtain ⟨a, S, rfl, hk2⟩ := zpI_t hk1
  obtain ⟨y, st, rfl, hy, hst1⟩ := zRepL_I hst
  obtain ⟨x, st, rfl, hx, hst2⟩ := zRepL_I hst1
  obtain ⟨h4, hk3⟩ := zle4_t hk2
  have hk3 : cond (Nat.beq b 0) false (cond (Nat.ble 2147483648 b) false (zF (fun v => k L (zI v :: S) h) (zfmod a b))) = true := hk3
  have hcat := zcat hst2
  cases h1 : Nat.beq b 0
  · cases h2 : Nat.ble 2147483648 b
    · rw [h1, h2, cond_false, cond_false, zF_eq] at hk3
      have hb2 := zble_f h2
      have hb0 : 0 < b := Nat.pos_of_ne_zero (fun q => by rw [q] at h1; cases h1)
      have hyb := hy.1 (by omega)
      exact zfm Cx.1 Cx.2.1 (by rw [Cx.2.2.1]; exact hL.2.choose_spec.1.1.symm) Cx.2.2.2.1 (Cx.2.2.2.2.1 _ hlink) (Cx.2.2.2.2.1 _ hstat) (Cx.2.2.2.2.1 _ hini) (Cx.2.2.2.2.1 _ hcode) hfr (by show (st.map fun v => v.category).sum + 14 ≤ 64 * fr; omega) (by show cells ≤ MC; omega) (by show slots ≤ MS; omega) (fun q => by rw [q, zi_z] at hyb; omega) dg (hs Ch cA D ad0 A MC MS p l e s m args below meth c ls _ H locs cells slots L _ h Cx hk3 ⟨ws, hHp, hpre, hP, hD, hS, hL, ⟨⟨_, rfl, zIs_of (zfmod_ok hx.1 hyb hb0 hb2) (zfmod_le hb0 hb2)⟩, hst2⟩, hcb, hsb⟩)
    · rw [h1, h2] at hk3
      cases hk3
  · rw [h1] at hk3
    cases hk3
noncomputable def zls (a : Nat) (kd : Bool) (L S : List zV) (h : zH d) : List (Nat × zK d) → Bool := List.rec (motive := fun _ => Bool) kd (fun q _ r => cond (Nat.beq a q.1) (q.2 L S h) r)
noncomputable def xlsw (ks : List (Nat × zK d)) (kd : zK d) : zK d := fun L S h => zpI S (fun a S => cond (Nat.ble 4294967296 a) false (zls a (kd L S h) L S h ks))
theorem zls_t [G : zGh] {x : Int32} {a tdf : Nat} {dflt : Int} {kd : zK d} {L S : List zV} {h : zH d} (hx : zi x = a) (hdf : (pc : Int) + dflt = (tdf : Int)) (hkd : zSim X fr P tdf kd) : ∀ (ps : List (Int × Int)) (ts : List (Nat × Nat)) (ks : List (Nat × zK d)), zlk pc ps ts = true → ks.map (fun q => q.1) = ts.map (fun q => q.1) → (∀ (i n t : Nat) (k : zK d), ts[i]? = some (n, t) → ks[i]? = some (n, k) → zSim X fr P t k) → zls a (kd L S h) L S h ks = true → ∃ (tgt : Nat) (k : zK d), (pc : Int) + Op.lookupswitch.offset ps dflt x.toInt = (tgt : Int) ∧ zSim X fr P tgt k ∧ k L S h = true
  | [], [], [], _, _, _, hk => ⟨tdf, kd, hdf, hkd, hk⟩
  | [], [], _ :: _, _, h2, _, _ => by cases h2
  | (kq, o) :: ps, (n, t) :: ts, [], _, h2, _, _ => by cases h2
  | (kq, o) :: ps, (n, t) :: ts, (n', k') :: ks, h1, h2, h3, hk => by
    rw [List.map_cons, List.map_cons, List.cons.injEq] at h2
    obtain ⟨hn, h2⟩ := h2
    have hn : n' = n := hn
    subst hn
    unfold zlk at h1
    rw [Bool.and_eq_true, Bool.and_eq_true, Bool.and_eq_true, decide_eq_true_iff, decide_eq_true_iff, decide_eq_true_iff] at h1
    obtain ⟨⟨⟨e1, e2⟩, e3⟩, e4⟩ := h1
    have hk : cond (Nat.beq a n') (k' L S h) (zls a (kd L S h) L S h ks) = true := hk
    have hxc := zi_cases x
    have hxl := zi_lt x
    cases hb : Nat.beq a n'
    · rw [hb, cond_false] at hk
      have hne : ¬ a = n' := fun q => by rw [q, Nat.beq_refl] at hb; cases hb
      obtain ⟨tgt, k, g1, g2, g3⟩ := zls_t hx hdf hkd ps ts ks e4 h2 (fun i n t k q1 q2 => h3 (i + 1) n t k (by simpa using q1) (by simpa using q2)) hk
      refine ⟨tgt, k, ?_, g2, g3⟩
      unfold Op.lookupswitch.offset
      rw [if_neg (by rw [e1]; rcases hxc with ⟨c1, c2⟩ | ⟨c1, c2⟩ <;> omega)]
      exact g1
    · rw [hb, cond_true] at hk
      have he : a = n' := Nat.eq_of_beq_eq_true hb
      refine ⟨t, k', ?_, h3 0 n' t k' rfl rfl, hk⟩
      unfold Op.lookupswitch.offset
      rw [if_pos (by rw [e1]; rcases hxc with ⟨c1, c2⟩ | ⟨c1, c2⟩ <;> omega)]
      exact e3
theorem sm_lsw [G : zGh] {len tdf : Nat} {dflt : Int} {ps : Array (Int × Int)} {ks : List (Nat × zK d)} {kd : zK d} (ts : List (Nat × Nat)) (dg : decode X.2.1 pc = .ok (.lookupswitch dflt ps, len)) (hinc : (ps.toList.zip (ps.toList.drop 1)).all (fun (a, next) => a.1 < next.1) = true) (hlk : zlk pc ps.toList ts = true) (hkey : ks.map (fun q => q.1) = ts.map (fun q => q.1)) (hdf : (pc : Int) + dflt = (tdf : Int)) (hkd : zSim X fr P tdf kd) (hks : ∀ (i n t : Nat) (k : zK d), ts[i]? = some (n, t) → ks[i]? = some (n, k) → zSim X fr P t k) : zSim X fr P pc (xlsw ks kd) := by
  intro Ch cA D ad0 A MC MS p l e s m args below meth c ls st H locs cells slots L S h Cx hk R0
  obtain ⟨ws, hHp, hpre, hP, hD, hS, hL, hst, hcb, hsb⟩ := R0
  obtain ⟨a, S, rfl, hk1⟩ := zpI_t hk
  obtain ⟨x, st, rfl, hx, hst1⟩ := zRepL_I hst
  have hk1 : cond (Nat.ble 4294967296 a) false (zls a (kd L S h) L S h ks) = true := hk1
  cases hb : Nat.ble 4294967296 a
  · rw [hb, cond_false] at hk1
    obtain ⟨tgt, k, g1, g2, g3⟩ := zls_t (hx.1 (zble_f hb)) hdf hkd ps.toList ts ks hlk hkey hks hk1
    exact lv_lookup Cx.1 Cx.2.1 dg hinc rfl g1 (g2 Ch cA D ad0 A MC MS p l e s m args below meth c ls _ H locs cells slots L _ h Cx g3 ⟨ws, hHp, hpre, hP, hD, hS, hL, hst1, hcb, hsb⟩)
  · rw [hb] at hk1; cases hk1
noncomputable def xmnaD (kc ki : Nat) (k : zK d) : zK d := fun L S h => cond (Nat.ble d 30) (xmna kc ki k L S h) false
theorem sm_mnaD [G : zGh] {kc ki : Nat} (hh : d ≤ 30 → zSim X fr P pc (xmna kc ki k)) : zSim X fr P pc (xmnaD kc ki k) := by
  intro Ch cA D ad0 A MC MS p l e s m args below meth c ls st H locs cells slots L S h Cx hk R0
  have hk : cond (Nat.ble d 30) (xmna kc ki k L S h) false = true := hk
  cases hb : Nat.ble d 30
  · rw [hb] at hk; cases hk
  · rw [hb, cond_true] at hk
    exact hh (Nat.le_of_ble_eq_true hb) Ch cA D ad0 A MC MS p l e s m args below meth c ls st H locs cells slots L S h Cx hk R0
end OPS
section OPS
variable {d : Nat} {X : zM} {fr : Nat} {P : zP d} {pc : Nat} {k : zK d}
theorem sm_mnaDI [G : zGh] {index : Nat} (hcl : Cond.classLink X.1 index "[[I" ∈ ztbl) (harr : Cond.arrayClass .int ∈ ztbl) (dg : decode X.2.1 pc = .ok (.multianewarray index 2, 4)) (hs : zSim X fr P (pc + 4) k) : zSim X fr P pc (xmnaD 3 0 k) := sm_mnaD (fun hd => sm_mnaI hcl harr hd dg hs)
theorem sm_mnaDJ [G : zGh] {index : Nat} (hcl : Cond.classLink X.1 index "[[J" ∈ ztbl) (harr : Cond.arrayClass .long ∈ ztbl) (dg : decode X.2.1 pc = .ok (.multianewarray index 2, 4)) (hs : zSim X fr P (pc + 4) k) : zSim X fr P pc (xmnaD 4 2 k) := sm_mnaD (fun hd => sm_mnaJ hcl harr hd dg hs)
end OPS
