/-! arraycopy, the static arrays, switches -/
def zcp (b x0 x1 sp dp n : Nat) : Nat := Nat.xor x1 (Nat.shiftLeft (Nat.xor (Nat.mod (Nat.shiftRight x0 (Nat.mul b sp)) (Nat.pow 2 (Nat.mul b n))) (Nat.mod (Nat.shiftRight x1 (Nat.mul b dp)) (Nat.pow 2 (Nat.mul b n)))) (Nat.mul b dp))
theorem zcp_bit (b x0 x1 sp dp n t : Nat) : (zcp b x0 x1 sp dp n).testBit t = (x1.testBit t ^^ (decide (b * dp ≤ t) && ((decide (t - b * dp < b * n) && x0.testBit (b * sp + (t - b * dp))) ^^ (decide (t - b * dp < b * n) && x1.testBit (b * dp + (t - b * dp)))))) := by
  show (x1 ^^^ ((((x0 >>> (b * sp)) % 2 ^ (b * n)) ^^^ ((x1 >>> (b * dp)) % 2 ^ (b * n))) <<< (b * dp))).testBit t = _
  rw [Nat.testBit_xor, Nat.testBit_shiftLeft, Nat.testBit_xor, Nat.testBit_mod_two_pow, Nat.testBit_mod_two_pow, Nat.testBit_shiftRight, Nat.testBit_shiftRight]
theorem zcp_wd (b x0 x1 sp dp n j : Nat) : zwd b (zcp b x0 x1 sp dp n) j = if dp ≤ j ∧ j < dp + n then zwd b x0 (sp + (j - dp)) else zwd b x1 j := by
  have hr : (if dp ≤ j ∧ j < dp + n then zwd b x0 (sp + (j - dp)) else zwd b x1 j) < 2 ^ b := by
    split <;> exact zwd_lt _ _ _
  refine zwd_ext (zwd_lt _ _ _) hr (fun t ht => ?_)
  rw [zwd_bit _ _ _ _ ht, zcp_bit]
  by_cases h : dp ≤ j ∧ j < dp + n
  · rw [if_pos h, zwd_bit _ _ _ _ ht]
    obtain ⟨i, rfl⟩ : ∃ i, j = dp + i := ⟨j - dp, by omega⟩
    have h1 : b * dp ≤ b * (dp + i) + t := by rw [Nat.mul_add]; omega
    have h2 : b * (dp + i) + t - b * dp = b * i + t := by rw [Nat.mul_add]; omega
    have h3 : b * i + t < b * n := by
      have : b * (i + 1) ≤ b * n := Nat.mul_le_mul_left b (by omega)
      rw [Nat.mul_add, Nat.mul_one] at this
      omega
    have h4 : b * dp + (b * i + t) = b * (dp + i) + t := by rw [Nat.mul_add]; omega
    have h5 : b * sp + (b * i + t) = b * (sp + (dp + i - dp)) + t := by rw [show dp + i - dp = i by omega, Nat.mul_add]; omega
    rw [h2, h4, h5]
    simp [h1, h3]
    cases x1.testBit (b * (dp + i) + t) <;> cases x0.testBit (b * (sp + i) + t) <;> rfl
  · rw [if_neg h, zwd_bit _ _ _ _ ht]
    by_cases h6 : j < dp
    · have : b * (j + 1) ≤ b * dp := Nat.mul_le_mul_left b (by omega)
      rw [Nat.mul_add, Nat.mul_one] at this
      have h1 : ¬ b * dp ≤ b * j + t := by omega
      simp [h1]
    · have : b * (dp + n) ≤ b * j := Nat.mul_le_mul_left b (by omega)
      rw [Nat.mul_add] at this
      have h1 : ¬ b * j + t - b * dp < b * n := by omega
      simp [h1]
theorem znfw : nativeFrameWords "java/lang/System" "arraycopy" 5 = 7 := by decide
section OPS
variable {d : Nat} {X : zM} {fr : Nat} {P : zP d} {pc : Nat} {k : zK d}
noncomputable def xcpy (kc b : Nat) (k : zK d) : zK d := fun L S h => zpI S (fun n S => zpI S (fun dp S => zpR S (fun r1 S => zpI S (fun sp S => zpR S (fun r0 S => zle4 S (cond (Nat.ble n 100000) (cond (Nat.ble dp 100000) (cond (Nat.ble sp 100000) (zat h r0 (fun _ _ _ kd0 len0 x0 => zat h r1 (fun t u j kd1 len1 x1 => cond (Nat.beq kd0 kc) (cond (Nat.beq kd1 kc) (cond (Nat.ble (Nat.add sp n) len0) (cond (Nat.ble (Nat.add dp n) len1) (zF (fun y => zsetK d t j (kd1, len1, y) (fun t => k L S (t, u))) (zcp b x0 x1 sp dp n)) false) false) false) false))) false) false) false))))))
theorem sm_copyI [G : zGh] {index : Nat} (hlink : Cond.methodLink X.1 index arraycopyName ∈ ztbl) (hnat : Cond.native arraycopyName ∈ ztbl) (hstat : Cond.static arraycopyName ∈ ztbl) (hini : Cond.initialized "java/lang/System" ∈ ztbl) (hfr : 1 ≤ fr) (dg : decode X.2.1 pc = .ok (.invokestatic index, 3)) (hs : zSim X fr P (pc + 3) k) : zSim X fr P pc (xcpy 0 40 k) := by
  intro Ch cA D ad0 A MC MS p l e s m args below meth c ls st H locs cells slots L S h Cx hk R0
  obtain ⟨ws, hHp, hpre, hP, hD, hS, hL, hst, hcb, hsb⟩ := R0
  obtain ⟨n, S, rfl, hk1⟩ := zpI_t hk
  obtain ⟨dp, S, rfl, hk2⟩ := zpI_t hk1
  obtain ⟨r1, S, rfl, hk3⟩ := zpR_t hk2
  obtain ⟨sp, S, rfl, hk4⟩ := zpI_t hk3
  obtain ⟨r0, S, rfl, hk5⟩ := zpR_t hk4
  obtain ⟨jn, st, rfl, hn, hst1⟩ := zRepL_I hst
  obtain ⟨jd, st, rfl, hdp, hst2⟩ := zRepL_I hst1
  obtain ⟨o1, st, rfl, ho1, hst3⟩ := zRepL_R hst2
  obtain ⟨js, st, rfl, hsp, hst4⟩ := zRepL_I hst3
  obtain ⟨o0, st, rfl, ho0, hst5⟩ := zRepL_R hst4
  obtain ⟨h4, hk6⟩ := zle4_t hk5
  have hk6 : cond (Nat.ble n 100000) (cond (Nat.ble dp 100000) (cond (Nat.ble sp 100000) (zat h r0 (fun _ _ _ kd0 len0 x0 => zat h r1 (fun t u j kd1 len1 x1 => cond (Nat.beq kd0 0) (cond (Nat.beq kd1 0) (cond (Nat.ble (Nat.add sp n) len0) (cond (Nat.ble (Nat.add dp n) len1) (zF (fun y => zsetK d t j (kd1, len1, y) (fun t => k L S (t, u))) (zcp 40 x0 x1 sp dp n)) false) false) false) false))) false) false) false = true := hk6
  cases b1 : Nat.ble n 100000
  · rw [b1] at hk6; cases hk6
  cases b2 : Nat.ble dp 100000
  · rw [b1, b2] at hk6; cases hk6
  cases b3 : Nat.ble sp 100000
  · rw [b1, b2, b3] at hk6; cases hk6
  rw [b1, b2, b3, cond_true, cond_true, cond_true] at hk6
  obtain ⟨i0, kd0, len0, x0, rfl, hg0, hk7⟩ := zat_t hk6
  obtain ⟨i1, kd1, len1, x1, rfl, hg1, hk8⟩ := zat_t hk7
  have hk9 : cond (Nat.beq kd0 0) (cond (Nat.beq kd1 0) (cond (Nat.ble (Nat.add sp n) len0) (cond (Nat.ble (Nat.add dp n) len1) (zF (fun y => zsetK d h.1 i1 (kd1, len1, y) (fun t => k L S (t, h.2))) (zcp 40 x0 x1 sp dp n)) false) false) false) false = true := hk8
  cases b4 : Nat.beq kd0 0
  · rw [b4] at hk9; cases hk9
  cases b5 : Nat.beq kd1 0
  · rw [b4, b5] at hk9; cases hk9
  cases b6 : Nat.ble (Nat.add sp n) len0
  · rw [b4, b5, b6] at hk9; cases hk9
  cases b7 : Nat.ble (Nat.add dp n) len1
  · rw [b4, b5, b6, b7] at hk9; cases hk9
  rw [b4, b5, b6, b7, cond_true, cond_true, cond_true, cond_true, zF_eq, zsetK_eq] at hk9
  have e0 := Nat.eq_of_beq_eq_true b4
  have e1 := Nat.eq_of_beq_eq_true b5
  subst e0
  subst e1
  obtain ⟨a0, en0, rfl, hw0, hc0⟩ := zat_w hHp ho0
  obtain ⟨a1, en1, rfl, hw1, hc1⟩ := zat_w hHp ho1
  rw [hg0] at hc0
  rw [hg1] at hc1
  obtain ⟨hl0, f0, rfl, hf0⟩ := zCell_i hc0 (by decide)
  obtain ⟨hl1, f1, rfl, hf1⟩ := zCell_i hc1 (by decide)
  obtain ⟨n1, n2⟩ := zi_len hn.1 (Nat.le_of_ble_eq_true b1)
  obtain ⟨d1, d2⟩ := zi_len hdp.1 (Nat.le_of_ble_eq_true b2)
  obtain ⟨s1, s2⟩ := zi_len hsp.1 (Nat.le_of_ble_eq_true b3)
  have hle0 : sp + n ≤ len0 := Nat.le_of_ble_eq_true b6
  have hle1 : dp + n ≤ len1 := Nat.le_of_ble_eq_true b7
  have hcat := zcat hst5
  refine va_copyi (ty := .int) Cx.1 Cx.2.1 (by rw [Cx.2.2.1]; exact hL.2.choose_spec.1.1.symm) Cx.2.2.2.1 (Cx.2.2.2.2.1 _ hlink) (Cx.2.2.2.2.1 _ hnat) (Cx.2.2.2.2.1 _ hstat) (Cx.2.2.2.2.1 _ hini) Cx.2.2.2.2.2.1 hP hD hS i0 i1 0 0 hw0 hw1 rfl rfl rfl s1 d1 n1 (by rw [s2, n2]; exact hle0) (by rw [d2, n2]; exact hle1) (fun _ _ => rfl) hfr (by show (st.map fun v => v.category).sum + (nativeFrameWords "java/lang/System" "arraycopy" 5 + 11) ≤ 64 * fr; rw [znfw]; omega) dg (fun H1 locs1 hP1 hD1 hS1 => ?_)
  have hz := zad_set (cA := cA) (e' := .inl (cA 0, len1, .inl (va_cpy f0 f1 js.toNatClampNeg jd.toNatClampNeg jn.toNatClampNeg))) hw1
  refine hs Ch cA D ad0 A MC MS p l e s m args below meth c ls _ H1 locs1 cells slots L _ _ Cx hk9 ⟨_, zHp_set hHp hw1 (zCell_ik (by decide) hl1 (fun j hj => ?_)), by rw [hz]; exact hpre, hP1, hD1, hS1, by rw [hz]; exact hL, by rw [hz]; exact hst5, hcb, hsb⟩
  rw [zcp_wd]
  rw [s2, d2, n2]
  unfold va_cpy
  by_cases q : dp ≤ j ∧ j < dp + n
  · rw [if_pos q, if_pos q]
    exact hf0 _ (by omega)
  · rw [if_neg q, if_neg q]
    exact hf1 _ hj
/-- a static array's element by a local -/
noncomputable def ztab (tb : List Nat) : Nat → (Nat → Bool) → Bool := List.rec (motive := fun _ => Nat → (Nat → Bool) → Bool) (fun _ _ => false) (fun v _ r a k => Nat.rec (motive := fun _ => Bool) (k v) (fun m _ => r m k) a) tb
theorem ztab_t : ∀ (tb : List Nat) (a : Nat) {k : Nat → Bool}, ztab tb a k = true → ∃ v, tb[a]? = some v ∧ k v = true
  | [], a, k, h => by cases h
  | v :: tb, 0, k, h => ⟨v, rfl, h⟩
  | v :: tb, a + 1, k, h => by
    obtain ⟨w, h1, h2⟩ := ztab_t tb a (k := k) h
    exact ⟨w, by simpa using h1, h2⟩
noncomputable def xst (tb : List Nat) (n : Nat) (k : zK d) : zK d := fun L S h => znth n L (fun v => Sum.rec (motive := fun _ => Bool) (fun a => ztab tb a (fun w => k L (zI w :: S) h)) (fun _ => false) v)
theorem sm_st [G : zGh] {C nm : String} {tb : List Nat} {n index l2 : Nat} (htb : tb.length = 7) (hst1 : ∀ (A : Nat → Prop) (s : State), zStat A s s.heap → zSt1 C nm tb A s s.heap) (hlink : Cond.fieldLink X.1 index C nm "[I" ∈ ztbl) (dg1 : decode X.2.1 pc = .ok (.getstatic index, 3)) (row : ∀ {p : Program} {l : Launch} {e : Env} {R : Room} {s : State} {m : MethodId} {args : Array Value} {below : List Frame} {meth : Method} {c : Code} {H : Heap} {locs : List Loc} {cells slots : Nat} {Q : State → Prop} {ls : Array Slot} {rest : List Value} {x : Int32}, p.tables.exec = Jvm.exec → c.code = X.2.1 → ls[n]? = some (.val (.int x)) → W p l e R s m args below meth c H locs cells slots Q (F0 m (pc + 3 + l2) ls (.int x :: rest)) → W p l e R s m args below meth c H locs cells slots Q (F0 m (pc + 3) ls rest)) (dg3 : decode X.2.1 (pc + 3 + l2) = .ok (.iaload, 1)) (hs : zSim X fr P (pc + 3 + l2 + 1) k) : zSim X fr P pc (xst tb n k) := by
  intro Ch cA D ad0 A MC MS p l e s m args below meth c ls st H locs cells slots L S h Cx hk R0
  obtain ⟨ws, hHp, hpre, hP, hD, hS, hL, hst, hcb, hsb⟩ := R0
  obtain ⟨v, hv, hk2⟩ := znth_t n hk
  match v, hv, hk2 with
  | .inl a, hv, hk2 =>
    obtain ⟨x, hx, i, rfl, hi⟩ := zLoc_at hL hv (by intro q; cases q)
    have hk2 : ztab tb a (fun w => k L (zI w :: S) h) = true := hk2
    obtain ⟨w, hw, hk3⟩ := ztab_t tb a hk2
    obtain ⟨t, hZ, f, hT, hf⟩ := hst1 A s Cx.2.2.2.2.2.2.2.2.2.2.1
    have ha : a < 7 := by rw [← htb]; exact (List.getElem?_eq_some_iff.mp hw).1
    obtain ⟨g1, g2, g3⟩ := zi_idx (len := 7) hi.1 (by decide) (zble_lt ha)
    obtain ⟨iv, hfv, hiv⟩ := hf a w hw
    refine va_gets Cx.1 Cx.2.1 hZ hS Cx.2.2.2.1 (Cx.2.2.2.2.1 _ hlink) (fun _ h => h) dg1 ?_
    refine row Cx.1 Cx.2.1 hx ?_
    refine va_ti (v := .int iv) Cx.1 Cx.2.1 hT hS g1 (by rw [g2]; exact hfv) dg3 ?_
    exact hs Ch cA D ad0 A MC MS p l e s m args below meth c ls _ H locs cells slots L _ h Cx hk3 ⟨ws, hHp, hpre, hP, hD, hS, hL, ⟨⟨iv, rfl, zIs_e hiv⟩, hst⟩, hcb, hsb⟩
/-- a switch over 0 .. n -/
noncomputable def zsw (ks : List (zK d)) (kd : zK d) (L S : List zV) (h : zH d) : Nat → Bool := List.rec (motive := fun _ => Nat → Bool) (fun _ => kd L S h) (fun k _ r a => Nat.rec (motive := fun _ => Bool) (k L S h) (fun m _ => r m) a) ks
theorem zsw_t {kd : zK d} {L S : List zV} {h : zH d} : ∀ (ks : List (zK d)) (a : Nat), zsw ks kd L S h a = true → (∃ k, ks[a]? = some k ∧ k L S h = true) ∨ (ks.length ≤ a ∧ kd L S h = true)
  | [], a, h => Or.inr ⟨Nat.zero_le _, h⟩
  | k :: ks, 0, h => Or.inl ⟨k, rfl, h⟩
  | k :: ks, a + 1, h => by
    rcases zsw_t ks a h with ⟨k', h1, h2⟩ | ⟨h1, h2⟩
    · exact Or.inl ⟨k', by simpa using h1, h2⟩
    · exact Or.inr ⟨by simp; omega, h2⟩
noncomputable def xtsw (ks : List (zK d)) (kd : zK d) : zK d := fun L S h => zpI S (fun a S => cond (Nat.ble 4294967296 a) false (zsw ks kd L S h a))
theorem sm_tsw [G : zGh] {n len tdf : Nat} {dflt hi : Int} {offs : Array Int} {ks : List (zK d)} {kd : zK d} {tg : List Nat} (hhi : hi = (n : Int)) (hn : n < 1000) (dg : decode X.2.1 pc = .ok (.tableswitch dflt 0 hi offs, len)) (hl : ks.length = n + 1) (hoff : ∀ i, i < n + 1 → ∃ off t, offs[i]? = some off ∧ tg[i]? = some t ∧ (pc : Int) + off = (t : Int)) (hdf : (pc : Int) + dflt = (tdf : Int)) (hks : ∀ (i : Nat) (k : zK d) (t : Nat), ks[i]? = some k → tg[i]? = some t → zSim X fr P t k) (hkd : zSim X fr P tdf kd) : zSim X fr P pc (xtsw ks kd) := by
  subst hhi
  intro Ch cA D ad0 A MC MS p l e s m args below meth c ls st H locs cells slots L S h Cx hk R0
  obtain ⟨ws, hHp, hpre, hP, hD, hS, hL, hst, hcb, hsb⟩ := R0
  obtain ⟨a, S, rfl, hk1⟩ := zpI_t hk
  obtain ⟨x, st, rfl, hx, hst1⟩ := zRepL_I hst
  have hk1 : cond (Nat.ble 4294967296 a) false (zsw ks kd L S h a) = true := hk1
  cases hb : Nat.ble 4294967296 a
  · rw [hb, cond_false] at hk1
    have e1 := hx.1 (zble_f hb)
    rcases zsw_t ks a hk1 with ⟨k', h1, h2⟩ | ⟨h1, h2⟩
    · have ha : a < n + 1 := by rw [← hl]; exact (List.getElem?_eq_some_iff.mp h1).1
      have hxi : x.toInt = (a : Int) := by
        rcases zi_cases x with ⟨c1, c2⟩ | ⟨c1, c2⟩ <;> omega
      obtain ⟨off, t, o1, o2, o3⟩ := hoff a ha
      refine lv_tableIn (off := off) (tgt := t) Cx.1 Cx.2.1 dg (by omega) (by omega) (by rw [hxi, show ((a : Int) - 0).toNat = a by omega]; exact o1) o3 ?_
      exact hks a k' t h1 o2 Ch cA D ad0 A MC MS p l e s m args below meth c ls _ H locs cells slots L _ h Cx h2 ⟨ws, hHp, hpre, hP, hD, hS, hL, hst1, hcb, hsb⟩
    · refine lv_tableOut (tgt := tdf) Cx.1 Cx.2.1 dg ?_ hdf (hkd Ch cA D ad0 A MC MS p l e s m args below meth c ls _ H locs cells slots L _ h Cx h2 ⟨ws, hHp, hpre, hP, hD, hS, hL, hst1, hcb, hsb⟩)
      have hlt := zi_lt x
      rcases zi_cases x with ⟨c1, c2⟩ | ⟨c1, c2⟩ <;> omega
  · rw [hb] at hk1; cases hk1
end OPS
