/-! their contracts, for any first number -/
section STEPJ
variable {d : Nat} {L S : List zV} {h : zH d} {k : zK d}
theorem go_lld {n a : Nat} (hL : L[n]? = some (zL a)) (hk : k L (zL a :: S) h = true) : xlld n k L S h = true := by
  show znth n L _ = true
  rw [znth_e n hL]
  exact hk
theorem go_lst {n a : Nat} {L' : List zV} (hL : ∀ K : List zV → Bool, zst (Nat.succ n) zU L (fun L => zst n (zL a) L K) = K L') (hk : k L' S h = true) : xlst n k L (zL a :: S) h = true := by
  show zst (Nat.succ n) zU L (fun L => zst n (zL a) L (fun L => k L S h)) = true
  rw [hL]
  exact hk
theorem go_pL {v : Nat} (hk : k L (zL v :: S) h = true) : xpL v k L S h = true := hk
theorem go_lcmp {a b v : Nat} (hv : zlcmp a b = v) (hk : k L (zI v :: S) h = true) : xlcmp k L (zL b :: zL a :: S) h = true := by
  show zF (fun v => k L (zI v :: S) h) (zlcmp a b) = true
  rw [zF_eq, hv]
  exact hk
theorem go_ifb {t : Nat → Bool} {a : Nat} {kt kf : zK d} (ha : a < 4294967296) (h1 : kt L S h = true) (h2 : kf L S h = true) : xif0 t kt kf L (zI a :: S) h = true := by
  show cond (Nat.ble 4294967296 a) (and (kt L S h) (kf L S h)) (cond (t a) (kt L S h) (kf L S h)) = true
  rw [zble_n ha, cond_false]
  cases t a
  · exact h2
  · exact h1
theorem go_remX {a b v : Nat} (hb0 : b ≠ 0) (hb : b < 18446744073709551616) (hv : zremjX a b = v) (hk : k L (zL v :: S) h = true) : xbinjN zremjX k L (zL b :: zL a :: S) h = true := by
  show cond (Nat.beq b 0) false (cond (Nat.ble 18446744073709551616 b) false (zF (fun v => k L (zL v :: S) h) (zremjX a b))) = true
  rw [zbeq_n hb0, zble_n hb, cond_false, cond_false, zF_eq, hv]
  exact hk
theorem go_unj {z : Nat → Nat} {a v : Nat} (hv : z a = v) (hk : k L (zL v :: S) h = true) : xunj z k L (zL a :: S) h = true := by
  show zF (fun v => k L (zL v :: S) h) (z a) = true
  rw [zF_eq, hv]
  exact hk
theorem go_cmpf {t : Nat → Nat → Bool} {a b : Nat} {kt kf : zK d} (ha : a < 4294967296) (hb : b < 4294967296) (ht : t a b = false) (hk : kf L S h = true) : xcmp t kt kf L (zI b :: zI a :: S) h = true := by
  show cond (Nat.ble 4294967296 (Nat.lor a b)) (and (kt L S h) (kf L S h)) (cond (t a b) (kt L S h) (kf L S h)) = true
  rw [zble_n (show Nat.lor a b < 2 ^ 32 from Nat.or_lt_two_pow (n := 32) ha hb), cond_false, ht]
  exact hk
theorem go_lret {P : zP d} {a : Nat} (hk : P (zL a) h = true) : xlret P L [zL a] h = true := hk
end STEPJ
theorem zab_z {y : Nat} (h : y < 18446744073709551616) (h0 : y ≠ 0) : 1 ≤ zab y ∧ zab y ≤ 9223372036854775808 := by
  by_cases q : y < 9223372036854775808
  · rw [zab_p q]; omega
  · rw [zab_n (by omega)]; omega
theorem zremjX_s {a b : Nat} (ha : a < 18446744073709551616) (hb : b < 18446744073709551616) (hb0 : b ≠ 0) : zremjX a b < 18446744073709551616 ∧ zab (zremjX a b) < zab b := by
  obtain ⟨b1, b2⟩ := zab_z hb hb0
  have hr : zab a % zab b < zab b := Nat.mod_lt _ (by omega)
  have hlor : Nat.ble 18446744073709551616 (Nat.lor a b) = false := zble_n (show Nat.lor a b < 2 ^ 64 from Nat.or_lt_two_pow (n := 64) ha hb)
  unfold zremjX
  rw [hlor, cond_false]
  have e : Nat.mod (zab a) (zab b) = zab a % zab b := rfl
  rw [e]
  generalize zab a % zab b = r at hr ⊢
  cases Nat.ble 9223372036854775808 a
  · rw [cond_false, zab_p (show r < 9223372036854775808 by omega)]
    exact ⟨by omega, hr⟩
  · rw [cond_true]
    have e2 : Nat.mod (Nat.sub 18446744073709551616 r) 18446744073709551616 = (18446744073709551616 - r) % 18446744073709551616 := rfl
    rw [e2]
    refine ⟨Nat.mod_lt _ (by decide), ?_⟩
    by_cases q : r = 0
    · subst q
      have e3 : (18446744073709551616 - 0) % 18446744073709551616 = 0 := rfl
      rw [e3, zab_p (by decide)]
      omega
    · rw [Nat.mod_eq_of_lt (by omega), zab_n (by omega)]
      omega
theorem zlcmp_nz {y : Nat} (hy : y < 18446744073709551616) (h0 : y ≠ 0) : zlcmp y 0 = 4294967295 ∨ zlcmp y 0 = 1 := by
  unfold zlcmp
  have hlor : Nat.ble 18446744073709551616 (Nat.lor y 0) = false := zble_n (show Nat.lor y 0 < 2 ^ 64 from Nat.or_lt_two_pow (n := 64) hy (by decide))
  rw [hlor, cond_false, zbeq_n h0, cond_false]
  cases zlej y 0
  · exact Or.inr rfl
  · exact Or.inl rfl
/-- a contract by way of other numbers that stand for the same values -/
theorem zMet_exA {d : Nat} {X : zM} {y : MethodName} {fr : Nat} {f g : List zV → zH d → zP d → Bool} (hm : zMet X y fr f) (hg : ∀ (G : zGh) (cA : Nat → ClassId) (ws : va_W) (as : List zV) (av : List Value) (h : zH d) (P : zP d), g as h P = true → @zRepL G (zad cA ws) as av → ∃ (as1 : List zV) (P1 : zP d), @zRepL G (zad cA ws) as1 av ∧ f as1 h P1 = true ∧ ∀ (r : zV) (h2 : zH d), P1 r h2 = true → ∃ r3 : zV, P r3 h2 = true ∧ (r = zU → r3 = zU) ∧ ∀ (ad : zA) (x : Value), (∀ (_ : zGh), zRep ad r x) → ∀ (_ : zGh), zRep ad r3 x) : zMet X y fr g := by
  intro G C l cA D ws av as h P sz hk has hH hT
  obtain ⟨as1, P1, hr1, hf, hq⟩ := hg G cA ws as av h P hk has
  refine Met_mono (@hm G C l cA D ws av as1 h P1 sz hf hr1 hH hT) (fun _ _ z => z) (fun a s o t _ hQ => ?_) (fun _ z => z)
  obtain ⟨⟨C2, r, h2, ws2, ov, o1, o2, o3, o4, o5, o6, o7⟩, o8⟩ := hQ
  obtain ⟨r3, p1, p3, p4⟩ := hq r h2 o3
  refine ⟨⟨C2, r3, h2, ws2, ov, o1, ?_, p1, o4, o5, o6, o7⟩, o8⟩
  rcases o2 with ⟨z1, z2⟩ | ⟨x, z1, z2⟩
  · exact Or.inl ⟨z1, p3 z2⟩
  · exact Or.inr ⟨x, z1, p4 _ x z2⟩
theorem tge_lt {a b : Nat} (h : a < b) (hb : b < 2147483648) : tge a b = false := by
  unfold tge zlei
  rw [zble_n (show Nat.lor b a < 2 ^ 31 from Nat.or_lt_two_pow (n := 31) hb (by omega)), cond_false]
  exact zble_n h
section GCD
variable {d : Nat}
theorem gcd_loop {P : zP d} {h : zH d} {a b : Nat} (hP : ∀ g, g ≠ 0 → g < 18446744073709551616 → P (zL g) h = true) : ∀ (N x y fuel : Nat) (u : zV), zab y ≤ N → N < fuel → x < 18446744073709551616 → y < 18446744073709551616 → (x ≠ 0 ∨ y ≠ 0) → (u = zU ∨ ∃ r, u = zL r) → xloop (fun r17 => lX9_divisorx_17 P r17) fuel [zL a, zU, zL b, zU, zL x, zU, zL y, zU, u, zU] [] h = true := by
  intro N
  induction N with
  | zero =>
    intro x y fuel u h1 h2 h3 h4 h5 h6
    obtain ⟨m, rfl⟩ : ∃ m, fuel = m + 1 := ⟨fuel - 1, by omega⟩
    have hy : y = 0 := Classical.byContradiction (fun q => by have := (zab_z h4 q).1; omega)
    subst hy
    show lX9_divisorx_17 P (xloop (fun r17 => lX9_divisorx_17 P r17) m) [zL a, zU, zL b, zU, zL x, zU, zL 0, zU, u, zU] [] h = true
    unfold lX9_divisorx_17
    refine go_lld rfl ?_
    refine go_pL ?_
    refine go_lcmp (v := 0) rfl ?_
    refine go_ift (by decide) rfl ?_
    refine go_lld rfl ?_
    exact go_lret (hP x (h5.elim id (fun q => absurd rfl q)) h3)
  | succ N ih =>
    intro x y fuel u h1 h2 h3 h4 h5 h6
    obtain ⟨m, rfl⟩ : ∃ m, fuel = m + 1 := ⟨fuel - 1, by omega⟩
    by_cases hy : y = 0
    · subst hy
      show lX9_divisorx_17 P (xloop (fun r17 => lX9_divisorx_17 P r17) m) [zL a, zU, zL b, zU, zL x, zU, zL 0, zU, u, zU] [] h = true
      unfold lX9_divisorx_17
      refine go_lld rfl ?_
      refine go_pL ?_
      refine go_lcmp (v := 0) rfl ?_
      refine go_ift (by decide) rfl ?_
      refine go_lld rfl ?_
      exact go_lret (hP x (h5.elim id (fun q => absurd rfl q)) h3)
    · obtain ⟨s1, s2⟩ := zremjX_s h3 h4 hy
      show lX9_divisorx_17 P (xloop (fun r17 => lX9_divisorx_17 P r17) m) [zL a, zU, zL b, zU, zL x, zU, zL y, zU, u, zU] [] h = true
      unfold lX9_divisorx_17
      refine go_lld rfl ?_
      refine go_pL ?_
      refine go_lcmp (v := zlcmp y 0) rfl ?_
      refine go_iff (by rcases zlcmp_nz h4 hy with q | q <;> rw [q] <;> decide) (by rcases zlcmp_nz h4 hy with q | q <;> rw [q] <;> rfl) ?_
      refine go_lld rfl ?_
      refine go_lld rfl ?_
      refine go_remX (v := zremjX x y) hy h4 rfl ?_
      refine go_lst (L' := [zL a, zU, zL b, zU, zL x, zU, zL y, zU, zL (zremjX x y), zU]) (by rcases h6 with rfl | ⟨r, rfl⟩ <;> exact fun _ => rfl) ?_
      refine go_lld rfl ?_
      refine go_lst (L' := [zL a, zU, zL b, zU, zL y, zU, zL y, zU, zL (zremjX x y), zU]) (fun _ => rfl) ?_
      refine go_lld rfl ?_
      refine go_lst (L' := [zL a, zU, zL b, zU, zL y, zU, zL (zremjX x y), zU, zL (zremjX x y), zU]) (fun _ => rfl) ?_
      exact ih y (zremjX x y) m (zL (zremjX x y)) (by omega) (by omega) h4 s1 (Or.inl hy) (Or.inr ⟨_, rfl⟩)
noncomputable def gX_X9_divisor : List zV → zH d → zP d → Bool := fun as h P => zpL as (fun _ as => zpL as (fun b as => List.rec (motive := fun _ => Bool) (cond (Nat.ble 1 b) (cond (Nat.ble b 720) (P (zL (zjr 1 18446744073709551616)) h) false) false) (fun _ _ _ => false) as))
theorem mX_X9_divisor : zMet (d := d) X_X9_divisor yX9_divisor 1 gX_X9_divisor := zMet_exA m_X9_divisorx (fun G cA ws as av h P hg has => by
  obtain ⟨a, as1, rfl, hg1⟩ := zpL_t hg
  clear hg
  obtain ⟨b, as2, rfl, hg2⟩ := zpL_t hg1
  clear hg1
  match as2, hg2 with
  | _ :: _, hg2 => cases hg2
  | [], hg2 =>
    obtain ⟨c1, hg3⟩ := zcnd_t hg2
    obtain ⟨c2, hP⟩ := zcnd_t hg3
    have c1 := Nat.le_of_ble_eq_true c1
    have c2 := Nat.le_of_ble_eq_true c2
    obtain ⟨ia, av1, rfl, hia, has1⟩ := zRepL_L has
    obtain ⟨ib, av2, rfl, hib, has2⟩ := zRepL_L has1
    refine ⟨[zL (zj ia), zL b], fun r h2 => @decide (∃ g, g ≠ 0 ∧ g < 18446744073709551616 ∧ r = zL g ∧ h2 = h) (Classical.propDecidable _), ⟨⟨ia, rfl, zJs_e rfl⟩, ⟨ib, rfl, hib⟩, has2⟩, ?_, fun r h2 hr => ?_⟩
    · generalize hP1 : (fun r h2 => @decide (∃ g, g ≠ 0 ∧ g < 18446744073709551616 ∧ r = zL g ∧ h2 = h) (Classical.propDecidable _) : zP d) = P1
      have hQ : ∀ g, g ≠ 0 → g < 18446744073709551616 → P1 (zL g) h = true := fun g g1 g2 => by rw [← hP1]; exact @decide_eq_true _ (Classical.propDecidable _) ⟨g, g1, g2, rfl, rfl⟩
      have hjl := zj_lt ia
      generalize zj ia = x0 at hjl ⊢
      have key : ∀ x, x < 18446744073709551616 → bX9_divisorx_12 P1 [zL x0, zU, zL b, zU, zU, zU, zU, zU, zU, zU] [zL x] h = true := fun x hx => by
        unfold bX9_divisorx_12
        refine go_lst (L' := [zL x0, zU, zL b, zU, zL x, zU, zU, zU, zU, zU]) (fun _ => rfl) ?_
        refine go_lld rfl ?_
        refine go_lst (L' := [zL x0, zU, zL b, zU, zL x, zU, zL b, zU, zU, zU]) (fun _ => rfl) ?_
        exact gcd_loop hQ 720 x b 100000 zU (by rw [zab_p (by omega)]; exact c2) (by decide) hx (by omega) (Or.inr (by omega)) (Or.inl rfl)
      show b_X9_divisorx P1 [zL x0, zU, zL b, zU, zU, zU, zU, zU, zU, zU] [] h = true
      unfold b_X9_divisorx
      refine go_lld rfl ?_
      refine go_pL ?_
      refine go_lcmp (v := zlcmp x0 0) rfl ?_
      have hc : zlcmp x0 0 < 4294967296 := by
        by_cases q : x0 = 0
        · subst q; decide
        · rcases zlcmp_nz hjl q with z | z <;> rw [z] <;> decide
      refine (show xif0 t0ge (xlld 0 (bX9_divisorx_12 P1)) (xlld 0 (xunj znegj (bX9_divisorx_12 P1))) [zL x0, zU, zL b, zU, zU, zU, zU, zU, zU, zU] [zI (zlcmp x0 0)] h = true from ?_)
      refine go_ifb hc ?_ ?_
      · exact go_lld rfl (key x0 hjl)
      · refine go_lld rfl ?_
        refine go_unj (v := (18446744073709551616 - x0) % 18446744073709551616) ?_ (key _ (Nat.mod_lt _ (by decide)))
        unfold znegj
        rw [zble_n hjl]
        rfl
    · obtain ⟨g, g1, g2, rfl, rfl⟩ := @of_decide_eq_true _ (Classical.propDecidable _) hr
      refine ⟨zL (zjr 1 18446744073709551616), hP, (fun q => by cases q), fun ad x hx G' => ?_⟩
      obtain ⟨i, e1, e2⟩ := hx G'
      have e3 := e2.1 g2
      exact ⟨i, e1, zjr_ok (by omega) (zj_lt i)⟩)
/-- the class's: two hundred turns at most -/
theorem gcd_loop8 {P : zP d} {h : zH d} {a b : Nat} (hP : ∀ g, g < 18446744073709551616 → P (zL g) h = true) : ∀ (N x y i fuel : Nat) (u : zV), i + N = 200 → N < fuel → x < 18446744073709551616 → y < 18446744073709551616 → (u = zU ∨ ∃ r, u = zL r) → xloop (fun r9 => lX8_greatestDivisorx_9 P r9) fuel [zL a, zU, zL b, zU, zL x, zU, zL y, zU, zI i, u, zU] [] h = true := by
  intro N
  induction N with
  | zero =>
    intro x y i fuel u h1 h2 h3 h4 h6
    obtain ⟨m, rfl⟩ : ∃ m, fuel = m + 1 := ⟨fuel - 1, by omega⟩
    have hi : i = 200 := by omega
    subst hi
    show lX8_greatestDivisorx_9 P (xloop (fun r9 => lX8_greatestDivisorx_9 P r9) m) [zL a, zU, zL b, zU, zL x, zU, zL y, zU, zI 200, u, zU] [] h = true
    unfold lX8_greatestDivisorx_9
    refine go_ild rfl ?_
    refine go_pI ?_
    refine (show bX8_greatestDivisorx_45 P [zL a, zU, zL b, zU, zL x, zU, zL y, zU, zI 200, u, zU] [] h = true from ?_)
    unfold bX8_greatestDivisorx_45
    refine go_lld rfl ?_
    exact go_lret (hP x h3)
  | succ N ih =>
    intro x y i fuel u h1 h2 h3 h4 h6
    obtain ⟨m, rfl⟩ : ∃ m, fuel = m + 1 := ⟨fuel - 1, by omega⟩
    have hend : ∀ (u : zV), bX8_greatestDivisorx_45 P [zL a, zU, zL b, zU, zL x, zU, zL y, zU, zI i, u, zU] [] h = true := fun u => by
      unfold bX8_greatestDivisorx_45
      refine go_lld rfl ?_
      exact go_lret (hP x h3)
    show lX8_greatestDivisorx_9 P (xloop (fun r9 => lX8_greatestDivisorx_9 P r9) m) [zL a, zU, zL b, zU, zL x, zU, zL y, zU, zI i, u, zU] [] h = true
    unfold lX8_greatestDivisorx_9
    refine go_ild rfl ?_
    refine go_pI ?_
    refine go_cmpf (by omega) (by decide) ?_ ?_
    · show tge i 200 = false
      exact tge_lt (by omega) (by decide)
    refine go_lld rfl ?_
    refine go_pL ?_
    by_cases hy : y = 0
    · subst hy
      refine go_lcmp (v := 0) rfl ?_
      exact go_ift (by decide) rfl (hend u)
    · obtain ⟨s1, s2⟩ := zremjX_s h3 h4 hy
      refine go_lcmp (v := zlcmp y 0) rfl ?_
      refine go_iff (by rcases zlcmp_nz h4 hy with q | q <;> rw [q] <;> decide) (by rcases zlcmp_nz h4 hy with q | q <;> rw [q] <;> rfl) ?_
      refine go_lld rfl ?_
      refine go_lld rfl ?_
      refine go_remX (v := zremjX x y) hy h4 rfl ?_
      refine go_lst (L' := [zL a, zU, zL b, zU, zL x, zU, zL y, zU, zI i, zL (zremjX x y), zU]) (by rcases h6 with rfl | ⟨r, rfl⟩ <;> exact fun _ => rfl) ?_
      refine go_lld rfl ?_
      refine go_lst (L' := [zL a, zU, zL b, zU, zL y, zU, zL y, zU, zI i, zL (zremjX x y), zU]) (fun _ => rfl) ?_
      refine go_lld rfl ?_
      refine go_lst (L' := [zL a, zU, zL b, zU, zL y, zU, zL (zremjX x y), zU, zI i, zL (zremjX x y), zU]) (fun _ => rfl) ?_
      refine go_inc (a := i) (w := i + 1) (L' := [zL a, zU, zL b, zU, zL y, zU, zL (zremjX x y), zU, zI (i + 1), zL (zremjX x y), zU]) rfl ?_ (fun _ => rfl) ?_
      · show zk2 i 1 (Nat.mod (Nat.add i 1) 4294967296) = i + 1
        rw [zk2_e (by omega) (by decide)]
        show (i + 1) % 4294967296 = i + 1
        omega
      · exact ih y (zremjX x y) (i + 1) m (zL (zremjX x y)) (by omega) (by omega) h4 s1 (Or.inr ⟨_, rfl⟩)
noncomputable def gX_X8_greatestDivisor : List zV → zH d → zP d → Bool := fun as h P => zpL as (fun _ as => zpL as (fun _ as => List.rec (motive := fun _ => Bool) (P (zL 18446744073709551616) h) (fun _ _ _ => false) as))
theorem mX_X8_greatestDivisor : zMet (d := d) X_X8_greatestDivisor yX8_greatestDivisor 1 gX_X8_greatestDivisor := zMet_exA m_X8_greatestDivisorx (fun G cA ws as av h P hg has => by
  obtain ⟨a, as1, rfl, hg1⟩ := zpL_t hg
  clear hg
  obtain ⟨b, as2, rfl, hg2⟩ := zpL_t hg1
  clear hg1
  match as2, hg2 with
  | _ :: _, hg2 => cases hg2
  | [], hP =>
    have hP : P (zL 18446744073709551616) h = true := hP
    obtain ⟨ia, av1, rfl, hia, has1⟩ := zRepL_L has
    obtain ⟨ib, av2, rfl, hib, has2⟩ := zRepL_L has1
    refine ⟨[zL (zj ia), zL (zj ib)], fun r h2 => @decide (∃ g, g < 18446744073709551616 ∧ r = zL g ∧ h2 = h) (Classical.propDecidable _), ⟨⟨ia, rfl, zJs_e rfl⟩, ⟨ib, rfl, zJs_e rfl⟩, has2⟩, ?_, fun r h2 hr => ?_⟩
    · generalize hP1 : (fun r h2 => @decide (∃ g, g < 18446744073709551616 ∧ r = zL g ∧ h2 = h) (Classical.propDecidable _) : zP d) = P1
      have hQ : ∀ g, g < 18446744073709551616 → P1 (zL g) h = true := fun g g2 => by rw [← hP1]; exact @decide_eq_true _ (Classical.propDecidable _) ⟨g, g2, rfl, rfl⟩
      have hjl := zj_lt ia
      have hjb := zj_lt ib
      generalize zj ia = x0 at hjl ⊢
      generalize zj ib = y0 at hjb ⊢
      unfold f_X8_greatestDivisorx zfn
      generalize hbb : b_X8_greatestDivisorx P1 = bb
      show bb [zL x0, zU, zL y0, zU, zU, zU, zU, zU, zU, zU, zU] [] h = true
      rw [← hbb]
      unfold b_X8_greatestDivisorx
      refine go_lld rfl ?_
      refine go_lst (L' := [zL x0, zU, zL y0, zU, zL x0, zU, zU, zU, zU, zU, zU]) (fun _ => rfl) ?_
      refine go_lld rfl ?_
      refine go_lst (L' := [zL x0, zU, zL y0, zU, zL x0, zU, zL y0, zU, zU, zU, zU]) (fun _ => rfl) ?_
      refine go_pI ?_
      refine go_ist (L' := [zL x0, zU, zL y0, zU, zL x0, zU, zL y0, zU, zI 0, zU, zU]) (fun _ => rfl) ?_
      exact gcd_loop8 hQ 200 x0 y0 0 100000 zU rfl (by decide) hjl hjb (Or.inl rfl)
    · obtain ⟨g, g2, rfl, rfl⟩ := @of_decide_eq_true _ (Classical.propDecidable _) hr
      refine ⟨zL 18446744073709551616, hP, (fun q => by cases q), fun ad x hx G' => ?_⟩
      obtain ⟨i, e1, e2⟩ := hx G'
      exact ⟨i, e1, zJs_of (fun q => absurd q (Nat.lt_irrefl _)) (by decide)⟩)
end GCD
