/-! a run with numbers that aren't written out: a row an instruction -/
theorem znth_e : ∀ (n : Nat) {L : List zV} {v : zV} {K : zV → Bool}, L[n]? = some v → znth n L K = K v
  | _, [], _, _, h => by simp at h
  | 0, w :: L, v, K, h => by
    have e : w = v := by simpa using h
    subst e
    rfl
  | n + 1, w :: L, v, K, h => znth_e n (L := L) (v := v) (K := K) (by simpa using h)
theorem zk2_e {a b v : Nat} (ha : a < 4294967296) (hb : b < 4294967296) : zk2 a b v = v := by
  have h : Nat.lor a b < 2 ^ 32 := Nat.or_lt_two_pow (n := 32) ha hb
  have hq : Nat.ble 4294967296 (Nat.lor a b) = false := by
    cases q : Nat.ble 4294967296 (Nat.lor a b)
    · rfl
    · exact absurd (Nat.le_of_ble_eq_true q) (Nat.not_le.mpr h)
  unfold zk2
  rw [hq]
  rfl
theorem zble_n {a b : Nat} (h : b < a) : Nat.ble a b = false := by
  cases q : Nat.ble a b
  · rfl
  · exact absurd (Nat.le_of_ble_eq_true q) (by omega)
theorem zcap_e {v : Nat} (h : v < 4294967296) : zcap v = v := by
  unfold zcap
  rw [zble_n h]
  rfl
theorem zT_ext : ∀ (d : Nat) (t t' : zT d), (∀ i, i < 2 ^ d → zget d t i = zget d t' i) → t = t'
  | 0, _, _, h => h 0 (by decide)
  | d + 1, t, t', h => by
    have key : ∀ (t t' : zT d × zT d), (∀ i, i < 2 ^ (d + 1) → zget (d + 1) t i = zget (d + 1) t' i) → t = t' := by
      intro ⟨a, b⟩ ⟨a', b'⟩ h
      have h1 : a = a' := zT_ext d a a' (fun i hi => by
        have hz : cond (Nat.ble (Nat.pow 2 d) i) (zget d b (Nat.sub i (Nat.pow 2 d))) (zget d a i) = cond (Nat.ble (Nat.pow 2 d) i) (zget d b' (Nat.sub i (Nat.pow 2 d))) (zget d a' i) := h i (by rw [Nat.pow_succ]; omega)
        have e : Nat.ble (Nat.pow 2 d) i = false := zble_n hi
        rw [e] at hz
        exact hz)
      have h2 : b = b' := zT_ext d b b' (fun i hi => by
        have hz : cond (Nat.ble (Nat.pow 2 d) (i + 2 ^ d)) (zget d b (Nat.sub (i + 2 ^ d) (Nat.pow 2 d))) (zget d a (i + 2 ^ d)) = cond (Nat.ble (Nat.pow 2 d) (i + 2 ^ d)) (zget d b' (Nat.sub (i + 2 ^ d) (Nat.pow 2 d))) (zget d a' (i + 2 ^ d)) := h (i + 2 ^ d) (by rw [Nat.pow_succ]; omega)
        have e : Nat.ble (Nat.pow 2 d) (i + 2 ^ d) = true := Nat.ble_eq_true_of_le (Nat.le_add_left _ _)
        have e2 : Nat.sub (i + 2 ^ d) (Nat.pow 2 d) = i := Nat.add_sub_cancel i (2 ^ d)
        rw [e, e2] at hz
        exact hz)
      rw [h1, h2]
    exact key t t' h
section STEP
variable {d : Nat} {L S : List zV} {h : zH d} {k : zK d}
theorem go_ald {n a : Nat} (hL : L[n]? = some (zR a)) (hk : k L (zR a :: S) h = true) : xald n k L S h = true := by
  show znth n L _ = true
  rw [znth_e n hL]
  exact hk
theorem go_ild {n a : Nat} (hL : L[n]? = some (zI a)) (hk : k L (zI a :: S) h = true) : xild n k L S h = true := by
  show znth n L _ = true
  rw [znth_e n hL]
  exact hk
theorem go_ist {n a : Nat} {L' : List zV} (hL : ∀ K : List zV → Bool, zst n (zI a) L K = K L') (hk : k L' S h = true) : xist n k L (zI a :: S) h = true := by
  show zst n (zI a) L (fun L => k L S h) = true
  rw [hL]
  exact hk
theorem go_gfR {kc n i len x v : Nat} (hc : zget d h.1 i = (kc, len, x)) (hw : zwd 40 x n = v) (hv : v < 549755813888) (hk : k L (zR v :: S) h = true) : xgfR kc n k L (zR (i + 1) :: S) h = true := by
  show zat h (i + 1) (fun _ _ _ kd _ x => cond (Nat.beq kd kc) (zF (fun v => cond (Nat.ble 549755813888 v) (k L (zW (Nat.add 1152921504606846976 v) :: S) h) (k L (zR v :: S) h)) (zwd 40 x n)) false) = true
  rw [zat_eq hc]
  show cond (Nat.beq kc kc) (zF (fun v => cond (Nat.ble 549755813888 v) (k L (zW (Nat.add 1152921504606846976 v) :: S) h) (k L (zR v :: S) h)) (zwd 40 x n)) false = true
  rw [show Nat.beq kc kc = true from Nat.beq_refl kc, cond_true, zF_eq, hw, zble_n hv]
  exact hk
theorem go_gfI {kc n i len x v : Nat} (hc : zget d h.1 i = (kc, len, x)) (hw : zwd 40 x n = v) (hk : k L (zI v :: S) h = true) : xgfI kc n k L (zR (i + 1) :: S) h = true := by
  show zat h (i + 1) (fun _ _ _ kd _ x => cond (Nat.beq kd kc) (zF (fun v => k L (zI v :: S) h) (zwd 40 x n)) false) = true
  rw [zat_eq hc]
  show cond (Nat.beq kc kc) (zF (fun v => k L (zI v :: S) h) (zwd 40 x n)) false = true
  rw [show Nat.beq kc kc = true from Nat.beq_refl kc, cond_true, zF_eq, hw]
  exact hk
theorem go_al1 {i len x j v : Nat} (hc : zget d h.1 i = (0, len, x)) (hj : j < len) (hw : zwd 40 x j = v) (hk : k L (zI v :: S) h = true) : xald1 0 k L (zI j :: zR (i + 1) :: S) h = true := by
  show zat h (i + 1) (fun _ _ _ kd len x => cond (Nat.beq kd 0) (cond (Nat.ble len j) false (zF (fun v => k L (zI v :: S) h) (zwd 40 x j))) false) = true
  rw [zat_eq hc]
  show cond (Nat.ble len j) false (zF (fun v => k L (zI v :: S) h) (zwd 40 x j)) = true
  rw [zble_n hj, cond_false, zF_eq, hw]
  exact hk
theorem go_as1 {i len x j v : Nat} (hc : zget d h.1 i = (0, len, x)) (hj : j < len) (hv : v < 4294967296) (hk : k L S (zset d h.1 i (0, len, zup 40 x j v), h.2) = true) : xast1 0 (fun v => v) k L (zI v :: zI j :: zR (i + 1) :: S) h = true := by
  show zat h (i + 1) (fun t u q kd len x => cond (Nat.beq kd 0) (cond (Nat.ble len j) false (zF (fun y => zsetK d t q (kd, len, y) (fun t => k L S (t, u))) (zup 40 x j (zcap v)))) false) = true
  rw [zat_eq hc]
  show cond (Nat.ble len j) false (zF (fun y => zsetK d h.1 i (0, len, y) (fun t => k L S (t, h.2))) (zup 40 x j (zcap v))) = true
  rw [zble_n hj, cond_false, zF_eq, zsetK_eq, zcap_e hv]
  exact hk
theorem go_pfI {kc n i len x v : Nat} (hc : zget d h.1 i = (kc, len, x)) (hv : v < 4294967296) (hk : k L S (zset d h.1 i (kc, len, zup 40 x n v), h.2) = true) : xpfI kc n k L (zI v :: zR (i + 1) :: S) h = true := by
  show zat h (i + 1) (fun t u q kd len x => cond (Nat.beq kd kc) (zF (fun y => zsetK d t q (kd, len, y) (fun t => k L S (t, u))) (zup 40 x n (zcap v))) false) = true
  rw [zat_eq hc]
  show cond (Nat.beq kc kc) (zF (fun y => zsetK d h.1 i (kc, len, y) (fun t => k L S (t, h.2))) (zup 40 x n (zcap v))) false = true
  rw [show Nat.beq kc kc = true from Nat.beq_refl kc, cond_true, zF_eq, zsetK_eq, zcap_e hv]
  exact hk
theorem go_bin {z : Nat → Nat → Nat} {a b v : Nat} (hz : z a b = v) (hk : k L (zI v :: S) h = true) : xbin z k L (zI b :: zI a :: S) h = true := by
  show zF (fun v => k L (zI v :: S) h) (z a b) = true
  rw [zF_eq, hz]
  exact hk
theorem go_ift {t : Nat → Bool} {a : Nat} {kt kf : zK d} (ha : a < 4294967296) (ht : t a = true) (hk : kt L S h = true) : xif0 t kt kf L (zI a :: S) h = true := by
  show cond (Nat.ble 4294967296 a) (and (kt L S h) (kf L S h)) (cond (t a) (kt L S h) (kf L S h)) = true
  rw [zble_n ha, cond_false, ht]
  exact hk
theorem go_iff {t : Nat → Bool} {a : Nat} {kt kf : zK d} (ha : a < 4294967296) (ht : t a = false) (hk : kf L S h = true) : xif0 t kt kf L (zI a :: S) h = true := by
  show cond (Nat.ble 4294967296 a) (and (kt L S h) (kf L S h)) (cond (t a) (kt L S h) (kf L S h)) = true
  rw [zble_n ha, cond_false, ht]
  exact hk
theorem go_inc {n a v w : Nat} {L' : List zV} (hL : L[n]? = some (zI a)) (hz : zadd a v = w) (hL' : ∀ K : List zV → Bool, zst n (zI w) L K = K L') (hk : k L' S h = true) : xinc n v k L S h = true := by
  show znth n L _ = true
  rw [znth_e n hL]
  show zF (fun w => zst n (zI w) L (fun L => k L S h)) (zadd a v) = true
  rw [zF_eq, hz, hL']
  exact hk
theorem go_iret {P : zP d} {a : Nat} (ha : a < 1099511627776) (hk : P (zI a) h = true) : xiret P L [zI a] h = true := by
  show cond (Nat.ble 1099511627776 a) false (P (zI a) h) = true
  rw [zble_n ha]
  exact hk
end STEP
/-! marked cells, there and back -/
theorem zCell_mkd [zCh] {cA : Nat → ClassId} {ad : zA} {kd len x : Nat} {e : va_E} (q1 : 8 ≤ kd) (q2 : kd < 12) (hc : zCell cA ad (kd, len, x) e) : len < 2147483648 ∧ e = .inl (cA 0, len, .inl (zcF kd)) ∧ zKi zcF zcT kd len x := by
  rcases hc with ⟨g, -⟩ | ⟨g, -⟩ | ⟨-, -, g3, ⟨-, f, g5, g6, g7⟩ | ⟨g4, -⟩⟩ | ⟨-, g, -⟩ | ⟨g, -⟩
  · exact absurd (show kd < 2 from g) (by omega)
  · exact absurd (show kd = 2 from g) (by omega)
  · have g6 : f = zcF kd := g6
    subst g6
    exact ⟨g3, g5, g7⟩
  · exact absurd (show kd = 12 from g4) (by omega)
  · exact absurd (show kd < 8 from g) (by omega)
  · exact absurd (show 16 ≤ kd from g) (by omega)
theorem zCell_km [zCh] {cA : Nat → ClassId} {ad : zA} {kd len x : Nat} {f : Nat → Int32} (q1 : 8 ≤ kd) (q2 : kd < 12) (hl : len < 2147483648) (hf : f = zcF kd) (hk : zKi zcF zcT kd len x) : zCell cA ad (kd, len, x) (.inl (cA 0, len, .inl f)) :=
  Or.inr (Or.inr (Or.inl ⟨q1, show kd < 16 by omega, hl, Or.inl ⟨q2, f, rfl, hf, hk⟩⟩))
theorem zPm_c {n : Nat} {f g : Nat → Nat} (h : ∀ c, c < n → f c = g c) (hp : zPm n f) : zPm n g := fun G => by
  have e : zsum n (fun i => G (f i)) = zsum n (fun i => G (g i)) := zsum_c (fun i hi => by rw [h i hi])
  rw [← e]
  exact hp G
noncomputable def zands (l : List Bool) : Bool := List.rec (motive := fun _ => Bool) true (fun b _ r => cond b r false) l
theorem zands_c {b : Bool} {l : List Bool} (h : zands (b :: l) = true) : b = true ∧ zands l = true := zcnd_t (show cond b (zands l) false = true from h)
