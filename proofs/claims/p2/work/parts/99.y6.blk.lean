/-! blocks that lie in the heap: found, put together, taken apart, kept -/
def qB (cA : Nat → ClassId) (D : va_G) (A : Nat → Prop) (H : Heap) (own : Nat → Nat) (z : Nat) {d : Nat} (hh : zH d) (w : va_W) : Prop := (∃ Ch : zCh, @zHp Ch d (zcg cA w) hh w) ∧ va_P D zcl w H ∧ va_D A w ∧ ∀ (i : Nat) (x : Nat × va_E), w[i]? = some x → own x.1 = z
def qhd (w : va_W) (a : Nat) : Prop := ∃ e : va_E, w[0]? = some (a, e)
theorem q_mem {w1 w2 : va_W} {k : Nat} {q : Nat × va_E} (hk : (w1 ++ w2)[k]? = some q) : (k < w1.length ∧ w1[k]? = some q) ∨ (w1.length ≤ k ∧ w2[k - w1.length]? = some q) := by
  rcases Nat.lt_or_ge k w1.length with c | c
  · rw [List.getElem?_append_left c] at hk
    exact Or.inl ⟨c, hk⟩
  · rw [List.getElem?_append_right c] at hk
    exact Or.inr ⟨c, hk⟩
section QB
variable {cA cB : Nat → ClassId} {D : va_G} {A : Nat → Prop} {H H1 : Heap} {own own1 : Nat → Nat} {z z0 z1 z2 d d0 d1 d2 ds : Nat} {hh : zH d} {w w0 w1 w2 ws ws' : va_W}
theorem qB_lt (h : qB cA D A H own z hh w) {i : Nat} {x : Nat × va_E} (hx : w[i]? = some x) : x.1 < H.size := (h.2.1 i x hx).lt
theorem qB_kept (hfr : ∀ q, q < H.size → ¬ va_A ws H.size q → H1[q]? = H[q]?) (ho : ∀ (i : Nat) (x : Nat × va_E), ws[i]? = some x → own x.1 ≠ z) (h1 : ∀ q, q < H.size → own1 q = own q) (h : qB cA D A H own z hh w) : qB cA D A H1 own1 z hh w :=
  ⟨h.1, va_P_kept hfr (fun i k x y hx hy e => ho k y hy (by rw [← e]; exact h.2.2.2 i x hx)) h.2.1, h.2.2.1, fun i x hx => (h1 _ (qB_lt h hx)).trans (h.2.2.2 i x hx)⟩
def hE0 : zH 0 := (show zT 0 from (0, 0, 0), (0, (0, 0)))
theorem qB_nil : qB cA D A H own z hE0 [] := ⟨⟨⟨((fun _ _ => 0, 0) : (Nat → Nat → Int32) × Nat)⟩, rfl, Nat.zero_le _, fun i q h => by simp at h⟩, fun k q h => by simp at h, ⟨fun i j p q h => by simp at h, fun k q h => by simp at h⟩, fun i x h => by simp at h⟩
theorem q_Papp (h1 : va_P D zcl w1 H) (h2 : va_P D zcl w2 H) : va_P D zcl (w1 ++ w2) H := fun k q hk => by
  rcases q_mem hk with ⟨-, c⟩ | ⟨-, c⟩
  · exact h1 k q c
  · exact h2 _ q c
theorem q_Dapp (h1 : va_D A w1) (h2 : va_D A w2) (hd : ∀ (i j : Nat) (x y : Nat × va_E), w1[i]? = some x → w2[j]? = some y → x.1 ≠ y.1) : va_D A (w1 ++ w2) := by
  refine ⟨fun i j p q hi hj e => ?_, fun k q hk => ?_⟩
  · rcases q_mem hi with ⟨a1, b1⟩ | ⟨a1, b1⟩
    · rcases q_mem hj with ⟨a2, b2⟩ | ⟨a2, b2⟩
      · exact h1.1 i j p q b1 b2 e
      · exact absurd e (hd _ _ _ _ b1 b2)
    · rcases q_mem hj with ⟨a2, b2⟩ | ⟨a2, b2⟩
      · exact absurd e.symm (hd _ _ _ _ b2 b1)
      · have := h2.1 _ _ p q b1 b2 e
        omega
  · rcases q_mem hk with ⟨-, c⟩ | ⟨-, c⟩
    · exact h1.2 k q c
    · exact h2.2 _ q c
/-- the ghosts of three blocks together: the third's one word that isn't looked at is its first cell's first -/
def qcJ (cA : Nat → ClassId) (w0 w2 : va_W) : Nat → ClassId := fun w => if w = 549755813889 then zcg cA w2 w else zcg cA w0 w
theorem qcJ_lo : ∀ i, i < 549755813889 → qcJ cA w0 w2 i = cA i := fun i hi => by
  unfold qcJ
  rw [if_neg (by omega), zcg_lo hi]
theorem qcJ_oc {t j : Nat} (hj : j < 64) (h : 0 < 64 * t + j) : qcJ cA w0 w2 (zoc t j) = zgw w0 t j := by
  unfold qcJ
  rw [if_neg (by rw [zoc_n]; omega), zcg_gw hj]
noncomputable def zjoin (E : List (Nat × Nat)) (h0 : zH d0) (h1 : zH d1) (h2 : zH d2) (HH : zH d) : Bool := zands [Nat.beq HH.2.1 (Nat.add (Nat.add h0.2.1 h1.2.1) h2.2.1), Nat.ble HH.2.1 (Nat.pow 2 d), zjB (fun w => Nat.ble 549755813890 w) 0 E h0 HH, zjB (fun _ => false) h0.2.1 [] h1 HH, zjB (fun w => Nat.beq w 549755813889) (Nat.add h0.2.1 h1.2.1) [] h2 HH]
theorem q_join {h0 : zH d0} {h1 : zH d1} {h2 : zH d2} {HH : zH d} {E : List (Nat × Nat)} (B0 : qB cA D A H own z0 h0 w0) (B1 : qB cA D A H own z1 h1 w1) (B2 : qB cA D A H own z2 h2 w2) (n01 : z0 ≠ z1) (n02 : z0 ≠ z2) (n12 : z1 ≠ z2) (hj : zjoin E h0 h1 h2 HH = true) (hE : ∀ w v, (w, v) ∈ E → v < 549755813888 ∧ zRf (zad cA (w0 ++ w1 ++ w2)) v (zop (zcg cA w0) w)) : (∃ Ch : zCh, @zHp Ch d (qcJ cA w0 w2) HH (w0 ++ w1 ++ w2)) ∧ va_P D zcl (w0 ++ w1 ++ w2) H ∧ va_D A (w0 ++ w1 ++ w2) := by
  obtain ⟨j1, hj⟩ := zands_c hj
  obtain ⟨j2, hj⟩ := zands_c hj
  obtain ⟨j3, hj⟩ := zands_c hj
  obtain ⟨j4, hj⟩ := zands_c hj
  obtain ⟨j5, -⟩ := zands_c hj
  obtain ⟨⟨C0, H0⟩, P0, D0, O0⟩ := B0
  obtain ⟨⟨C1, H1⟩, P1, D1, O1⟩ := B1
  obtain ⟨⟨C2, H2⟩, P2, D2, O2⟩ := B2
  refine ⟨⟨C0, ?_⟩, q_Papp (q_Papp P0 P1) P2, q_Dapp (q_Dapp D0 D1 (fun i j x y hx hy e => n01 ?_)) D2 (fun i j x y hx hy e => ?_)⟩
  · refine @zHp_join C0 C0 C1 C2 d0 d1 d2 d h0 h1 h2 HH (zcg cA w0) (zcg cA w1) (zcg cA w2) (qcJ cA w0 w2) w0 w1 w2 (fun w => Nat.ble 549755813890 w) (fun _ => false) (fun w => Nat.beq w 549755813889) E H0 H1 H2 (Nat.eq_of_beq_eq_true j1) (Nat.le_of_ble_eq_true j2) (fun i hi => ?_) (fun i hi => ?_) (fun i hi => ?_) (fun w hw => ?_) (fun w hw => ?_) (fun w hw => ?_) (by decide) rfl (by decide) hE j3 j4 j5
    · rw [qcJ_lo i (by omega), zcg_lo (by omega)]
    · rw [qcJ_lo i (by omega), zcg_lo (by omega)]
    · rw [qcJ_lo i (by omega), zcg_lo (by omega)]
    · have hw : 549755813890 ≤ w := Nat.le_of_ble_eq_true hw
      unfold qcJ
      rw [if_neg (by omega)]
    · cases hw
    · have hw : w = 549755813889 := Nat.eq_of_beq_eq_true hw
      unfold qcJ
      rw [if_pos hw]
  · rw [← O0 i x hx, ← O1 j y hy, e]
  · rcases q_mem hx with ⟨-, c⟩ | ⟨-, c⟩
    · exact n02 (by rw [← O0 _ x c, ← O2 j y hy, e])
    · exact n12 (by rw [← O1 _ x c, ← O2 j y hy, e])
/-- a block of the world behind a call -/
theorem q_bk {Ch : zCh} {h : zH d} {hs : zH ds} {φ : List Nat} (hlo : ∀ i, i < 549755813889 → cB i = cA i) (hk : zsubB φ h hs = true) (hH : @zHp Ch d cB h ws) (hP : va_P D zcl ws H) (hD : va_D A ws) (ho : ∀ (p b : Nat) (x : Nat × va_E), φ[p]? = some b → ws[b]? = some x → own x.1 = z) : qB cA D A H own z hs (zsubw φ ws) := by
  have hsub := (zHp_sub hk hH).2
  obtain ⟨-, hk1⟩ := zcnd_t hk
  obtain ⟨-, hk2⟩ := zcnd_t hk1
  obtain ⟨c2, -⟩ := zcnd_t hk2
  obtain ⟨-, n2⟩ := znd_t c2
  refine ⟨⟨Ch, zHp_bk hlo hk hH⟩, fun k q hq => ?_, ⟨fun i j p q hi hj e => ?_, fun k q hq => ?_⟩, fun i x hx => ?_⟩
  · obtain ⟨b, -, g⟩ := hsub k q hq
    exact hP b q g
  · obtain ⟨b1, f1, g1⟩ := hsub i p hi
    obtain ⟨b2, f2, g2⟩ := hsub j q hj
    have eb := hD.1 b1 b2 p q g1 g2 e
    subst eb
    exact n2 i j b1 f1 f2
  · obtain ⟨b, -, g⟩ := hsub k q hq
    exact hD.2 b q g
  · obtain ⟨b, f, g⟩ := hsub i x hx
    exact ho i b x f g
theorem zPre_len {a b : zA} (h : zPre a b) (hl : b.1.length = a.1.length) : b.1 = a.1 := by
  obtain ⟨⟨t, ht⟩, -⟩ := h
  have e : t = [] := by
    have h1 := congrArg List.length ht
    rw [List.length_append] at h1
    exact List.eq_nil_of_length_eq_zero (by omega)
  rw [ht, e, List.append_nil]
/-- a reference's value hangs on the word, the ghosts and the addresses alone -/
theorem zgw_sameA {C1 C2 : zCh} {h1 : zH d} {h2 : zH d} {t kd len x j : Nat} (e1 : @zHp C1 d cB h1 ws) (e2 : @zHp C2 d cB h2 ws') (ha : (zad cB ws').1 = (zad cB ws).1) (t1 : t < h1.2.1) (t2 : t < h2.2.1) (c1 : zget d h1.1 t = (kd, len, x)) (c2 : zget d h2.1 t = (kd, len, x)) (h3 : 3 ≤ kd) (h8 : kd < 8) (hj : j < len) : zgw ws' t j = zgw ws t j := by
  rw [zgw_arr e2 t2 c2 h3 h8 hj, zgw_arr e1 t1 c1 h3 h8 hj]
  show zrvl ((zad cB ws').1, cB) _ = zrvl ((zad cB ws).1, cB) _
  rw [ha]
theorem zgw_sameO {C1 C2 : zCh} {h1 : zH d} {h2 : zH d} {t kd len x j : Nat} (e1 : @zHp C1 d cB h1 ws) (e2 : @zHp C2 d cB h2 ws') (ha : (zad cB ws').1 = (zad cB ws).1) (t1 : t < h1.2.1) (t2 : t < h2.2.1) (c1 : zget d h1.1 t = (kd, len, x)) (c2 : zget d h2.1 t = (kd, len, x)) (h16 : 16 ≤ kd) (hj : j < zN (kd - 16)) (hr : zisR (zfty (kd - 16) j) = true) : zgw ws' t j = zgw ws t j := by
  rw [zgw_ref e2 t2 c2 h16 hj hr, zgw_ref e1 t1 c1 h16 hj hr]
  show zrvl ((zad cB ws').1, cB) _ = zrvl ((zad cB ws).1, cB) _
  rw [ha]
/-- addresses of a world's cells -/
theorem zad_ix {k : Nat} {x : Nat × va_E} (hx : w[k]? = some x) : (zad cA w).1[k]? = some x.1 := by
  show (w.map (fun q => q.1))[k]? = some x.1
  rw [List.getElem?_map, hx]
  rfl
theorem zad_xi {k a : Nat} (h : (zad cA w).1[k]? = some a) : ∃ e, w[k]? = some (a, e) := zad_at h
/-- a word of the core that holds a block's first cell -/
theorem q_ent {t j v k a : Nat} {wt : va_W} (hj : j < 64) (hg : zgw w0 t j = a + 1) (ha : (zad cA wt).1[k]? = some a) (hv : v = k + 1) (hlt : v < 549755813888) : v < 549755813888 ∧ zRf (zad cA wt) v (zop (zcg cA w0) (zoc t j)) := by
  refine ⟨hlt, Or.inr ⟨k, a, hv, ha, ?_⟩⟩
  refine zop_cv (zoc_20 t j) ?_
  rw [zcg_gw hj, hg]
  rfl
theorem q_ent0 {t j : Nat} {wt : va_W} (hj : j < 64) (hg : zgw w0 t j = 0) : (0 : Nat) < 549755813888 ∧ zRf (zad cA wt) 0 (zop (zcg cA w0) (zoc t j)) := by
  refine ⟨by decide, Or.inl ⟨rfl, zop_cv (zoc_20 t j) ?_⟩⟩
  rw [zcg_gw hj, hg]
  rfl
end QB
