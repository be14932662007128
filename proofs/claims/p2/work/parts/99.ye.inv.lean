/-! what holds between two calls -/
noncomputable def qgN (g : Nat) : Nat := Nat.succ (Nat.div g 4)
noncomputable def qgP (g : Nat) : Nat := cond (Nat.beq (Nat.mod g 4) 0) 2 (cond (Nat.beq (Nat.mod g 4) 1) 3 (cond (Nat.beq (Nat.mod g 4) 2) 5 7))
noncomputable def qgS (g : Nat) : Nat := Nat.add (Nat.mul 8 (qgN g)) (qgP g)
theorem qg_b : ∀ g, g < 24 → 1 ≤ qgN g ∧ qgN g ≤ 6 ∧ qgS g < 56 := by decide
theorem qg_i : ∀ g, g < 24 → ∀ g', g' < 24 → qgS g = qgS g' → g = g' := by decide
theorem hcore_n : hcore.2.1 = 38 := rfl
noncomputable def qE (g : Nat) : List (Nat × Nat) := [(zoc 0 6, 39), (zoc 0 7, Nat.add 39 (hTf (qgN g)).2.1), (zoc 1 (qgN g), 39), (zoc 2 (qgS g), Nat.add 39 (hTf (qgN g)).2.1), (zoc 13 12, 39), (zoc 13 13, Nat.add 39 (hTf (qgN g)).2.1)]
/-- a world of the class is its three blocks -/
noncomputable def qspl (g : Nat) (hx : zH 10) : Bool := zands [Nat.beq hx.2.1 (Nat.add (Nat.add 38 (hTf (qgN g)).2.1) (hSf g).2.1), zsubB (zrng 0 38) hx hcore, zsubB (zrng 38 (hTf (qgN g)).2.1) hx (hTf (qgN g)), zsubB (zrng (Nat.add 38 (hTf (qgN g)).2.1) (hSf g).2.1) hx (hSf g)]
/-- its cells that hold references to blocks -/
noncomputable def qkd {d : Nat} (hx : zH d) : Bool := zands [Nat.beq (zget d hx.1 0).1 24, Nat.beq (zget d hx.1 0).2.1 8, Nat.beq (zget d hx.1 1).1 6, Nat.beq (zget d hx.1 1).2.1 7, Nat.beq (zget d hx.1 2).1 7, Nat.beq (zget d hx.1 2).2.1 56, Nat.beq (zget d hx.1 13).1 18, Nat.beq (zget d hx.1 13).2.1 15, Nat.beq (zget d hx.1 11).1 22, Nat.beq (zget d hx.1 11).2.1 2, Nat.beq (zwd 40 (zget d hx.1 11).2.2 1) (zoc 11 1), Nat.ble 38 hx.2.1]
noncomputable def qMis (w0 : va_W) : Nat := zsum 24 (fun g => cond (Nat.beq (zgw w0 2 (qgS g)) 0) 1 0)
def qCur (w0 : va_W) (g : Nat) : Prop := zgw w0 2 (qgS g) ≠ 0 ∧ zgw w0 0 6 = zgw w0 1 (qgN g) ∧ zgw w0 13 12 = zgw w0 1 (qgN g) ∧ zgw w0 0 7 = zgw w0 2 (qgS g) ∧ zgw w0 13 13 = zgw w0 2 (qgS g)
def qT (cA : Nat → ClassId) (D : va_G) (A : Nat → Prop) (H : Heap) (own : Nat → Nat) (w0 : va_W) : Prop := ∀ k, 1 ≤ k → k ≤ 6 → zgw w0 1 k ≠ 0 → ∃ w, qB cA D A H own (1 + k) (hTf k) w ∧ qhd w (zgw w0 1 k - 1)
def qS (cA : Nat → ClassId) (D : va_G) (A : Nat → Prop) (H : Heap) (own : Nat → Nat) (w0 : va_W) : Prop := ∀ g, g < 24 → zgw w0 2 (qgS g) ≠ 0 → zgw w0 1 (qgN g) ≠ 0 ∧ ∃ w, qB cA D A H own (8 + g) (hSf g) w ∧ qhd w (zgw w0 2 (qgS g) - 1)
def qC (cA : Nat → ClassId) (D : va_G) (A : Nat → Prop) (H : Heap) (own : Nat → Nat) (ax g : Nat) (w0 : va_W) : Prop := qB cA D A H own 0 hcore w0 ∧ qhd w0 ax ∧ qCur w0 g ∧ qT cA D A H own w0 ∧ qS cA D A H own w0
def qR (cA : Nat → ClassId) (D : va_G) (A : Nat → Prop) (H : Heap) (own : Nat → Nat) (am g : Nat) (w : va_W) : Prop := qB cA D A H own 1 (hRf g) w ∧ qhd w am
def qSame (w0 w0' : va_W) : Prop := (∀ k, k < 7 → zgw w0' 1 k = zgw w0 1 k) ∧ (∀ j, j < 56 → zgw w0' 2 j = zgw w0 2 j) ∧ zgw w0' 0 6 = zgw w0 0 6 ∧ zgw w0' 0 7 = zgw w0 0 7 ∧ zgw w0' 13 12 = zgw w0 13 12 ∧ zgw w0' 13 13 = zgw w0 13 13
theorem qSame_mis {w0 w0' : va_W} (h : qSame w0 w0') : qMis w0' = qMis w0 := zsum_c (fun g hg => by rw [h.2.1 _ (qg_b g hg).2.2])
theorem qSame_cur {w0 w0' : va_W} {g : Nat} (hg : g < 24) (h : qSame w0 w0') (hc : qCur w0 g) : qCur w0' g := by
  obtain ⟨b1, b2, b3⟩ := qg_b g hg
  obtain ⟨h1, h2, h3, h4, h5, h6⟩ := h
  obtain ⟨c1, c2, c3, c4, c5⟩ := hc
  have e1 := h1 (qgN g) (by omega)
  have e2 := h2 (qgS g) b3
  exact ⟨by rw [e2]; exact c1, by rw [h3, e1]; exact c2, by rw [h5, e1]; exact c3, by rw [h4, e2]; exact c4, by rw [h6, e2]; exact c5⟩
section INV
variable {cA cJ : Nat → ClassId} {D : va_G} {A : Nat → Prop} {H H1 : Heap} {own own1 : Nat → Nat} {ax g : Nat} {w0 w0' ws ws' : va_W} {d : Nat}
/-- the cells that hold references to blocks say the same behind a call that leaves their words -/
theorem q_same {C1 C2 : zCh} {h1 h2 : zH d} (e1 : @zHp C1 d cJ h1 ws) (e2 : @zHp C2 d cJ h2 ws') (ha : (zad cJ ws').1 = (zad cJ ws).1) (hk : qkd h1 = true) (hn : 38 ≤ h2.2.1) (hs : ∀ t, t = 0 ∨ t = 1 ∨ t = 2 ∨ t = 13 → zget d h2.1 t = zget d h1.1 t) : qSame ws ws' := by
  obtain ⟨k1, hk⟩ := zands_c hk
  obtain ⟨k2, hk⟩ := zands_c hk
  obtain ⟨k3, hk⟩ := zands_c hk
  obtain ⟨k4, hk⟩ := zands_c hk
  obtain ⟨k5, hk⟩ := zands_c hk
  obtain ⟨k6, hk⟩ := zands_c hk
  obtain ⟨k7, hk⟩ := zands_c hk
  obtain ⟨k8, hk⟩ := zands_c hk
  obtain ⟨-, hk⟩ := zands_c hk
  obtain ⟨-, hk⟩ := zands_c hk
  obtain ⟨-, hk⟩ := zands_c hk
  obtain ⟨k9, -⟩ := zands_c hk
  have hn1 : 38 ≤ h1.2.1 := Nat.le_of_ble_eq_true k9
  have c0 := zc3 k1 k2
  have c1 := zc3 k3 k4
  have c2 := zc3 k5 k6
  have c13 := zc3 k7 k8
  have f0 := (hs 0 (by omega)).trans c0
  have f1 := (hs 1 (by omega)).trans c1
  have f2 := (hs 2 (by omega)).trans c2
  have f13 := (hs 13 (by omega)).trans c13
  exact ⟨fun k hk => zgw_sameA e1 e2 ha (by omega) (by omega) c1 f1 (by decide) (by decide) hk, fun j hj => zgw_sameA e1 e2 ha (by omega) (by omega) c2 f2 (by decide) (by decide) hj, zgw_sameO e1 e2 ha (by omega) (by omega) c0 f0 (by decide) (by decide) (by decide), zgw_sameO e1 e2 ha (by omega) (by omega) c0 f0 (by decide) (by decide) (by decide), zgw_sameO e1 e2 ha (by omega) (by omega) c13 f13 (by decide) (by decide) (by decide), zgw_sameO e1 e2 ha (by omega) (by omega) c13 f13 (by decide) (by decide) (by decide)⟩
/-- blocks of other numbers stay -/
theorem qT_kept (hs : qSame w0 w0') (hfr : ∀ (d2 z2 : Nat) (h2 : zH d2) (w2 : va_W), 2 ≤ z2 → qB cA D A H own z2 h2 w2 → qB cA D A H1 own1 z2 h2 w2) (h : qT cA D A H own w0) : qT cA D A H1 own1 w0' := fun k h1 h6 hne => by
  rw [hs.1 k (by omega)] at hne ⊢
  obtain ⟨w, B, hd⟩ := h k h1 h6 hne
  exact ⟨w, hfr _ _ _ _ (by omega) B, hd⟩
theorem qS_kept (hs : qSame w0 w0') (hfr : ∀ (d2 z2 : Nat) (h2 : zH d2) (w2 : va_W), 2 ≤ z2 → qB cA D A H own z2 h2 w2 → qB cA D A H1 own1 z2 h2 w2) (h : qS cA D A H own w0) : qS cA D A H1 own1 w0' := fun g hg hne => by
  obtain ⟨b1, b2, b3⟩ := qg_b g hg
  rw [hs.2.1 _ b3] at hne ⊢
  rw [hs.1 _ (by omega)]
  obtain ⟨h0, w, B, hd⟩ := h g hg hne
  exact ⟨h0, w, hfr _ _ _ _ (by omega) B, hd⟩
end INV
