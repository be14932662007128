/-! the makings, named step by step -/
noncomputable def krD (r : zV) (h : zH 10) : Bool := cond (zisU r) (zsubH h hB_lw) false
noncomputable def krC (r : Nat) (h : zH 10) : Bool := zgo 100 80000 g_X9_init_0 [zR r] h krD
noncomputable def krB (r : zV) (h : zH 10) : Bool := cond (zisU r) (cond (Nat.beq h.2.1 165) (zmk h 63 (16 + 9, 63, 0) krC) false) false
noncomputable def krA (r : Nat) (h : zH 10) : Bool := zgo 1100 82000 g_X8_init_0 [zR r] h krB
theorem ev_make2 : zmk hS_lw 8 (16 + 8, 8, 0) krA = true := by decide +kernel
theorem krA_t {r : Nat} {h : zH 10} (hk : krA r h = true) : zgo 1100 82000 g_X8_init_0 [zR r] h krB = true := hk
theorem krB_t {r : zV} {h : zH 10} (hk : krB r h = true) : r = zU ∧ h.2.1 = 165 ∧ zmk h 63 (16 + 9, 63, 0) krC = true := by
  unfold krB at hk
  obtain ⟨h1, hk1⟩ := zcnd_t hk
  obtain ⟨h2, hk2⟩ := zcnd_t hk1
  exact ⟨zisU_t h1, Nat.eq_of_beq_eq_true h2, hk2⟩
theorem krC_t {r : Nat} {h : zH 10} (hk : krC r h = true) : zgo 100 80000 g_X9_init_0 [zR r] h krD = true := hk
theorem krD_t {r : zV} {h : zH 10} (hk : krD r h = true) : r = zU ∧ zsubH h hB_lw = true := by
  unfold krD at hk
  obtain ⟨h1, hk1⟩ := zcnd_t hk
  exact ⟨zisU_t h1, hk1⟩
theorem lw_all8 : ∀ j, j < 8 → zfty 8 j = .int ∨ zisR (zfty 8 j) = true := by decide
theorem lw_all9 : ∀ j, j < 63 → zfty 9 j = .int ∨ zisR (zfty 9 j) = true := by decide +kernel
theorem hS_n : hS_lw.2.1 = 0 := rfl
theorem hS_c : hS_lw.2.2.1 = 10000 := rfl
theorem hS_s : hS_lw.2.2.2 = 1000000 := rfl
theorem lw_e0 {cA : Nat → ClassId} (Ch : zCh) : @zHp Ch 10 cA hS_lw [] := ⟨rfl, Nat.le_of_ble_eq_true rfl, fun i q h => by simp at h⟩
