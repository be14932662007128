/-! marks by the shape that the object has now -/
section MK
variable {d : Nat}
/-- the partition of the shape, base 8, out of the parts' array and the object -/
def zlm (c c0 : zC) : Nat := zsum 6 (fun i => Nat.mul (zwd 40 c.2.2 (Nat.add (Nat.mul 6 (zwd 40 c0.2.2 25)) i)) (Nat.pow 8 i))
noncomputable def zlmK (L : List zV) (h : zH d) (K : Nat → Bool) : Bool := zpp 0 [] L h (fun o => zpp 0 [3] L h (fun b => zF (fun lam => cond (Nat.ble (Nat.succ lam) 1048576) (cond (Nat.ble (zpn lam) 6) (K lam) false) false) (zlm (zget d h.1 b) (zget d h.1 o))))
theorem zlmK_t {L : List zV} {h : zH d} {K : Nat → Bool} (hk : zlmK L h K = true) : ∃ lam, lam < 1048576 ∧ zpn lam ≤ 6 ∧ K lam = true := by
  obtain ⟨o, hk⟩ := zpp_t hk
  obtain ⟨b, hk⟩ := zpp_t hk
  rw [zF_eq] at hk
  obtain ⟨h1, hk⟩ := zcnd_t hk
  obtain ⟨h2, hk⟩ := zcnd_t hk
  exact ⟨_, Nat.le_of_ble_eq_true h1, Nat.le_of_ble_eq_true h2, hk⟩
noncomputable def mk8 : zWk d := fun L h K => zlmK L h (fun lam => mkA 0 [31] 8 lam 8 9 (fun len x => cond (Nat.ble (zpn lam) len) (zprm (zpn lam) x) false) L h K)
theorem mk8_ok : zMkOK (mk8 : zWk d) := fun L h K hk => by
  obtain ⟨lam, h1, h2, hk⟩ := zlmK_t hk
  exact mkA_ok (Or.inl ⟨rfl, rfl, rfl⟩) (fun F t len x a b => chk8_ok h1 (by omega) F t len x a b) L h K hk
noncomputable def mk9 : zWk d := fun L h K => zlmK L h (fun lam => mkA 0 [32] 9 lam 9 9 (fun _ _ => true) L h K)
theorem mk9_ok : zMkOK (mk9 : zWk d) := fun L h K hk => by
  obtain ⟨lam, h1, h2, hk⟩ := zlmK_t hk
  exact mkA_ok (Or.inr (Or.inl ⟨rfl, rfl, rfl⟩)) (fun F t len x a b => chk9_ok h1 F t len) L h K hk
noncomputable def mk10 : zWk d := fun L h K => zlmK L h (fun lam => mkA 0 [26] 10 lam 10 11 (fun len x => Nat.beq x (zun 40 len 4294968017)) L h K)
theorem mk10_ok : zMkOK (mk10 : zWk d) := fun L h K hk => by
  obtain ⟨lam, h1, h2, hk⟩ := zlmK_t hk
  exact mkA_ok (Or.inr (Or.inr ⟨rfl, rfl, rfl⟩)) (fun F t len x a b => chk10_ok F t len x a b) L h K hk
noncomputable def mk11 : zWk d := fun L h K => zlmK L h (fun lam => mkT 0 28 [27] lam L h K)
theorem mk11_ok : zMkOK (mk11 : zWk d) := fun L h K hk => by
  obtain ⟨lam, h1, h2, hk⟩ := zlmK_t hk
  exact mkT_ok L h K hk
/-- one less is placed -/
noncomputable def wkQ (i : Nat) (fs : List Nat) (w : zWk d) : zWk d := fun L h K => zpp i fs L h (fun b => Prod.rec (motive := fun _ => Bool) (fun kd v => Prod.rec (motive := fun _ => Bool) (fun len x => zF (fun y => zsetK d h.1 b (kd, len, y) (fun t => w L (t, h.2) K)) (Nat.sub x 1048576)) v) (zget d h.1 b))
theorem wkQ_ok {i : Nat} {fs : List Nat} {w : zWk d} (hw : zWkOK w) : zWkOK (wkQ i fs w) := fun L h K hk => by
  obtain ⟨b, hk⟩ := zpp_t hk
  generalize zget d h.1 b = e at hk
  obtain ⟨kd, len, x⟩ := e
  have hk : zF (fun y => zsetK d h.1 b (kd, len, y) (fun t => w L (t, h.2) K)) (Nat.sub x 1048576) = true := hk
  rw [zF_eq, zsetK_eq] at hk
  exact hw _ _ _ hk
end MK
theorem gfM_X9_220 [zGh] {d : Nat} {X : zM} {fr : Nat} {P : zP d} {pc : Nat} {k : zK d} (h1 : X.1 = RX9) (dg : decode X.2.1 pc = .ok (.getfield 220, 3)) (hs : zSim X fr P (pc + 3) k) : zSim X fr P pc (xgfM 25 28 k) := sm_getfieldM (ci := 9) (n := 28) (C := RX9) (T := TX9) (N := 63) rfl rfl inz9 rfl (by decide) rfl (by rw [h1]; exact wd_1046) rfl dg hs
