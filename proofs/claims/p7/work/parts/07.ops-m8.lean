section
/-! constants, arithmetic, branches, returns -/
section OPS
variable {d : Nat} {X : zM} {fr : Nat} {P : zP d} {pc pc' : Nat} {k kt kf : zK d}
noncomputable def xpI (v : Nat) (k : zK d) : zK d := fun L S h => k L (zI v :: S) h
noncomputable def xpL (v : Nat) (k : zK d) : zK d := fun L S h => k L (zL v :: S) h
noncomputable def xpN (k : zK d) : zK d := fun L S h => k L (zR 0 :: S) h
/-- from a stack to another, by a row of the kit -/
theorem sm_go [G : zGh] {f : zK d} (hf : ∀ (ad : zA) (L S : List zV) (h : zH d) (st : List Value), f L S h = true → zRepL ad S st → ∃ (S' : List zV) (st0 st1 rest : List Value), k L S' h = true ∧ st = st0 ++ rest ∧ zGo X pc pc' st0 st1 ∧ zRepL ad S' (st1 ++ rest)) (hs : zSim X fr P pc' k) : zSim X fr P pc f := by
  intro Ch cA D ad0 A MC MS p l e s m args below meth c ls st H locs cells slots L S h Cx hk R0
  obtain ⟨ws, hHp, hpre, hP, hD, hS, hL, hst, hcb, hsb⟩ := R0
  obtain ⟨S', st0, st1, rest, hk, rfl, hg, hst⟩ := hf _ L S h st hk hst
  exact hg Cx.1 Cx.2.1 (hs Ch cA D ad0 A MC MS p l e s m args below meth c ls _ H locs cells slots L S' h Cx hk ⟨ws, hHp, hpre, hP, hD, hS, hL, hst, hcb, hsb⟩)
theorem sm_pI [G : zGh] {v : Nat} {x : Int32} (hx : zi x = v) (hg : zGo X pc pc' [] [.int x]) (hs : zSim X fr P pc' k) : zSim X fr P pc (xpI v k) := sm_go (fun ad L S h st hk hst => ⟨zI v :: S, [], [.int x], st, hk, rfl, hg, ⟨⟨x, rfl, zIs_e hx⟩, hst⟩⟩) hs
theorem sm_iconst [G : zGh] {v : Nat} {n : Int} (dg : decode X.2.1 pc = .ok (.iconst n, 1)) (hv : zi (Int32.ofInt n) = v) (hs : zSim X fr P (pc + 1) k) : zSim X fr P pc (xpI v k) := sm_pI hv (fun hx hb kk => lv_iconst hx hb dg rfl kk) hs
theorem sm_bipush [G : zGh] {v : Nat} {n : Int} (dg : decode X.2.1 pc = .ok (.bipush n, 2)) (hv : zi (Int8.ofInt n).toInt32 = v) (hs : zSim X fr P (pc + 2) k) : zSim X fr P pc (xpI v k) := sm_pI hv (fun hx hb kk => lv_bipush hx hb dg rfl kk) hs
theorem sm_sipush [G : zGh] {v : Nat} {n : Int} (dg : decode X.2.1 pc = .ok (.sipush n, 3)) (hv : zi (Int16.ofInt n).toInt32 = v) (hs : zSim X fr P (pc + 3) k) : zSim X fr P pc (xpI v k) := sm_pI hv (fun hx hb kk => lv_sipush hx hb dg rfl kk) hs
theorem sm_lconst [G : zGh] {v : Nat} {n : Fin 2} (dg : decode X.2.1 pc = .ok (.lconst n, 1)) (hv : zj (Int64.ofNat (n : Nat)) = v) (hs : zSim X fr P (pc + 1) k) : zSim X fr P pc (xpL v k) := sm_go (fun ad L S h st hk hst => ⟨zL v :: S, [], [.long (Int64.ofNat (n : Nat))], st, hk, rfl, (fun hx hb kk => lv_lconst hx hb dg rfl kk), ⟨⟨_, rfl, zJs_e hv⟩, hst⟩⟩) hs
theorem sm_null [G : zGh] (dg : decode X.2.1 pc = .ok (.aconst_null, 1)) (hs : zSim X fr P (pc + 1) k) : zSim X fr P pc (xpN k) := sm_go (fun ad L S h st hk hst => ⟨zR 0 :: S, [], [.null], st, hk, rfl, (fun hx hb kk => lv_null hx hb dg kk), ⟨⟨none, rfl, Or.inl ⟨rfl, rfl⟩⟩, hst⟩⟩) hs
theorem sm_ldc [G : zGh] {v index : Nat} {w : Int32} (dg : decode X.2.1 pc = .ok (.ldc index, 2)) (hc : Jvm.Cond.constant X.1 index w ∈ ztbl) (hv : zi w = v) (hs : zSim X fr P (pc + 2) k) : zSim X fr P pc (xpI v k) := by
  intro Ch cA D ad0 A MC MS p l e s m args below meth c ls st H locs cells slots L S h Cx hk R0
  obtain ⟨ws, hHp, hpre, hP, hD, hS, hL, hst, hcb, hsb⟩ := R0
  exact lv_ldc Cx.1 Cx.2.1 Cx.2.2.2.1 (Cx.2.2.2.2.1 _ hc) dg (hs Ch cA D ad0 A MC MS p l e s m args below meth c ls _ H locs cells slots L _ h Cx hk ⟨ws, hHp, hpre, hP, hD, hS, hL, ⟨⟨w, rfl, zIs_e hv⟩, hst⟩, hcb, hsb⟩)
theorem sm_ldcw [G : zGh] {v index : Nat} {w : Int32} (dg : decode X.2.1 pc = .ok (.ldc_w index, 3)) (hc : Jvm.Cond.constant X.1 index w ∈ ztbl) (hv : zi w = v) (hs : zSim X fr P (pc + 3) k) : zSim X fr P pc (xpI v k) := by
  intro Ch cA D ad0 A MC MS p l e s m args below meth c ls st H locs cells slots L S h Cx hk R0
  obtain ⟨ws, hHp, hpre, hP, hD, hS, hL, hst, hcb, hsb⟩ := R0
  exact lv_ldcw Cx.1 Cx.2.1 Cx.2.2.2.1 (Cx.2.2.2.2.1 _ hc) dg (hs Ch cA D ad0 A MC MS p l e s m args below meth c ls _ H locs cells slots L _ h Cx hk ⟨ws, hHp, hpre, hP, hD, hS, hL, ⟨⟨w, rfl, zIs_e hv⟩, hst⟩, hcb, hsb⟩)
theorem sm_ldc2 [G : zGh] {v index : Nat} {w : Int64} (dg : decode X.2.1 pc = .ok (.ldc2_w index, 3)) (hc : Jvm.Cond.constantLong X.1 index w ∈ ztbl) (hv : zj w = v) (hs : zSim X fr P (pc + 3) k) : zSim X fr P pc (xpL v k) := by
  intro Ch cA D ad0 A MC MS p l e s m args below meth c ls st H locs cells slots L S h Cx hk R0
  obtain ⟨ws, hHp, hpre, hP, hD, hS, hL, hst, hcb, hsb⟩ := R0
  exact lv_ldc2 Cx.1 Cx.2.1 Cx.2.2.2.1 (Cx.2.2.2.2.1 _ hc) dg (hs Ch cA D ad0 A MC MS p l e s m args below meth c ls _ H locs cells slots L _ h Cx hk ⟨ws, hHp, hpre, hP, hD, hS, hL, ⟨⟨w, rfl, zJs_e hv⟩, hst⟩, hcb, hsb⟩)
/-- dup, pop, dup2 of values of one word -/
noncomputable def zp1 (S : List zV) (k : zV → List zV → Bool) : Bool := List.rec (motive := fun _ => Bool) false (fun v t _ => Sum.rec (motive := fun _ => Bool) (fun n => k (zI n) t) (fun u => Sum.rec (motive := fun _ => Bool) (fun n => k (zR n) t) (fun _ => false) u) v) S
theorem zp1_t [G : zGh] {S : List zV} {k : zV → List zV → Bool} (h : zp1 S k = true) : ∃ v t, S = v :: t ∧ (∀ ad x, zRep ad v x → x.category = 1) ∧ k v t = true := by
  match S, h with
  | .inl n :: t, h => exact ⟨_, t, rfl, fun ad x q => by obtain ⟨i, rfl, -⟩ := q; rfl, h⟩
  | .inr (.inl n) :: t, h => exact ⟨_, t, rfl, fun ad x q => by obtain ⟨i, rfl, -⟩ := q; cases i <;> rfl, h⟩
theorem zRepL_c [zGh] {ad : zA} {v : zV} {S : List zV} {st : List Value} (h : zRepL ad (v :: S) st) : ∃ (x : Value) (st' : List Value), st = x :: st' ∧ zRep ad v x ∧ zRepL ad S st' := by
  match st, h with
  | x :: st', ⟨h1, h2⟩ => exact ⟨x, st', rfl, h1, h2⟩
noncomputable def xdup (k : zK d) : zK d := fun L S h => zp1 S (fun v t => k L (v :: v :: t) h)
noncomputable def xpop (k : zK d) : zK d := fun L S h => zp1 S (fun _ t => k L t h)
noncomputable def xdup2 (k : zK d) : zK d := fun L S h => zp1 S (fun v t => zp1 t (fun w u => k L (v :: w :: v :: w :: u) h))
theorem sm_dup [G : zGh] (dg : decode X.2.1 pc = .ok (.dup, 1)) (hs : zSim X fr P (pc + 1) k) : zSim X fr P pc (xdup k) := sm_go (fun ad L S h st hk hst => by
  obtain ⟨v, t, rfl, hc, hk1⟩ := zp1_t hk
  obtain ⟨x, st, rfl, hx, hst⟩ := zRepL_c hst
  exact ⟨v :: v :: t, [x], [x, x], st, hk1, rfl, (fun hx1 hb kk => lv_dup hx1 hb dg (hc _ _ hx) kk), ⟨hx, hx, hst⟩⟩) hs
theorem sm_pop [G : zGh] (dg : decode X.2.1 pc = .ok (.pop, 1)) (hs : zSim X fr P (pc + 1) k) : zSim X fr P pc (xpop k) := sm_go (fun ad L S h st hk hst => by
  obtain ⟨v, t, rfl, hc, hk1⟩ := zp1_t hk
  obtain ⟨x, st, rfl, hx, hst⟩ := zRepL_c hst
  exact ⟨t, [x], [], st, hk1, rfl, (fun hx1 hb kk => lv_pop hx1 hb dg (hc _ _ hx) kk), hst⟩) hs
theorem sm_dup2 [G : zGh] (dg : decode X.2.1 pc = .ok (.dup2, 1)) (hs : zSim X fr P (pc + 1) k) : zSim X fr P pc (xdup2 k) := sm_go (fun ad L S h st hk hst => by
  obtain ⟨v, t, rfl, hc, hk1⟩ := zp1_t hk
  obtain ⟨w, u, rfl, hc2, hk2⟩ := zp1_t hk1
  obtain ⟨x, st, rfl, hx, hst⟩ := zRepL_c hst
  obtain ⟨y, st, rfl, hy, hst⟩ := zRepL_c hst
  exact ⟨v :: w :: v :: w :: u, [x, y], [x, y, x, y], st, hk2, rfl, (fun hx1 hb kk => lv_dup2_11 hx1 hb dg (hc _ _ hx) (hc2 _ _ hy) kk), ⟨hx, hy, hx, hy, hst⟩⟩) hs
/-- arithmetic -/
noncomputable def xbin (z : Nat → Nat → Nat) (k : zK d) : zK d := fun L S h => zpI S (fun b S => zpI S (fun a S => zF (fun v => k L (zI v :: S) h) (z a b)))
noncomputable def xbinN (z : Nat → Nat → Nat) (k : zK d) : zK d := fun L S h => zpI S (fun b S => zpI S (fun a S => cond (Nat.beq b 0) false (cond (Nat.ble 4294967296 b) false (zF (fun v => k L (zI v :: S) h) (z a b)))))
noncomputable def xun (z : Nat → Nat) (k : zK d) : zK d := fun L S h => zpI S (fun a S => zF (fun v => k L (zI v :: S) h) (z a))
noncomputable def xbinj (z : Nat → Nat → Nat) (k : zK d) : zK d := fun L S h => zpL S (fun b S => zpL S (fun a S => zF (fun v => k L (zL v :: S) h) (z a b)))
noncomputable def xbinjN (z : Nat → Nat → Nat) (k : zK d) : zK d := fun L S h => zpL S (fun b S => zpL S (fun a S => cond (Nat.beq b 0) false (cond (Nat.ble 18446744073709551616 b) false (zF (fun v => k L (zL v :: S) h) (z a b)))))
noncomputable def xunj (z : Nat → Nat) (k : zK d) : zK d := fun L S h => zpL S (fun a S => zF (fun v => k L (zL v :: S) h) (z a))
noncomputable def xi2l (k : zK d) : zK d := fun L S h => zpI S (fun a S => zF (fun v => k L (zL v :: S) h) (zi2l a))
noncomputable def xl2i (k : zK d) : zK d := fun L S h => zpL S (fun a S => zF (fun v => k L (zI v :: S) h) (zl2i a))
noncomputable def xlcmp (k : zK d) : zK d := fun L S h => zpL S (fun b S => zpL S (fun a S => zF (fun v => k L (zI v :: S) h) (zlcmp a b)))
theorem sm_bin [G : zGh] {z : Nat → Nat → Nat} {F : Int32 → Int32 → Int32} (hz : ∀ {a b : Nat} {x y : Int32}, (a < 4294967296 → zi x = a) → (b < 4294967296 → zi y = b) → z a b < 4294967296 → zi (F x y) = z a b) (hle : ∀ a b, z a b ≤ 4294967296) (hg : ∀ x y, zGo X pc pc' [.int y, .int x] [.int (F x y)]) (hs : zSim X fr P pc' k) : zSim X fr P pc (xbin z k) := sm_go (fun ad L S h st hk hst => by
  obtain ⟨b, S, rfl, hk1⟩ := zpI_t hk
  obtain ⟨a, S, rfl, hk2⟩ := zpI_t hk1
  obtain ⟨y, st, rfl, hy, hst⟩ := zRepL_I hst
  obtain ⟨x, st, rfl, hx, hst⟩ := zRepL_I hst
  have hk : zF (fun v => k L (zI v :: S) h) (z a b) = true := hk2
  rw [zF_eq] at hk
  exact ⟨_, [.int y, .int x], [.int (F x y)], st, hk, rfl, hg x y, ⟨⟨_, rfl, zIs_of (hz hx.1 hy.1) (hle _ _)⟩, hst⟩⟩) hs
theorem sm_binN [G : zGh] {z : Nat → Nat → Nat} {F : Int32 → Int32 → Int32} (hz : ∀ {a b : Nat} {x y : Int32}, (a < 4294967296 → zi x = a) → (b < 4294967296 → zi y = b) → z a b < 4294967296 → zi (F x y) = z a b) (hle : ∀ a b, z a b ≤ 4294967296) (hg : ∀ x y, ¬ y = 0 → zGo X pc pc' [.int y, .int x] [.int (F x y)]) (hs : zSim X fr P pc' k) : zSim X fr P pc (xbinN z k) := sm_go (fun ad L S h st hk hst => by
  obtain ⟨b, S, rfl, hk1⟩ := zpI_t hk
  obtain ⟨a, S, rfl, hk2⟩ := zpI_t hk1
  obtain ⟨y, st, rfl, hy, hst⟩ := zRepL_I hst
  obtain ⟨x, st, rfl, hx, hst⟩ := zRepL_I hst
  have hk : cond (Nat.beq b 0) false (cond (Nat.ble 4294967296 b) false (zF (fun v => k L (zI v :: S) h) (z a b))) = true := hk2
  cases h1 : Nat.beq b 0
  · cases h2 : Nat.ble 4294967296 b
    · rw [h1, h2, cond_false, cond_false, zF_eq] at hk
      have hne : ¬ y = 0 := fun q => by
        have e := hy.1 (zble_f h2)
        rw [q, zi_z] at e
        rw [← e] at h1
        cases h1
      exact ⟨_, [.int y, .int x], [.int (F x y)], st, hk, rfl, hg x y hne, ⟨⟨_, rfl, zIs_of (hz hx.1 hy.1) (hle _ _)⟩, hst⟩⟩
    · rw [h1, h2] at hk
      cases hk
  · rw [h1] at hk
    cases hk) hs
theorem sm_un [G : zGh] {z : Nat → Nat} {F : Int32 → Int32} (hz : ∀ {a : Nat} {x : Int32}, (a < 4294967296 → zi x = a) → z a < 4294967296 → zi (F x) = z a) (hle : ∀ a, z a ≤ 4294967296) (hg : ∀ x, zGo X pc pc' [.int x] [.int (F x)]) (hs : zSim X fr P pc' k) : zSim X fr P pc (xun z k) := sm_go (fun ad L S h st hk hst => by
  obtain ⟨a, S, rfl, hk2⟩ := zpI_t hk
  obtain ⟨x, st, rfl, hx, hst⟩ := zRepL_I hst
  have hk : zF (fun v => k L (zI v :: S) h) (z a) = true := hk2
  rw [zF_eq] at hk
  exact ⟨_, [.int x], [.int (F x)], st, hk, rfl, hg x, ⟨⟨_, rfl, zIs_of (hz hx.1) (hle _)⟩, hst⟩⟩) hs
theorem sm_binj [G : zGh] {z : Nat → Nat → Nat} {F : Int64 → Int64 → Int64} (hz : ∀ {a b : Nat} {x y : Int64}, (a < 18446744073709551616 → zj x = a) → (b < 18446744073709551616 → zj y = b) → z a b < 18446744073709551616 → zj (F x y) = z a b) (hle : ∀ a b, z a b < 4722366482869645213696) (hg : ∀ x y, zGo X pc pc' [.long y, .long x] [.long (F x y)]) (hs : zSim X fr P pc' k) : zSim X fr P pc (xbinj z k) := sm_go (fun ad L S h st hk hst => by
  obtain ⟨b, S, rfl, hk1⟩ := zpL_t hk
  obtain ⟨a, S, rfl, hk2⟩ := zpL_t hk1
  obtain ⟨y, st, rfl, hy, hst⟩ := zRepL_L hst
  obtain ⟨x, st, rfl, hx, hst⟩ := zRepL_L hst
  have hk : zF (fun v => k L (zL v :: S) h) (z a b) = true := hk2
  rw [zF_eq] at hk
  exact ⟨_, [.long y, .long x], [.long (F x y)], st, hk, rfl, hg x y, ⟨⟨_, rfl, zJs_of (hz hx.1 hy.1) (hle _ _)⟩, hst⟩⟩) hs
theorem zj_z : zj (0 : Int64) = 0 := by decide
theorem sm_binjN [G : zGh] {z : Nat → Nat → Nat} {F : Int64 → Int64 → Int64} (hz : ∀ {a b : Nat} {x y : Int64}, (a < 18446744073709551616 → zj x = a) → (b < 18446744073709551616 → zj y = b) → z a b < 18446744073709551616 → zj (F x y) = z a b) (hle : ∀ a b, z a b < 4722366482869645213696) (hg : ∀ x y, ¬ y = 0 → zGo X pc pc' [.long y, .long x] [.long (F x y)]) (hs : zSim X fr P pc' k) : zSim X fr P pc (xbinjN z k) := sm_go (fun ad L S h st hk hst => by
  obtain ⟨b, S, rfl, hk1⟩ := zpL_t hk
  obtain ⟨a, S, rfl, hk2⟩ := zpL_t hk1
  obtain ⟨y, st, rfl, hy, hst⟩ := zRepL_L hst
  obtain ⟨x, st, rfl, hx, hst⟩ := zRepL_L hst
  have hk : cond (Nat.beq b 0) false (cond (Nat.ble 18446744073709551616 b) false (zF (fun v => k L (zL v :: S) h) (z a b))) = true := hk2
  cases h1 : Nat.beq b 0
  · cases h2 : Nat.ble 18446744073709551616 b
    · rw [h1, h2, cond_false, cond_false, zF_eq] at hk
      have hne : ¬ y = 0 := fun q => by
        have e := hy.1 (zble_f h2)
        rw [q, zj_z] at e
        rw [← e] at h1
        cases h1
      exact ⟨_, [.long y, .long x], [.long (F x y)], st, hk, rfl, hg x y hne, ⟨⟨_, rfl, zJs_of (hz hx.1 hy.1) (hle _ _)⟩, hst⟩⟩
    · rw [h1, h2] at hk
      cases hk
  · rw [h1] at hk
    cases hk) hs
theorem sm_iadd [G : zGh] (dg : decode X.2.1 pc = .ok (.iadd, 1)) (hs : zSim X fr P (pc + 1) k) : zSim X fr P pc (xbin zadd k) := sm_bin zadd_ok zadd_le (fun _ _ => fun hx hb kk => lv_iadd hx hb dg kk) hs
theorem sm_isub [G : zGh] (dg : decode X.2.1 pc = .ok (.isub, 1)) (hs : zSim X fr P (pc + 1) k) : zSim X fr P pc (xbin zsub k) := sm_bin zsub_ok zsub_le (fun _ _ => fun hx hb kk => lv_isub hx hb dg kk) hs
theorem sm_imul [G : zGh] (dg : decode X.2.1 pc = .ok (.imul, 1)) (hs : zSim X fr P (pc + 1) k) : zSim X fr P pc (xbin zmul k) := sm_bin zmul_ok zmul_le (fun _ _ => fun hx hb kk => lv_imul hx hb dg kk) hs
theorem sm_iand [G : zGh] (dg : decode X.2.1 pc = .ok (.iand, 1)) (hs : zSim X fr P (pc + 1) k) : zSim X fr P pc (xbin zand k) := sm_bin zand_ok zand_le (fun _ _ => fun hx hb kk => lv_iand hx hb dg kk) hs
theorem sm_ior [G : zGh] (dg : decode X.2.1 pc = .ok (.ior, 1)) (hs : zSim X fr P (pc + 1) k) : zSim X fr P pc (xbin zor k) := sm_bin zor_ok zor_le (fun _ _ => fun hx hb kk => lv_ior hx hb dg kk) hs
theorem sm_ixor [G : zGh] (dg : decode X.2.1 pc = .ok (.ixor, 1)) (hs : zSim X fr P (pc + 1) k) : zSim X fr P pc (xbin zxor k) := sm_bin zxor_ok zxor_le (fun _ _ => fun hx hb kk => lv_ixor hx hb dg kk) hs
theorem sm_ishl [G : zGh] (dg : decode X.2.1 pc = .ok (.ishl, 1)) (hs : zSim X fr P (pc + 1) k) : zSim X fr P pc (xbin zshl k) := sm_bin zshl_ok zshl_le (fun _ _ => fun hx hb kk => lv_ishl hx hb dg kk) hs
theorem sm_ishr [G : zGh] (dg : decode X.2.1 pc = .ok (.ishr, 1)) (hs : zSim X fr P (pc + 1) k) : zSim X fr P pc (xbin zshr k) := sm_bin zshr_ok zshr_le (fun _ _ => fun hx hb kk => lv_ishr hx hb dg kk) hs
theorem sm_iushr [G : zGh] (dg : decode X.2.1 pc = .ok (.iushr, 1)) (hs : zSim X fr P (pc + 1) k) : zSim X fr P pc (xbin zushr k) := sm_bin zushr_ok zushr_le (fun _ _ => fun hx hb kk => lv_iushr hx hb dg rfl kk) hs
theorem sm_idiv [G : zGh] (dg : decode X.2.1 pc = .ok (.idiv, 1)) (hs : zSim X fr P (pc + 1) k) : zSim X fr P pc (xbinN zdiv k) := sm_binN zdiv_ok zdiv_le (fun _ _ hne => fun hx hb kk => lv_idiv hx hb dg hne kk) hs
theorem sm_irem [G : zGh] (dg : decode X.2.1 pc = .ok (.irem, 1)) (hs : zSim X fr P (pc + 1) k) : zSim X fr P pc (xbinN zrem k) := sm_binN zrem_ok zrem_le (fun _ _ hne => fun hx hb kk => lv_irem hx hb dg hne kk) hs
theorem sm_ineg [G : zGh] (dg : decode X.2.1 pc = .ok (.ineg, 1)) (hs : zSim X fr P (pc + 1) k) : zSim X fr P pc (xun zneg k) := sm_un zneg_ok zneg_le (fun _ => fun hx hb kk => lv_ineg hx hb dg kk) hs
theorem sm_ladd [G : zGh] (dg : decode X.2.1 pc = .ok (.ladd, 1)) (hs : zSim X fr P (pc + 1) k) : zSim X fr P pc (xbinj zaddj k) := sm_binj zaddj_ok zaddj_lt (fun _ _ => fun hx hb kk => lv_ladd hx hb dg kk) hs
theorem sm_lsub [G : zGh] (dg : decode X.2.1 pc = .ok (.lsub, 1)) (hs : zSim X fr P (pc + 1) k) : zSim X fr P pc (xbinj zsubj k) := sm_binj zsubj_ok zsubj_lt (fun _ _ => fun hx hb kk => lv_lsub hx hb dg kk) hs
theorem sm_lmul [G : zGh] (dg : decode X.2.1 pc = .ok (.lmul, 1)) (hs : zSim X fr P (pc + 1) k) : zSim X fr P pc (xbinj zmulj k) := sm_binj zmulj_ok zmulj_lt (fun _ _ => fun hx hb kk => lv_lmul hx hb dg kk) hs
theorem sm_ldiv [G : zGh] (dg : decode X.2.1 pc = .ok (.ldiv, 1)) (hs : zSim X fr P (pc + 1) k) : zSim X fr P pc (xbinjN zdivj k) := sm_binjN zdivj_ok zdivj_lt (fun _ _ hne => fun hx hb kk => lv_ldiv hx hb dg hne kk) hs
theorem sm_lrem [G : zGh] (dg : decode X.2.1 pc = .ok (.lrem, 1)) (hs : zSim X fr P (pc + 1) k) : zSim X fr P pc (xbinjN zremj k) := sm_binjN zremj_ok zremj_lt (fun _ _ hne => fun hx hb kk => lv_lrem hx hb dg hne kk) hs
theorem sm_lneg [G : zGh] (dg : decode X.2.1 pc = .ok (.lneg, 1)) (hs : zSim X fr P (pc + 1) k) : zSim X fr P pc (xunj znegj k) := sm_go (fun ad L S h st hk hst => by
  obtain ⟨a, S, rfl, hk2⟩ := zpL_t hk
  obtain ⟨x, st, rfl, hx, hst⟩ := zRepL_L hst
  have hk : zF (fun v => k L (zL v :: S) h) (znegj a) = true := hk2
  rw [zF_eq] at hk
  exact ⟨_, [.long x], [.long (-x)], st, hk, rfl, (fun hx hb kk => lv_lneg hx hb dg kk), ⟨⟨_, rfl, zJs_of (znegj_ok hx.1) (znegj_lt _)⟩, hst⟩⟩) hs
theorem sm_i2l [G : zGh] (dg : decode X.2.1 pc = .ok (.i2l, 1)) (hs : zSim X fr P (pc + 1) k) : zSim X fr P pc (xi2l k) := sm_go (fun ad L S h st hk hst => by
  obtain ⟨a, S, rfl, hk2⟩ := zpI_t hk
  obtain ⟨x, st, rfl, hx, hst⟩ := zRepL_I hst
  have hk : zF (fun v => k L (zL v :: S) h) (zi2l a) = true := hk2
  rw [zF_eq] at hk
  exact ⟨_, [.int x], [.long x.toInt64], st, hk, rfl, (fun hx hb kk => lv_i2l hx hb dg rfl kk), ⟨⟨_, rfl, zJs_of (zi2l_ok hx.1) (zi2l_lt _)⟩, hst⟩⟩) hs
theorem sm_l2i [G : zGh] (dg : decode X.2.1 pc = .ok (.l2i, 1)) (hs : zSim X fr P (pc + 1) k) : zSim X fr P pc (xl2i k) := sm_go (fun ad L S h st hk hst => by
  obtain ⟨a, S, rfl, hk2⟩ := zpL_t hk
  obtain ⟨x, st, rfl, hx, hst⟩ := zRepL_L hst
  have hk : zF (fun v => k L (zI v :: S) h) (zl2i a) = true := hk2
  rw [zF_eq] at hk
  exact ⟨_, [.long x], [.int x.toInt32], st, hk, rfl, (fun hx hb kk => lv_l2i hx hb dg rfl kk), ⟨⟨_, rfl, zIs_of (zl2i_ok hx.1) (zl2i_le _)⟩, hst⟩⟩) hs
theorem sm_lcmp [G : zGh] (dg : decode X.2.1 pc = .ok (.lcmp, 1)) (hs : zSim X fr P (pc + 1) k) : zSim X fr P pc (xlcmp k) := sm_go (fun ad L S h st hk hst => by
  obtain ⟨b, S, rfl, hk1⟩ := zpL_t hk
  obtain ⟨a, S, rfl, hk2⟩ := zpL_t hk1
  obtain ⟨y, st, rfl, hy, hst⟩ := zRepL_L hst
  obtain ⟨x, st, rfl, hx, hst⟩ := zRepL_L hst
  have hk : zF (fun v => k L (zI v :: S) h) (zlcmp a b) = true := hk2
  rw [zF_eq] at hk
  exact ⟨_, [.long y, .long x], [.int (lg_cmp x y)], st, hk, rfl, (fun hx hb kk => W.lcmp hx hb dg kk), ⟨⟨_, rfl, zIs_of (zlcmp_ok hx.1 hy.1) (zlcmp_le _ _)⟩, hst⟩⟩) hs
/-- branches: both ways where a number isn't known -/
noncomputable def xcmp (t : Nat → Nat → Bool) (kt kf : zK d) : zK d := fun L S h => zpI S (fun b S => zpI S (fun a S => cond (Nat.ble 4294967296 (Nat.lor a b)) (and (kt L S h) (kf L S h)) (cond (t a b) (kt L S h) (kf L S h))))
noncomputable def xif0 (t : Nat → Bool) (kt kf : zK d) : zK d := fun L S h => zpI S (fun a S => cond (Nat.ble 4294967296 a) (and (kt L S h) (kf L S h)) (cond (t a) (kt L S h) (kf L S h)))
def tge (a b : Nat) : Bool := zlei b a
def tle (a b : Nat) : Bool := zlei a b
def t0ge (a : Nat) : Bool := Nat.ble a 2147483647
def t0le (a : Nat) : Bool := cond (Nat.beq a 0) true (Nat.ble 2147483648 a)
def t0eq (a : Nat) : Bool := Nat.beq a 0
theorem sm_cmp [G : zGh] {t : Nat → Nat → Bool} {q : Int32 → Int32 → Prop} {tgt tgf : Nat} (ht : ∀ x y, t (zi x) (zi y) = true ↔ q x y) (row : ∀ {p : Program} {l : Launch} {e : Env} {R : Room} {s : State} {m : MethodId} {args : Array Value} {below : List Frame} {meth : Method} {c : Code} {H : Heap} {locs : List Loc} {cells slots : Nat} {Q : State → Prop} {ls : Array Slot} {rest : List Value} {x y : Int32}, p.tables.exec = Jvm.exec → c.code = X.2.1 → (q x y → W p l e R s m args below meth c H locs cells slots Q (F0 m tgt ls rest)) → (¬ q x y → W p l e R s m args below meth c H locs cells slots Q (F0 m tgf ls rest)) → W p l e R s m args below meth c H locs cells slots Q (F0 m pc ls (.int y :: .int x :: rest)))
    (h1 : zSim X fr P tgt kt) (h2 : zSim X fr P tgf kf) : zSim X fr P pc (xcmp t kt kf) := by
  intro Ch cA D ad0 A MC MS p l e s m args below meth c ls st H locs cells slots L S h Cx hk R0
  obtain ⟨ws, hHp, hpre, hP, hD, hS, hL, hst, hcb, hsb⟩ := R0
  obtain ⟨b, S, rfl, hk1⟩ := zpI_t hk
  obtain ⟨a, S, rfl, hk2⟩ := zpI_t hk1
  obtain ⟨y, st, rfl, hy, hst⟩ := zRepL_I hst
  obtain ⟨x, st, rfl, hx, hst⟩ := zRepL_I hst
  have hk : cond (Nat.ble 4294967296 (Nat.lor a b)) (and (kt L S h) (kf L S h)) (cond (t a b) (kt L S h) (kf L S h)) = true := hk2
  have key : (q x y → kt L S h = true) ∧ (¬ q x y → kf L S h = true) := by
    cases hb : Nat.ble 4294967296 (Nat.lor a b)
    · obtain ⟨c1, c2⟩ := zle32 hb
      rw [hb, cond_false] at hk
      have e1 := hx.1 c1
      have e2 := hy.1 c2
      subst e1
      subst e2
      cases hc : t (zi x) (zi y)
      · rw [hc, cond_false] at hk
        exact ⟨fun hq => (by rw [(ht x y).mpr hq] at hc; cases hc), fun _ => hk⟩
      · rw [hc, cond_true] at hk
        exact ⟨fun _ => hk, fun hq => absurd ((ht x y).mp hc) hq⟩
    · rw [hb, cond_true, Bool.and_eq_true] at hk
      exact ⟨fun _ => hk.1, fun _ => hk.2⟩
  exact row Cx.1 Cx.2.1 (fun hq => h1 Ch cA D ad0 A MC MS p l e s m args below meth c ls _ H locs cells slots L _ h Cx (key.1 hq) ⟨ws, hHp, hpre, hP, hD, hS, hL, hst, hcb, hsb⟩) (fun hq => h2 Ch cA D ad0 A MC MS p l e s m args below meth c ls _ H locs cells slots L _ h Cx (key.2 hq) ⟨ws, hHp, hpre, hP, hD, hS, hL, hst, hcb, hsb⟩)
theorem sm_if0 [G : zGh] {t : Nat → Bool} {q : Int32 → Prop} {tgt tgf : Nat} (ht : ∀ x, t (zi x) = true ↔ q x) (row : ∀ {p : Program} {l : Launch} {e : Env} {R : Room} {s : State} {m : MethodId} {args : Array Value} {below : List Frame} {meth : Method} {c : Code} {H : Heap} {locs : List Loc} {cells slots : Nat} {Q : State → Prop} {ls : Array Slot} {rest : List Value} {x : Int32}, p.tables.exec = Jvm.exec → c.code = X.2.1 → (q x → W p l e R s m args below meth c H locs cells slots Q (F0 m tgt ls rest)) → (¬ q x → W p l e R s m args below meth c H locs cells slots Q (F0 m tgf ls rest)) → W p l e R s m args below meth c H locs cells slots Q (F0 m pc ls (.int x :: rest)))
    (h1 : zSim X fr P tgt kt) (h2 : zSim X fr P tgf kf) : zSim X fr P pc (xif0 t kt kf) := by
  intro Ch cA D ad0 A MC MS p l e s m args below meth c ls st H locs cells slots L S h Cx hk R0
  obtain ⟨ws, hHp, hpre, hP, hD, hS, hL, hst, hcb, hsb⟩ := R0
  obtain ⟨a, S, rfl, hk2⟩ := zpI_t hk
  obtain ⟨x, st, rfl, hx, hst⟩ := zRepL_I hst
  have hk : cond (Nat.ble 4294967296 a) (and (kt L S h) (kf L S h)) (cond (t a) (kt L S h) (kf L S h)) = true := hk2
  have key : (q x → kt L S h = true) ∧ (¬ q x → kf L S h = true) := by
    cases hb : Nat.ble 4294967296 a
    · rw [hb, cond_false] at hk
      have e1 := hx.1 (zble_f hb)
      subst e1
      cases hc : t (zi x)
      · rw [hc, cond_false] at hk
        exact ⟨fun hq => (by rw [(ht x).mpr hq] at hc; cases hc), fun _ => hk⟩
      · rw [hc, cond_true] at hk
        exact ⟨fun _ => hk, fun hq => absurd ((ht x).mp hc) hq⟩
    · rw [hb, cond_true, Bool.and_eq_true] at hk
      exact ⟨fun _ => hk.1, fun _ => hk.2⟩
  exact row Cx.1 Cx.2.1 (fun hq => h1 Ch cA D ad0 A MC MS p l e s m args below meth c ls _ H locs cells slots L _ h Cx (key.1 hq) ⟨ws, hHp, hpre, hP, hD, hS, hL, hst, hcb, hsb⟩) (fun hq => h2 Ch cA D ad0 A MC MS p l e s m args below meth c ls _ H locs cells slots L _ h Cx (key.2 hq) ⟨ws, hHp, hpre, hP, hD, hS, hL, hst, hcb, hsb⟩)
end OPS
end
section
/-! branches one by one, loops, joins, returns -/
theorem ze_ge (x y : Int32) : tge (zi x) (zi y) = true ↔ y ≤ x := zlei_ok
theorem ze_le (x y : Int32) : tle (zi x) (zi y) = true ↔ x ≤ y := zlei_ok
theorem ze_eq (x y : Int32) : Nat.beq (zi x) (zi y) = true ↔ x = y := ⟨fun h => zi_inj (Nat.eq_of_beq_eq_true h), fun h => by rw [h, Nat.beq_refl]⟩
theorem ze_0ge (x : Int32) : t0ge (zi x) = true ↔ ¬ x < 0 := by
  unfold t0ge
  rw [zble_iff, Int32.lt_iff_toInt_lt]
  have h0 : (0 : Int32).toInt = 0 := rfl
  rw [h0]
  rcases zi_cases x with ⟨c1, c2⟩ | ⟨c1, c2⟩ <;> have := zi_lt x <;> omega
theorem ze_0le (x : Int32) : t0le (zi x) = true ↔ x ≤ 0 := by
  unfold t0le
  rw [Int32.le_iff_toInt_le]
  have h0 : (0 : Int32).toInt = 0 := rfl
  rw [h0]
  have hl := zi_lt x
  cases hb : Nat.beq (zi x) 0
  · have hne : zi x ≠ 0 := fun q => (by rw [q] at hb; cases hb)
    rw [cond_false, zble_iff]
    rcases zi_cases x with ⟨c1, c2⟩ | ⟨c1, c2⟩ <;> omega
  · have he : zi x = 0 := Nat.eq_of_beq_eq_true hb
    rw [cond_true]
    rcases zi_cases x with ⟨c1, c2⟩ | ⟨c1, c2⟩ <;> simp <;> omega
theorem ze_0eq (x : Int32) : t0eq (zi x) = true ↔ x = 0 := ⟨fun h => zi_zero.mp (Nat.eq_of_beq_eq_true h), fun h => by unfold t0eq; rw [zi_zero.mpr h]; rfl⟩
section OPS
variable {d : Nat} {X : zM} {fr : Nat} {P : zP d} {pc pc' tgt : Nat} {off : Int} {k kt kf : zK d}
theorem sm_icmp_ge [G : zGh] (dg : decode X.2.1 pc = .ok (.if_icmp .ge off, 3)) (ht : (pc : Int) + off = (tgt : Int)) (h1 : zSim X fr P tgt kt) (h2 : zSim X fr P (pc + 3) kf) : zSim X fr P pc (xcmp tge kt kf) := sm_cmp ze_ge (fun hx hb a b => lv_icmp_ge hx hb dg ht a b) h1 h2
theorem sm_icmp_lt [G : zGh] (dg : decode X.2.1 pc = .ok (.if_icmp .lt off, 3)) (ht : (pc : Int) + off = (tgt : Int)) (h1 : zSim X fr P tgt kt) (h2 : zSim X fr P (pc + 3) kf) : zSim X fr P pc (xcmp tge kf kt) := sm_cmp ze_ge (fun hx hb a b => lv_icmp_lt hx hb dg ht (fun q => b (Int32.not_le.mpr q)) (fun q => a (Int32.not_lt.mp q))) h2 h1
theorem sm_icmp_gt [G : zGh] (dg : decode X.2.1 pc = .ok (.if_icmp .gt off, 3)) (ht : (pc : Int) + off = (tgt : Int)) (h1 : zSim X fr P tgt kt) (h2 : zSim X fr P (pc + 3) kf) : zSim X fr P pc (xcmp tle kf kt) := sm_cmp ze_le (fun hx hb a b => lv_icmp_gt hx hb dg ht (fun q => b (Int32.not_le.mpr q)) (fun q => a (Int32.not_lt.mp q))) h2 h1
theorem sm_icmp_le [G : zGh] (dg : decode X.2.1 pc = .ok (.if_icmp .le off, 3)) (ht : (pc : Int) + off = (tgt : Int)) (h1 : zSim X fr P tgt kt) (h2 : zSim X fr P (pc + 3) kf) : zSim X fr P pc (xcmp tle kt kf) := sm_cmp ze_le (fun hx hb a b => lv_icmp_le hx hb dg ht a b) h1 h2
theorem sm_icmp_eq [G : zGh] (dg : decode X.2.1 pc = .ok (.if_icmp .eq off, 3)) (ht : (pc : Int) + off = (tgt : Int)) (h1 : zSim X fr P tgt kt) (h2 : zSim X fr P (pc + 3) kf) : zSim X fr P pc (xcmp Nat.beq kt kf) := sm_cmp ze_eq (fun hx hb a b => lv_icmp_eq hx hb dg ht a b) h1 h2
theorem sm_icmp_ne [G : zGh] (dg : decode X.2.1 pc = .ok (.if_icmp .ne off, 3)) (ht : (pc : Int) + off = (tgt : Int)) (h1 : zSim X fr P tgt kt) (h2 : zSim X fr P (pc + 3) kf) : zSim X fr P pc (xcmp Nat.beq kf kt) := sm_cmp ze_eq (fun hx hb a b => lv_icmp_ne hx hb dg ht b (fun q => a q)) h2 h1
theorem sm_if_ge [G : zGh] (dg : decode X.2.1 pc = .ok (.ifCond .ge off, 3)) (ht : (pc : Int) + off = (tgt : Int)) (h1 : zSim X fr P tgt kt) (h2 : zSim X fr P (pc + 3) kf) : zSim X fr P pc (xif0 t0ge kt kf) := sm_if0 ze_0ge (fun hx hb a b => lv_if_ge hx hb dg ht (fun q => a (Int32.not_lt.mpr q)) (fun q => b (fun z => q (Int32.not_lt.mp z)))) h1 h2
theorem sm_if_lt [G : zGh] (dg : decode X.2.1 pc = .ok (.ifCond .lt off, 3)) (ht : (pc : Int) + off = (tgt : Int)) (h1 : zSim X fr P tgt kt) (h2 : zSim X fr P (pc + 3) kf) : zSim X fr P pc (xif0 t0ge kf kt) := sm_if0 ze_0ge (fun hx hb a b => lv_if_lt hx hb dg ht (fun q => b (fun z => z q)) (fun q => a q)) h2 h1
theorem sm_if_le [G : zGh] (dg : decode X.2.1 pc = .ok (.ifCond .le off, 3)) (ht : (pc : Int) + off = (tgt : Int)) (h1 : zSim X fr P tgt kt) (h2 : zSim X fr P (pc + 3) kf) : zSim X fr P pc (xif0 t0le kt kf) := sm_if0 ze_0le (fun hx hb a b => lv_if_le hx hb dg ht a b) h1 h2
theorem sm_if_gt [G : zGh] (dg : decode X.2.1 pc = .ok (.ifCond .gt off, 3)) (ht : (pc : Int) + off = (tgt : Int)) (h1 : zSim X fr P tgt kt) (h2 : zSim X fr P (pc + 3) kf) : zSim X fr P pc (xif0 t0le kf kt) := sm_if0 ze_0le (fun hx hb a b => lv_if_gt hx hb dg ht (fun q => b (Int32.not_le.mpr q)) (fun q => a (Int32.not_lt.mp q))) h2 h1
theorem sm_if_eq [G : zGh] (dg : decode X.2.1 pc = .ok (.ifCond .eq off, 3)) (ht : (pc : Int) + off = (tgt : Int)) (h1 : zSim X fr P tgt kt) (h2 : zSim X fr P (pc + 3) kf) : zSim X fr P pc (xif0 t0eq kt kf) := sm_if0 ze_0eq (fun hx hb a b => lv_if_eq hx hb dg ht a b) h1 h2
theorem sm_if_ne [G : zGh] (dg : decode X.2.1 pc = .ok (.ifCond .ne off, 3)) (ht : (pc : Int) + off = (tgt : Int)) (h1 : zSim X fr P tgt kt) (h2 : zSim X fr P (pc + 3) kf) : zSim X fr P pc (xif0 t0eq kf kt) := sm_if0 ze_0eq (fun hx hb a b => lv_if_ne hx hb dg ht b (fun q => a q)) h2 h1
theorem sm_goto [G : zGh] (dg : decode X.2.1 pc = .ok (.goto off, 3)) (ht : (pc : Int) + off = (tgt : Int)) (hs : zSim X fr P tgt k) : zSim X fr P pc k := by
  intro Ch cA D ad0 A MC MS p l e s m args below meth c ls st H locs cells slots L S h Cx hk R0
  exact lv_goto Cx.1 Cx.2.1 dg ht (hs Ch cA D ad0 A MC MS p l e s m args below meth c ls st H locs cells slots L S h Cx hk R0)
noncomputable def xnn (kt kf : zK d) : zK d := fun L S h => zpR S (fun a S => cond (Nat.beq a 0) (kf L S h) (kt L S h))
theorem sm_ifnonnull [G : zGh] (dg : decode X.2.1 pc = .ok (.ifnonnull off, 3)) (ht : (pc : Int) + off = (tgt : Int)) (h1 : zSim X fr P tgt kt) (h2 : zSim X fr P (pc + 3) kf) : zSim X fr P pc (xnn kt kf) := by
  intro Ch cA D ad0 A MC MS p l e s m args below meth c ls st H locs cells slots L S h Cx hk R0
  obtain ⟨ws, hHp, hpre, hP, hD, hS, hL, hst, hcb, hsb⟩ := R0
  obtain ⟨a, S, rfl, hk1⟩ := zpR_t hk
  obtain ⟨x, st, rfl, hx, hst2⟩ := zRepL_R hst
  have hk2 : cond (Nat.beq a 0) (kf L S h) (kt L S h) = true := hk1
  rcases hx with ⟨rfl, rfl⟩ | ⟨j, b, rfl, hb, rfl⟩
  · exact lv_ifnonnullN Cx.1 Cx.2.1 dg (h2 Ch cA D ad0 A MC MS p l e s m args below meth c ls _ H locs cells slots L _ h Cx hk2 ⟨ws, hHp, hpre, hP, hD, hS, hL, hst2, hcb, hsb⟩)
  · exact lv_ifnonnull Cx.1 Cx.2.1 dg ht (h1 Ch cA D ad0 A MC MS p l e s m args below meth c ls _ H locs cells slots L _ h Cx hk2 ⟨ws, hHp, hpre, hP, hD, hS, hL, hst2, hcb, hsb⟩)
/-- a loop's head, with fuel; a join -/
noncomputable def xloop (body : zK d → zK d) (fuel : Nat) : zK d := Nat.rec (motive := fun _ => zK d) (fun _ _ _ => false) (fun _ r => body r) fuel
theorem sm_loop [G : zGh] {body : zK d → zK d} (hb : ∀ r, zSim X fr P pc r → zSim X fr P pc (body r)) : ∀ fuel, zSim X fr P pc (xloop body fuel)
  | 0 => by
    intro Ch cA D ad0 A MC MS p l e s m args below meth c ls st H locs cells slots L S h Cx hk R0
    cases hk
  | n + 1 => hb _ (sm_loop hb n)
noncomputable def xjoin (c : zK d) (f : zK d → zK d) : zK d := f c
theorem sm_join [G : zGh] {c : zK d} {f : zK d → zK d} (hc : zSim X fr P pc' c) (hf : ∀ r, zSim X fr P pc' r → zSim X fr P pc (f r)) : zSim X fr P pc (xjoin c f) := hf c hc
/-- returns -/
noncomputable def xiret (P : zP d) : zK d := fun _ S h => zpI S (fun a T => List.rec (motive := fun _ => Bool) (cond (Nat.ble 1099511627776 a) false (P (zI a) h)) (fun _ _ _ => false) T)
noncomputable def xzret (P : zP d) : zK d := fun _ S h => zpI S (fun a T => List.rec (motive := fun _ => Bool) (cond (Nat.ble 2 a) false (P (zI a) h)) (fun _ _ _ => false) T)
noncomputable def xlret (P : zP d) : zK d := fun _ S h => zpL S (fun a T => List.rec (motive := fun _ => Bool) (P (zL a) h) (fun _ _ _ => false) T)
noncomputable def xaret (P : zP d) : zK d := fun _ S h => zpR S (fun a T => List.rec (motive := fun _ => Bool) (P (zR a) h) (fun _ _ _ => false) T)
noncomputable def xvret (P : zP d) : zK d := fun _ S h => List.rec (motive := fun _ => Bool) (P zU h) (fun _ _ _ => false) S
theorem zvaF {A : Nat → Prop} {s t : State} {H : Heap} {locs : List Loc} (hS : va_S A s.heap H locs) (ht : t.heap = H) : va_F A s t := ⟨by rw [ht]; exact hS.1, fun q h1 h2 => by rw [ht]; exact hS.2.1 q h1 h2⟩
theorem sm_ireturn [G : zGh] (dg : decode X.2.1 pc = .ok (.ireturn, 1)) (hr : X.2.2.2.1 = some .int) : zSim X fr P pc (xiret P) := by
  intro Ch cA D ad0 A MC MS p l e s m args below meth c ls st H locs cells slots L S h Cx hk R0
  obtain ⟨ws, hHp, hpre, hP, hD, hS, hL, hst, hcb, hsb⟩ := R0
  obtain ⟨a, T, rfl, hk1⟩ := zpI_t hk
  obtain ⟨x, st, rfl, hx, hst⟩ := zRepL_I hst
  match T, st, hk1, hst with
  | [], [], hk1, _ =>
    have hk1 : cond (Nat.ble 1099511627776 a) false (P (zI a) h) = true := hk1
    cases hb : Nat.ble 1099511627776 a
    case true => rw [hb] at hk1; cases hk1
    rw [hb, cond_false] at hk1
    refine W.widen (k := MC) (n := MS) (by omega) (by omega) ?_
    exact W.iret Cx.1 Cx.2.1 (by rw [Cx.2.2.2.2.2.2.2.1]; exact hr) (fun t ht _ => ⟨⟨Ch, zI a, h, ws, _, rfl, Or.inr ⟨_, rfl, fun G1 => ⟨x, rfl, zIs_any (G := G) hx (zble_f hb) G1⟩⟩, hk1, hHp, hpre, by rw [ht]; exact hP, hD⟩, zvaF hS ht⟩) hS.2.2 dg Cx.2.2.2.2.2.2.2.2.1.1
theorem zi_bool {a : Nat} {x : Int32} (hx : a < 4294967296 → zi x = a) (h : Nat.ble 2 a = false) : x = 0 ∨ x = 1 := by
  have h1 := zble_f h
  have e := hx (by omega)
  rcases (show a = 0 ∨ a = 1 by omega) with rfl | rfl
  · exact Or.inl (zi_inj (by rw [e]; rfl))
  · exact Or.inr (zi_inj (by rw [e]; rfl))
theorem sm_zreturn [G : zGh] (dg : decode X.2.1 pc = .ok (.ireturn, 1)) (hr : X.2.2.2.1 = some .boolean) : zSim X fr P pc (xzret P) := by
  intro Ch cA D ad0 A MC MS p l e s m args below meth c ls st H locs cells slots L S h Cx hk R0
  obtain ⟨ws, hHp, hpre, hP, hD, hS, hL, hst, hcb, hsb⟩ := R0
  obtain ⟨a, T, rfl, hk1⟩ := zpI_t hk
  obtain ⟨x, st, rfl, hx, hst⟩ := zRepL_I hst
  match T, st, hk1, hst with
  | [], [], hk1, _ =>
    have hk1 : cond (Nat.ble 2 a) false (P (zI a) h) = true := hk1
    cases hb : Nat.ble 2 a
    · rw [hb, cond_false] at hk1
      refine W.widen (k := MC) (n := MS) (by omega) (by omega) ?_
      exact W.zret (ty := .boolean) Cx.1 Cx.2.1 (by rw [Cx.2.2.2.2.2.2.2.1]; exact hr) (by rcases zi_bool hx.1 hb with rfl | rfl <;> rfl) (fun t ht _ => ⟨⟨Ch, zI a, h, ws, _, rfl, Or.inr ⟨_, rfl, fun G1 => ⟨x, rfl, zIs_any (G := G) hx (by have := zble_f hb; omega) G1⟩⟩, hk1, hHp, hpre, by rw [ht]; exact hP, hD⟩, zvaF hS ht⟩) hS.2.2 dg Cx.2.2.2.2.2.2.2.2.1.1
    · rw [hb] at hk1
      cases hk1
theorem sm_lreturn [G : zGh] (dg : decode X.2.1 pc = .ok (.lreturn, 1)) (hr : X.2.2.2.1 = some .long) : zSim X fr P pc (xlret P) := by
  intro Ch cA D ad0 A MC MS p l e s m args below meth c ls st H locs cells slots L S h Cx hk R0
  obtain ⟨ws, hHp, hpre, hP, hD, hS, hL, hst, hcb, hsb⟩ := R0
  obtain ⟨a, T, rfl, hk1⟩ := zpL_t hk
  obtain ⟨x, st, rfl, hx, hst⟩ := zRepL_L hst
  match T, st, hk1, hst with
  | [], [], hk1, _ =>
    refine W.widen (k := MC) (n := MS) (by omega) (by omega) ?_
    exact W.lret Cx.1 Cx.2.1 (by rw [Cx.2.2.2.2.2.2.2.1]; exact hr) (fun t ht _ => ⟨⟨Ch, zL a, h, ws, _, rfl, Or.inr ⟨_, rfl, fun _ => ⟨x, rfl, hx⟩⟩, hk1, hHp, hpre, by rw [ht]; exact hP, hD⟩, zvaF hS ht⟩) hS.2.2 dg Cx.2.2.2.2.2.2.2.2.1.1
theorem sm_areturn [G : zGh] {rt : FieldType} (dg : decode X.2.1 pc = .ok (.areturn, 1)) (hr : X.2.2.2.1 = some rt) (hrt : (∃ n, rt = .object n) ∨ ∃ t, rt = .array t) : zSim X fr P pc (xaret P) := by
  intro Ch cA D ad0 A MC MS p l e s m args below meth c ls st H locs cells slots L S h Cx hk R0
  obtain ⟨ws, hHp, hpre, hP, hD, hS, hL, hst, hcb, hsb⟩ := R0
  obtain ⟨a, T, rfl, hk1⟩ := zpR_t hk
  obtain ⟨x, st, rfl, hx, hst⟩ := zRepL_R hst
  match T, st, hk1, hst with
  | [], [], hk1, _ =>
    refine W.widen (k := MC) (n := MS) (by omega) (by omega) ?_
    exact W.aret Cx.1 Cx.2.1 (by rw [Cx.2.2.2.2.2.2.2.1]; exact hr) hrt (by cases x with
      | none => exact Or.inl rfl
      | some b => exact Or.inr ⟨b, rfl⟩) (fun t ht _ => ⟨⟨Ch, zR a, h, ws, _, rfl, Or.inr ⟨_, rfl, fun _ => ⟨x, rfl, hx⟩⟩, hk1, hHp, hpre, by rw [ht]; exact hP, hD⟩, zvaF hS ht⟩) hS.2.2 dg Cx.2.2.2.2.2.2.2.2.1.1
theorem sm_vreturn [G : zGh] (dg : decode X.2.1 pc = .ok (.return_, 1)) (hr : X.2.2.2.1 = none) : zSim X fr P pc (xvret P) := by
  intro Ch cA D ad0 A MC MS p l e s m args below meth c ls st H locs cells slots L S h Cx hk R0
  obtain ⟨ws, hHp, hpre, hP, hD, hS, hL, hst, hcb, hsb⟩ := R0
  match S, st, hk, hst with
  | [], [], hk1, _ =>
    refine W.widen (k := MC) (n := MS) (by omega) (by omega) ?_
    exact W.vret Cx.1 Cx.2.1 (by rw [Cx.2.2.2.2.2.2.2.1]; exact hr) (fun t ht _ => ⟨⟨Ch, zU, h, ws, _, rfl, Or.inl ⟨rfl, rfl⟩, hk1, hHp, hpre, by rw [ht]; exact hP, hD⟩, zvaF hS ht⟩) hS.2.2 dg Cx.2.2.2.2.2.2.2.2.1.1
end OPS
end
section
/-! the heap: fields and arrays, read and written -/
theorem zgx {ad : zA} {r a : Nat} (h : zRf ad r (some a)) : ∃ i, r = i + 1 ∧ ad.1[i]? = some a := by
  rcases h with ⟨-, h⟩ | ⟨k, b, h1, h2, h3⟩
  · cases h
  · cases h3
    exact ⟨k, h1, h2⟩
theorem zad_at {cA : Nat → ClassId} {ws : va_W} {i a : Nat} (h : (zad cA ws).1[i]? = some a) : ∃ e, ws[i]? = some (a, e) := by
  have h : (ws.map (fun q => q.1))[i]? = some a := h
  rw [List.getElem?_map] at h
  obtain ⟨q, h1, h2⟩ := Option.map_eq_some_iff.mp h
  exact ⟨q.2, by rw [h1, ← h2]⟩
/-- a cell by its reference -/
noncomputable def zat {d : Nat} (h : zH d) (r : Nat) (K : zT d → (Nat × (Nat × Nat)) → Nat → Nat → Nat → Nat → Bool) : Bool := Nat.rec (motive := fun _ => Bool) false (fun i _ => Prod.rec (motive := fun _ => Bool) (fun t u => Prod.rec (motive := fun _ => Bool) (fun kd v => Prod.rec (motive := fun _ => Bool) (fun len x => K t u i kd len x) v) (zget d t i)) h) r
theorem zat_t {d : Nat} {h : zH d} {r : Nat} {K : zT d → (Nat × (Nat × Nat)) → Nat → Nat → Nat → Nat → Bool} (hk : zat h r K = true) : ∃ i kd len x, r = i + 1 ∧ zget d h.1 i = (kd, len, x) ∧ K h.1 h.2 i kd len x = true := by
  cases r with
  | zero => cases hk
  | succ i =>
    obtain ⟨t, u⟩ := h
    have h2 : Prod.rec (motive := fun _ => Bool) (fun kd v => Prod.rec (motive := fun _ => Bool) (fun len x => K t u i kd len x) v) (zget d t i) = true := hk
    generalize hc : zget d t i = c at h2
    obtain ⟨kd, len, x⟩ := c
    exact ⟨i, kd, len, x, rfl, hc, h2⟩
/-- what stands there -/
theorem zat_w [zCh] {d : Nat} {cA : Nat → ClassId} {h : zH d} {ws : va_W} (hH : zHp cA h ws) {i : Nat} {o : Option Nat} (hr : zRf (zad cA ws) (i + 1) o) : ∃ a e, o = some a ∧ ws[i]? = some (a, e) ∧ zCell cA (zad cA ws) (zget d h.1 i) e := by
  rcases hr with ⟨h1, -⟩ | ⟨k, b, h1, h2, h3⟩
  · cases h1
  · cases h1
    obtain ⟨e, he⟩ := zad_at h2
    exact ⟨b, e, h3, he, hH.2.2 _ _ he⟩
theorem zCell_obj [zCh] {cA : Nat → ClassId} {ad : zA} {kd len x ci : Nat} {e : va_E} (h : zCell cA ad (kd, len, x) e) (hk : kd = 16 + ci) : ∃ fs : List Value, e = .inr (ci, fs) ∧ fs.length = zN ci ∧ ∀ k v, fs[k]? = some v → zFl ad ci k (zwd 40 x k) v := by
  subst hk
  rcases h with ⟨h, -⟩ | ⟨h, -⟩ | ⟨-, h, -⟩ | ⟨-, h, -⟩ | ⟨-, fs, h2, h3, h4⟩
  · exact absurd (show 16 + ci < 2 from h) (by omega)
  · exact absurd (show 16 + ci = 2 from h) (by omega)
  · exact absurd (show 16 + ci < 16 from h) (by omega)
  · exact absurd (show 16 + ci < 8 from h) (by omega)
  · have e1 : (16 + ci, len, x).1 - 16 = ci := Nat.add_sub_cancel_left 16 ci
    rw [e1] at h2 h3 h4
    exact ⟨fs, h2, h3, h4⟩
theorem zCell_i [zCh] {cA : Nat → ClassId} {ad : zA} {kd len x : Nat} {e : va_E} (h : zCell cA ad (kd, len, x) e) (hk : kd < 2) : len < 2147483648 ∧ ∃ f : Nat → Int32, e = .inl (cA kd, len, .inl f) ∧ zAI len x f := by
  rcases h with ⟨-, h⟩ | ⟨h, -⟩ | ⟨h, -⟩ | ⟨h, -⟩ | ⟨h, -⟩
  · exact h
  · exact absurd (show kd = 2 from h) (by omega)
  · exact absurd (show 8 ≤ kd from h) (by omega)
  · exact absurd (show 3 ≤ kd from h) (by omega)
  · exact absurd (show 16 ≤ kd from h) (by omega)
theorem zCell_j [zCh] {cA : Nat → ClassId} {ad : zA} {len x : Nat} {e : va_E} (h : zCell cA ad (2, len, x) e) : len < 2147483648 ∧ ∃ f : Nat → Int64, e = .inl (cA 2, len, .inr (.inl f)) ∧ zAJ len x f := by
  rcases h with ⟨h, -⟩ | ⟨-, h⟩ | ⟨h, -⟩ | ⟨h, -⟩ | ⟨h, -⟩
  · exact absurd (show (2 : Nat) < 2 from h) (by omega)
  · exact h
  · exact absurd (show 8 ≤ 2 from h) (by omega)
  · exact absurd (show 3 ≤ 2 from h) (by omega)
  · exact absurd (show 16 ≤ 2 from h) (by omega)
theorem zCell_r [zCh] {cA : Nat → ClassId} {ad : zA} {kd len x : Nat} {e : va_E} (h : zCell cA ad (kd, len, x) e) (hk : 3 ≤ kd) (hk2 : kd < 8) : len < 2147483648 ∧ ∃ f : Nat → Option Nat, e = .inl (cA kd, len, .inr (.inr (.inr (.inr f)))) ∧ zAR ad len x f := by
  rcases h with ⟨h, -⟩ | ⟨h, -⟩ | ⟨h, -⟩ | ⟨-, -, h⟩ | ⟨h, -⟩
  · exact absurd (show kd < 2 from h) (by omega)
  · exact absurd (show kd = 2 from h) (by omega)
  · exact absurd (show 8 ≤ kd from h) (by omega)
  · exact h
  · exact absurd (show 16 ≤ kd from h) (by omega)
theorem zad_set {cA : Nat → ClassId} {ws : va_W} {q0 a : Nat} {e e' : va_E} (hq : ws[q0]? = some (a, e)) : zad cA (ws.set q0 (a, e')) = zad cA ws := by
  show ((ws.set q0 (a, e')).map (fun q => q.1), cA) = (ws.map (fun q => q.1), cA)
  congr 1
  rw [List.map_set]
  apply List.ext_getElem?
  intro j
  rw [List.getElem?_set]
  by_cases hj : q0 = j
  · subst hj
    have hl := (List.getElem?_eq_some_iff.mp hq).1
    rw [if_pos rfl, if_pos (by rw [List.length_map]; exact hl), List.getElem?_map, hq]
    rfl
  · rw [if_neg hj]
theorem zHp_set [zCh] {d : Nat} {cA : Nat → ClassId} {h : zH d} {ws : va_W} (hH : zHp cA h ws) {q0 a : Nat} {e e' : va_E} (hq : ws[q0]? = some (a, e)) {c' : zC} (hc : zCell cA (zad cA ws) c' e') : zHp cA (zset d h.1 q0 c', h.2) (ws.set q0 (a, e')) := by
  have hl := (List.getElem?_eq_some_iff.mp hq).1
  have hlt : q0 < 2 ^ d := Nat.lt_of_lt_of_le (by rw [← hH.1]; exact hl) hH.2.1
  refine ⟨by rw [List.length_set]; exact hH.1, hH.2.1, fun i q hi => ?_⟩
  rw [zad_set hq]
  rw [List.getElem?_set] at hi
  by_cases hj : q0 = i
  · subst hj
    rw [if_pos rfl, if_pos hl] at hi
    cases hi
    show zCell cA (zad cA ws) (zget d (zset d h.1 q0 c') q0) e'
    rw [zget_set_same d _ _ _ hlt]
    exact hc
  · rw [if_neg hj] at hi
    have hli := (List.getElem?_eq_some_iff.mp hi).1
    show zCell cA (zad cA ws) (zget d (zset d h.1 q0 c') i) q.2
    rw [zget_set_ne d _ _ _ _ hlt (Nat.lt_of_lt_of_le (by rw [← hH.1]; exact hli) hH.2.1) hj]
    exact hH.2.2 i q hi
theorem zi_idx {i : Int32} {a len : Nat} (hi : a < 4294967296 → zi i = a) (hlen : len < 2147483648) (h : Nat.ble len a = false) : vp_in i len ∧ i.toNatClampNeg = a ∧ a < len := by
  have h1 := zble_f h
  have e := hi (by omega)
  have h2 : i.toInt = (a : Int) := by
    rcases zi_cases i with ⟨c1, c2⟩ | ⟨c1, c2⟩ <;> omega
  have h3 : i.toNatClampNeg = a := by
    show i.toInt.toNat = a
    omega
  refine ⟨vp_in_iff.mpr ⟨by omega, by omega⟩, h3, h1⟩
def zcap (v : Nat) : Nat := cond (Nat.ble 4294967296 v) (cond (Nat.ble 274877906944 (Nat.mod v 1099511627776)) 4294967296 (cond (Nat.ble (Nat.mod v 1099511627776) 4294967296) 4294967296 (Nat.mod v 1099511627776))) v
def zcapj (v : Nat) : Nat := cond (Nat.ble 18446744073709551616 v) 18446744073709551616 v
theorem zcap_lt (v : Nat) : zcap v < 2 ^ 40 := by
  unfold zcap
  cases h : Nat.ble 4294967296 v
  · have := zble_f h
    exact Nat.lt_of_lt_of_le this (by decide)
  · cases h1 : Nat.ble 274877906944 (Nat.mod v 1099511627776)
    · cases h2 : Nat.ble (Nat.mod v 1099511627776) 4294967296
      · exact Nat.mod_lt v (by decide)
      · exact (by decide : (4294967296 : Nat) < 2 ^ 40)
    · exact (by decide : (4294967296 : Nat) < 2 ^ 40)
theorem zcap_lt38 (v : Nat) : zcap v < 274877906944 := by
  unfold zcap
  cases h : Nat.ble 4294967296 v
  · have := zble_f h
    rw [cond_false]
    omega
  · cases h1 : Nat.ble 274877906944 (Nat.mod v 1099511627776)
    · cases h2 : Nat.ble (Nat.mod v 1099511627776) 4294967296
      · exact zble_f h1
      · exact (by decide : (4294967296 : Nat) < 274877906944)
    · exact (by decide : (4294967296 : Nat) < 274877906944)
theorem zcap_lt39 (v : Nat) : zcap v < 549755813888 := Nat.lt_trans (zcap_lt38 v) (by decide)
theorem zcapj_lt (v : Nat) : zcapj v < 2 ^ 72 := by
  unfold zcapj
  cases h : Nat.ble 18446744073709551616 v
  · have := zble_f h
    exact Nat.lt_of_lt_of_le this (by decide)
  · rw [cond_true]; decide
theorem zcap_ok [zGh] {v : Nat} {i : Int32} (h : zIs v i) : zIa (zcap v) i := by
  unfold zcap
  cases hb : Nat.ble 4294967296 v
  · have hl := zble_f hb
    rw [cond_false]
    exact ⟨fun _ => h.1 hl, fun q => absurd q (by omega)⟩
  · rw [cond_true]
    cases h1 : Nat.ble 274877906944 (Nat.mod v 1099511627776)
    · rw [cond_false]
      cases h2 : Nat.ble (Nat.mod v 1099511627776) 4294967296
      · rw [cond_false]
        have q1 : Nat.mod v 1099511627776 < 549755813888 := Nat.lt_trans (zble_f h1) (by decide)
        have q2 := zble_f h2
        exact ⟨fun q => absurd q (by omega), fun _ _ => h.2.1 q2 q1⟩
      · exact ⟨fun q => absurd q (Nat.lt_irrefl _), fun q => absurd q (Nat.lt_irrefl _)⟩
    · exact ⟨fun q => absurd q (Nat.lt_irrefl _), fun q => absurd q (Nat.lt_irrefl _)⟩
theorem zcapj_ok {v : Nat} {i : Int64} (h : v < 18446744073709551616 → zj i = v) : zcapj v < 18446744073709551616 → zj i = zcapj v := by
  unfold zcapj
  cases hb : Nat.ble 18446744073709551616 v
  · exact fun _ => h (zble_f hb)
  · exact fun q => absurd q (Nat.lt_irrefl _)
section OPS
variable {d : Nat} {X : zM} {fr : Nat} {P : zP d} {pc pc' tgt : Nat} {k : zK d}
noncomputable def xgfI (kc n : Nat) (k : zK d) : zK d := fun L S h => zpR S (fun r S => zat h r (fun _ _ _ kd _ x => cond (Nat.beq kd kc) (zF (fun v => k L (zI v :: S) h) (zwd 40 x n)) false))
noncomputable def xgfR (kc n : Nat) (k : zK d) : zK d := fun L S h => zpR S (fun r S => zat h r (fun _ _ _ kd _ x => cond (Nat.beq kd kc) (zF (fun v => cond (Nat.ble 549755813888 v) (k L (zW (Nat.add 1152921504606846976 v) :: S) h) (k L (zR v :: S) h)) (zwd 40 x n)) false))
theorem zvR_k {L S : List zV} {h : zH d} (v : Nat) : cond (Nat.ble 549755813888 v) (k L (zW (Nat.add 1152921504606846976 v) :: S) h) (k L (zR v :: S) h) = k L (zvR v :: S) h := by
  unfold zvR
  cases Nat.ble 549755813888 v <;> rfl
theorem sm_gf [G : zGh] {ci n index : Nat} {C ref : String} {T : u_T} {N : Nat} {f : zK d} {w : Nat → zV} (hw : ∀ v, cond (zisR (zfty ci n)) (zvR v) (zI v) = w v) (hf : ∀ L S h, f L S h = zpR S (fun r S => zat h r (fun _ _ _ kd _ x => cond (Nat.beq kd (16 + ci)) (zF (fun v => k L (w v :: S) h) (zwd 40 x n)) false))) (hin : ∀ w ∈ u_ws C T N, w ∈ ztbl) (hc : zcl[ci]? = some (C, T, N)) (hn : n < N) (hN : N = zN ci) (hlink : Cond.fieldLink X.1 index ref (T n).2.1 (T n).2.2.1 ∈ ztbl) (href : (T n).1 = ref) (dg : decode X.2.1 pc = .ok (.getfield index, 3)) (hs : zSim X fr P (pc + 3) k) : zSim X fr P pc f := by
  intro Ch cA D ad0 A MC MS p l e s m args below meth c ls st H locs cells slots L S h Cx hk R0
  obtain ⟨ws, hHp, hpre, hP, hD, hS, hL, hst, hcb, hsb⟩ := R0
  rw [hf] at hk
  obtain ⟨r, S, rfl, hk1⟩ := zpR_t hk
  obtain ⟨o, st, rfl, ho, hst2⟩ := zRepL_R hst
  obtain ⟨i, kd, len, x, rfl, hg, hk2⟩ := zat_t hk1
  obtain ⟨a, en, rfl, hwi, hcell⟩ := zat_w hHp ho
  rw [hg] at hcell
  have hk2 : cond (Nat.beq kd (16 + ci)) (zF (fun v => k L (w v :: S) h) (zwd 40 x n)) false = true := hk2
  cases hb : Nat.beq kd (16 + ci)
  · rw [hb] at hk2
    cases hk2
  · rw [hb, cond_true, zF_eq] at hk2
    obtain ⟨fs, rfl, hlen, hfl⟩ := zCell_obj hcell (Nat.eq_of_beq_eq_true hb)
    have hlt : n < fs.length := by rw [hlen, ← hN]; exact hn
    have hv : fs[n]? = some fs[n] := List.getElem?_eq_getElem hlt
    have hfl := hfl n _ hv
    unfold zFl at hfl
    have hfl := zRepC_rep hfl (zwd_lt _ _ _)
    rw [hw] at hfl
    exact va_get (rest := st) Cx.1 Cx.2.1 Cx.2.2.2.2.1 hin Cx.2.2.2.1 Cx.2.2.2.2.2.1 hP i hwi hc n hn (Cx.2.2.2.2.1 _ hlink) (fun x hx => by rw [← href]; exact hx) hv dg (hs Ch cA D ad0 A MC MS p l e s m args below meth c ls _ H locs cells slots L _ h Cx hk2 ⟨ws, hHp, hpre, hP, hD, hS, hL, ⟨hfl, hst2⟩, hcb, hsb⟩)
theorem sm_getfieldI [G : zGh] {ci kc n index : Nat} {C ref : String} {T : u_T} {N : Nat} (hkc : 16 + ci = kc) (hw : zisR (zfty ci n) = false) (hin : ∀ w ∈ u_ws C T N, w ∈ ztbl) (hc : zcl[ci]? = some (C, T, N)) (hn : n < N) (hN : N = zN ci) (hlink : Cond.fieldLink X.1 index ref (T n).2.1 (T n).2.2.1 ∈ ztbl) (href : (T n).1 = ref) (dg : decode X.2.1 pc = .ok (.getfield index, 3)) (hs : zSim X fr P (pc + 3) k) : zSim X fr P pc (xgfI kc n k) := sm_gf (w := fun v => zI v) (fun v => by rw [hw, cond_false]) (fun L S h => by subst hkc; rfl) hin hc hn hN hlink href dg hs
theorem sm_getfieldR [G : zGh] {ci kc n index : Nat} {C ref : String} {T : u_T} {N : Nat} (hkc : 16 + ci = kc) (hw : zisR (zfty ci n) = true) (hin : ∀ w ∈ u_ws C T N, w ∈ ztbl) (hc : zcl[ci]? = some (C, T, N)) (hn : n < N) (hN : N = zN ci) (hlink : Cond.fieldLink X.1 index ref (T n).2.1 (T n).2.2.1 ∈ ztbl) (href : (T n).1 = ref) (dg : decode X.2.1 pc = .ok (.getfield index, 3)) (hs : zSim X fr P (pc + 3) k) : zSim X fr P pc (xgfR kc n k) := sm_gf (w := fun v => zvR v) (fun v => by rw [hw, cond_true]) (fun L S h => by subst hkc; unfold xgfR; simp only [zvR_k]) hin hc hn hN hlink href dg hs
/-- ints of an array, booleans -/
noncomputable def xald1 (kc : Nat) (k : zK d) : zK d := fun L S h => zpI S (fun i S => zpR S (fun r S => zat h r (fun _ _ _ kd len x => cond (Nat.beq kd kc) (cond (Nat.ble len i) false (zF (fun v => k L (zI v :: S) h) (zwd 40 x i))) false)))
theorem sm_ald1 [G : zGh] {kc : Nat} (hkc : kc < 2) (row : ∀ {cA : Nat → ClassId} {D : va_G} {p : Program} {l : Launch} {e : Env} {R : Room} {s : State} {m : MethodId} {args : Array Value} {below : List Frame} {meth : Method} {c : Code} {H : Heap} {locs : List Loc} {cells slots : Nat} {Q : State → Prop} {ls : Array Slot} {rest : List Value} {ws : va_W} {a n q0 : Nat} {f : Nat → Int32} {i : Int32}, p.tables.exec = Jvm.exec → c.code = X.2.1 → va_K D zcl (zty cA) s → va_P D zcl ws H → ws[q0]? = some (a, .inl (cA kc, n, .inl f)) → vp_in i n → W p l e R s m args below meth c H locs cells slots Q (F0 m pc' ls (.int (f i.toNatClampNeg) :: rest)) → W p l e R s m args below meth c H locs cells slots Q (F0 m pc ls (.int i :: .ref a :: rest))) (hs : zSim X fr P pc' k) : zSim X fr P pc (xald1 kc k) := by
  intro Ch cA D ad0 A MC MS p l e s m args below meth c ls st H locs cells slots L S h Cx hk R0
  obtain ⟨ws, hHp, hpre, hP, hD, hS, hL, hst, hcb, hsb⟩ := R0
  obtain ⟨n, S, rfl, hk1⟩ := zpI_t hk
  obtain ⟨r, S, rfl, hk2⟩ := zpR_t hk1
  obtain ⟨i, st, rfl, hi, hst1⟩ := zRepL_I hst
  obtain ⟨o, st, rfl, ho, hst2⟩ := zRepL_R hst1
  obtain ⟨j, kd, len, x, rfl, hg, hk3⟩ := zat_t hk2
  obtain ⟨a, en, rfl, hwi, hcell⟩ := zat_w hHp ho
  rw [hg] at hcell
  have hk3 : cond (Nat.beq kd kc) (cond (Nat.ble len n) false (zF (fun v => k L (zI v :: S) h) (zwd 40 x n))) false = true := hk3
  cases hb : Nat.beq kd kc
  · rw [hb] at hk3
    cases hk3
  · have hb2 := Nat.eq_of_beq_eq_true hb
    subst hb2
    rw [hb, cond_true] at hk3
    cases hbl : Nat.ble len n
    · rw [hbl, cond_false, zF_eq] at hk3
      obtain ⟨hlen, f, rfl, hf⟩ := zCell_i hcell hkc
      obtain ⟨g1, g2, g3⟩ := zi_idx hi.1 hlen hbl
      exact row Cx.1 Cx.2.1 Cx.2.2.2.2.2.1 hP hwi g1 (hs Ch cA D ad0 A MC MS p l e s m args below meth c ls _ H locs cells slots L _ h Cx hk3 ⟨ws, hHp, hpre, hP, hD, hS, hL, ⟨⟨_, rfl, by rw [g2]; exact zIs_a (hf n g3) (zwd_lt _ _ _)⟩, hst2⟩, hcb, hsb⟩)
    · rw [hbl] at hk3
      cases hk3
theorem sm_iaload [G : zGh] (dg : decode X.2.1 pc = .ok (.iaload, 1)) (hs : zSim X fr P (pc + 1) k) : zSim X fr P pc (xald1 0 k) := sm_ald1 (by decide) (fun hx hb hK hP ha hin kk => va_iald hx hb hK hP _ 0 ha rfl hin dg kk) hs
theorem sm_baload [G : zGh] (dg : decode X.2.1 pc = .ok (.baload, 1)) (hs : zSim X fr P (pc + 1) k) : zSim X fr P pc (xald1 1 k) := sm_ald1 (by decide) (fun hx hb hK hP ha hin kk => va_zald hx hb hK hP _ 1 ha rfl hin dg kk) hs
noncomputable def xlal (k : zK d) : zK d := fun L S h => zpI S (fun i S => zpR S (fun r S => zat h r (fun _ _ _ kd len x => cond (Nat.beq kd 2) (cond (Nat.ble len i) false (zF (fun v => k L (zL v :: S) h) (zwd 72 x i))) false)))
theorem sm_laload [G : zGh] (dg : decode X.2.1 pc = .ok (.laload, 1)) (hs : zSim X fr P (pc + 1) k) : zSim X fr P pc (xlal k) := by
  intro Ch cA D ad0 A MC MS p l e s m args below meth c ls st H locs cells slots L S h Cx hk R0
  obtain ⟨ws, hHp, hpre, hP, hD, hS, hL, hst, hcb, hsb⟩ := R0
  obtain ⟨n, S, rfl, hk1⟩ := zpI_t hk
  obtain ⟨r, S, rfl, hk2⟩ := zpR_t hk1
  obtain ⟨i, st, rfl, hi, hst1⟩ := zRepL_I hst
  obtain ⟨o, st, rfl, ho, hst2⟩ := zRepL_R hst1
  obtain ⟨j, kd, len, x, rfl, hg, hk3⟩ := zat_t hk2
  obtain ⟨a, en, rfl, hwi, hcell⟩ := zat_w hHp ho
  rw [hg] at hcell
  have hk3 : cond (Nat.beq kd 2) (cond (Nat.ble len n) false (zF (fun v => k L (zL v :: S) h) (zwd 72 x n))) false = true := hk3
  cases hb : Nat.beq kd 2
  · rw [hb] at hk3
    cases hk3
  · have hb2 := Nat.eq_of_beq_eq_true hb
    subst hb2
    rw [hb, cond_true] at hk3
    cases hbl : Nat.ble len n
    · rw [hbl, cond_false, zF_eq] at hk3
      obtain ⟨hlen, f, rfl, hf⟩ := zCell_j hcell
      obtain ⟨g1, g2, g3⟩ := zi_idx hi.1 hlen hbl
      exact va_lald Cx.1 Cx.2.1 Cx.2.2.2.2.2.1 hP j 2 hwi rfl g1 dg (hs Ch cA D ad0 A MC MS p l e s m args below meth c ls _ H locs cells slots L _ h Cx hk3 ⟨ws, hHp, hpre, hP, hD, hS, hL, ⟨⟨_, rfl, by rw [g2]; exact zJs_of (hf n g3).1 (zwd_lt _ _ _)⟩, hst2⟩, hcb, hsb⟩)
    · rw [hbl] at hk3
      cases hk3
noncomputable def xaal (k : zK d) : zK d := fun L S h => zpI S (fun i S => zpR S (fun r S => zat h r (fun _ _ _ kd len x => cond (Nat.ble 3 kd) (cond (Nat.ble kd 7) (cond (Nat.ble len i) false (zF (fun v => cond (Nat.ble 549755813888 v) (k L (zW (Nat.add 1152921504606846976 v) :: S) h) (k L (zR v :: S) h)) (zwd 40 x i))) false) false)))
theorem sm_aaload [G : zGh] (dg : decode X.2.1 pc = .ok (.aaload, 1)) (hs : zSim X fr P (pc + 1) k) : zSim X fr P pc (xaal k) := by
  intro Ch cA D ad0 A MC MS p l e s m args below meth c ls st H locs cells slots L S h Cx hk R0
  obtain ⟨ws, hHp, hpre, hP, hD, hS, hL, hst, hcb, hsb⟩ := R0
  obtain ⟨n, S, rfl, hk1⟩ := zpI_t hk
  obtain ⟨r, S, rfl, hk2⟩ := zpR_t hk1
  obtain ⟨i, st, rfl, hi, hst1⟩ := zRepL_I hst
  obtain ⟨o, st, rfl, ho, hst2⟩ := zRepL_R hst1
  obtain ⟨j, kd, len, x, rfl, hg, hk3⟩ := zat_t hk2
  obtain ⟨a, en, rfl, hwi, hcell⟩ := zat_w hHp ho
  rw [hg] at hcell
  have hk3 : cond (Nat.ble 3 kd) (cond (Nat.ble kd 7) (cond (Nat.ble len n) false (zF (fun v => cond (Nat.ble 549755813888 v) (k L (zW (Nat.add 1152921504606846976 v) :: S) h) (k L (zR v :: S) h)) (zwd 40 x n))) false) false = true := hk3
  cases hb : Nat.ble 3 kd
  · rw [hb] at hk3
    cases hk3
  · rw [hb, cond_true] at hk3
    cases hb7 : Nat.ble kd 7
    · rw [hb7] at hk3
      cases hk3
    · rw [hb7, cond_true] at hk3
      have q3 := Nat.le_of_ble_eq_true hb
      have q7 := Nat.le_of_ble_eq_true hb7
      cases hbl : Nat.ble len n
      · rw [hbl, cond_false, zF_eq, zvR_k] at hk3
        obtain ⟨hlen, f, rfl, hf⟩ := zCell_r hcell q3 (by omega)
        obtain ⟨g1, g2, g3⟩ := zi_idx hi.1 hlen hbl
        have hty : ∃ ty : FieldType, (zty cA)[kd]? = some (cA kd, ty) ∧ ty.isReference = true := by
          rcases (show kd = 3 ∨ kd = 4 ∨ kd = 5 ∨ kd = 6 ∨ kd = 7 by omega) with rfl | rfl | rfl | rfl | rfl
          · exact ⟨_, rfl, rfl⟩
          · exact ⟨_, rfl, rfl⟩
          · exact ⟨_, rfl, rfl⟩
          · exact ⟨_, rfl, rfl⟩
          · exact ⟨_, rfl, rfl⟩
        obtain ⟨ty, ht, hre⟩ := hty
        have hlt : i.toNatClampNeg < len := by rw [g2]; exact g3
        exact W.aald (v := va_rf (f i.toNatClampNeg)) (ty := ty) Cx.1 Cx.2.1 (hP j _ hwi) ((Cx.2.2.2.2.2.1.2 kd _ ht).1 len (fun j => va_rf (f j))) hre (fun q => by cases q) (by show ¬ (i < 0 ∨ (arrV _ _ _).slots.size ≤ _); rw [arrV_size]; exact g1) (by show (arrV _ _ _).slots[_]? = _; rw [arrV_read _ _ hlt]) rfl rfl dg (hs Ch cA D ad0 A MC MS p l e s m args below meth c ls _ H locs cells slots L _ h Cx hk3 ⟨ws, hHp, hpre, hP, hD, hS, hL, ⟨by rw [g2]; exact zRw_rep (hf n g3), hst2⟩, hcb, hsb⟩)
      · rw [hbl] at hk3
        cases hk3
/-- an array's length -/
noncomputable def xlen (k : zK d) : zK d := fun L S h => zpR S (fun r S => zat h r (fun _ _ _ kd len _ => cond (Nat.ble kd 7) (k L (zI len :: S) h) false))
theorem zi_nI {n : Nat} (h : n < 2147483648) : zi (Int32.ofNat n) = n := zi_ofNat (by omega)
theorem sm_arraylength [G : zGh] (dg : decode X.2.1 pc = .ok (.arraylength, 1)) (hs : zSim X fr P (pc + 1) k) : zSim X fr P pc (xlen k) := by
  intro Ch cA D ad0 A MC MS p l e s m args below meth c ls st H locs cells slots L S h Cx hk R0
  obtain ⟨ws, hHp, hpre, hP, hD, hS, hL, hst, hcb, hsb⟩ := R0
  obtain ⟨r, S, rfl, hk2⟩ := zpR_t hk
  obtain ⟨o, st, rfl, ho, hst2⟩ := zRepL_R hst
  obtain ⟨j, kd, len, x, rfl, hg, hk3⟩ := zat_t hk2
  obtain ⟨a, en, rfl, hwi, hcell⟩ := zat_w hHp ho
  rw [hg] at hcell
  have hk3 : cond (Nat.ble kd 7) (k L (zI len :: S) h) false = true := hk3
  cases hb7 : Nat.ble kd 7
  · rw [hb7] at hk3
    cases hk3
  · rw [hb7, cond_true] at hk3
    have q7 := Nat.le_of_ble_eq_true hb7
    have key : len < 2147483648 ∧ ∃ x : vp_A, x.1 = len ∧ en = .inl (cA kd, x) := by
      rcases (show kd < 2 ∨ kd = 2 ∨ 3 ≤ kd by omega) with q | rfl | q
      · obtain ⟨h1, f, rfl, -⟩ := zCell_i hcell q
        exact ⟨h1, _, rfl, rfl⟩
      · obtain ⟨h1, f, rfl, -⟩ := zCell_j hcell
        exact ⟨h1, _, rfl, rfl⟩
      · obtain ⟨h1, f, rfl, -⟩ := zCell_r hcell q (by omega)
        exact ⟨h1, _, rfl, rfl⟩
    obtain ⟨hlen, y, hy, rfl⟩ := key
    have hty : ∃ ty : FieldType, (zty cA)[kd]? = some (cA kd, ty) := by
      rcases (show kd = 0 ∨ kd = 1 ∨ kd = 2 ∨ kd = 3 ∨ kd = 4 ∨ kd = 5 ∨ kd = 6 ∨ kd = 7 by omega) with rfl | rfl | rfl | rfl | rfl | rfl | rfl | rfl <;> exact ⟨_, rfl⟩
    obtain ⟨ty, ht⟩ := hty
    exact va_alen Cx.1 Cx.2.1 Cx.2.2.2.2.2.1 hP j kd hwi ht (by rw [hy]) dg (hs Ch cA D ad0 A MC MS p l e s m args below meth c ls _ H locs cells slots L _ h Cx hk3 ⟨ws, hHp, hpre, hP, hD, hS, hL, ⟨⟨_, rfl, zIs_e (zi_nI hlen)⟩, hst2⟩, hcb, hsb⟩)
end OPS
end
section
/-! the heap written -/
theorem zAI_up {len x n v : Nat} {f : Nat → Int32} {i : Int32} (hf : zAI len x f) (hi : zIa (zcap v) i) : zAI len (zup 40 x n (zcap v)) (upd f n i) := by
  intro j hj
  by_cases q : j = n
  · subst q
    rw [zwd_up_same _ _ _ _ (zcap_lt v), pk_us]
    exact hi
  · rw [zwd_up_ne _ _ _ _ _ (zcap_lt v) (fun z => q z.symm), pk_un q]
    exact hf j hj
theorem zcapj_ne (v : Nat) : ¬ zcapj v = 18446744073709551617 := by
  unfold zcapj
  cases h : Nat.ble 18446744073709551616 v
  · have := zble_f h
    rw [cond_false]
    omega
  · rw [cond_true]; decide
theorem zAJ_up {len x n v : Nat} {f : Nat → Int64} {i : Int64} (hf : zAJ len x f) (hi : v < 18446744073709551616 → zj i = v) : zAJ len (zup 72 x n (zcapj v)) (vp_updL f n i) := by
  intro j hj
  by_cases q : j = n
  · subst q
    rw [zwd_up_same _ _ _ _ (zcapj_lt v), pk_uLs]
    exact ⟨zcapj_ok hi, fun z => absurd z (zcapj_ne v)⟩
  · rw [zwd_up_ne _ _ _ _ _ (zcapj_lt v) (fun z => q z.symm), pk_uLn q]
    exact hf j hj
theorem zAR_up {ad : zA} {len x n v : Nat} {f : Nat → Option Nat} {o : Option Nat} (hv : v < 549755813888) (hf : zAR ad len x f) (ho : zRf ad v o) : zAR ad len (zup 40 x n v) (va_up f n o) := by
  intro j hj
  by_cases q : j = n
  · subst q
    rw [zwd_up_same _ _ _ _ (Nat.lt_trans hv (by decide))]
    simp only [va_up, if_pos]
    exact Or.inl ⟨hv, ho⟩
  · rw [zwd_up_ne _ _ _ _ _ (Nat.lt_trans hv (by decide)) (fun z => q z.symm)]
    simp only [va_up, if_neg q]
    exact hf j hj
theorem zCell_ik [zCh] {cA : Nat → ClassId} {ad : zA} {kd len x : Nat} {f : Nat → Int32} (hk : kd < 2) (hl : len < 2147483648) (hf : zAI len x f) : zCell cA ad (kd, len, x) (.inl (cA kd, len, .inl f)) := Or.inl ⟨hk, hl, f, rfl, hf⟩
theorem zCell_jk [zCh] {cA : Nat → ClassId} {ad : zA} {len x : Nat} {f : Nat → Int64} (hl : len < 2147483648) (hf : zAJ len x f) : zCell cA ad (2, len, x) (.inl (cA 2, len, .inr (.inl f))) := Or.inr (Or.inl ⟨rfl, hl, f, rfl, hf⟩)
theorem zCell_rk [zCh] {cA : Nat → ClassId} {ad : zA} {kd len x : Nat} {f : Nat → Option Nat} (h3 : 3 ≤ kd) (h16 : kd < 8) (hl : len < 2147483648) (hf : zAR ad len x f) : zCell cA ad (kd, len, x) (.inl (cA kd, len, .inr (.inr (.inr (.inr f))))) := Or.inr (Or.inr (Or.inr (Or.inl ⟨h3, h16, hl, f, rfl, hf⟩)))
theorem zCell_ok [zCh] {cA : Nat → ClassId} {ad : zA} {ci len x : Nat} {fs : List Value} (hl : fs.length = zN ci) (hf : ∀ k v, fs[k]? = some v → zFl ad ci k (zwd 40 x k) v) : zCell cA ad (16 + ci, len, x) (.inr (ci, fs)) := by
  refine Or.inr (Or.inr (Or.inr (Or.inr ⟨Nat.le_add_right 16 ci, fs, ?_, ?_, ?_⟩)))
  · show Sum.inr (ci, fs) = Sum.inr (16 + ci - 16, fs)
    rw [Nat.add_sub_cancel_left]
  · show fs.length = zN (16 + ci - 16)
    rw [Nat.add_sub_cancel_left]
    exact hl
  · show ∀ k v, fs[k]? = some v → zFl ad (16 + ci - 16) k (zwd 40 x k) v
    rw [Nat.add_sub_cancel_left]
    exact hf
theorem zFl_up [zCh] {ad : zA} {ci x n w : Nat} {fs : List Value} {y : Value} (hw : w < 2 ^ 40) (hf : ∀ k v, fs[k]? = some v → zFl ad ci k (zwd 40 x k) v) (hy : zFl ad ci n w y) : ∀ k v, (fs.set n y)[k]? = some v → zFl ad ci k (zwd 40 (zup 40 x n w) k) v := by
  intro k v hk
  rw [List.getElem?_set] at hk
  by_cases q : n = k
  · subst q
    rw [if_pos rfl] at hk
    rw [zwd_up_same _ _ _ _ hw]
    by_cases hl : n < fs.length
    · rw [if_pos hl] at hk
      cases hk
      exact hy
    · rw [if_neg hl] at hk
      cases hk
  · rw [if_neg q] at hk
    rw [zwd_up_ne _ _ _ _ _ hw q]
    exact hf k v hk
section OPS
variable {d : Nat} {X : zM} {fr : Nat} {P : zP d} {pc pc' tgt : Nat} {k : zK d}
noncomputable def xast1 (kc : Nat) (g : Nat → Nat) (k : zK d) : zK d := fun L S h => zpI S (fun v S => zpI S (fun i S => zpR S (fun r S => zat h r (fun t u j kd len x => cond (Nat.beq kd kc) (cond (Nat.ble len i) false (zF (fun y => zsetK d t j (kd, len, y) (fun t => k L S (t, u))) (zup 40 x i (zcap (g v))))) false))))
theorem sm_ast1 [G : zGh] {kc : Nat} {g : Nat → Nat} {Gf : Int32 → Int32} (hkc : kc < 2) (hg : ∀ {a : Nat} {x : Int32}, zIs a x → zIs (g a) (Gf x)) (row : ∀ {cA : Nat → ClassId} {D : va_G} {p : Program} {l : Launch} {e : Env} {R : Room} {s : State} {m : MethodId} {args : Array Value} {below : List Frame} {meth : Method} {c : Code} {H H0 : Heap} {A : Nat → Prop} {locs : List Loc} {cells slots : Nat} {Q : State → Prop} {ls : Array Slot} {rest : List Value} {ws : va_W} {a n q0 : Nat} {f : Nat → Int32} {i x : Int32}, p.tables.exec = Jvm.exec → c.code = X.2.1 → va_K D zcl (zty cA) s → va_P D zcl ws H → va_D A ws → va_S A H0 H locs → ws[q0]? = some (a, .inl (cA kc, n, .inl f)) → vp_in i n → (∀ (H1 : Heap) (locs1 : List Loc), va_P D zcl (ws.set q0 (a, .inl (cA kc, n, .inl (upd f i.toNatClampNeg (Gf x))))) H1 → va_D A (ws.set q0 (a, .inl (cA kc, n, .inl (upd f i.toNatClampNeg (Gf x))))) → va_S A H0 H1 locs1 → W p l e R s m args below meth c H1 locs1 cells slots Q (F0 m pc' ls rest)) → W p l e R s m args below meth c H locs cells slots Q (F0 m pc ls (.int x :: .int i :: .ref a :: rest))) (hs : zSim X fr P pc' k) : zSim X fr P pc (xast1 kc g k) := by
  intro Ch cA D ad0 A MC MS p l e s m args below meth c ls st H locs cells slots L S h Cx hk R0
  obtain ⟨ws, hHp, hpre, hP, hD, hS, hL, hst, hcb, hsb⟩ := R0
  obtain ⟨v, S, rfl, hk0⟩ := zpI_t hk
  obtain ⟨n, S, rfl, hk1⟩ := zpI_t hk0
  obtain ⟨r, S, rfl, hk2⟩ := zpR_t hk1
  obtain ⟨y, st, rfl, hy, hst0⟩ := zRepL_I hst
  obtain ⟨i, st, rfl, hi, hst1⟩ := zRepL_I hst0
  obtain ⟨o, st, rfl, ho, hst2⟩ := zRepL_R hst1
  obtain ⟨j, kd, len, x, rfl, hgt, hk3⟩ := zat_t hk2
  obtain ⟨a, en, rfl, hwi, hcell⟩ := zat_w hHp ho
  rw [hgt] at hcell
  have hk3 : cond (Nat.beq kd kc) (cond (Nat.ble len n) false (zF (fun y => zsetK d h.1 j (kd, len, y) (fun t => k L S (t, h.2))) (zup 40 x n (zcap (g v))))) false = true := hk3
  cases hb : Nat.beq kd kc
  · rw [hb] at hk3
    cases hk3
  · have hb2 := Nat.eq_of_beq_eq_true hb
    subst hb2
    rw [hb, cond_true] at hk3
    cases hbl : Nat.ble len n
    · rw [hbl, cond_false, zF_eq, zsetK_eq] at hk3
      obtain ⟨hlen, f, rfl, hf⟩ := zCell_i hcell hkc
      obtain ⟨g1, g2, g3⟩ := zi_idx hi.1 hlen hbl
      refine row Cx.1 Cx.2.1 Cx.2.2.2.2.2.1 hP hD hS hwi g1 (fun H1 locs1 hP1 hD1 hS1 => ?_)
      have hz := zad_set (cA := cA) (e' := .inl (cA kd, len, .inl (upd f i.toNatClampNeg (Gf y)))) hwi
      exact hs Ch cA D ad0 A MC MS p l e s m args below meth c ls _ H1 locs1 cells slots L _ _ Cx hk3 ⟨_, zHp_set hHp hwi (zCell_ik hkc hlen (by rw [g2]; exact zAI_up hf (zcap_ok (hg hy)))), by rw [hz]; exact hpre, hP1, hD1, hS1, by rw [hz]; exact hL, by rw [hz]; exact hst2, hcb, hsb⟩
    · rw [hbl] at hk3
      cases hk3
theorem sm_iastore [G : zGh] (dg : decode X.2.1 pc = .ok (.iastore, 1)) (hs : zSim X fr P (pc + 1) k) : zSim X fr P pc (xast1 0 (fun v => v) k) := sm_ast1 (Gf := fun x => x) (by decide) (fun h => h) (fun hx hb hK hP hD hS ha hin kk => va_iast hx hb hK hP hD hS _ 0 ha rfl hin dg kk) hs
theorem vp_nar_bool (x : Int32) : vp_nar .boolean x = x &&& 1 := rfl
theorem sm_bastore [G : zGh] (dg : decode X.2.1 pc = .ok (.bastore, 1)) (hs : zSim X fr P (pc + 1) k) : zSim X fr P pc (xast1 1 (fun v => zand v 1) k) := sm_ast1 (Gf := fun x => vp_nar .boolean x) (by decide) (fun {a x} h => by rw [vp_nar_bool]; exact zIs_of (zand_ok h.1 (fun _ => zi_p1)) (zand_le _ _)) (fun hx hb hK hP hD hS ha hin kk => va_zast hx hb hK hP hD hS _ 1 ha rfl hin dg kk) hs
noncomputable def xlas (k : zK d) : zK d := fun L S h => zpL S (fun v S => zpI S (fun i S => zpR S (fun r S => zat h r (fun t u j kd len x => cond (Nat.beq kd 2) (cond (Nat.ble len i) false (zF (fun y => zsetK d t j (kd, len, y) (fun t => k L S (t, u))) (zup 72 x i (zcapj v)))) false))))
theorem sm_lastore [G : zGh] (dg : decode X.2.1 pc = .ok (.lastore, 1)) (hs : zSim X fr P (pc + 1) k) : zSim X fr P pc (xlas k) := by
  intro Ch cA D ad0 A MC MS p l e s m args below meth c ls st H locs cells slots L S h Cx hk R0
  obtain ⟨ws, hHp, hpre, hP, hD, hS, hL, hst, hcb, hsb⟩ := R0
  obtain ⟨v, S, rfl, hk0⟩ := zpL_t hk
  obtain ⟨n, S, rfl, hk1⟩ := zpI_t hk0
  obtain ⟨r, S, rfl, hk2⟩ := zpR_t hk1
  obtain ⟨y, st, rfl, hy, hst0⟩ := zRepL_L hst
  obtain ⟨i, st, rfl, hi, hst1⟩ := zRepL_I hst0
  obtain ⟨o, st, rfl, ho, hst2⟩ := zRepL_R hst1
  obtain ⟨j, kd, len, x, rfl, hgt, hk3⟩ := zat_t hk2
  obtain ⟨a, en, rfl, hwi, hcell⟩ := zat_w hHp ho
  rw [hgt] at hcell
  have hk3 : cond (Nat.beq kd 2) (cond (Nat.ble len n) false (zF (fun y => zsetK d h.1 j (kd, len, y) (fun t => k L S (t, h.2))) (zup 72 x n (zcapj v)))) false = true := hk3
  cases hb : Nat.beq kd 2
  · rw [hb] at hk3
    cases hk3
  · have hb2 := Nat.eq_of_beq_eq_true hb
    subst hb2
    rw [hb, cond_true] at hk3
    cases hbl : Nat.ble len n
    · rw [hbl, cond_false, zF_eq, zsetK_eq] at hk3
      obtain ⟨hlen, f, rfl, hf⟩ := zCell_j hcell
      obtain ⟨g1, g2, g3⟩ := zi_idx hi.1 hlen hbl
      refine va_last Cx.1 Cx.2.1 Cx.2.2.2.2.2.1 hP hD hS j 2 hwi rfl g1 dg (fun H1 locs1 hP1 hD1 hS1 => ?_)
      have hz := zad_set (cA := cA) (e' := .inl (cA 2, len, .inr (.inl (vp_updL f i.toNatClampNeg y)))) hwi
      exact hs Ch cA D ad0 A MC MS p l e s m args below meth c ls _ H1 locs1 cells slots L _ _ Cx hk3 ⟨_, zHp_set hHp hwi (zCell_jk hlen (by rw [g2]; exact zAJ_up hf hy.1)), by rw [hz]; exact hpre, hP1, hD1, hS1, by rw [hz]; exact hL, by rw [hz]; exact hst2, hcb, hsb⟩
    · rw [hbl] at hk3
      cases hk3
/-- an object into an array of its class -/
noncomputable def xaas (kc ko : Nat) (k : zK d) : zK d := fun L S h => zpR S (fun v S => zpI S (fun i S => zpR S (fun r S => zat h v (fun _ _ _ kv _ _ => cond (Nat.beq kv ko) (zat h r (fun t u j kd len x => cond (Nat.beq kd kc) (cond (Nat.ble len i) false (cond (Nat.ble 549755813888 v) false (zF (fun y => zsetK d t j (kd, len, y) (fun t => k L S (t, u))) (zup 40 x i v)))) false)) false))))
theorem sm_aastore [G : zGh] {kc ko ci : Nat} {rc : vw_C} (h3 : 3 ≤ kc) (h16 : kc < 8) (hko : 16 + ci = ko) (hc : zcl[ci]? = some rc) (hty : ∀ cA, (zty cA)[kc]? = some (cA kc, .object rc.1)) (dg : decode X.2.1 pc = .ok (.aastore, 1)) (hs : zSim X fr P (pc + 1) k) : zSim X fr P pc (xaas kc ko k) := by
  subst hko
  intro Ch cA D ad0 A MC MS p l e s m args below meth c ls st H locs cells slots L S h Cx hk R0
  obtain ⟨ws, hHp, hpre, hP, hD, hS, hL, hst, hcb, hsb⟩ := R0
  obtain ⟨v, S, rfl, hk0⟩ := zpR_t hk
  obtain ⟨n, S, rfl, hk1⟩ := zpI_t hk0
  obtain ⟨r, S, rfl, hk2⟩ := zpR_t hk1
  obtain ⟨y, st, rfl, hy, hst0⟩ := zRepL_R hst
  obtain ⟨i, st, rfl, hi, hst1⟩ := zRepL_I hst0
  obtain ⟨o, st, rfl, ho, hst2⟩ := zRepL_R hst1
  obtain ⟨jv, kv, lenv, xv, rfl, hgv, hk3⟩ := zat_t hk2
  have hk3 : cond (Nat.beq kv (16 + ci)) (zat h r (fun t u j kd len x => cond (Nat.beq kd kc) (cond (Nat.ble len n) false (cond (Nat.ble 549755813888 (jv + 1)) false (zF (fun y => zsetK d t j (kd, len, y) (fun t => k L S (t, u))) (zup 40 x n (jv + 1))))) false)) false = true := hk3
  cases hbv : Nat.beq kv (16 + ci)
  · rw [hbv] at hk3
    cases hk3
  · rw [hbv, cond_true] at hk3
    obtain ⟨av, ev, rfl, hwv, hcv⟩ := zat_w hHp hy
    rw [hgv] at hcv
    obtain ⟨fs, rfl, hlenv, hflv⟩ := zCell_obj hcv (Nat.eq_of_beq_eq_true hbv)
    obtain ⟨j, kd, len, x, rfl, hgt, hk4⟩ := zat_t hk3
    obtain ⟨a, en, rfl, hwi, hcell⟩ := zat_w hHp ho
    rw [hgt] at hcell
    have hk4 : cond (Nat.beq kd kc) (cond (Nat.ble len n) false (cond (Nat.ble 549755813888 (jv + 1)) false (zF (fun y => zsetK d h.1 j (kd, len, y) (fun t => k L S (t, h.2))) (zup 40 x n (jv + 1))))) false = true := hk4
    cases hb : Nat.beq kd kc
    · rw [hb] at hk4
      cases hk4
    · have hb2 := Nat.eq_of_beq_eq_true hb
      subst hb2
      rw [hb, cond_true] at hk4
      cases hbl : Nat.ble len n
      · rw [hbl, cond_false] at hk4
        cases hbw : Nat.ble 549755813888 (jv + 1)
        · rw [hbw, cond_false, zF_eq, zsetK_eq] at hk4
          obtain ⟨hlen, f, rfl, hf⟩ := zCell_r hcell h3 h16
          obtain ⟨g1, g2, g3⟩ := zi_idx hi.1 hlen hbl
          refine va_astq Cx.1 Cx.2.1 Cx.2.2.2.2.2.1 hP hD hS j kd jv ci hwi (hty cA) hwv hc g1 dg (fun H1 locs1 hP1 hD1 hS1 => ?_)
          have hz := zad_set (cA := cA) (e' := .inl (cA kd, len, .inr (.inr (.inr (.inr (va_up f i.toNatClampNeg (some av))))))) hwi
          exact hs Ch cA D ad0 A MC MS p l e s m args below meth c ls _ H1 locs1 cells slots L _ _ Cx hk4 ⟨_, zHp_set hHp hwi (zCell_rk h3 h16 hlen (by rw [g2]; exact zAR_up (zble_f hbw) hf hy)), by rw [hz]; exact hpre, hP1, hD1, hS1, by rw [hz]; exact hL, by rw [hz]; exact hst2, hcb, hsb⟩
        · rw [hbw] at hk4
          cases hk4
      · rw [hbl] at hk4
        cases hk4
/-- fields written -/
noncomputable def xpfI (kc n : Nat) (k : zK d) : zK d := fun L S h => zpI S (fun v S => zpR S (fun r S => zat h r (fun t u j kd len x => cond (Nat.beq kd kc) (zF (fun y => zsetK d t j (kd, len, y) (fun t => k L S (t, u))) (zup 40 x n (zcap v))) false)))
noncomputable def xpfR (kc n : Nat) (k : zK d) : zK d := fun L S h => zpR S (fun v S => zpR S (fun r S => zat h r (fun t u j kd len x => cond (Nat.beq kd kc) (cond (Nat.ble 549755813888 v) false (zF (fun y => zsetK d t j (kd, len, y) (fun t => k L S (t, u))) (zup 40 x n v))) false)))
/-- what a row of the kit does at putfield -/
def zPut (X : zM) (pc ci n : Nat) (ty : FieldType) : Prop := ∀ [zGh] {cA : Nat → ClassId} {D : va_G} {p : Program} {l : Launch} {e : Env} {R : Room} {s : State} {m : MethodId} {args : Array Value} {below : List Frame} {meth : Method} {c : Code} {H H0 : Heap} {A : Nat → Prop} {locs : List Loc} {cells slots : Nat} {Q : State → Prop} {ls : Array Slot} {rest : List Value} {ws : va_W} {a q0 : Nat} {fs : List Value} {v : Value}, zCx X cA D p s m args meth c A → va_P D zcl ws H → va_D A ws → va_S A H0 H locs → ws[q0]? = some (a, .inr (ci, fs)) → narrow ty v = v → fits ty v = true → n < fs.length →
  (∀ (H1 : Heap) (locs1 : List Loc), va_P D zcl (ws.set q0 (a, .inr (ci, fs.set n v))) H1 → va_D A (ws.set q0 (a, .inr (ci, fs.set n v))) → va_S A H0 H1 locs1 → W p l e R s m args below meth c H1 locs1 cells slots Q (F0 m (pc + 3) ls rest)) → W p l e R s m args below meth c H locs cells slots Q (F0 m pc ls (v :: .ref a :: rest))
theorem zput {ci n index : Nat} {C : String} {T : u_T} {N : Nat} {ty0 : Nat → FieldType} {ty : FieldType} (hin : ∀ w ∈ u_ws C T N, w ∈ ztbl) (hty : ∀ k, k < N → parseFieldDescriptor (T k).2.2.1 = some (ty0 k)) (hnm : ∀ a, a < N → ∀ b, b < N → a ≠ b → (T a).2.1 ≠ (T b).2.1) (hc : zcl[ci]? = some (C, T, N)) (hn : n < N) (hlink : Cond.fieldLink X.1 index (T n).1 (T n).2.1 (T n).2.2.1 ∈ ztbl) (ht : ty0 n = ty) (hfin : (T n).2.2.2 = false) (dg : decode X.2.1 pc = .ok (.putfield index, 3)) : zPut X pc ci n ty :=
  fun Cx hP hD hS he hna hfi hl kk => va_put Cx.1 Cx.2.1 Cx.2.2.2.2.1 hin ty0 hty hnm Cx.2.2.2.1 Cx.2.2.2.2.2.1 hP hD hS _ he hc n hn (Cx.2.2.2.2.1 _ hlink) (fun _ h => h) hfin (by rw [← ht]; exact hty n hn) hna hfi hl dg kk
theorem zputF {ci n index : Nat} {C : String} {T : u_T} {N : Nat} {ty0 : Nat → FieldType} {ty : FieldType} (hin : ∀ w ∈ u_ws C T N, w ∈ ztbl) (hty : ∀ k, k < N → parseFieldDescriptor (T k).2.2.1 = some (ty0 k)) (hnm : ∀ a, a < N → ∀ b, b < N → a ≠ b → (T a).2.1 ≠ (T b).2.1) (hc : zcl[ci]? = some (C, T, N)) (hn : n < N) (hlink : Cond.fieldLink X.1 index (T n).1 (T n).2.1 (T n).2.2.1 ∈ ztbl) (ht : ty0 n = ty) (hfin : (T n).2.2.2 = true) (hname : X.2.2.2.2 = "<init>") (hdecl : (T n).1 = X.1) (dg : decode X.2.1 pc = .ok (.putfield index, 3)) : zPut X pc ci n ty :=
  fun Cx hP hD hS he hna hfi hl kk => va_putF Cx.1 Cx.2.1 Cx.2.2.2.2.1 hin ty0 hty hnm Cx.2.2.2.1 Cx.2.2.2.2.2.1 hP hD hS _ he hc n hn (Cx.2.2.2.2.1 _ hlink) (fun _ h => h) hfin (Cx.2.2.2.2.2.2.2.2.2.1.trans hname) hdecl (by rw [← ht]; exact hty n hn) hna hfi hl dg kk
theorem sm_putI [G : zGh] {ci kc n : Nat} {ty : FieldType} (hkc : 16 + ci = kc) (hn : n < zN ci) (hz : zisR (zfty ci n) = false) (hty : ty = .int) (row : zPut X pc ci n ty) (hs : zSim X fr P (pc + 3) k) : zSim X fr P pc (xpfI kc n k) := by
  subst hkc
  subst hty
  intro Ch cA D ad0 A MC MS p l e s m args below meth c ls st H locs cells slots L S h Cx hk R0
  obtain ⟨ws, hHp, hpre, hP, hD, hS, hL, hst, hcb, hsb⟩ := R0
  obtain ⟨v, S, rfl, hk1⟩ := zpI_t hk
  obtain ⟨r, S, rfl, hk2⟩ := zpR_t hk1
  obtain ⟨y, st, rfl, hy, hst1⟩ := zRepL_I hst
  obtain ⟨o, st, rfl, ho, hst2⟩ := zRepL_R hst1
  obtain ⟨j, kd, len, x, rfl, hgt, hk3⟩ := zat_t hk2
  obtain ⟨a, en, rfl, hwi, hcell⟩ := zat_w hHp ho
  rw [hgt] at hcell
  have hk3 : cond (Nat.beq kd (16 + ci)) (zF (fun y => zsetK d h.1 j (kd, len, y) (fun t => k L S (t, h.2))) (zup 40 x n (zcap v))) false = true := hk3
  cases hb : Nat.beq kd (16 + ci)
  · rw [hb] at hk3
    cases hk3
  · have hb2 := Nat.eq_of_beq_eq_true hb
    rw [hb, cond_true, zF_eq, zsetK_eq, hb2] at hk3
    obtain ⟨fs, rfl, hlen, hfl⟩ := zCell_obj hcell hb2
    refine row Cx hP hD hS hwi rfl rfl (by rw [hlen]; exact hn) (fun H1 locs1 hP1 hD1 hS1 => ?_)
    have hz2 := zad_set (cA := cA) (e' := .inr (ci, fs.set n (.int y))) hwi
    exact hs Ch cA D ad0 A MC MS p l e s m args below meth c ls _ H1 locs1 cells slots L _ _ Cx hk3 ⟨_, zHp_set hHp hwi (zCell_ok (by rw [List.length_set]; exact hlen) (zFl_up (zcap_lt v) hfl (by unfold zFl; rw [hz, cond_false]; exact ⟨y, rfl, ⟨zcap_ok hy, fun q => absurd q (Nat.ne_of_lt (zcap_lt39 v))⟩, fun q => absurd q (Nat.not_lt.mpr (Nat.le_of_lt (zcap_lt39 v))), fun q => absurd q (Nat.not_le.mpr (zcap_lt38 v))⟩))), by rw [hz2]; exact hpre, hP1, hD1, hS1, by rw [hz2]; exact hL, by rw [hz2]; exact hst2, hcb, hsb⟩
theorem sm_putR [G : zGh] {ci kc n : Nat} {ty : FieldType} (hkc : 16 + ci = kc) (hn : n < zN ci) (hz : zisR (zfty ci n) = true) (hty : zisR ty = true) (row : zPut X pc ci n ty) (hs : zSim X fr P (pc + 3) k) : zSim X fr P pc (xpfR kc n k) := by
  subst hkc
  intro Ch cA D ad0 A MC MS p l e s m args below meth c ls st H locs cells slots L S h Cx hk R0
  obtain ⟨ws, hHp, hpre, hP, hD, hS, hL, hst, hcb, hsb⟩ := R0
  obtain ⟨v, S, rfl, hk1⟩ := zpR_t hk
  obtain ⟨r, S, rfl, hk2⟩ := zpR_t hk1
  obtain ⟨y, st, rfl, hy, hst1⟩ := zRepL_R hst
  obtain ⟨o, st, rfl, ho, hst2⟩ := zRepL_R hst1
  obtain ⟨j, kd, len, x, rfl, hgt, hk3⟩ := zat_t hk2
  obtain ⟨a, en, rfl, hwi, hcell⟩ := zat_w hHp ho
  rw [hgt] at hcell
  have hk3 : cond (Nat.beq kd (16 + ci)) (cond (Nat.ble 549755813888 v) false (zF (fun y => zsetK d h.1 j (kd, len, y) (fun t => k L S (t, h.2))) (zup 40 x n v))) false = true := hk3
  cases hb : Nat.beq kd (16 + ci)
  · rw [hb] at hk3
    cases hk3
  · have hb2 := Nat.eq_of_beq_eq_true hb
    rw [hb, cond_true] at hk3
    cases hbw : Nat.ble 549755813888 v
    · rw [hbw, cond_false, zF_eq, zsetK_eq, hb2] at hk3
      obtain ⟨fs, rfl, hlen, hfl⟩ := zCell_obj hcell hb2
      have hnf : narrow ty (va_rf y) = va_rf y ∧ fits ty (va_rf y) = true := by
        cases ty <;> first | (cases y <;> exact ⟨rfl, rfl⟩) | (cases hty)
      refine row Cx hP hD hS hwi hnf.1 hnf.2 (by rw [hlen]; exact hn) (fun H1 locs1 hP1 hD1 hS1 => ?_)
      have hz2 := zad_set (cA := cA) (e' := .inr (ci, fs.set n (va_rf y))) hwi
      exact hs Ch cA D ad0 A MC MS p l e s m args below meth c ls _ H1 locs1 cells slots L _ _ Cx hk3 ⟨_, zHp_set hHp hwi (zCell_ok (by rw [List.length_set]; exact hlen) (zFl_up (Nat.lt_trans (zble_f hbw) (by decide)) hfl (by unfold zFl; rw [hz, cond_true]; exact ⟨y, rfl, Or.inl ⟨zble_f hbw, hy⟩⟩))), by rw [hz2]; exact hpre, hP1, hD1, hS1, by rw [hz2]; exact hL, by rw [hz2]; exact hst2, hcb, hsb⟩
    · rw [hbw] at hk3
      cases hk3
end OPS
end
section
/-! cells made -/
theorem zad_push {cA : Nat → ClassId} (ws : va_W) (q : Nat) (e : va_E) : zad cA (ws ++ [(q, e)]) = (ws.map (fun q => q.1) ++ [q], cA) := by
  show ((ws ++ [(q, e)]).map (fun q => q.1), cA) = _
  rw [List.map_append]
  rfl
theorem zad_new {cA : Nat → ClassId} {ws : va_W} {q n : Nat} {e : va_E} (h : ws.length = n) : (zad cA (ws ++ [(q, e)])).1[n]? = some q := by
  rw [zad_push, ← h]
  show (ws.map (fun q => q.1) ++ [q])[ws.length]? = some q
  rw [← List.length_map (f := fun q : Nat × va_E => q.1), List.getElem?_concat_length]
theorem zPre_push {cA : Nat → ClassId} (ws : va_W) (q : Nat) (e : va_E) : zPre (zad cA ws) (zad cA (ws ++ [(q, e)])) := ⟨⟨[q], by rw [zad_push]⟩, rfl⟩
theorem zHp_push [zCh] {d : Nat} {cA : Nat → ClassId} {h : zH d} {ws : va_W} (hH : zHp cA h ws) {q : Nat} {e : va_E} {c : zC} {b : Nat × Nat} (hn : h.2.1 < 2 ^ d) (hc : zCell cA (zad cA (ws ++ [(q, e)])) c e) : zHp cA (zset d h.1 h.2.1 c, (h.2.1 + 1, b)) (ws ++ [(q, e)]) := by
  refine ⟨by rw [List.length_append, hH.1]; rfl, hn, fun i x hi => ?_⟩
  by_cases hl : i < ws.length
  · rw [List.getElem?_append_left hl] at hi
    show zCell cA _ (zget d (zset d h.1 h.2.1 c) i) x.2
    rw [zget_set_ne d _ _ _ _ hn (Nat.lt_of_lt_of_le (by rw [← hH.1]; exact hl) hH.2.1) (by have := hH.1; omega)]
    exact zCell_mono (zPre_push ws q e) (hH.2.2 i x hi)
  · have hb : i < (ws ++ [(q, e)]).length := (List.getElem?_eq_some_iff.mp hi).1
    rw [List.length_append] at hb
    have hb : i < ws.length + 1 := hb
    have hie : i = ws.length := by omega
    subst hie
    rw [List.getElem?_concat_length] at hi
    cases hi
    show zCell cA _ (zget d (zset d h.1 h.2.1 c) ws.length) e
    rw [hH.1, zget_set_same d _ _ _ hn]
    exact hc
theorem zLoc_mono [zGh] {ad ad' : zA} (hp : zPre ad ad') {nL : Nat} {L : List zV} {ls : Array Slot} (h : zLoc ad nL L ls) : zLoc ad' nL L ls := by
  obtain ⟨h1, lv, h2, h3⟩ := h
  exact ⟨h1, lv, h2, fun i v hv => (h3 i v hv).imp id (fun ⟨x, a, b⟩ => ⟨x, a, zRep_mono hp b⟩)⟩
theorem zwd_zero (b i : Nat) : zwd b 0 i = 0 := by
  unfold zwd
  show (0 >>> (b * i)) % 2 ^ b = 0
  rw [Nat.zero_shiftRight, Nat.zero_mod]
/-- a cell behind the others, with what is left of the room -/
noncomputable def zmk {d : Nat} (h : zH d) (need : Nat) (c : zC) (k : Nat → zH d → Bool) : Bool := Prod.rec (motive := fun _ => Bool) (fun t u => Prod.rec (motive := fun _ => Bool) (fun n w => Prod.rec (motive := fun _ => Bool) (fun bc bs => cond (Nat.ble 1 bc) (cond (Nat.ble need bs) (cond (Nat.ble (Nat.pow 2 d) n) false (zsetK d t n c (fun t => zF (fun n => zF (fun bc => zF (fun bs => k n (t, (n, (bc, bs)))) (Nat.sub bs need)) (Nat.sub bc 1)) (Nat.succ n)))) false) false) w) u) h
theorem zmk_t {d : Nat} {h : zH d} {need : Nat} {c : zC} {k : Nat → zH d → Bool} (hk : zmk h need c k = true) : 1 ≤ h.2.2.1 ∧ need ≤ h.2.2.2 ∧ h.2.1 < 2 ^ d ∧ k (h.2.1 + 1) (zset d h.1 h.2.1 c, (h.2.1 + 1, (h.2.2.1 - 1, h.2.2.2 - need))) = true := by
  obtain ⟨t, n, bc, bs⟩ := h
  have hk : cond (Nat.ble 1 bc) (cond (Nat.ble need bs) (cond (Nat.ble (Nat.pow 2 d) n) false (zsetK d t n c (fun t => zF (fun n => zF (fun bc => zF (fun bs => k n (t, (n, (bc, bs)))) (Nat.sub bs need)) (Nat.sub bc 1)) (Nat.succ n)))) false) false = true := hk
  cases h1 : Nat.ble 1 bc
  · rw [h1] at hk; cases hk
  · cases h2 : Nat.ble need bs
    · rw [h1, h2] at hk; cases hk
    · cases h3 : Nat.ble (Nat.pow 2 d) n
      · rw [h1, h2, h3, cond_true, cond_true, cond_false, zsetK_eq, zF_eq, zF_eq, zF_eq] at hk
        exact ⟨Nat.le_of_ble_eq_true h1, Nat.le_of_ble_eq_true h2, zble_f h3, hk⟩
      · rw [h1, h2, h3] at hk; cases hk
theorem va_RA_inj {s : State} {c1 c2 : ClassId} {ty : FieldType} (h1 : va_RA s c1 ty) (h2 : va_RA s c2 ty) : c1 = c2 := by
  cases ty with
  | object C =>
    obtain ⟨_, _, _, _, _, e1⟩ := h1
    obtain ⟨_, _, _, _, _, e2⟩ := h2
    exact Option.some.inj (e1.symm.trans e2)
  | _ => exact Option.some.inj (Eq.trans (Eq.symm h1) h2)
theorem va_K_last {D : va_G} {cl : List vw_C} {tys : List (ClassId × FieldType)} {s : State} {cA : ClassId} {ty : FieldType} (h : va_K D cl (tys ++ [(cA, ty)]) s) : va_RA s cA ty := (h.2 tys.length (cA, ty) (by rw [List.getElem?_concat_length])).2
section OPS
variable {d : Nat} {X : zM} {fr : Nat} {P : zP d} {pc pc' tgt : Nat} {k : zK d}
noncomputable def xnew (kc N : Nat) (k : zK d) : zK d := fun L S h => zmk h N (kc, N, 0) (fun r h => k L (zR r :: S) h)
theorem zdef [zCh] (t : FieldType) (ad : zA) (h : t = .int ∨ zisR t = true) : zRepC ad (cond (zisR t) (zR 0) (zI 0)) (defaultValue t) := by
  rcases h with rfl | h
  · exact ⟨0, rfl, ⟨⟨fun _ => rfl, fun q => absurd q (by omega)⟩, fun q => absurd q (by decide)⟩, fun q => absurd q (by omega), fun q => absurd q (by omega)⟩
  · rw [h, cond_true]
    cases t <;> first | exact ⟨none, rfl, Or.inl ⟨by decide, Or.inl ⟨rfl, rfl⟩⟩⟩ | cases h
theorem sm_new [G : zGh] {ci kc index : Nat} {C : String} {T : u_T} {N : Nat} {ty0 : Nat → FieldType} (hkc : 16 + ci = kc) (hN : N = zN ci) (hfty : ∀ j, j < N → ty0 j = zfty ci j) (hall : ∀ j, j < N → zfty ci j = .int ∨ zisR (zfty ci j) = true) (hin : ∀ w ∈ u_ws C T N, w ∈ ztbl) (hty : ∀ k, k < N → parseFieldDescriptor (T k).2.2.1 = some (ty0 k)) (hc : zcl[ci]? = some (C, T, N)) (hcl : Cond.classLink X.1 index C ∈ ztbl) (hinst : Cond.instantiable C N ∈ ztbl) (hini : Cond.initialized C ∈ ztbl) (dg : decode X.2.1 pc = .ok (.new index, 3)) (hs : zSim X fr P (pc + 3) k) : zSim X fr P pc (xnew kc N k) := by
  subst hkc
  intro Ch cA D ad0 A MC MS p l e s m args below meth c ls st H locs cells slots L S h Cx hk R0
  obtain ⟨ws, hHp, hpre, hP, hD, hS, hL, hst, hcb, hsb⟩ := R0
  obtain ⟨h1, h2, h3, hk⟩ := zmk_t hk
  refine va_new (fs := (List.range N).map (fun j => defaultValue (ty0 j))) Cx.1 Cx.2.1 Cx.2.2.2.2.1 hin ty0 hty Cx.2.2.2.1 (Cx.2.2.2.2.1 _ hcl) (Cx.2.2.2.2.1 _ hinst) (Cx.2.2.2.2.1 _ hini) Cx.2.2.2.2.2.1 hP hD hS Cx.2.2.2.2.2.2.1 hc (fun j hj => ?_) (by show cells + 1 ≤ MC; omega) (by show slots + N ≤ MS; omega) dg (fun q H1 hP1 hD1 hS1 => ?_)
  · show _ = ((List.range N).map (fun j => defaultValue (ty0 j))).getD j .null
    rw [List.getD_eq_getElem?_getD, List.getElem?_map, List.getElem?_range hj]
    rfl
  · have hp := zPre_push (cA := cA) ws q (.inr (ci, (List.range N).map (fun j => defaultValue (ty0 j))))
    refine hs Ch cA D ad0 A MC MS p l e s m args below meth c ls _ H1 locs _ _ L _ _ Cx hk ⟨_, zHp_push hHp h3 (zCell_ok (by rw [List.length_map, List.length_range]; exact hN) (fun j v hj => ?_)), zPre_trans hpre hp, hP1, hD1, hS1, zLoc_mono hp hL, ⟨⟨some q, rfl, Or.inr ⟨h.2.1, q, rfl, zad_new hHp.1, rfl⟩⟩, zRepL_mono hp hst⟩, by show cells + 1 + (h.2.2.1 - 1) ≤ MC; omega, by show slots + N + (h.2.2.2 - N) ≤ MS; omega⟩
    have hj2 : j < N := by
      have := (List.getElem?_eq_some_iff.mp hj).1
      rw [List.length_map, List.length_range] at this
      exact this
    rw [List.getElem?_map, List.getElem?_range hj2] at hj
    cases hj
    unfold zFl
    rw [zwd_zero]
    show zRepC _ _ (defaultValue (ty0 j))
    rw [hfty j hj2]
    exact zdef _ _ (hall j hj2)
/-- new int[n], long[n], boolean[n] -/
noncomputable def xnwa (kc : Nat) (k : zK d) : zK d := fun L S h => zpI S (fun n S => cond (Nat.ble n 100000) (zmk h n (kc, n, 0) (fun r h => k L (zR r :: S) h)) false)
theorem zi_len {i : Int32} {n : Nat} (hi : n < 4294967296 → zi i = n) (h : n ≤ 100000) : ¬ i < 0 ∧ i.toNatClampNeg = n := by
  have e := hi (by omega)
  have h2 : i.toInt = (n : Int) := by
    rcases zi_cases i with ⟨c1, c2⟩ | ⟨c1, c2⟩ <;> omega
  refine ⟨fun q => ?_, by show i.toInt.toNat = n; omega⟩
  rw [Int32.lt_iff_toInt_lt] at q
  have h0 : (0 : Int32).toInt = 0 := rfl
  omega
theorem sm_newarray [G : zGh] {kc : Nat} {atype : ArrayType} {ty : FieldType} (dg : decode X.2.1 pc = .ok (.newarray atype, 2)) (hty : newarray.typeOf atype = ty) (hk2 : kc < 3) (hT : ∀ cA, (zty cA)[kc]? = some (cA kc, ty)) (harr : Cond.arrayClass ty ∈ ztbl) (hcb0 : componentBytes ty ≤ 8)
    (hcell : ∀ [zCh] (cA : Nat → ClassId) (ad : zA) (n : Nat), n < 2147483648 → ∃ a0 : vp_A, a0.1 = n ∧ (∀ c : ClassId, vp_cell c a0 = arrV c n (fun _ => defaultValue ty)) ∧ zCell cA ad (kc, n, 0) (.inl (cA kc, a0))) (hs : zSim X fr P (pc + 2) k) : zSim X fr P pc (xnwa kc k) := by
  intro Ch cA D ad0 A MC MS p l e s m args below meth c ls st H locs cells slots L S h Cx hk R0
  obtain ⟨ws, hHp, hpre, hP, hD, hS, hL, hst, hcb, hsb⟩ := R0
  obtain ⟨n, S, rfl, hk1⟩ := zpI_t hk
  obtain ⟨i, st, rfl, hi, hst1⟩ := zRepL_I hst
  have hk1 : cond (Nat.ble n 100000) (zmk h n (kc, n, 0) (fun r h => k L (zR r :: S) h)) false = true := hk1
  cases hb : Nat.ble n 100000
  · rw [hb] at hk1; cases hk1
  · rw [hb, cond_true] at hk1
    have hn := Nat.le_of_ble_eq_true hb
    obtain ⟨h1, h2, h3, hk3⟩ := zmk_t hk1
    obtain ⟨g1, g2⟩ := zi_len hi.1 hn
    obtain ⟨a0, e0, ha0, -⟩ := hcell cA ([], cA) n (by omega)
    subst hty
    refine va_newa (atype := atype) (a0 := a0) Cx.1 Cx.2.1 (Cx.2.2.2.2.1 _ harr) rfl Cx.2.2.2.2.2.1 hP hD hS Cx.2.2.2.2.2.2.1 ha0 g1 g2 (Nat.le_trans (Nat.mul_le_mul hn hcb0) (by decide)) (by show cells + 1 ≤ MC; omega) (by show slots + n ≤ MS; omega) dg (fun q cA1 H1 hK1 hP1 hD1 hS1 => ?_)
    have hce : cA1 = cA kc := va_RA_inj (va_K_last hK1) (Cx.2.2.2.2.2.1.2 kc _ (hT cA)).2
    subst hce
    obtain ⟨a1, e1, ha1, hc1⟩ := hcell cA (zad cA (ws ++ [(q, .inl (cA kc, a0))])) n (by omega)
    have hp := zPre_push (cA := cA) ws q (.inl (cA kc, a0))
    have hca : vp_cell (cA kc) a0 = vp_cell (cA kc) a1 := (ha0 _).trans (ha1 _).symm
    have hP2 : va_P D zcl (ws ++ [(q, .inl (cA kc, a1))]) H1 := by
      intro j x hj
      by_cases hl : j < ws.length
      · exact hP1 j x (by rw [List.getElem?_append_left hl] at hj ⊢; exact hj)
      · have hb := (List.getElem?_eq_some_iff.mp hj).1
        rw [List.length_append] at hb
        have hb : j < ws.length + 1 := hb
        have hje : j = ws.length := by omega
        subst hje
        rw [List.getElem?_concat_length] at hj
        cases hj
        have := hP1 ws.length (q, .inl (cA kc, a0)) (by rw [List.getElem?_concat_length])
        show H1[q]? = some (vp_cell (cA kc) a1)
        rw [← hca]
        exact this
    have hz : zad cA (ws ++ [(q, .inl (cA kc, a1))]) = zad cA (ws ++ [(q, .inl (cA kc, a0))]) := by rw [zad_push, zad_push]
    have hD2 : va_D A (ws ++ [(q, .inl (cA kc, a1))]) := by
      have lift : ∀ (j : Nat) (x : Nat × va_E), (ws ++ [(q, .inl (cA kc, a1))])[j]? = some x → ∃ y, (ws ++ [(q, .inl (cA kc, a0))])[j]? = some y ∧ y.1 = x.1 := by
        intro j x hj
        have h5 : (zad cA (ws ++ [(q, .inl (cA kc, a1))])).1[j]? = some x.1 := by show (List.map (fun q => q.1) (ws ++ [(q, .inl (cA kc, a1))]))[j]? = some x.1; rw [List.getElem?_map, hj]; rfl
        rw [hz] at h5
        obtain ⟨e5, h6⟩ := zad_at h5
        exact ⟨_, h6, rfl⟩
      refine ⟨fun a b x y hx hy hxy => ?_, fun j x hj => ?_⟩
      · obtain ⟨x', hx', ex⟩ := lift a x hx
        obtain ⟨y', hy', ey⟩ := lift b y hy
        exact hD1.1 a b x' y' hx' hy' (by rw [ex, ey]; exact hxy)
      · obtain ⟨x', hx', ex⟩ := lift j x hj
        rw [← ex]
        exact hD1.2 j x' hx'
    exact hs Ch cA D ad0 A MC MS p l e s m args below meth c ls _ H1 locs _ _ L _ _ Cx hk3 ⟨_, zHp_push hHp h3 (by rw [hz]; exact hc1), by rw [hz]; exact zPre_trans hpre hp, hP2, hD2, hS1, by rw [hz]; exact zLoc_mono hp hL, by rw [hz]; exact ⟨⟨some q, rfl, Or.inr ⟨h.2.1, q, rfl, zad_new hHp.1, rfl⟩⟩, zRepL_mono hp hst1⟩, by show cells + 1 + (h.2.2.1 - 1) ≤ MC; omega, by show slots + n + (h.2.2.2 - n) ≤ MS; omega⟩
theorem sm_newI [G : zGh] (dg : decode X.2.1 pc = .ok (.newarray .int, 2)) (harr : Cond.arrayClass .int ∈ ztbl) (hs : zSim X fr P (pc + 2) k) : zSim X fr P pc (xnwa 0 k) := sm_newarray (ty := .int) dg rfl (by decide) (fun _ => rfl) harr (by decide) (fun cA ad n hn => ⟨(n, .inl (fun _ => 0)), rfl, fun _ => rfl, zCell_ik (by decide) hn (fun j _ => by rw [zwd_zero]; exact ⟨fun _ => rfl, fun q => absurd q (by omega)⟩)⟩) hs
theorem sm_newZ [G : zGh] (dg : decode X.2.1 pc = .ok (.newarray .boolean, 2)) (harr : Cond.arrayClass .boolean ∈ ztbl) (hs : zSim X fr P (pc + 2) k) : zSim X fr P pc (xnwa 1 k) := sm_newarray (ty := .boolean) dg rfl (by decide) (fun _ => rfl) harr (by decide) (fun cA ad n hn => ⟨(n, .inl (fun _ => 0)), rfl, fun _ => rfl, zCell_ik (by decide) hn (fun j _ => by rw [zwd_zero]; exact ⟨fun _ => rfl, fun q => absurd q (by omega)⟩)⟩) hs
theorem sm_newJ [G : zGh] (dg : decode X.2.1 pc = .ok (.newarray .long, 2)) (harr : Cond.arrayClass .long ∈ ztbl) (hs : zSim X fr P (pc + 2) k) : zSim X fr P pc (xnwa 2 k) := sm_newarray (ty := .long) dg rfl (by decide) (fun _ => rfl) harr (by decide) (fun cA ad n hn => ⟨(n, .inr (.inl (fun _ => 0))), rfl, fun _ => rfl, zCell_jk hn (fun j _ => by rw [zwd_zero]; exact ⟨fun _ => rfl, fun q => absurd q (by decide)⟩)⟩) hs
/-- new C[n] -/
theorem sm_anewarray [G : zGh] {kc index : Nat} {C : String} (h3 : 3 ≤ kc) (h16 : kc < 8) (hT : ∀ cA, (zty cA)[kc]? = some (cA kc, .object C)) (hcl : Cond.classLink X.1 index C ∈ ztbl) (hov : ∀ s, zEx s → va_AO C s) (dg : decode X.2.1 pc = .ok (.anewarray index, 3)) (hs : zSim X fr P (pc + 3) k) : zSim X fr P pc (xnwa kc k) := by
  intro Ch cA D ad0 A MC MS p l e s m args below meth c ls st H locs cells slots L S h Cx hk R0
  obtain ⟨ws, hHp, hpre, hP, hD, hS, hL, hst, hcb, hsb⟩ := R0
  obtain ⟨n, S, rfl, hk1⟩ := zpI_t hk
  obtain ⟨i, st, rfl, hi, hst1⟩ := zRepL_I hst
  have hk1 : cond (Nat.ble n 100000) (zmk h n (kc, n, 0) (fun r h => k L (zR r :: S) h)) false = true := hk1
  cases hb : Nat.ble n 100000
  · rw [hb] at hk1; cases hk1
  · rw [hb, cond_true] at hk1
    have hn := Nat.le_of_ble_eq_true hb
    obtain ⟨h1, h2, h4, hk3⟩ := zmk_t hk1
    obtain ⟨g1, g2⟩ := zi_len hi.1 hn
    refine va_newq Cx.1 Cx.2.1 Cx.2.2.2.1 (Cx.2.2.2.2.1 _ hcl) (hov _ Cx.2.2.2.2.2.2.2.2.2.2.2) Cx.2.2.2.2.2.1 hP hD hS Cx.2.2.2.2.2.2.1 g1 g2 (by omega) (by show cells + 1 ≤ MC; omega) (by show slots + n ≤ MS; omega) dg (fun q cA1 H1 hK1 hP1 hD1 hS1 => ?_)
    have hce : cA1 = cA kc := va_RA_inj (va_K_last hK1) (Cx.2.2.2.2.2.1.2 kc _ (hT cA)).2
    subst hce
    have hp := zPre_push (cA := cA) ws q (.inl (cA kc, n, .inr (.inr (.inr (.inr (fun _ => none))))))
    exact hs Ch cA D ad0 A MC MS p l e s m args below meth c ls _ H1 locs _ _ L _ _ Cx hk3 ⟨_, zHp_push hHp h4 (zCell_rk h3 h16 (by omega) (fun j _ => by rw [zwd_zero]; exact Or.inl ⟨by decide, Or.inl ⟨rfl, rfl⟩⟩)), zPre_trans hpre hp, hP1, hD1, hS1, zLoc_mono hp hL, ⟨⟨some q, rfl, Or.inr ⟨h.2.1, q, rfl, zad_new hHp.1, rfl⟩⟩, zRepL_mono hp hst1⟩, by show cells + 1 + (h.2.2.1 - 1) ≤ MC; omega, by show slots + n + (h.2.2.2 - n) ≤ MS; omega⟩
end OPS
end
section
/-! a method as a whole; calls -/
noncomputable def zpad (n : Nat) : (List zV → Bool) → Bool := Nat.rec (motive := fun _ => (List zV → Bool) → Bool) (fun k => k []) (fun _ r k => r (fun t => k (zU :: t))) n
theorem zpad_t : ∀ (n : Nat) {k : List zV → Bool}, zpad n k = true → ∃ L : List zV, L.length = n ∧ (∀ (i : Nat) (v : zV), L[i]? = some v → v = zU) ∧ k L = true
  | 0, k, h => ⟨[], rfl, fun i v q => by simp at q, h⟩
  | n + 1, k, h => by
    obtain ⟨L, h1, h2, h3⟩ := zpad_t n (k := fun t => k (zU :: t)) h
    refine ⟨zU :: L, by simp [h1], fun i v q => ?_, h3⟩
    cases i with
    | zero => simpa using q.symm
    | succ i => exact h2 i v (by simpa using q)
/-- the locals at the entry -/
noncomputable def zen (as : List zV) : Nat → (List zV → Bool) → Bool := List.rec (motive := fun _ => Nat → (List zV → Bool) → Bool) (fun n k => zpad n k) (fun v _ r n k => Nat.rec (motive := fun _ => Bool) false (fun m _ => Sum.rec (motive := fun _ => Bool) (fun a => r m (fun t => k (zI a :: t))) (fun u => Sum.rec (motive := fun _ => Bool) (fun a => r m (fun t => k (zR a :: t))) (fun w => Sum.rec (motive := fun _ => Bool) (fun a => Nat.rec (motive := fun _ => Bool) false (fun m _ => r m (fun t => k (zL a :: zU :: t))) m) (fun a => r m (fun t => k (zW a :: t))) w) u) v) n) as
theorem zen_t [zGh] {ad : zA} : ∀ (as : List zV) (av : List Value) (n off : Nat) {k : List zV → Bool}, zRepL ad as av → zen as n k = true → ∃ L, L.length = n ∧ (lg_sl av).length ≤ n ∧ (∀ i v, L[i]? = some v → v = zU ∨ ∃ x, (off + i, x) ∈ lv_args off av ∧ zRep ad v x) ∧ k L = true
  | [], [], n, off, k, _, h => by
    obtain ⟨L, h1, h2, h3⟩ := zpad_t n (k := k) h
    exact ⟨L, h1, by simp [lg_sl], fun i v q => Or.inl (h2 i v q), h3⟩
  | v :: as, x :: av, 0, off, k, _, h => by cases h
  | .inl a :: as, x :: av, n + 1, off, k, hr, h => by
    have h : zen as n (fun t => k (zI a :: t)) = true := h
    obtain ⟨L, h1, h2, h3, h4⟩ := zen_t as av n (off + 1) hr.2 h
    obtain ⟨i, rfl, hi⟩ := hr.1
    refine ⟨zI a :: L, by simp [h1], ?_, fun j v q => ?_, h4⟩
    · have : (lg_sl (Value.int i :: av)).length = (lg_sl av).length + 1 := by simp [lg_sl, Value.category, Nat.add_comm]
      omega
    · cases j with
      | zero =>
        have q : zI a = v := by simpa using q
        subst q
        exact Or.inr ⟨_, List.mem_cons_self, i, rfl, hi⟩
      | succ j =>
        rcases h3 j v (by simpa using q) with z | ⟨y, hy, hz⟩
        · exact Or.inl z
        · refine Or.inr ⟨y, List.mem_cons_of_mem _ ?_, hz⟩
          rw [show off + (j + 1) = off + 1 + j by omega]
          exact hy
  | .inr (.inl a) :: as, x :: av, n + 1, off, k, hr, h => by
    have h : zen as n (fun t => k (zR a :: t)) = true := h
    obtain ⟨L, h1, h2, h3, h4⟩ := zen_t as av n (off + 1) hr.2 h
    obtain ⟨i, rfl, hi⟩ := hr.1
    have hcat : (va_rf i).category = 1 := by cases i <;> rfl
    refine ⟨zR a :: L, by simp [h1], ?_, fun j v q => ?_, h4⟩
    · have : (lg_sl (va_rf i :: av)).length = (lg_sl av).length + 1 := by simp [lg_sl, hcat, Nat.add_comm]
      omega
    · cases j with
      | zero =>
        have q : zR a = v := by simpa using q
        subst q
        exact Or.inr ⟨_, List.mem_cons_self, i, rfl, hi⟩
      | succ j =>
        rcases h3 j v (by simpa using q) with z | ⟨y, hy, hz⟩
        · exact Or.inl z
        · refine Or.inr ⟨y, List.mem_cons_of_mem _ ?_, hz⟩
          rw [hcat, show off + (j + 1) = off + 1 + j by omega]
          exact hy
  | .inr (.inr (.inl a)) :: as, x :: av, 1, off, k, hr, h => by cases h
  | .inr (.inr (.inl a)) :: as, x :: av, n + 2, off, k, hr, h => by
    have h : zen as n (fun t => k (zL a :: zU :: t)) = true := h
    obtain ⟨L, h1, h2, h3, h4⟩ := zen_t as av n (off + 2) hr.2 h
    obtain ⟨i, rfl, hi⟩ := hr.1
    refine ⟨zL a :: zU :: L, by simp [h1], ?_, fun j v q => ?_, h4⟩
    · have : (lg_sl (Value.long i :: av)).length = (lg_sl av).length + 2 := by simp [lg_sl, Value.category]
      omega
    · match j, q with
      | 0, q =>
        have q : zL a = v := by simpa using q
        subst q
        exact Or.inr ⟨_, List.mem_cons_self, i, rfl, hi⟩
      | 1, q =>
        have q : zU = v := by simpa using q
        exact Or.inl q.symm
      | j + 2, q =>
        rcases h3 j v (by simpa using q) with z | ⟨y, hy, hz⟩
        · exact Or.inl z
        · refine Or.inr ⟨y, List.mem_cons_of_mem _ ?_, hz⟩
          rw [show off + (j + 2) = off + 2 + j by omega]
          exact hy
  | .inr (.inr (.inr a)) :: as, x :: av, n + 1, off, k, hr, h => by
    have h : zen as n (fun t => k (zW a :: t)) = true := h
    obtain ⟨L, h1, h2, h3, h4⟩ := zen_t as av n (off + 1) hr.2 h
    have hcat : x.category = 1 := by
      rcases hr.1 with ⟨-, k0, a0, -, -, -, rfl⟩ | ⟨-, rfl⟩
      · rfl
      · generalize zop ad.2 (a - 1152921504606846976) = o
        cases o <;> rfl
    refine ⟨zW a :: L, by simp [h1], ?_, fun j v q => ?_, h4⟩
    · have : (lg_sl (x :: av)).length = (lg_sl av).length + 1 := by simp [lg_sl, hcat, Nat.add_comm]
      omega
    · cases j with
      | zero =>
        have q : zW a = v := by simpa using q
        subst q
        exact Or.inr ⟨_, List.mem_cons_self, hr.1⟩
      | succ j =>
        rcases h3 j v (by simpa using q) with z | ⟨y, hy, hz⟩
        · exact Or.inl z
        · refine Or.inr ⟨y, List.mem_cons_of_mem _ ?_, hz⟩
          rw [hcat, show off + (j + 1) = off + 1 + j by omega]
          exact hy
abbrev zws (X : zM) (y : MethodName) : List Cond := Cond.code y X.2.1 X.2.2.1 X.2.2.2.1 :: ztbl
def zPc (cA : Nat → ClassId) (D : va_G) (ws : va_W) (av : List Value) (sz : Nat) : Array Value → State → Prop := va_Pc av (fun U => U.heap.size = sz ∧ va_P D zcl ws U.heap ∧ va_K D zcl (zty cA) U ∧ va_D (fun _ => True) ws ∧ zStat (va_A ws sz) U U.heap ∧ zEx U)
def zMet {d : Nat} (X : zM) (y : MethodName) (fr : Nat) (f : List zV → zH d → zP d → Bool) : Prop :=
  ∀ [zGh] [zCh] (l : Launch) (cA : Nat → ClassId) (D : va_G) (ws : va_W) (av : List Value) (as : List zV) (h : zH d) (P : zP d) (sz : Nat), f as h P = true → zRepL (zad cA ws) as av → zHp cA h ws → cA 20 = zg 0 →
    Met l y (zws X y) (zRm fr h.2.2.1 h.2.2.2) (zPc cA D ws av sz) (zQc P cA D (zad cA ws) (va_A ws sz)) h.2.2.1 h.2.2.2 (va_A ws sz)
noncomputable def zfn {d : Nat} (nL : Nat) (body : zP d → zK d) : List zV → zH d → zP d → Bool := fun as h P => zen as nL (fun L => body P L [] h)
theorem zmet_mk {d : Nat} {X : zM} {y : MethodName} {fr : Nat} {body : zP d → zK d} (hy : plainName y.cls = true) (h1 : X.1 = y.cls) (h2 : X.2.2.2.2 = y.name) (hs : ∀ [zGh] P, zSim X fr P 0 (body P)) : zMet X y fr (zfn X.2.2.1 body) := by
  intro G Ch l cA D ws av as h P sz hf has hH hT
  refine Met.ofW (cc := X.2.1) (maxL := X.2.2.1) (ret := X.2.2.2.1) hy rfl ?_
  intro p e s m args below meth c s₁ B hml hv
  obtain ⟨rfl, hsz, hP, hK, hD0, hst, hex⟩ := hv
  have hts := atoms_spec (ws := zws X y) B.pre
  subst hsz
  obtain ⟨L, hl1, hl2, hl3, hk⟩ := zen_t as av X.2.2.1 0 has hf
  have hl := lv_entry av (n := X.2.2.1) hl2
  rw [lg_entry_eq]
  refine hs P Ch cA D (zad cA ws) (va_A ws s.heap.size) h.2.2.1 h.2.2.2 p l e s m av.toArray below meth c _ [] s.heap [] 0 0 L [] h ⟨B.exec, B.bytes, hml, ?_, fun w hw => hts w (List.mem_cons_of_mem _ hw), hK, fun q hq => Or.inr hq, B.returns, ⟨B.notSynchronized, hT⟩, ?_, hst, hex⟩ hk ⟨ws, hH, zPre_refl _, hP, hD0.self, va_S.rf, ⟨hl1, _, hl, fun i v hv => ?_⟩, trivial, by omega, by omega⟩
  · rw [h1]
    exact findClass_of_methodNamed B.named
  · rw [h2]
    exact (name_of_methodNamed B.named B.method).1
  · have := hl3 i v hv
    rwa [Nat.zero_add] at this
/-- a recursive method: by depth -/
noncomputable def zrec {d : Nat} (nL : Nat) (body : (List zV → zH d → zP d → Bool) → zP d → zK d) (n : Nat) : List zV → zH d → zP d → Bool := Nat.rec (motive := fun _ => List zV → zH d → zP d → Bool) (fun _ _ _ => false) (fun _ r => zfn nL (body r)) n
theorem zmet_rec {d : Nat} {X : zM} {y : MethodName} {fr : Nat} {body : (List zV → zH d → zP d → Bool) → zP d → zK d} (hy : plainName y.cls = true) (h1 : X.1 = y.cls) (h2 : X.2.2.2.2 = y.name) (hs : ∀ n f, zMet X y (fr + n) f → ∀ [zGh] P, zSim X (fr + (n + 1)) P 0 (body f P)) : ∀ n, zMet X y (fr + n) (zrec X.2.2.1 body n)
  | 0 => fun l cA D ws av as h P sz hf => by cases hf
  | n + 1 => zmet_mk hy h1 h2 (hs n _ (zmet_rec hy h1 h2 hs n))
/-- arguments off the stack -/
noncomputable def zarg (n : Nat) : List zV → List zV → (List zV → List zV → Bool) → Bool := Nat.rec (motive := fun _ => List zV → List zV → (List zV → List zV → Bool) → Bool) (fun S as k => k as S) (fun _ r S as k => List.rec (motive := fun _ => Bool) false (fun v t _ => r t (v :: as) k) S) n
theorem zarg_t [zGh] {ad : zA} : ∀ (n : Nat) (S as : List zV) (st av : List Value) {k : List zV → List zV → Bool}, zRepL ad S st → zRepL ad as av → zarg n S as k = true → ∃ (as' S' : List zV) (av' rest : List Value), k as' S' = true ∧ zRepL ad as' av' ∧ zRepL ad S' rest ∧ av'.length = n + av.length ∧ av'.reverse ++ rest = av.reverse ++ st
  | 0, S, as, st, av, k, hS, ha, h => ⟨as, S, av, st, h, ha, hS, by omega, rfl⟩
  | n + 1, [], as, st, av, k, hS, ha, h => by cases h
  | n + 1, v :: S, as, x :: st, av, k, hS, ha, h => by
    have h : zarg n S (v :: as) k = true := h
    obtain ⟨as', S', av', rest, h1, h2, h3, h4, h5⟩ := zarg_t n S (v :: as) st (x :: av) hS.2 ⟨hS.1, ha⟩ h
    refine ⟨as', S', av', rest, h1, h2, h3, by rw [h4]; simp; omega, ?_⟩
    rw [h5]
    simp
noncomputable def zle4 (S : List zV) (k : Bool) : Bool := List.rec (motive := fun _ => Bool) k (fun _ t _ => List.rec (motive := fun _ => Bool) k (fun _ t _ => List.rec (motive := fun _ => Bool) k (fun _ t _ => List.rec (motive := fun _ => Bool) k (fun _ t _ => List.rec (motive := fun _ => Bool) k (fun _ _ _ => false) t) t) t) t) S
theorem zle4_t {S : List zV} {k : Bool} (h : zle4 S k = true) : S.length ≤ 4 ∧ k = true := by
  match S, h with
  | [], h => exact ⟨by decide, h⟩
  | [_], h => exact ⟨by simp, h⟩
  | [_, _], h => exact ⟨by simp, h⟩
  | [_, _, _], h => exact ⟨by simp, h⟩
  | [_, _, _, _], h => exact ⟨by simp, h⟩
theorem zcat [zGh] {ad : zA} : ∀ {S : List zV} {st : List Value}, zRepL ad S st → (st.map fun v => v.category).sum ≤ 2 * S.length
  | [], [], _ => by simp
  | v :: S, x :: st, h => by
    have h1 := zcat h.2
    rcases lv_cat x with q | q <;> simp [q] <;> omega
end
section
/-! calls -/
theorem zgood {w : Cond} (h : w ∈ ztbl) : goodWord w = true := (List.mem_filter.mp h).2
theorem zgoodIn {X : zM} {y : MethodName} (hc : Cond.code y X.2.1 X.2.2.1 X.2.2.2.1 ∈ ztbl) : GoodIn ztbl (zws X y) := by
  intro w hw
  have hm : w ∈ ztbl := by
    rcases List.mem_cons.mp hw with rfl | h
    · exact hc
    · exact h
  exact ⟨hm, good_of_word (zgood hm)⟩
theorem zSt1_to {C n : String} {tb : List Nat} {A A' : Nat → Prop} {s U : State} {H : Heap} {locs : List Loc} (h : zSt1 C n tb A s s.heap) (hS : va_S A s.heap H locs) (hA : ∀ q, A' q → A q) (hU : U.heap = H) (hvm : s.vm.Alike U.vm) : zSt1 C n tb A' U U.heap := by
  obtain ⟨t, ⟨cf, kf, fi, f, a, cell, z1, z2, z3, z4, z5, z6, z7, z8⟩, g, ⟨cell2, t1, t2, t3, t4, t5, t6, t7⟩, hg⟩ := h
  have k1 : H[a]? = some cell := by rw [hS.2.1 a (Array.getElem?_eq_some_iff.mp z5).1 z8]; exact z5
  have k2 : H[t]? = some cell2 := by rw [hS.2.1 t (Array.getElem?_eq_some_iff.mp t1).1 t7]; exact t1
  refine ⟨t, va_Z.moved hvm ⟨cf, kf, fi, f, a, cell, z1, z2, z3, z4, by rw [hU]; exact k1, z6, z7, fun q => z8 (hA _ q)⟩, g, va_T.moved hvm ⟨cell2, by rw [hU]; exact k2, t2, t3, t4, t5, t6, fun q => t7 (hA _ q)⟩, hg⟩
theorem zStat_to {A A' : Nat → Prop} {s U : State} {H : Heap} {locs : List Loc} (h : zStat A s s.heap) (hS : va_S A s.heap H locs) (hA : ∀ q, A' q → A q) (hU : U.heap = H) (hvm : s.vm.Alike U.vm) : zStat A' U U.heap := ⟨zSt1_to h.1 hS hA hU hvm, zSt1_to h.2.1 hS hA hU hvm, zSt1_to h.2.2 hS hA hU hvm⟩
theorem zSt1_mv {C n : String} {tb : List Nat} {A : Nat → Prop} {s U : State} (h : zSt1 C n tb A s s.heap) (hU : U.heap = s.heap) (hvm : s.vm.Alike U.vm) : zSt1 C n tb A U U.heap := zSt1_to h va_S.rf (fun _ q => q) hU hvm
theorem zPc_blind {cA : Nat → ClassId} {D : va_G} {ws : va_W} {av : List Value} {sz : Nat} : FrameBlind (zPc cA D ws av sz) := by
  intro a U g mk q
  obtain ⟨q0, q1, qP, qK, qD, qS, qE⟩ := q
  exact ⟨q0, q1, qP, va_K.moved (u := U) (U := U.calling g mk a) (Vm.Alike.refl U.vm) qK, qD, ⟨zSt1_mv (U := U.calling g mk a) qS.1 rfl (Vm.Alike.refl U.vm), zSt1_mv (U := U.calling g mk a) qS.2.1 rfl (Vm.Alike.refl U.vm), zSt1_mv (U := U.calling g mk a) qS.2.2 rfl (Vm.Alike.refl U.vm)⟩, zEx_moved (U := U.calling g mk a) (State.WarmedH.refl U) qE⟩
theorem zfree {A : Nat → Prop} {ws : va_W} {s : State} {H : Heap} {locs : List Loc} (hD : va_D A ws) (hS : va_S A s.heap H locs) (hA : ∀ q, s.heap.size ≤ q → A q) : ∀ q, va_A ws H.size q → A q := by
  intro q h
  rcases h with ⟨k, e, hk⟩ | h
  · exact hD.2 k _ hk
  · exact hA q (Nat.le_trans hS.1 h)
section CALLS
variable {p : Program} {l : Launch} {e : Env} {R : Room} {s : State} {m : MethodId} {args : Array Value} {below : List Frame} {meth : Method} {c : Code} {H : Heap} {locs : List Loc} {cells slots : Nat} {Q : State → Prop}
variable {pc : Nat} {ls : Array Slot} {rest st0 : List Value} {a : Array Value} {A0 A1 : Nat → Prop} {mc ms : Nat} {free : Addr → Prop}
theorem zrun {d : Nat} {P : zP d} {cA : Nat → ClassId} {D : va_G} {ad : zA} (hr : va_Run p l e R s m args below meth c H locs cells slots mc ms (F0 m pc ls st0) rest (zQc P cA D ad A1 a) free) (hS : va_S A0 s.heap H locs) (hA : ∀ q, q < H.size → A1 q → A0 q) (hf : ∀ q, free q → A0 q)
    (kk : ∀ [zCh] (r : zV) (h : zH d) (ws : va_W) (ov : Option Value) (H1 : Heap) (locs1 : List Loc), ((ov = none ∧ r = zU) ∨ ∃ x, ov = some x ∧ ∀ (_ : zGh), zRep (zad cA ws) r x) → P r h = true → zHp cA h ws → zPre ad (zad cA ws) → va_P D zcl ws H1 → va_D A1 ws → va_S A0 s.heap H1 locs1 → W p l e R s m args below meth c H1 locs1 (cells + mc) (slots + ms) Q (F0 m (pc + 3) ls (ov.toList ++ rest))) : W p l e R s m args below meth c H locs cells slots Q (F0 m pc ls st0) := by
  intro T hT X
  obtain ⟨v, st₀, t, T', L, h0, X', hL, e1, e2, ⟨⟨Ch, r, h, ws, ov, hv, hp, hb, hh, hpr, hP, hD⟩, hz, hk⟩, st⟩ := hr T hT X
  cases hv
  rw [h0] at hz hk
  obtain ⟨t2, a1, b1⟩ := kk r h ws v T'.heap (locs ++ L) hp hb hh hpr (by rw [e1]; exact hP) hD
    ⟨Nat.le_trans hS.1 (by rw [e1]; exact hz), fun q h1 h2 => by rw [e1, hk q (Nat.lt_of_lt_of_le h1 hS.1) (fun z => h2 (hA q (Nat.lt_of_lt_of_le h1 hS.1) z))]; exact hS.2.1 q h1 h2, fun q hq => by
      rcases List.mem_append.mp hq with h | h
      · exact hS.2.2 q h
      · exact hf _ (hL q h)⟩ T' rfl X'
  exact ⟨t2, st t2 a1, b1⟩
end CALLS
section OPS
variable {d : Nat} {X Xc : zM} {yc : MethodName} {fr frc : Nat} {P : zP d} {pc pc' tgt : Nat} {k : zK d} {f : List zV → zH d → zP d → Bool}
/-- the callee runs with a room of its own -/
noncomputable def zgo (mc ms : Nat) (f : List zV → zH d → zP d → Bool) (as : List zV) (h : zH d) (kr : zV → zH d → Bool) : Bool := Prod.rec (motive := fun _ => Bool) (fun t u => Prod.rec (motive := fun _ => Bool) (fun n w => Prod.rec (motive := fun _ => Bool) (fun bc bs => cond (Nat.ble mc bc) (cond (Nat.ble ms bs) (zF (fun bc => zF (fun bs => f as (t, (n, (mc, ms))) (fun r h => Prod.rec (motive := fun _ => Bool) (fun t u => Prod.rec (motive := fun _ => Bool) (fun n _ => kr r (t, (n, (bc, bs)))) u) h)) (Nat.sub bs ms)) (Nat.sub bc mc)) false) false) w) u) h
theorem zgo_t {mc ms : Nat} {as : List zV} {h : zH d} {kr : zV → zH d → Bool} (hk : zgo mc ms f as h kr = true) : mc ≤ h.2.2.1 ∧ ms ≤ h.2.2.2 ∧ f as (h.1, (h.2.1, (mc, ms))) (fun r h' => kr r (h'.1, (h'.2.1, (h.2.2.1 - mc, h.2.2.2 - ms)))) = true := by
  obtain ⟨t, n, bc, bs⟩ := h
  have hk : cond (Nat.ble mc bc) (cond (Nat.ble ms bs) (zF (fun bc => zF (fun bs => f as (t, (n, (mc, ms))) (fun r h => Prod.rec (motive := fun _ => Bool) (fun t u => Prod.rec (motive := fun _ => Bool) (fun n _ => kr r (t, (n, (bc, bs)))) u) h)) (Nat.sub bs ms)) (Nat.sub bc mc)) false) false = true := hk
  cases h1 : Nat.ble mc bc
  · rw [h1] at hk; cases hk
  · cases h2 : Nat.ble ms bs
    · rw [h1, h2] at hk; cases hk
    · rw [h1, h2, cond_true, cond_true, zF_eq, zF_eq] at hk
      exact ⟨Nat.le_of_ble_eq_true h1, Nat.le_of_ble_eq_true h2, hk⟩
/-- the result on the stack, if there is one -/
noncomputable def zpsh (r : zV) (S : List zV) (k : List zV → Bool) : Bool := Sum.rec (motive := fun _ => Bool) (fun n => k (zI n :: S)) (fun u => Sum.rec (motive := fun _ => Bool) (fun n => k (zR n :: S)) (fun w => Sum.rec (motive := fun _ => Bool) (fun n => k (zL n :: S)) (fun n => Nat.rec (motive := fun _ => Bool) (k S) (fun m _ => k (zW (Nat.succ m) :: S)) n) w) u) r
theorem zpsh_t [G : zGh] {ad : zA} {r : zV} {S : List zV} {st : List Value} {ov : Option Value} {k : List zV → Bool} (h : zpsh r S k = true) (hov : (ov = none ∧ r = zU) ∨ ∃ x, ov = some x ∧ ∀ (_ : zGh), zRep ad r x) (hst : zRepL ad S st) : ∃ S', k S' = true ∧ zRepL ad S' (ov.toList ++ st) := by
  match r, h, hov with
  | .inl n, h, hov =>
    rcases hov with ⟨-, q⟩ | ⟨x, rfl, hx⟩
    · cases q
    · exact ⟨zI n :: S, h, hx G, hst⟩
  | .inr (.inl n), h, hov =>
    rcases hov with ⟨-, q⟩ | ⟨x, rfl, hx⟩
    · cases q
    · exact ⟨zR n :: S, h, hx G, hst⟩
  | .inr (.inr (.inl n)), h, hov =>
    rcases hov with ⟨-, q⟩ | ⟨x, rfl, hx⟩
    · cases q
    · exact ⟨zL n :: S, h, hx G, hst⟩
  | .inr (.inr (.inr 0)), h, hov =>
    rcases hov with ⟨rfl, -⟩ | ⟨x, rfl, hx⟩
    · exact ⟨S, h, hst⟩
    · exact absurd (hx G) zRep_U
  | .inr (.inr (.inr (n + 1))), h, hov =>
    rcases hov with ⟨-, q⟩ | ⟨x, rfl, hx⟩
    · cases q
    · exact ⟨zW (n + 1) :: S, h, hx G, hst⟩
noncomputable def xcS (n mc ms : Nat) (f : List zV → zH d → zP d → Bool) (k : zK d) : zK d := fun L S h => zarg n S [] (fun as S => zle4 S (zgo mc ms f as h (fun r h => zpsh r S (fun S => k L S h))))
noncomputable def xcV (ko n mc ms : Nat) (f : List zV → zH d → zP d → Bool) (k : zK d) : zK d := fun L S h => zarg n S [] (fun as S => zpR as (fun r _ => zat h r (fun _ _ _ kd _ _ => cond (Nat.beq kd ko) (zle4 S (zgo mc ms f as h (fun r h => zpsh r S (fun S => k L S h)))) false)))
/-- what a row of the kit does at a call: ci: the receiver's class, if there is one -/
def zRun (X Xc : zM) (yc : MethodName) (fr frc pc n mc ms : Nat) (recv : va_W → List Value → Prop) : Prop := ∀ [zGh] {cA : Nat → ClassId} {D : va_G} {p : Program} {l : Launch} {e : Env} {s : State} {m : MethodId} {args : Array Value} {below : List Frame} {meth : Method} {c : Code} {A : Nat → Prop} {H : Heap} {locs : List Loc} {cells slots : Nat} {ls : Array Slot} {rest As : List Value} {ws : va_W} {MC MS : Nat} {Pc : Array Value → State → Prop} {Qc : Array Value → State → Outcome → State → Prop} {free : Addr → Prop},
  zCx X cA D p s m args meth c A → va_P D zcl ws H → recv ws As → Met l yc (zws Xc yc) (zRm frc mc ms) Pc Qc mc ms free → FrameBlind Pc → (∀ U : State, U.heap = H → s.WarmedH U.vm → Pc As.toArray U) → As.length = n → ls.size = X.2.2.1 → (rest.map fun v => v.category).sum ≤ 8 → cells + mc ≤ MC → slots + ms ≤ MS →
  va_Run p l e (zRm fr MC MS) s m args below meth c H locs cells slots mc ms (F0 m pc ls (As.reverse ++ rest)) rest (Qc As.toArray) free
theorem sm_call0 [G : zGh] [Ch : zCh] {n mc ms : Nat} {recv : va_W → List Value → Prop} (hM : zMet Xc yc frc f) (run : zRun X Xc yc fr frc pc n mc ms recv) (hs : zSim X fr P (pc + 3) k)
    {cA : Nat → ClassId} {D : va_G} {ad0 : zA} {A : Nat → Prop} {MC MS : Nat} {p : Program} {l : Launch} {e : Env} {s : State} {m : MethodId} {args : Array Value} {below : List Frame} {meth : Method} {c : Code} {ls : Array Slot} {H : Heap} {locs : List Loc} {cells slots : Nat} {L S as : List zV} {st av : List Value} {h : zH d} {ws : va_W}
    (Cx : zCx X cA D p s m args meth c A) (hk : zle4 S (zgo mc ms f as h (fun r h => zpsh r S (fun S => k L S h))) = true) (hHp : zHp cA h ws) (hpre : zPre ad0 (zad cA ws)) (hP : va_P D zcl ws H) (hD : va_D A ws) (hS : va_S A s.heap H locs) (hL : zLoc (zad cA ws) X.2.2.1 L ls) (has : zRepL (zad cA ws) as av) (hst : zRepL (zad cA ws) S st) (hn : av.length = n) (hrc : recv ws av) (hcb : cells + h.2.2.1 ≤ MC) (hsb : slots + h.2.2.2 ≤ MS) :
    W p l e (zRm fr MC MS) s m args below meth c H locs cells slots (MQ below (zQc P cA D ad0 A) args s MC MS A) (F0 m pc ls (av.reverse ++ st)) := by
  obtain ⟨h4, hk⟩ := zle4_t hk
  obtain ⟨g1, g2, hk⟩ := zgo_t hk
  have hF := zfree hD hS Cx.2.2.2.2.2.2.1
  have hMet := hM l cA D ws av as (h.1, (h.2.1, (mc, ms))) _ H.size hk has hHp Cx.2.2.2.2.2.2.2.2.1.2
  refine zrun (run (l := l) (e := e) (below := below) (MC := MC) (MS := MS) (locs := locs) (cells := cells) (slots := slots) (ls := ls) (rest := st) Cx hP hrc hMet zPc_blind (fun U hU hW => ⟨rfl, by rw [hU], by rw [hU]; exact hP, va_K.moved hW.alike Cx.2.2.2.2.2.1, hD.weaken (fun _ _ _ _ => trivial), zStat_to Cx.2.2.2.2.2.2.2.2.2.2.1 hS hF hU hW.alike, zEx_moved hW Cx.2.2.2.2.2.2.2.2.2.2.2⟩) hn hL.2.choose_spec.1.1 (Nat.le_trans (zcat hst) (by omega)) (by omega) (by omega)) hS (fun q _ h => hF q h) hF (fun r h' ws' ov H1 locs1 hov hPk hHp' hpre' hP' hD' hS' => ?_)
  obtain ⟨S', hk', hst'⟩ := zpsh_t hPk hov (zRepL_mono hpre' hst)
  exact hs _ cA D ad0 A MC MS p l e s m args below meth c ls _ H1 locs1 _ _ L S' (h'.1, (h'.2.1, (h.2.2.1 - mc, h.2.2.2 - ms))) Cx hk' ⟨ws', hHp', zPre_trans hpre hpre', hP', hD'.weaken (fun _ q _ hq => hF _ hq), hS', zLoc_mono hpre' hL, hst', by show cells + mc + (h.2.2.1 - mc) ≤ MC; omega, by show slots + ms + (h.2.2.2 - ms) ≤ MS; omega⟩
theorem sm_cS [G : zGh] {n mc ms : Nat} (hM : zMet Xc yc frc f) (run : zRun X Xc yc fr frc pc n mc ms (fun _ _ => True)) (hs : zSim X fr P (pc + 3) k) : zSim X fr P pc (xcS n mc ms f k) := by
  intro Ch cA D ad0 A MC MS p l e s m args below meth c ls st H locs cells slots L S h Cx hk R0
  obtain ⟨ws, hHp, hpre, hP, hD, hS, hL, hst, hcb, hsb⟩ := R0
  obtain ⟨as, S', av, rest, hk, has, hst', hn, he⟩ := zarg_t n S [] st [] hst trivial hk
  have he : av.reverse ++ rest = st := by simpa using he
  subst he
  exact sm_call0 hM run hs Cx hk hHp hpre hP hD hS hL has hst' hn trivial hcb hsb
theorem sm_cV [G : zGh] {n mc ms ko ci : Nat} (hko : 16 + ci = ko) (hM : zMet Xc yc frc f) (run : zRun X Xc yc fr frc pc n mc ms (fun ws As => ∃ (b : Nat) (As' : List Value) (q0 : Nat) (fs : List Value), As = .ref b :: As' ∧ ws[q0]? = some (b, .inr (ci, fs)))) (hs : zSim X fr P (pc + 3) k) : zSim X fr P pc (xcV ko n mc ms f k) := by
  subst hko
  intro Ch cA D ad0 A MC MS p l e s m args below meth c ls st H locs cells slots L S h Cx hk R0
  obtain ⟨ws, hHp, hpre, hP, hD, hS, hL, hst, hcb, hsb⟩ := R0
  obtain ⟨as, S', av, rest, hk, has, hst', hn, he⟩ := zarg_t n S [] st [] hst trivial hk
  have he : av.reverse ++ rest = st := by simpa using he
  subst he
  obtain ⟨r, as', rfl, hk1⟩ := zpR_t hk
  obtain ⟨o, av', rfl, ho, has'⟩ := zRepL_R has
  obtain ⟨i, kd, len, x, rfl, hg, hk2⟩ := zat_t hk1
  obtain ⟨b, en, rfl, hwi, hcell⟩ := zat_w hHp ho
  rw [hg] at hcell
  have hk2 : cond (Nat.beq kd (16 + ci)) (zle4 S' (zgo mc ms f (zR (i + 1) :: as') h (fun r h => zpsh r S' (fun S => k L S h)))) false = true := hk2
  cases hb : Nat.beq kd (16 + ci)
  · rw [hb] at hk2; cases hk2
  · rw [hb, cond_true] at hk2
    obtain ⟨fs, rfl, -, -⟩ := zCell_obj hcell (Nat.eq_of_beq_eq_true hb)
    exact sm_call0 hM run hs Cx hk2 hHp hpre hP hD hS hL has hst' hn ⟨b, av', i, fs, rfl, hwi⟩ hcb hsb
theorem zroom {fr frc nL MC MS mc ms : Nat} (h : frc + 1 ≤ fr) (hn : nL ≤ 45) : (zRm frc mc ms).frames + 1 ≤ (zRm fr MC MS).frames ∧ 8 + (nL + 11) + (zRm frc mc ms).locals ≤ (zRm fr MC MS).locals := ⟨h, by show 8 + (nL + 11) + 64 * frc ≤ 64 * fr; omega⟩
/-- a static method -/
theorem zrunS {n mc ms index : Nat} (hc : Cond.code yc Xc.2.1 Xc.2.2.1 Xc.2.2.2.1 ∈ ztbl) (hini : Cond.initialized yc.cls ∈ ztbl) (hl : Cond.methodLink X.1 index yc ∈ ztbl) (hst : Cond.static yc ∈ ztbl) (hd : yc.cls ≠ "java/lang/invoke/MethodHandle" ∧ yc.cls ≠ "java/lang/invoke/VarHandle" ∧ (parseMethodDescriptor yc.desc).map (fun d => d.parameters.length) = some n) (hfr : frc + 1 ≤ fr) (hnl : Xc.2.2.1 ≤ 45) (dg : decode X.2.1 pc = .ok (.invokestatic index, 3)) : zRun X Xc yc fr frc pc n mc ms (fun _ _ => True) := by
  intro G0 cA D p l e s m args below meth c A H locs cells slots ls rest As ws MC MS Pc Qc free Cx hP _ hM hbl hPc hn hls hcat h1 h2
  exact va_runS (Ts := ztbl) (own := X.1) (nL := X.2.2.1) ⟨Cx.1, Cx.2.1, Cx.2.2.1, Cx.2.2.2.1, Cx.2.2.2.2.1⟩ hM ⟨callB_of n Cx.2.2.2.2.1 (zgoodIn hc) rfl rfl rfl (Cx.2.2.2.2.1 _ hini) (Cx.2.2.2.2.1 _ hl) hd (zroom hfr hnl), Cx.2.2.2.2.1 _ hst⟩ ⟨hbl, hPc⟩ rfl hn hls rfl (lv_room hcat) dg ⟨h1, h2⟩
/-- a constructor -/
theorem zrunI {n mc ms index ci : Nat} (hc : Cond.code yc Xc.2.1 Xc.2.2.1 none ∈ ztbl) (hret : Xc.2.2.2.1 = none) (hini : Cond.initialized yc.cls ∈ ztbl) (hl : Cond.methodLink X.1 index yc ∈ ztbl) (hin : Cond.instanceMethod yc ∈ ztbl) (hnm : yc.name = "<init>") (hd : yc.cls ≠ "java/lang/invoke/MethodHandle" ∧ yc.cls ≠ "java/lang/invoke/VarHandle" ∧ (parseMethodDescriptor yc.desc).map (fun d => d.parameters.length) = some n) (hfr : frc + 1 ≤ fr) (hnl : Xc.2.2.1 ≤ 45) (dg : decode X.2.1 pc = .ok (.invokespecial index, 3)) : zRun X Xc yc fr frc pc (n + 1) mc ms (fun ws As => ∃ (b : Nat) (As' : List Value) (q0 : Nat) (fs : List Value), As = .ref b :: As' ∧ ws[q0]? = some (b, .inr (ci, fs))) := by
  intro G0 cA D p l e s m args below meth c A H locs cells slots ls rest As ws MC MS Pc Qc free Cx hP hr hM hbl hPc hn hls hcat h1 h2
  obtain ⟨b, As', q0, fs, rfl, hq⟩ := hr
  have hM2 : Met l yc (Cond.code yc Xc.2.1 Xc.2.2.1 none :: ztbl) (zRm frc mc ms) Pc Qc mc ms free := by
    have := hM
    unfold zws at this
    rw [hret] at this
    exact this
  have hg : GoodIn ztbl (Cond.code yc Xc.2.1 Xc.2.2.1 none :: ztbl) := by
    have := zgoodIn (X := Xc) (y := yc) (by rw [hret]; exact hc)
    unfold zws at this
    rw [hret] at this
    exact this
  have hst : (Value.ref b :: As').reverse ++ rest = As'.reverse ++ .ref b :: rest := by simp
  rw [hst]
  exact va_runI (Ts := ztbl) (own := X.1) (nL := X.2.2.1) ⟨Cx.1, Cx.2.1, Cx.2.2.1, Cx.2.2.2.1, Cx.2.2.2.2.1⟩ hM2 ⟨callB_of n Cx.2.2.2.2.1 hg rfl rfl rfl (Cx.2.2.2.2.1 _ hini) (Cx.2.2.2.2.1 _ hl) hd (zroom hfr hnl), hnm, Cx.2.2.2.2.1 _ hin⟩ ⟨hbl, hPc⟩ rfl (by simpa using hn) hls rfl (lv_room hcat) dg ⟨h1, h2⟩
/-- a method of an object -/
theorem zrunV {n mc ms index ci : Nat} {q : vw_C} (hq : zcl[ci]? = some q) (hqc : q.1 = yc.cls) (hc : Cond.code yc Xc.2.1 Xc.2.2.1 Xc.2.2.2.1 ∈ ztbl) (hini : Cond.initialized yc.cls ∈ ztbl) (hl : Cond.methodLink X.1 index yc ∈ ztbl) (hin : Cond.instanceMethod yc ∈ ztbl) (hse : Cond.selects yc.cls yc yc ∈ ztbl) (hd : yc.cls ≠ "java/lang/invoke/MethodHandle" ∧ yc.cls ≠ "java/lang/invoke/VarHandle" ∧ (parseMethodDescriptor yc.desc).map (fun d => d.parameters.length) = some n) (hfr : frc + 1 ≤ fr) (hnl : Xc.2.2.1 ≤ 45) (dg : decode X.2.1 pc = .ok (.invokevirtual index, 3)) : zRun X Xc yc fr frc pc (n + 1) mc ms (fun ws As => ∃ (b : Nat) (As' : List Value) (q0 : Nat) (fs : List Value), As = .ref b :: As' ∧ ws[q0]? = some (b, .inr (ci, fs))) := by
  intro G0 cA D p l e s m args below meth c A H locs cells slots ls rest As ws MC MS Pc Qc free Cx hP hr hM hbl hPc hn hls hcat h1 h2
  obtain ⟨b, As', q0, fs, rfl, hw⟩ := hr
  have hst : (Value.ref b :: As').reverse ++ rest = As'.reverse ++ .ref b :: rest := by simp
  rw [hst]
  exact va_runV (Ts := ztbl) (own := X.1) (nL := X.2.2.1) (C := yc.cls) ⟨Cx.1, Cx.2.1, Cx.2.2.1, Cx.2.2.2.1, Cx.2.2.2.2.1⟩ hM ⟨callB_of n Cx.2.2.2.2.1 (zgoodIn hc) rfl rfl rfl (Cx.2.2.2.2.1 _ hini) (Cx.2.2.2.2.1 _ hl) hd (zroom hfr hnl), Cx.2.2.2.2.1 _ hin, Cx.2.2.2.2.1 _ hse⟩ ⟨hbl, by rw [← hqc]; exact va_recv Cx.2.2.2.2.2.1 hP hq hw, hPc⟩ rfl (by simpa using hn) hls rfl (lv_room hcat) dg ⟨h1, h2⟩
/-- a nest mate's static method -/
theorem zrunSN {n mc ms index : Nat} {host : String} (hc : Cond.code yc Xc.2.1 Xc.2.2.1 Xc.2.2.2.1 ∈ ztbl) (hini : Cond.initialized yc.cls ∈ ztbl) (hl : (X.1, index, yc, host) ∈ zNest) (hst : Cond.static yc ∈ ztbl) (hd : yc.cls ≠ "java/lang/invoke/MethodHandle" ∧ yc.cls ≠ "java/lang/invoke/VarHandle" ∧ (parseMethodDescriptor yc.desc).map (fun d => d.parameters.length) = some n) (hfr : frc + 1 ≤ fr) (hnl : Xc.2.2.1 ≤ 45) (dg : decode X.2.1 pc = .ok (.invokestatic index, 3)) : zRun X Xc yc fr frc pc n mc ms (fun _ _ => True) := by
  intro G0 cA D p l e s m args below meth c A H locs cells slots ls rest As ws MC MS Pc Qc free Cx hP _ hM hbl hPc hn hls hcat h1 h2
  exact va_runSN (Ts := ztbl) (own := X.1) (nL := X.2.2.1) ⟨Cx.1, Cx.2.1, Cx.2.2.1, Cx.2.2.2.1, Cx.2.2.2.2.1⟩ hM ⟨va_cnB n Cx.2.2.2.2.1 (zgoodIn hc) rfl rfl rfl (Cx.2.2.2.2.2.2.2.2.2.2.2.2.2.2.2.2.1 _ hl) (Cx.2.2.2.2.1 _ hini) hd (zroom hfr hnl), Cx.2.2.2.2.1 _ hst, trivial⟩ ⟨hbl, hPc⟩ rfl hn hls rfl (lv_room hcat) dg ⟨h1, h2⟩
/-- a nest mate's constructor -/
theorem zrunIN {n mc ms index ci : Nat} {host : String} (hc : Cond.code yc Xc.2.1 Xc.2.2.1 none ∈ ztbl) (hret : Xc.2.2.2.1 = none) (hini : Cond.initialized yc.cls ∈ ztbl) (hl : (X.1, index, yc, host) ∈ zNest) (hin : Cond.instanceMethod yc ∈ ztbl) (hnm : yc.name = "<init>") (hd : yc.cls ≠ "java/lang/invoke/MethodHandle" ∧ yc.cls ≠ "java/lang/invoke/VarHandle" ∧ (parseMethodDescriptor yc.desc).map (fun d => d.parameters.length) = some n) (hfr : frc + 1 ≤ fr) (hnl : Xc.2.2.1 ≤ 45) (dg : decode X.2.1 pc = .ok (.invokespecial index, 3)) : zRun X Xc yc fr frc pc (n + 1) mc ms (fun ws As => ∃ (b : Nat) (As' : List Value) (q0 : Nat) (fs : List Value), As = .ref b :: As' ∧ ws[q0]? = some (b, .inr (ci, fs))) := by
  intro G0 cA D p l e s m args below meth c A H locs cells slots ls rest As ws MC MS Pc Qc free Cx hP hr hM hbl hPc hn hls hcat h1 h2
  obtain ⟨b, As', q0, fs, rfl, hq⟩ := hr
  have hM2 : Met l yc (Cond.code yc Xc.2.1 Xc.2.2.1 none :: ztbl) (zRm frc mc ms) Pc Qc mc ms free := by
    have := hM
    unfold zws at this
    rw [hret] at this
    exact this
  have hg : GoodIn ztbl (Cond.code yc Xc.2.1 Xc.2.2.1 none :: ztbl) := by
    have := zgoodIn (X := Xc) (y := yc) (by rw [hret]; exact hc)
    unfold zws at this
    rw [hret] at this
    exact this
  have hst : (Value.ref b :: As').reverse ++ rest = As'.reverse ++ .ref b :: rest := by simp
  rw [hst]
  exact va_runIN (Ts := ztbl) (own := X.1) (nL := X.2.2.1) ⟨Cx.1, Cx.2.1, Cx.2.2.1, Cx.2.2.2.1, Cx.2.2.2.2.1⟩ hM2 ⟨va_cnB n Cx.2.2.2.2.1 hg rfl rfl rfl (Cx.2.2.2.2.2.2.2.2.2.2.2.2.2.2.2.2.1 _ hl) (Cx.2.2.2.2.1 _ hini) hd (zroom hfr hnl), hnm, Cx.2.2.2.2.1 _ hin⟩ ⟨hbl, hPc⟩ rfl (by simpa using hn) hls rfl (lv_room hcat) dg ⟨h1, h2⟩
end OPS
end
section
/-! Object's constructor; words by their places -/
theorem zmem {w : Cond} (i : Nat) (h : lw_tbl[i]? = some w) (hg : goodWord w = true) : w ∈ ztbl := List.mem_filter.mpr ⟨List.mem_of_getElem? h, hg⟩
theorem zmemT {w : Cond} (i : Nat) (h : tables_1[i]? = some w) (hg : goodWord w = true) : w ∈ ztbl := List.mem_filter.mpr ⟨show w ∈ k2_sels lw_privs ++ tables_1 from List.mem_append_right _ (List.mem_of_getElem? h), hg⟩
theorem zmemP {w : Cond} (h : w ∈ tables_1) (hg : goodWord w = true) : w ∈ ztbl := List.mem_filter.mpr ⟨show w ∈ k2_sels lw_privs ++ tables_1 from List.mem_append_right _ h, hg⟩
theorem zmemP1 {w : Cond} (j : Nat) (h : tables_1_1[j]? = some w) (hg : goodWord w = true) : w ∈ ztbl := zmemP (show w ∈ tables_1_1 ++ (tables_1_2 ++ (tables_1_3 ++ (tables_1_4 ++ (tables_1_5 ++ tables_1_6)))) from List.mem_append_left _ (List.mem_of_getElem? h)) hg
theorem zmemP2 {w : Cond} (j : Nat) (h : tables_1_2[j]? = some w) (hg : goodWord w = true) : w ∈ ztbl := zmemP (show w ∈ tables_1_1 ++ (tables_1_2 ++ (tables_1_3 ++ (tables_1_4 ++ (tables_1_5 ++ tables_1_6)))) from List.mem_append_right _ (List.mem_append_left _ (List.mem_of_getElem? h))) hg
theorem zmemP3 {w : Cond} (j : Nat) (h : tables_1_3[j]? = some w) (hg : goodWord w = true) : w ∈ ztbl := zmemP (show w ∈ tables_1_1 ++ (tables_1_2 ++ (tables_1_3 ++ (tables_1_4 ++ (tables_1_5 ++ tables_1_6)))) from List.mem_append_right _ (List.mem_append_right _ (List.mem_append_left _ (List.mem_of_getElem? h)))) hg
theorem zmemP4 {w : Cond} (j : Nat) (h : tables_1_4[j]? = some w) (hg : goodWord w = true) : w ∈ ztbl := zmemP (show w ∈ tables_1_1 ++ (tables_1_2 ++ (tables_1_3 ++ (tables_1_4 ++ (tables_1_5 ++ tables_1_6)))) from List.mem_append_right _ (List.mem_append_right _ (List.mem_append_right _ (List.mem_append_left _ (List.mem_of_getElem? h))))) hg
theorem zmemP5 {w : Cond} (j : Nat) (h : tables_1_5[j]? = some w) (hg : goodWord w = true) : w ∈ ztbl := zmemP (show w ∈ tables_1_1 ++ (tables_1_2 ++ (tables_1_3 ++ (tables_1_4 ++ (tables_1_5 ++ tables_1_6)))) from List.mem_append_right _ (List.mem_append_right _ (List.mem_append_right _ (List.mem_append_right _ (List.mem_append_left _ (List.mem_of_getElem? h)))))) hg
theorem zmemP6 {w : Cond} (j : Nat) (h : tables_1_6[j]? = some w) (hg : goodWord w = true) : w ∈ ztbl := zmemP (show w ∈ tables_1_1 ++ (tables_1_2 ++ (tables_1_3 ++ (tables_1_4 ++ (tables_1_5 ++ tables_1_6)))) from List.mem_append_right _ (List.mem_append_right _ (List.mem_append_right _ (List.mem_append_right _ (List.mem_append_right _ (List.mem_of_getElem? h)))))) hg
/-- instructions, many at one stroke -/
def zdch (c : ByteArray) (L : List (Nat × (Instr × Nat))) : Bool := L.all (fun q => decide (decode c q.1 = .ok q.2))
theorem zdcg {c : ByteArray} {L : List (Nat × (Instr × Nat))} {pc : Nat} {i : Instr × Nat} (j : Nat) (h : zdch c L = true) (hj : L[j]? = some (pc, i)) : decode c pc = .ok i := of_decide_eq_true (List.all_eq_true.mp h (pc, i) (List.mem_of_getElem? hj))
theorem zlays {C : String} {T : u_T} {N : Nat} (is : List Nat) (h : ∀ k, k < N → (is[k]?).bind (fun i => lw_tbl[i]?) = some (u_lay C T k)) (hg : ∀ k, k < N → goodWord (u_lay C T k) = true) : ∀ w ∈ u_ws C T N, w ∈ ztbl := by
  intro w hw
  obtain ⟨k, hk, rfl⟩ := List.mem_map.mp hw
  have hk2 := List.mem_range.mp hk
  obtain ⟨i, -, hi⟩ := Option.bind_eq_some_iff.mp (h k hk2)
  exact zmem i hi (hg k hk2)
section OPS
variable {d : Nat} {X : zM} {fr : Nat} {P : zP d} {pc : Nat} {k : zK d}
noncomputable def xobj (k : zK d) : zK d := fun L S h => zpR S (fun r S => zat h r (fun _ _ _ _ _ _ => zle4 S (k L S h)))
theorem sm_objinit [G : zGh] {idx : Nat} (hl : Cond.methodLink X.1 idx Lib.objectInit ∈ ztbl) (hin : Cond.instanceMethod Lib.objectInit ∈ ztbl) (hc : Cond.code Lib.objectInit ⟨#[0xb1]⟩ 1 none ∈ ztbl) (hfr : 1 ≤ fr) (dg : decode X.2.1 pc = .ok (.invokespecial idx, 3)) (hs : zSim X fr P (pc + 3) k) : zSim X fr P pc (xobj k) := by
  intro Ch cA D ad0 A MC MS p l e s m args below meth c ls st H locs cells slots L S h Cx hk R0
  obtain ⟨ws, hHp, hpre, hP, hD, hS, hL, hst, hcb, hsb⟩ := R0
  obtain ⟨r, S, rfl, hk1⟩ := zpR_t hk
  obtain ⟨o, st, rfl, ho, hst2⟩ := zRepL_R hst
  obtain ⟨i, kd, len, x, rfl, hg, hk2⟩ := zat_t hk1
  obtain ⟨a, en, rfl, hwi, hcell⟩ := zat_w hHp ho
  obtain ⟨h4, hk3⟩ := zle4_t hk2
  have hcat := zcat hst2
  refine W.objInit (g := F0 m pc ls (.ref a :: st)) Cx.1 Cx.2.1 Cx.2.2.2.1 (Cx.2.2.2.2.1 _ hl) (Cx.2.2.2.2.1 _ hin) (Cx.2.2.2.2.1 _ hc) rfl (by show ls.size = c.maxLocals; rw [Cx.2.2.1]; exact hL.2.choose_spec.1.1) rfl dg hfr ?_ ?_
  · have := lv_room (m := m) (pc := pc) (ls := ls) (rest := .ref a :: st) (st := st) (by omega)
    show 2 * (F0 m pc ls (.ref a :: st)).monitorRoom + (st.map fun v => v.category).sum + 12 ≤ 64 * fr
    omega
  · exact hs Ch cA D ad0 A MC MS p l e s m args below meth c ls _ H locs cells slots L _ h Cx hk3 ⟨ws, hHp, hpre, hP, hD, hS, hL, hst2, hcb, hsb⟩
end OPS
end
