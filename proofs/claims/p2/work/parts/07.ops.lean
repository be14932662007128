/-! constants, arithmetic, branches, returns -/
section OPS
variable {d : Nat} {X : zM} {fr : Nat} {P : zP d} {pc pc' : Nat} {k kt kf : zK d}
noncomputable def xpI (v : Nat) (k : zK d) : zK d := fun L S h => k L (zI v :: S) h
noncomputable def xpL (v : Nat) (k : zK d) : zK d := fun L S h => k L (zL v :: S) h
noncomputable def xpN (k : zK d) : zK d := fun L S h => k L (zR 0 :: S) h
/-- from a stack to another, by a row of the kit -/
theorem sm_go [G : zGh] {f : zK d} (hf : ∀ (ad : zA) (L S : List zV) (h : zH d) (st : List Value), f L S h = true → zRepL ad S st → ∃ (S' : List zV) (st0 st1 rest : List Value), k L S' h = true ∧ st = st0 ++ rest ∧ zGo X pc pc' st0 st1 ∧ zRepL ad S' (st1 ++ rest)) (hs : zSim X fr P pc' k) : zSim X fr P pc f := by
  intro Ch cA D ad0 A MC MS p l e s m args below meth c ls st H locs cells slots L S h Cx hk R0
  obtain ⟨ws, hHp, hpre, hP, hD, hS, hL, hst, hcb, hsb⟩ := R0
  obtain ⟨S', st0, st1, rest, hk, rfl, hg, hst⟩ := hf _ L S h st hk hst
  exact hg Cx.1 Cx.2.1 (hs Ch cA D ad0 A MC MS p l e s m args below meth c ls _ H locs cells slots L S' h Cx hk ⟨ws, hHp, hpre, hP, hD, hS, hL, hst, hcb, hsb⟩)
theorem sm_pI [G : zGh] {v : Nat} {x : Int32} (hx : zi x = v) (hg : zGo X pc pc' [] [.int x]) (hs : zSim X fr P pc' k) : zSim X fr P pc (xpI v k) := sm_go (fun ad L S h st hk hst => ⟨zI v :: S, [], [.int x], st, hk, rfl, hg, ⟨⟨x, rfl, zIs_e hx⟩, hst⟩⟩) hs
theorem sm_iconst [G : zGh] {v : Nat} {n : Int} (dg : decode X.2.1 pc = .ok (.iconst n, 1)) (hv : zi (Int32.ofInt n) = v) (hs : zSim X fr P (pc + 1) k) : zSim X fr P pc (xpI v k) := sm_pI hv (fun hx hb kk => lv_iconst hx hb dg rfl kk) hs
theorem sm_bipush [G : zGh] {v : Nat} {n : Int} (dg : decode X.2.1 pc = .ok (.bipush n, 2)) (hv : zi (Int8.ofInt n).toInt32 = v) (hs : zSim X fr P (pc + 2) k) : zSim X fr P pc (xpI v k) := sm_pI hv (fun hx hb kk => lv_bipush hx hb dg rfl kk) hs
theorem sm_sipush [G : zGh] {v : Nat} {n : Int} (dg : decode X.2.1 pc = .ok (.sipush n, 3)) (hv : zi (Int16.ofInt n).toInt32 = v) (hs : zSim X fr P (pc + 3) k) : zSim X fr P pc (xpI v k) := sm_pI hv (fun hx hb kk => lv_sipush hx hb dg rfl kk) hs
theorem sm_lconst [G : zGh] {v : Nat} {n : Fin 2} (dg : decode X.2.1 pc = .ok (.lconst n, 1)) (hv : zj (Int64.ofNat (n : Nat)) = v) (hs : zSim X fr P (pc + 1) k) : zSim X fr P pc (xpL v k) := sm_go (fun ad L S h st hk hst => ⟨zL v :: S, [], [.long (Int64.ofNat (n : Nat))], st, hk, rfl, (fun hx hb kk => lv_lconst hx hb dg rfl kk), ⟨⟨_, rfl, zJs_e hv⟩, hst⟩⟩) hs
theorem sm_null [G : zGh] (dg : decode X.2.1 pc = .ok (.aconst_null, 1)) (hs : zSim X fr P (pc + 1) k) : zSim X fr P pc (xpN k) := sm_go (fun ad L S h st hk hst => ⟨zR 0 :: S, [], [.null], st, hk, rfl, (fun hx hb kk => lv_null hx hb dg kk), ⟨⟨none, rfl, Or.inl ⟨rfl, rfl⟩⟩, hst⟩⟩) hs
theorem sm_ldc [G : zGh] {v index : Nat} {w : Int32} (dg : decode X.2.1 pc = .ok (.ldc index, 2)) (hc : Jvm.Cond.constant X.1 index w ∈ ztbl) (hv : zi w = v) (hs : zSim X fr P (pc + 2) k) : zSim X fr P pc (xpI v k) := by
  intro Ch cA D ad0 A MC MS p l e s m args below meth c ls st H locs cells slots L S h Cx hk R0
  obtain ⟨ws, hHp, hpre, hP, hD, hS, hL, hst, hcb, hsb⟩ := R0
  exact lv_ldc Cx.1 Cx.2.1 Cx.2.2.2.1 (Cx.2.2.2.2.1 _ hc) dg (hs Ch cA D ad0 A MC MS p l e s m args below meth c ls _ H locs cells slots L _ h Cx hk ⟨ws, hHp, hpre, hP, hD, hS, hL, ⟨⟨w, rfl, zIs_e hv⟩, hst⟩, hcb, hsb⟩)
theorem sm_ldcw [G : zGh] {v index : Nat} {w : Int32} (dg : decode X.2.1 pc = .ok (.ldc_w index, 3)) (hc : Jvm.Cond.constant X.1 index w ∈ ztbl) (hv : zi w = v) (hs : zSim X fr P (pc + 3) k) : zSim X fr P pc (xpI v k) := by
  intro Ch cA D ad0 A MC MS p l e s m args below meth c ls st H locs cells slots L S h Cx hk R0
  obtain ⟨ws, hHp, hpre, hP, hD, hS, hL, hst, hcb, hsb⟩ := R0
  exact lv_ldcw Cx.1 Cx.2.1 Cx.2.2.2.1 (Cx.2.2.2.2.1 _ hc) dg (hs Ch cA D ad0 A MC MS p l e s m args below meth c ls _ H locs cells slots L _ h Cx hk ⟨ws, hHp, hpre, hP, hD, hS, hL, ⟨⟨w, rfl, zIs_e hv⟩, hst⟩, hcb, hsb⟩)
theorem sm_ldc2 [G : zGh] {v index : Nat} {w : Int64} (dg : decode X.2.1 pc = .ok (.ldc2_w index, 3)) (hc : Jvm.Cond.constantLong X.1 index w ∈ ztbl) (hv : zj w = v) (hs : zSim X fr P (pc + 3) k) : zSim X fr P pc (xpL v k) := by
  intro Ch cA D ad0 A MC MS p l e s m args below meth c ls st H locs cells slots L S h Cx hk R0
  obtain ⟨ws, hHp, hpre, hP, hD, hS, hL, hst, hcb, hsb⟩ := R0
  exact lv_ldc2 Cx.1 Cx.2.1 Cx.2.2.2.1 (Cx.2.2.2.2.1 _ hc) dg (hs Ch cA D ad0 A MC MS p l e s m args below meth c ls _ H locs cells slots L _ h Cx hk ⟨ws, hHp, hpre, hP, hD, hS, hL, ⟨⟨w, rfl, zJs_e hv⟩, hst⟩, hcb, hsb⟩)
/-- dup, pop, dup2 of values of one word -/
noncomputable def zp1 (S : List zV) (k : zV → List zV → Bool) : Bool := List.rec (motive := fun _ => Bool) false (fun v t _ => Sum.rec (motive := fun _ => Bool) (fun n => k (zI n) t) (fun u => Sum.rec (motive := fun _ => Bool) (fun n => k (zR n) t) (fun _ => false) u) v) S
theorem zp1_t [G : zGh] {S : List zV} {k : zV → List zV → Bool} (h : zp1 S k = true) : ∃ v t, S = v :: t ∧ (∀ ad x, zRep ad v x → x.category = 1) ∧ k v t = true := by
  match S, h with
  | .inl n :: t, h => exact ⟨_, t, rfl, fun ad x q => by obtain ⟨i, rfl, -⟩ := q; rfl, h⟩
  | .inr (.inl n) :: t, h => exact ⟨_, t, rfl, fun ad x q => by obtain ⟨i, rfl, -⟩ := q; cases i <;> rfl, h⟩
theorem zRepL_c [zGh] {ad : zA} {v : zV} {S : List zV} {st : List Value} (h : zRepL ad (v :: S) st) : ∃ (x : Value) (st' : List Value), st = x :: st' ∧ zRep ad v x ∧ zRepL ad S st' := by
  match st, h with
  | x :: st', ⟨h1, h2⟩ => exact ⟨x, st', rfl, h1, h2⟩
noncomputable def xdup (k : zK d) : zK d := fun L S h => zp1 S (fun v t => k L (v :: v :: t) h)
noncomputable def xpop (k : zK d) : zK d := fun L S h => zp1 S (fun _ t => k L t h)
noncomputable def xdup2 (k : zK d) : zK d := fun L S h => zp1 S (fun v t => zp1 t (fun w u => k L (v :: w :: v :: w :: u) h))
theorem sm_dup [G : zGh] (dg : decode X.2.1 pc = .ok (.dup, 1)) (hs : zSim X fr P (pc + 1) k) : zSim X fr P pc (xdup k) := sm_go (fun ad L S h st hk hst => by
  obtain ⟨v, t, rfl, hc, hk1⟩ := zp1_t hk
  obtain ⟨x, st, rfl, hx, hst⟩ := zRepL_c hst
  exact ⟨v :: v :: t, [x], [x, x], st, hk1, rfl, (fun hx1 hb kk => lv_dup hx1 hb dg (hc _ _ hx) kk), ⟨hx, hx, hst⟩⟩) hs
theorem sm_pop [G : zGh] (dg : decode X.2.1 pc = .ok (.pop, 1)) (hs : zSim X fr P (pc + 1) k) : zSim X fr P pc (xpop k) := sm_go (fun ad L S h st hk hst => by
  obtain ⟨v, t, rfl, hc, hk1⟩ := zp1_t hk
  obtain ⟨x, st, rfl, hx, hst⟩ := zRepL_c hst
  exact ⟨t, [x], [], st, hk1, rfl, (fun hx1 hb kk => lv_pop hx1 hb dg (hc _ _ hx) kk), hst⟩) hs
theorem sm_dup2 [G : zGh] (dg : decode X.2.1 pc = .ok (.dup2, 1)) (hs : zSim X fr P (pc + 1) k) : zSim X fr P pc (xdup2 k) := sm_go (fun ad L S h st hk hst => by
  obtain ⟨v, t, rfl, hc, hk1⟩ := zp1_t hk
  obtain ⟨w, u, rfl, hc2, hk2⟩ := zp1_t hk1
  obtain ⟨x, st, rfl, hx, hst⟩ := zRepL_c hst
  obtain ⟨y, st, rfl, hy, hst⟩ := zRepL_c hst
  exact ⟨v :: w :: v :: w :: u, [x, y], [x, y, x, y], st, hk2, rfl, (fun hx1 hb kk => lv_dup2_11 hx1 hb dg (hc _ _ hx) (hc2 _ _ hy) kk), ⟨hx, hy, hx, hy, hst⟩⟩) hs
/-- arithmetic -/
noncomputable def xbin (z : Nat → Nat → Nat) (k : zK d) : zK d := fun L S h => zpI S (fun b S => zpI S (fun a S => zF (fun v => k L (zI v :: S) h) (z a b)))
noncomputable def xbinN (z : Nat → Nat → Nat) (k : zK d) : zK d := fun L S h => zpI S (fun b S => zpI S (fun a S => cond (Nat.beq b 0) false (cond (Nat.ble 4294967296 b) false (zF (fun v => k L (zI v :: S) h) (z a b)))))
noncomputable def xun (z : Nat → Nat) (k : zK d) : zK d := fun L S h => zpI S (fun a S => zF (fun v => k L (zI v :: S) h) (z a))
noncomputable def xbinj (z : Nat → Nat → Nat) (k : zK d) : zK d := fun L S h => zpL S (fun b S => zpL S (fun a S => zF (fun v => k L (zL v :: S) h) (z a b)))
noncomputable def xbinjN (z : Nat → Nat → Nat) (k : zK d) : zK d := fun L S h => zpL S (fun b S => zpL S (fun a S => cond (Nat.beq b 0) false (cond (Nat.ble 18446744073709551616 b) false (zF (fun v => k L (zL v :: S) h) (z a b)))))
noncomputable def xunj (z : Nat → Nat) (k : zK d) : zK d := fun L S h => zpL S (fun a S => zF (fun v => k L (zL v :: S) h) (z a))
noncomputable def xi2l (k : zK d) : zK d := fun L S h => zpI S (fun a S => zF (fun v => k L (zL v :: S) h) (zi2l a))
noncomputable def xl2i (k : zK d) : zK d := fun L S h => zpL S (fun a S => zF (fun v => k L (zI v :: S) h) (zl2i a))
noncomputable def xlcmp (k : zK d) : zK d := fun L S h => zpL S (fun b S => zpL S (fun a S => zF (fun v => k L (zI v :: S) h) (zlcmp a b)))
theorem sm_bin [G : zGh] {z : Nat → Nat → Nat} {F : Int32 → Int32 → Int32} (hz : ∀ {a b : Nat} {x y : Int32}, (a < 4294967296 → zi x = a) → (b < 4294967296 → zi y = b) → z a b < 4294967296 → zi (F x y) = z a b) (hle : ∀ a b, z a b ≤ 4294967296) (hg : ∀ x y, zGo X pc pc' [.int y, .int x] [.int (F x y)]) (hs : zSim X fr P pc' k) : zSim X fr P pc (xbin z k) := sm_go (fun ad L S h st hk hst => by
  obtain ⟨b, S, rfl, hk1⟩ := zpI_t hk
  obtain ⟨a, S, rfl, hk2⟩ := zpI_t hk1
  obtain ⟨y, st, rfl, hy, hst⟩ := zRepL_I hst
  obtain ⟨x, st, rfl, hx, hst⟩ := zRepL_I hst
  have hk : zF (fun v => k L (zI v :: S) h) (z a b) = true := hk2
  rw [zF_eq] at hk
  exact ⟨_, [.int y, .int x], [.int (F x y)], st, hk, rfl, hg x y, ⟨⟨_, rfl, zIs_of (hz hx.1 hy.1) (hle _ _)⟩, hst⟩⟩) hs
theorem sm_binN [G : zGh] {z : Nat → Nat → Nat} {F : Int32 → Int32 → Int32} (hz : ∀ {a b : Nat} {x y : Int32}, (a < 4294967296 → zi x = a) → (b < 4294967296 → zi y = b) → z a b < 4294967296 → zi (F x y) = z a b) (hle : ∀ a b, z a b ≤ 4294967296) (hg : ∀ x y, ¬ y = 0 → zGo X pc pc' [.int y, .int x] [.int (F x y)]) (hs : zSim X fr P pc' k) : zSim X fr P pc (xbinN z k) := sm_go (fun ad L S h st hk hst => by
  obtain ⟨b, S, rfl, hk1⟩ := zpI_t hk
  obtain ⟨a, S, rfl, hk2⟩ := zpI_t hk1
  obtain ⟨y, st, rfl, hy, hst⟩ := zRepL_I hst
  obtain ⟨x, st, rfl, hx, hst⟩ := zRepL_I hst
  have hk : cond (Nat.beq b 0) false (cond (Nat.ble 4294967296 b) false (zF (fun v => k L (zI v :: S) h) (z a b))) = true := hk2
  cases h1 : Nat.beq b 0
  · cases h2 : Nat.ble 4294967296 b
    · rw [h1, h2, cond_false, cond_false, zF_eq] at hk
      have hne : ¬ y = 0 := fun q => by
        have e := hy.1 (zble_f h2)
        rw [q, zi_z] at e
        rw [← e] at h1
        cases h1
      exact ⟨_, [.int y, .int x], [.int (F x y)], st, hk, rfl, hg x y hne, ⟨⟨_, rfl, zIs_of (hz hx.1 hy.1) (hle _ _)⟩, hst⟩⟩
    · rw [h1, h2] at hk
      cases hk
  · rw [h1] at hk
    cases hk) hs
theorem sm_un [G : zGh] {z : Nat → Nat} {F : Int32 → Int32} (hz : ∀ {a : Nat} {x : Int32}, (a < 4294967296 → zi x = a) → z a < 4294967296 → zi (F x) = z a) (hle : ∀ a, z a ≤ 4294967296) (hg : ∀ x, zGo X pc pc' [.int x] [.int (F x)]) (hs : zSim X fr P pc' k) : zSim X fr P pc (xun z k) := sm_go (fun ad L S h st hk hst => by
  obtain ⟨a, S, rfl, hk2⟩ := zpI_t hk
  obtain ⟨x, st, rfl, hx, hst⟩ := zRepL_I hst
  have hk : zF (fun v => k L (zI v :: S) h) (z a) = true := hk2
  rw [zF_eq] at hk
  exact ⟨_, [.int x], [.int (F x)], st, hk, rfl, hg x, ⟨⟨_, rfl, zIs_of (hz hx.1) (hle _)⟩, hst⟩⟩) hs
theorem sm_binj [G : zGh] {z : Nat → Nat → Nat} {F : Int64 → Int64 → Int64} (hz : ∀ {a b : Nat} {x y : Int64}, (a < 18446744073709551616 → zj x = a) → (b < 18446744073709551616 → zj y = b) → z a b < 18446744073709551616 → zj (F x y) = z a b) (hle : ∀ a b, z a b < 4722366482869645213696) (hg : ∀ x y, zGo X pc pc' [.long y, .long x] [.long (F x y)]) (hs : zSim X fr P pc' k) : zSim X fr P pc (xbinj z k) := sm_go (fun ad L S h st hk hst => by
  obtain ⟨b, S, rfl, hk1⟩ := zpL_t hk
  obtain ⟨a, S, rfl, hk2⟩ := zpL_t hk1
  obtain ⟨y, st, rfl, hy, hst⟩ := zRepL_L hst
  obtain ⟨x, st, rfl, hx, hst⟩ := zRepL_L hst
  have hk : zF (fun v => k L (zL v :: S) h) (z a b) = true := hk2
  rw [zF_eq] at hk
  exact ⟨_, [.long y, .long x], [.long (F x y)], st, hk, rfl, hg x y, ⟨⟨_, rfl, zJs_of (hz hx.1 hy.1) (hle _ _)⟩, hst⟩⟩) hs
theorem zj_z : zj (0 : Int64) = 0 := by decide
theorem sm_binjN [G : zGh] {z : Nat → Nat → Nat} {F : Int64 → Int64 → Int64} (hz : ∀ {a b : Nat} {x y : Int64}, (a < 18446744073709551616 → zj x = a) → (b < 18446744073709551616 → zj y = b) → z a b < 18446744073709551616 → zj (F x y) = z a b) (hle : ∀ a b, z a b < 4722366482869645213696) (hg : ∀ x y, ¬ y = 0 → zGo X pc pc' [.long y, .long x] [.long (F x y)]) (hs : zSim X fr P pc' k) : zSim X fr P pc (xbinjN z k) := sm_go (fun ad L S h st hk hst => by
  obtain ⟨b, S, rfl, hk1⟩ := zpL_t hk
  obtain ⟨a, S, rfl, hk2⟩ := zpL_t hk1
  obtain ⟨y, st, rfl, hy, hst⟩ := zRepL_L hst
  obtain ⟨x, st, rfl, hx, hst⟩ := zRepL_L hst
  have hk : cond (Nat.beq b 0) false (cond (Nat.ble 18446744073709551616 b) false (zF (fun v => k L (zL v :: S) h) (z a b))) = true := hk2
  cases h1 : Nat.beq b 0
  · cases h2 : Nat.ble 18446744073709551616 b
    · rw [h1, h2, cond_false, cond_false, zF_eq] at hk
      have hne : ¬ y = 0 := fun q => by
        have e := hy.1 (zble_f h2)
        rw [q, zj_z] at e
        rw [← e] at h1
        cases h1
      exact ⟨_, [.long y, .long x], [.long (F x y)], st, hk, rfl, hg x y hne, ⟨⟨_, rfl, zJs_of (hz hx.1 hy.1) (hle _ _)⟩, hst⟩⟩
    · rw [h1, h2] at hk
      cases hk
  · rw [h1] at hk
    cases hk) hs
theorem sm_iadd [G : zGh] (dg : decode X.2.1 pc = .ok (.iadd, 1)) (hs : zSim X fr P (pc + 1) k) : zSim X fr P pc (xbin zadd k) := sm_bin zadd_ok zadd_le (fun _ _ => fun hx hb kk => lv_iadd hx hb dg kk) hs
theorem sm_isub [G : zGh] (dg : decode X.2.1 pc = .ok (.isub, 1)) (hs : zSim X fr P (pc + 1) k) : zSim X fr P pc (xbin zsub k) := sm_bin zsub_ok zsub_le (fun _ _ => fun hx hb kk => lv_isub hx hb dg kk) hs
theorem sm_imul [G : zGh] (dg : decode X.2.1 pc = .ok (.imul, 1)) (hs : zSim X fr P (pc + 1) k) : zSim X fr P pc (xbin zmul k) := sm_bin zmul_ok zmul_le (fun _ _ => fun hx hb kk => lv_imul hx hb dg kk) hs
theorem sm_iand [G : zGh] (dg : decode X.2.1 pc = .ok (.iand, 1)) (hs : zSim X fr P (pc + 1) k) : zSim X fr P pc (xbin zand k) := sm_bin zand_ok zand_le (fun _ _ => fun hx hb kk => lv_iand hx hb dg kk) hs
theorem sm_ior [G : zGh] (dg : decode X.2.1 pc = .ok (.ior, 1)) (hs : zSim X fr P (pc + 1) k) : zSim X fr P pc (xbin zor k) := sm_bin zor_ok zor_le (fun _ _ => fun hx hb kk => lv_ior hx hb dg kk) hs
theorem sm_ixor [G : zGh] (dg : decode X.2.1 pc = .ok (.ixor, 1)) (hs : zSim X fr P (pc + 1) k) : zSim X fr P pc (xbin zxor k) := sm_bin zxor_ok zxor_le (fun _ _ => fun hx hb kk => lv_ixor hx hb dg kk) hs
theorem sm_ishl [G : zGh] (dg : decode X.2.1 pc = .ok (.ishl, 1)) (hs : zSim X fr P (pc + 1) k) : zSim X fr P pc (xbin zshl k) := sm_bin zshl_ok zshl_le (fun _ _ => fun hx hb kk => lv_ishl hx hb dg kk) hs
theorem sm_ishr [G : zGh] (dg : decode X.2.1 pc = .ok (.ishr, 1)) (hs : zSim X fr P (pc + 1) k) : zSim X fr P pc (xbin zshr k) := sm_bin zshr_ok zshr_le (fun _ _ => fun hx hb kk => lv_ishr hx hb dg kk) hs
theorem sm_iushr [G : zGh] (dg : decode X.2.1 pc = .ok (.iushr, 1)) (hs : zSim X fr P (pc + 1) k) : zSim X fr P pc (xbin zushr k) := sm_bin zushr_ok zushr_le (fun _ _ => fun hx hb kk => lv_iushr hx hb dg rfl kk) hs
theorem sm_idiv [G : zGh] (dg : decode X.2.1 pc = .ok (.idiv, 1)) (hs : zSim X fr P (pc + 1) k) : zSim X fr P pc (xbinN zdiv k) := sm_binN zdiv_ok zdiv_le (fun _ _ hne => fun hx hb kk => lv_idiv hx hb dg hne kk) hs
theorem sm_irem [G : zGh] (dg : decode X.2.1 pc = .ok (.irem, 1)) (hs : zSim X fr P (pc + 1) k) : zSim X fr P pc (xbinN zrem k) := sm_binN zrem_ok zrem_le (fun _ _ hne => fun hx hb kk => lv_irem hx hb dg hne kk) hs
theorem sm_ineg [G : zGh] (dg : decode X.2.1 pc = .ok (.ineg, 1)) (hs : zSim X fr P (pc + 1) k) : zSim X fr P pc (xun zneg k) := sm_un zneg_ok zneg_le (fun _ => fun hx hb kk => lv_ineg hx hb dg kk) hs
theorem sm_ladd [G : zGh] (dg : decode X.2.1 pc = .ok (.ladd, 1)) (hs : zSim X fr P (pc + 1) k) : zSim X fr P pc (xbinj zaddj k) := sm_binj zaddj_ok zaddj_lt (fun _ _ => fun hx hb kk => lv_ladd hx hb dg kk) hs
theorem sm_lsub [G : zGh] (dg : decode X.2.1 pc = .ok (.lsub, 1)) (hs : zSim X fr P (pc + 1) k) : zSim X fr P pc (xbinj zsubj k) := sm_binj zsubj_ok zsubj_lt (fun _ _ => fun hx hb kk => lv_lsub hx hb dg kk) hs
theorem sm_lmul [G : zGh] (dg : decode X.2.1 pc = .ok (.lmul, 1)) (hs : zSim X fr P (pc + 1) k) : zSim X fr P pc (xbinj zmulj k) := sm_binj zmulj_ok zmulj_lt (fun _ _ => fun hx hb kk => lv_lmul hx hb dg kk) hs
theorem sm_ldiv [G : zGh] (dg : decode X.2.1 pc = .ok (.ldiv, 1)) (hs : zSim X fr P (pc + 1) k) : zSim X fr P pc (xbinjN zdivj k) := sm_binjN zdivj_ok zdivj_lt (fun _ _ hne => fun hx hb kk => lv_ldiv hx hb dg hne kk) hs
theorem sm_lrem [G : zGh] (dg : decode X.2.1 pc = .ok (.lrem, 1)) (hs : zSim X fr P (pc + 1) k) : zSim X fr P pc (xbinjN zremj k) := sm_binjN zremj_ok zremj_lt (fun _ _ hne => fun hx hb kk => lv_lrem hx hb dg hne kk) hs
theorem sm_lneg [G : zGh] (dg : decode X.2.1 pc = .ok (.lneg, 1)) (hs : zSim X fr P (pc + 1) k) : zSim X fr P pc (xunj znegj k) := sm_go (fun ad L S h st hk hst => by
  obtain ⟨a, S, rfl, hk2⟩ := zpL_t hk
  obtain ⟨x, st, rfl, hx, hst⟩ := zRepL_L hst
  have hk : zF (fun v => k L (zL v :: S) h) (znegj a) = true := hk2
  rw [zF_eq] at hk
  exact ⟨_, [.long x], [.long (-x)], st, hk, rfl, (fun hx hb kk => lv_lneg hx hb dg kk), ⟨⟨_, rfl, zJs_of (znegj_ok hx.1) (znegj_lt _)⟩, hst⟩⟩) hs
theorem sm_i2l [G : zGh] (dg : decode X.2.1 pc = .ok (.i2l, 1)) (hs : zSim X fr P (pc + 1) k) : zSim X fr P pc (xi2l k) := sm_go (fun ad L S h st hk hst => by
  obtain ⟨a, S, rfl, hk2⟩ := zpI_t hk
  obtain ⟨x, st, rfl, hx, hst⟩ := zRepL_I hst
  have hk : zF (fun v => k L (zL v :: S) h) (zi2l a) = true := hk2
  rw [zF_eq] at hk
  exact ⟨_, [.int x], [.long x.toInt64], st, hk, rfl, (fun hx hb kk => lv_i2l hx hb dg rfl kk), ⟨⟨_, rfl, zJs_of (zi2l_ok hx.1) (zi2l_lt _)⟩, hst⟩⟩) hs
theorem sm_l2i [G : zGh] (dg : decode X.2.1 pc = .ok (.l2i, 1)) (hs : zSim X fr P (pc + 1) k) : zSim X fr P pc (xl2i k) := sm_go (fun ad L S h st hk hst => by
  obtain ⟨a, S, rfl, hk2⟩ := zpL_t hk
  obtain ⟨x, st, rfl, hx, hst⟩ := zRepL_L hst
  have hk : zF (fun v => k L (zI v :: S) h) (zl2i a) = true := hk2
  rw [zF_eq] at hk
  exact ⟨_, [.long x], [.int x.toInt32], st, hk, rfl, (fun hx hb kk => lv_l2i hx hb dg rfl kk), ⟨⟨_, rfl, zIs_of (zl2i_ok hx.1) (zl2i_le _)⟩, hst⟩⟩) hs
theorem sm_lcmp [G : zGh] (dg : decode X.2.1 pc = .ok (.lcmp, 1)) (hs : zSim X fr P (pc + 1) k) : zSim X fr P pc (xlcmp k) := sm_go (fun ad L S h st hk hst => by
  obtain ⟨b, S, rfl, hk1⟩ := zpL_t hk
  obtain ⟨a, S, rfl, hk2⟩ := zpL_t hk1
  obtain ⟨y, st, rfl, hy, hst⟩ := zRepL_L hst
  obtain ⟨x, st, rfl, hx, hst⟩ := zRepL_L hst
  have hk : zF (fun v => k L (zI v :: S) h) (zlcmp a b) = true := hk2
  rw [zF_eq] at hk
  exact ⟨_, [.long y, .long x], [.int (lg_cmp x y)], st, hk, rfl, (fun hx hb kk => W.lcmp hx hb dg kk), ⟨⟨_, rfl, zIs_of (zlcmp_ok hx.1 hy.1) (zlcmp_le _ _)⟩, hst⟩⟩) hs
/-- branches: both ways where a number isn't known -/
noncomputable def xcmp (t : Nat → Nat → Bool) (kt kf : zK d) : zK d := fun L S h => zpI S (fun b S => zpI S (fun a S => cond (Nat.ble 4294967296 (Nat.lor a b)) (and (kt L S h) (kf L S h)) (cond (t a b) (kt L S h) (kf L S h))))
noncomputable def xif0 (t : Nat → Bool) (kt kf : zK d) : zK d := fun L S h => zpI S (fun a S => cond (Nat.ble 4294967296 a) (and (kt L S h) (kf L S h)) (cond (t a) (kt L S h) (kf L S h)))
def tge (a b : Nat) : Bool := zlei b a
def tle (a b : Nat) : Bool := zlei a b
def t0ge (a : Nat) : Bool := Nat.ble a 2147483647
def t0le (a : Nat) : Bool := cond (Nat.beq a 0) true (Nat.ble 2147483648 a)
def t0eq (a : Nat) : Bool := Nat.beq a 0
theorem sm_cmp [G : zGh] {t : Nat → Nat → Bool} {q : Int32 → Int32 → Prop} {tgt tgf : Nat} (ht : ∀ x y, t (zi x) (zi y) = true ↔ q x y) (row : ∀ {p : Program} {l : Launch} {e : Env} {R : Room} {s : State} {m : MethodId} {args : Array Value} {below : List Frame} {meth : Method} {c : Code} {H : Heap} {locs : List Loc} {cells slots : Nat} {Q : State → Prop} {ls : Array Slot} {rest : List Value} {x y : Int32}, p.tables.exec = Jvm.exec → c.code = X.2.1 → (q x y → W p l e R s m args below meth c H locs cells slots Q (F0 m tgt ls rest)) → (¬ q x y → W p l e R s m args below meth c H locs cells slots Q (F0 m tgf ls rest)) → W p l e R s m args below meth c H locs cells slots Q (F0 m pc ls (.int y :: .int x :: rest)))
    (h1 : zSim X fr P tgt kt) (h2 : zSim X fr P tgf kf) : zSim X fr P pc (xcmp t kt kf) := by
  intro Ch cA D ad0 A MC MS p l e s m args below meth c ls st H locs cells slots L S h Cx hk R0
  obtain ⟨ws, hHp, hpre, hP, hD, hS, hL, hst, hcb, hsb⟩ := R0
  obtain ⟨b, S, rfl, hk1⟩ := zpI_t hk
  obtain ⟨a, S, rfl, hk2⟩ := zpI_t hk1
  obtain ⟨y, st, rfl, hy, hst⟩ := zRepL_I hst
  obtain ⟨x, st, rfl, hx, hst⟩ := zRepL_I hst
  have hk : cond (Nat.ble 4294967296 (Nat.lor a b)) (and (kt L S h) (kf L S h)) (cond (t a b) (kt L S h) (kf L S h)) = true := hk2
  have key : (q x y → kt L S h = true) ∧ (¬ q x y → kf L S h = true) := by
    cases hb : Nat.ble 4294967296 (Nat.lor a b)
    · obtain ⟨c1, c2⟩ := zle32 hb
      rw [hb, cond_false] at hk
      have e1 := hx.1 c1
      have e2 := hy.1 c2
      subst e1
      subst e2
      cases hc : t (zi x) (zi y)
      · rw [hc, cond_false] at hk
        exact ⟨fun hq => (by rw [(ht x y).mpr hq] at hc; cases hc), fun _ => hk⟩
      · rw [hc, cond_true] at hk
        exact ⟨fun _ => hk, fun hq => absurd ((ht x y).mp hc) hq⟩
    · rw [hb, cond_true, Bool.and_eq_true] at hk
      exact ⟨fun _ => hk.1, fun _ => hk.2⟩
  exact row Cx.1 Cx.2.1 (fun hq => h1 Ch cA D ad0 A MC MS p l e s m args below meth c ls _ H locs cells slots L _ h Cx (key.1 hq) ⟨ws, hHp, hpre, hP, hD, hS, hL, hst, hcb, hsb⟩) (fun hq => h2 Ch cA D ad0 A MC MS p l e s m args below meth c ls _ H locs cells slots L _ h Cx (key.2 hq) ⟨ws, hHp, hpre, hP, hD, hS, hL, hst, hcb, hsb⟩)
theorem sm_if0 [G : zGh] {t : Nat → Bool} {q : Int32 → Prop} {tgt tgf : Nat} (ht : ∀ x, t (zi x) = true ↔ q x) (row : ∀ {p : Program} {l : Launch} {e : Env} {R : Room} {s : State} {m : MethodId} {args : Array Value} {below : List Frame} {meth : Method} {c : Code} {H : Heap} {locs : List Loc} {cells slots : Nat} {Q : State → Prop} {ls : Array Slot} {rest : List Value} {x : Int32}, p.tables.exec = Jvm.exec → c.code = X.2.1 → (q x → W p l e R s m args below meth c H locs cells slots Q (F0 m tgt ls rest)) → (¬ q x → W p l e R s m args below meth c H locs cells slots Q (F0 m tgf ls rest)) → W p l e R s m args below meth c H locs cells slots Q (F0 m pc ls (.int x :: rest)))
    (h1 : zSim X fr P tgt kt) (h2 : zSim X fr P tgf kf) : zSim X fr P pc (xif0 t kt kf) := by
  intro Ch cA D ad0 A MC MS p l e s m args below meth c ls st H locs cells slots L S h Cx hk R0
  obtain ⟨ws, hHp, hpre, hP, hD, hS, hL, hst, hcb, hsb⟩ := R0
  obtain ⟨a, S, rfl, hk2⟩ := zpI_t hk
  obtain ⟨x, st, rfl, hx, hst⟩ := zRepL_I hst
  have hk : cond (Nat.ble 4294967296 a) (and (kt L S h) (kf L S h)) (cond (t a) (kt L S h) (kf L S h)) = true := hk2
  have key : (q x → kt L S h = true) ∧ (¬ q x → kf L S h = true) := by
    cases hb : Nat.ble 4294967296 a
    · rw [hb, cond_false] at hk
      have e1 := hx.1 (zble_f hb)
      subst e1
      cases hc : t (zi x)
      · rw [hc, cond_false] at hk
        exact ⟨fun hq => (by rw [(ht x).mpr hq] at hc; cases hc), fun _ => hk⟩
      · rw [hc, cond_true] at hk
        exact ⟨fun _ => hk, fun hq => absurd ((ht x).mp hc) hq⟩
    · rw [hb, cond_true, Bool.and_eq_true] at hk
      exact ⟨fun _ => hk.1, fun _ => hk.2⟩
  exact row Cx.1 Cx.2.1 (fun hq => h1 Ch cA D ad0 A MC MS p l e s m args below meth c ls _ H locs cells slots L _ h Cx (key.1 hq) ⟨ws, hHp, hpre, hP, hD, hS, hL, hst, hcb, hsb⟩) (fun hq => h2 Ch cA D ad0 A MC MS p l e s m args below meth c ls _ H locs cells slots L _ h Cx (key.2 hq) ⟨ws, hHp, hpre, hP, hD, hS, hL, hst, hcb, hsb⟩)
end OPS
