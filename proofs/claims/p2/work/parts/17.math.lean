/-! Math.max, Math.min -/
def zmax (a b : Nat) : Nat := zk2 a b (cond (zlei b a) a b)
def zmin (a b : Nat) : Nat := zk2 a b (cond (zlei a b) a b)
theorem zmax_ok {a b : Nat} {x y : Int32} (hx : a < 4294967296 → zi x = a) (hy : b < 4294967296 → zi y = b) : zmax a b < 4294967296 → zi (if x < y then y else x) = zmax a b := zk2_ok hx hy (fun h1 h2 => by
  subst h1
  subst h2
  cases hb : zlei (zi y) (zi x)
  · have : ¬ y ≤ x := fun q => by rw [zlei_ok.mpr q] at hb; cases hb
    rw [if_pos (Int32.not_le.mp this), cond_false]
  · have : y ≤ x := zlei_ok.mp hb
    rw [if_neg (Int32.not_lt.mpr this), cond_true])
theorem zmin_ok {a b : Nat} {x y : Int32} (hx : a < 4294967296 → zi x = a) (hy : b < 4294967296 → zi y = b) : zmin a b < 4294967296 → zi (if y < x then y else x) = zmin a b := zk2_ok hx hy (fun h1 h2 => by
  subst h1
  subst h2
  cases hb : zlei (zi x) (zi y)
  · have : ¬ x ≤ y := fun q => by rw [zlei_ok.mpr q] at hb; cases hb
    rw [if_pos (Int32.not_le.mp this), cond_false]
  · have : x ≤ y := zlei_ok.mp hb
    rw [if_neg (Int32.not_lt.mpr this), cond_true])
theorem zmax_le (a b : Nat) : zmax a b ≤ 4294967296 := zk2_le (fun h1 h2 => by cases zlei b a <;> first | exact Nat.le_of_lt h1 | exact Nat.le_of_lt h2)
theorem zmin_le (a b : Nat) : zmin a b ≤ 4294967296 := zk2_le (fun h1 h2 => by cases zlei a b <;> first | exact Nat.le_of_lt h1 | exact Nat.le_of_lt h2)
section OPS
variable {d : Nat} {X : zM} {fr : Nat} {P : zP d} {pc : Nat} {k : zK d}
noncomputable def xmm (z : Nat → Nat → Nat) (k : zK d) : zK d := fun L S h => zpI S (fun b S => zpI S (fun a S => zle4 S (zF (fun v => k L (zI v :: S) h) (z a b))))
theorem sm_mm [G : zGh] {z : Nat → Nat → Nat} {Gf : Int32 → Int32 → Int32} (hz : ∀ {a b : Nat} {x y : Int32}, (a < 4294967296 → zi x = a) → (b < 4294967296 → zi y = b) → z a b < 4294967296 → zi (Gf x y) = z a b) (hle : ∀ a b, z a b ≤ 4294967296) (row : ∀ {p : Program} {l : Launch} {e : Env} {R : Room} {s : State} {m : MethodId} {args : Array Value} {below : List Frame} {meth : Method} {c : Code} {H : Heap} {locs : List Loc} {cells slots : Nat} {Q : State → Prop} {ls : Array Slot} {rest : List Value} {x y : Int32} {cA : Nat → ClassId} {D : va_G} {A : Nat → Prop}, zCx X cA D p s m args meth c A → c.maxLocals = ls.size → 1 ≤ R.frames → (rest.map fun v => v.category).sum + 13 ≤ R.locals → cells ≤ R.cells → slots ≤ R.slots → W p l e R s m args below meth c H locs cells slots Q (F0 m (pc + 3) ls (.int (Gf x y) :: rest)) → W p l e R s m args below meth c H locs cells slots Q (F0 m pc ls (.int y :: .int x :: rest))) (hfr : 1 ≤ fr) (hs : zSim X fr P (pc + 3) k) : zSim X fr P pc (xmm z k) := by
  intro Ch cA D ad0 A MC MS p l e s m args below meth c ls st H locs cells slots L S h Cx hk R0
  obtain ⟨ws, hHp, hpre, hP, hD, hS, hL, hst, hcb, hsb⟩ := R0
  obtain ⟨b, S, rfl, hk1⟩ := zpI_t hk
  obtain ⟨a, S, rfl, hk2⟩ := zpI_t hk1
  obtain ⟨y, st, rfl, hy, hst1⟩ := zRepL_I hst
  obtain ⟨x, st, rfl, hx, hst2⟩ := zRepL_I hst1
  obtain ⟨h4, hk3⟩ := zle4_t hk2
  have hk3 : zF (fun v => k L (zI v :: S) h) (z a b) = true := hk3
  rw [zF_eq] at hk3
  have hcat := zcat hst2
  exact row Cx (by rw [Cx.2.2.1]; exact hL.2.choose_spec.1.1.symm) hfr (by show (st.map fun v => v.category).sum + 13 ≤ 64 * fr; omega) (by show cells ≤ MC; omega) (by show slots ≤ MS; omega) (hs Ch cA D ad0 A MC MS p l e s m args below meth c ls _ H locs cells slots L _ h Cx hk3 ⟨ws, hHp, hpre, hP, hD, hS, hL, ⟨⟨_, rfl, zIs_of (hz hx.1 hy.1) (hle _ _)⟩, hst2⟩, hcb, hsb⟩)
theorem sm_mmax [G : zGh] {index : Nat} (hlink : Cond.methodLink X.1 index Lib.Math.max.name ∈ ztbl) (hstat : Cond.static Lib.Math.max.name ∈ ztbl) (hini : Cond.initialized "java/lang/Math" ∈ ztbl) (hcode : Cond.code Lib.Math.max.name Lib.Math.max.code 2 (some .int) ∈ ztbl) (hfr : 1 ≤ fr) (dg : decode X.2.1 pc = .ok (.invokestatic index, 3)) (hs : zSim X fr P (pc + 3) k) : zSim X fr P pc (xmm zmax k) := sm_mm zmax_ok zmax_le (fun Cx h1 h2 h3 h4 h5 kk => va_mmax Cx.1 Cx.2.1 h1 Cx.2.2.2.1 (Cx.2.2.2.2.1 _ hlink) (Cx.2.2.2.2.1 _ hstat) (Cx.2.2.2.2.1 _ hini) (Cx.2.2.2.2.1 _ hcode) h2 h3 h4 h5 dg kk) hfr hs
theorem sm_mmin [G : zGh] {index : Nat} (hlink : Cond.methodLink X.1 index Lib.Math.min.name ∈ ztbl) (hstat : Cond.static Lib.Math.min.name ∈ ztbl) (hini : Cond.initialized "java/lang/Math" ∈ ztbl) (hcode : Cond.code Lib.Math.min.name Lib.Math.min.code 2 (some .int) ∈ ztbl) (hfr : 1 ≤ fr) (dg : decode X.2.1 pc = .ok (.invokestatic index, 3)) (hs : zSim X fr P (pc + 3) k) : zSim X fr P pc (xmm zmin k) := sm_mm zmin_ok zmin_le (fun Cx h1 h2 h3 h4 h5 kk => va_mmin Cx.1 Cx.2.1 h1 Cx.2.2.2.1 (Cx.2.2.2.2.1 _ hlink) (Cx.2.2.2.2.1 _ hstat) (Cx.2.2.2.2.1 _ hini) (Cx.2.2.2.2.1 _ hcode) h2 h3 h4 h5 dg kk) hfr hs
end OPS
