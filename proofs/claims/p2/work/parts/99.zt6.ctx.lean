/-! the place of the law (the kit's skeleton, turned), and its context -/
noncomputable def R_law : String := "PrimeBlocksLaw"
def lw_P (b : Addr) (xs : List Int32) (args : Array Value) (s : State) : Prop := args = #[.ref b] ∧ s.IntsAt b xs ∧ xs.length ≤ 3072 ∧ (Jvm.Cond.and given_1 narrow_1).before args s = true
def lw_Q (_ : Array Value) (s : State) (o : Outcome) (t : State) : Prop := o = .returned (some (.int 1)) ∧ Framed s o t [] 600000 7302250
noncomputable def lw_Z (below : List Frame) (a : Array Value) (s : State) : State → Prop := fun t => ∃ o, t.status = .running ∧ Ended t below o ∧ lw_Q a s o t
/-- the law's own end, with 1 on the stack, nothing written that was there before, its room as the claim has it -/
theorem lw_ret {p : Program} {l : Launch} {e : Env} {s : State} {m : MethodId} {below : List Frame} {meth : Method} {c : Code} {b : Nat} (hx : p.tables.exec = Jvm.exec) (hb : c.code = code) (hr : meth.sig.returnType = ret) (hlocks : meth.locks = false) {pc : Nat} {H : Heap} {ls : Array Slot} (hdg : decode code pc = .ok (.ireturn, 1)) : W p l e room_1 s m #[Value.ref b] below meth c H [] 600000 7302250 (lw_Z below #[Value.ref b] s) (F0 m pc ls [.int 1]) := by
  intro T hT X
  obtain ⟨fs, hret, hrun, hended, hW, hframe⟩ := X.leave (v := some (.int 1)) (hlocks := hlocks) (fun h => by rw [hr] at h; cases h)
  have hmeth' : T.vm.method? m = some meth := X.method'
  refine ⟨T.setFrames fs, ?_, .returned (some (.int 1)), hrun, hended, rfl, ⟨_, rfl⟩, hW, hframe⟩
  jvm_step X.here [X.here.top, hx, hb, hdg, hmeth', hr, ret, narrow_b1]
  (try refine ⟨rfl, ?_⟩); (try refine ⟨rfl, ?_⟩)
  first | (intro acts; rw [hret _ acts rfl rfl rfl]) | rw [hret _ _ rfl rfl rfl]
  exact Steps.refl _
/-- what holds at the law's entry: the machine, the code, the tables' words (any of lw_tbl by 'hts w (by decide +kernel)'), the script of L ints xs at the cell b, what the Statement gives of the start (any of its parts by flat_of_before) -/
def lw_At (p : Program) (s : State) (m : MethodId) (meth : Method) (c : Code) (b L : Nat) (xs : Nat → Int32) : Prop :=
  p.tables.exec = Jvm.exec ∧ c.code = code ∧ meth.sig.returnType = ret ∧ c.maxLocals = 4 ∧ s.vm.findClass R_law = some m.cls ∧ (∀ w ∈ lw_tbl, w.before #[Value.ref b] s = true) ∧ va_X b L xs s s.heap ∧ b < s.heap.size ∧ meth.locks = false ∧ (Jvm.Cond.and given_1 narrow_1).before #[Value.ref b] s = true
/-- the same in any room -/
theorem lw_retR {R : Room} {p : Program} {l : Launch} {e : Env} {s : State} {m : MethodId} {below : List Frame} {meth : Method} {c : Code} {b : Nat} (hx : p.tables.exec = Jvm.exec) (hb : c.code = code) (hr : meth.sig.returnType = ret) (hlocks : meth.locks = false) {pc : Nat} {H : Heap} {ls : Array Slot} (hdg : decode code pc = .ok (.ireturn, 1)) : W p l e R s m #[Value.ref b] below meth c H [] 600000 7302250 (lw_Z below #[Value.ref b] s) (F0 m pc ls [.int 1]) := by
  intro T hT X
  obtain ⟨fs, hret, hrun, hended, hW, hframe⟩ := X.leave (v := some (.int 1)) (hlocks := hlocks) (fun h => by rw [hr] at h; cases h)
  have hmeth' : T.vm.method? m = some meth := X.method'
  refine ⟨T.setFrames fs, ?_, .returned (some (.int 1)), hrun, hended, rfl, ⟨_, rfl⟩, hW, hframe⟩
  jvm_step X.here [X.here.top, hx, hb, hdg, hmeth', hr, ret, narrow_b1]
  (try refine ⟨rfl, ?_⟩); (try refine ⟨rfl, ?_⟩)
  first | (intro acts; rw [hret _ acts rfl rfl rfl]) | rw [hret _ _ rfl rfl rfl]
  exact Steps.refl _

theorem lw_st1 {args : Array Value} {s : State} {C n : String} {A : Nat → Prop} (hl : (Cond.laysStatic C n "[I").before args s = true) (hini : (Cond.initialized C).before args s = true) (harr : (Cond.arrayOf (.static C n "[I") .int).before args s = true) (hlen : (Cond.eq (.length (.static C n "[I")) (.int 7)).before args s = true) (v : Nat → Int32) (tb : List Nat) (hel : ∀ j : Nat, j < 7 → (Cond.eq (.elem (.static C n "[I") (.int (Int32.ofNat j))) (.int (v j))).before args s = true) (h7 : tb.length = 7) (htb : ∀ j, j < 7 → tb[j]? = some (zi (v j))) (hA : ∀ a : Nat, a < s.heap.size → ¬ A a) : zSt1 C n tb A s s.heap := by
  obtain ⟨t, ht, hT⟩ := va_Tof (N := 7) (f := fun j => .int (v j)) (by decide) harr (va_eqt hlen) (fun j hj => va_eqt (hel j hj)) hA
  refine ⟨t, va_Zof hl hini ht hA, _, hT, fun j u hj => ⟨v j, rfl, ?_⟩⟩
  have hj7 : j < 7 := by rw [← h7]; exact (List.getElem?_eq_some_iff.mp hj).1
  rw [htb j hj7] at hj
  exact Option.some.inj hj
theorem lw_nest : ∀ q ∈ zNest, Cond.methodLinkNest q.1 q.2.1 q.2.2.1 q.2.2.2 ∈ lw_tbl := by decide +kernel
theorem lw_ctx [G : zGh] (hG : @zg G 0 = 0) {p : Program} {s : State} {m : MethodId} {meth : Method} {c : Code} {b L : Nat} {xs : Nat → Int32} (C0 : lw_At p s m meth c b L xs) : ∃ (cA : Nat → ClassId) (D : va_G), zCx (X_lw meth.name) cA D p s m #[Value.ref b] meth c (fun q => s.heap.size ≤ q) := by
  obtain ⟨hx, hb, hr, hml, hown, hts, hX, hbl, hlk, hgv⟩ := C0
  have hz : ∀ w ∈ ztbl, w.before #[Value.ref b] s = true := fun w hw => hts w (List.mem_filter.mp hw).1
  obtain ⟨k0, i0, u0⟩ := u_known hz inz0 (hz _ wd_421)
  obtain ⟨k1, i1, u1⟩ := u_known hz inz1 (hz _ wd_547)
  obtain ⟨k2, i2, u2⟩ := u_known hz inz2 (hz _ wd_541)
  obtain ⟨k3, i3, u3⟩ := u_known hz inz3 (hz _ wd_346)
  obtain ⟨k4, i4, u4⟩ := u_known hz inz4 (hz _ wd_60)
  obtain ⟨k5, i5, u5⟩ := u_known hz inz5 (hz _ wd_327)
  obtain ⟨k6, i6, u6⟩ := u_known hz inz6 (hz _ wd_30)
  obtain ⟨k7, i7, u7⟩ := u_known hz inz7 (hz _ wd_47)
  obtain ⟨k8, i8, u8⟩ := u_known hz inz8 (hz _ wd_16)
  obtain ⟨k9, i9, u9⟩ := u_known hz inz9 (hz _ wd_903)
  obtain ⟨a0, g0, c0, f0, e0, t0⟩ := Cond.arrayClass_spec (hz _ wd_46)
  obtain ⟨a1, g1, c1, f1, e1, t1⟩ := Cond.arrayClass_spec (hz _ wd_360)
  obtain ⟨a2, g2, c2, f2, e2, t2⟩ := Cond.arrayClass_spec (hz _ wd_45)
  have w3 : (Cond.arrayOver (.array .int)).before #[Value.ref b] s = true := hts _ (by decide +kernel)
  obtain ⟨c3, a3, g3, -, -, e3, t3, f3⟩ := arrayOverA_spec w3
  have w4 : (Cond.arrayOver (.array .long)).before #[Value.ref b] s = true := hts _ (by decide +kernel)
  obtain ⟨c4, a4, g4, -, -, e4, t4, f4⟩ := arrayOverA_spec w4
  have w5 : (Cond.arrayOver (.object RX4)).before #[Value.ref b] s = true := hts _ (by decide +kernel)
  obtain ⟨c5, a5, g5, j5, -, e5, t5, f5⟩ := Cond.arrayOver_spec w5
  have w6 : (Cond.arrayOver (.object RX7)).before #[Value.ref b] s = true := hts _ (by decide +kernel)
  obtain ⟨c6, a6, g6, j6, -, e6, t6, f6⟩ := Cond.arrayOver_spec w6
  have w7 : (Cond.arrayOver (.object RX5)).before #[Value.ref b] s = true := hts _ (by decide +kernel)
  obtain ⟨c7, a7, g7, j7, -, e7, t7, f7⟩ := Cond.arrayOver_spec w7
  have hs := flat_of_before _ hgv
  have hA : ∀ a : Nat, a < s.heap.size → ¬ s.heap.size ≤ a := fun a h1 h2 => absurd h2 (Nat.not_le.mpr h1)
  have seven : ∀ j : Nat, j < 7 → j = 0 ∨ j = 1 ∨ j = 2 ∨ j = 3 ∨ j = 4 ∨ j = 5 ∨ j = 6 := fun j hj => by omega
  refine ⟨fun i => [a0, a1, a2, a3, a4, a5, a6, a7].getD i 0, (fun i => [k0, k1, k2, k3, k4, k5, k6, k7, k8, k9].getD i 0, fun i => [i0, i1, i2, i3, i4, i5, i6, i7, i8, i9].getD i i0), hx, hb.trans (X_lw_c _).symm, hml, hown, hz, ⟨fun cc q hq => ?_, fun kk q hq => ?_⟩, fun q h => h, hr, ⟨hlk, (show (0 : Nat) = zg 0 from hG.symm)⟩, rfl, ⟨?_, ?_, ?_⟩, ⟨w5, w6, w7, w3, w4, fun q hq => va_Nw.of rfl (hts _ (lw_nest q hq)), va_Nw.of rfl (hts _ (by decide +kernel))⟩⟩
  · match cc, hq with
    | 0, hq => cases hq; exact u0
    | 1, hq => cases hq; exact u1
    | 2, hq => cases hq; exact u2
    | 3, hq => cases hq; exact u3
    | 4, hq => cases hq; exact u4
    | 5, hq => cases hq; exact u5
    | 6, hq => cases hq; exact u6
    | 7, hq => cases hq; exact u7
    | 8, hq => cases hq; exact u8
    | 9, hq => cases hq; exact u9
    | n + 10, hq => cases hq
  · match kk, hq with
    | 0, hq => cases hq; exact ⟨fun n z => ⟨(fun k h => by cases h), g0, e0, c0, t0⟩, f0⟩
    | 1, hq => cases hq; exact ⟨fun n z => ⟨(fun k h => by cases h), g1, e1, c1, t1⟩, f1⟩
    | 2, hq => cases hq; exact ⟨fun n z => ⟨(fun k h => by cases h), g2, e2, c2, t2⟩, f2⟩
    | 3, hq => cases hq; exact ⟨fun n z => ⟨(fun k h => by cases h), g3, e3, c3, t3⟩, f3⟩
    | 4, hq => cases hq; exact ⟨fun n z => ⟨(fun k h => by cases h), g4, e4, c4, t4⟩, f4⟩
    | 5, hq => cases hq; exact ⟨fun n z => ⟨(fun k h => by cases h), g5, e5, c5, t5⟩, ⟨g5, c5, e5, t5, j5, f5⟩⟩
    | 6, hq => cases hq; exact ⟨fun n z => ⟨(fun k h => by cases h), g6, e6, c6, t6⟩, ⟨g6, c6, e6, t6, j6, f6⟩⟩
    | 7, hq => cases hq; exact ⟨fun n z => ⟨(fun k h => by cases h), g7, e7, c7, t7⟩, ⟨g7, c7, e7, t7, j7, f7⟩⟩
    | n + 8, hq => cases hq
  · refine lw_st1 (hts _ (by decide +kernel)) (hz _ wd_3) (hs _ (by decide +kernel)) (hs _ (by decide +kernel)) (fun j => ([1, 1, 2, 3, 5, 7, 11] : List Int32).getD j 0) ztb1 (fun j hj => ?_) rfl (by decide) hA
    rcases seven j hj with rfl | rfl | rfl | rfl | rfl | rfl | rfl <;> exact hs _ (by decide +kernel)
  · refine lw_st1 (hts _ (by decide +kernel)) (hz _ wd_9) (hs _ (by decide +kernel)) (hs _ (by decide +kernel)) (fun j => ([0, 1, -1, -1, 0, -1, 1] : List Int32).getD j 0) ztb2 (fun j hj => ?_) rfl (by decide) hA
    rcases seven j hj with rfl | rfl | rfl | rfl | rfl | rfl | rfl <;> exact hs _ (by decide +kernel)
  · refine lw_st1 (hts _ (by decide +kernel)) (hz _ wd_9) (hs _ (by decide +kernel)) (hs _ (by decide +kernel)) (fun j => ([1, 1, 1, 2, 2, 4, 2] : List Int32).getD j 0) ztb3 (fun j hj => ?_) rfl (by decide) hA
    rcases seven j hj with rfl | rfl | rfl | rfl | rfl | rfl | rfl <;> exact hs _ (by decide +kernel)
