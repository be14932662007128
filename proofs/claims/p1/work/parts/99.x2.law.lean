/-! the law: what its walk stands on -/
section LAWW
variable {p : Program} {l : Launch} {e : Env} {R R' : Room} {s : State} {m : MethodId} {args : Array Value} {below : List Frame} {meth : Method} {c : Code} {H : Heap} {locs : List Loc} {cells slots : Nat} {Q : State → Prop}
theorem W_room {g : JFrame} (h1 : R.frames ≤ R'.frames) (h2 : R.cells ≤ R'.cells) (h3 : R.slots ≤ R'.slots) (h4 : R.locals ≤ R'.locals) (k : W p l e R s m args below meth c H locs cells slots Q g) : W p l e R' s m args below meth c H locs cells slots Q g := by
  intro T hT X
  refine k T hT ⟨X.admits, X.cas, X.clock, X.frames, ?_, X.hears, X.method, X.code, X.here, X.tail, X.warmed, X.limits, X.bytes, X.same⟩
  have hr := X.room
  simp only [State.hasRoom, Bool.and_eq_true, decide_eq_true_eq] at hr ⊢
  obtain ⟨⟨⟨⟨r1, r2, r3, r4, r5, r6⟩, r7⟩, r8⟩, r9⟩ := hr
  exact ⟨⟨⟨⟨by omega, by omega, by omega, by omega, by omega, r6⟩, by omega⟩, by omega⟩, r9⟩
/-- a number of the script -/
theorem lw_arg {pc b j k0 k3 : Nat} {k : Int} {xs : Nat → Int32} {ls : Array Slot} {lv : List (Nat × Value)} {rest : List Value} (d1 : decode code pc = .ok (.aload_n 0, 1)) (d2 : decode code (pc + 1) = .ok (.iload_n 3, 1)) (d3 : decode code (pc + 2) = .ok (.iconst k, 1)) (d4 : decode code (pc + 3) = .ok (.iadd, 1)) (d5 : decode code (pc + 4) = .ok (.iaload, 1)) (hj : (0 : Int32) + Int32.ofInt k = Int32.ofNat j) (hj6 : j < 6) (hx : p.tables.exec = Jvm.exec) (hb : c.code = code) (hX : va_X b 6 xs s s.heap) (hbl : b < s.heap.size) (hS : va_S (fun q => s.heap.size ≤ q) s.heap H locs) (hl : lv_has ls 4 lv) (h0 : lv[k0]? = some (0, .ref b)) (h3 : lv[k3]? = some (3, .int 0))
    (kk : W p l e R s m args below meth c H locs cells slots Q (F0 m (pc + 5) ls (.int (xs j) :: rest))) : W p l e R s m args below meth c H locs cells slots Q (F0 m pc ls rest) := by
  refine lv_aload_n hx hb d1 rfl (lv_at hl k0 h0) ?_
  refine lv_iload_n hx hb d2 rfl (lv_at hl k3 h3) ?_
  refine lv_iconst hx hb d3 rfl ?_
  refine lv_iadd hx hb d4 ?_
  rw [hj]
  have e1 : (Int32.ofNat j).toNatClampNeg = j := Int32.toNatClampNeg_ofNat_of_lt (by omega)
  have hin : vp_in (Int32.ofNat j) 6 := by
    intro q
    rcases q with q | q
    · have hc : j = 0 ∨ j = 1 ∨ j = 2 ∨ j = 3 ∨ j = 4 ∨ j = 5 := by omega
      rcases hc with rfl | rfl | rfl | rfl | rfl | rfl <;> exact absurd q (by decide)
    · rw [e1] at q
      omega
  refine va_sld hx hb hX hbl (Nat.not_le.mpr hbl) hS hin d5 ?_
  rw [e1]
  exact kk
end LAWW
theorem zPre_at {a b : zA} (h : zPre a b) {k q : Nat} (hk : a.1[k]? = some q) : b.1[k]? = some q := by
  obtain ⟨⟨t, ht⟩, -⟩ := h
  rw [ht, List.getElem?_append_left (List.getElem?_eq_some_iff.mp hk).1]
  exact hk
/-- a call, its end told -/
theorem pt_call [G : zGh] {Ch : zCh} {d : Nat} {X Xc : zM} {yc : MethodName} {fr frc pc n mc ms : Nat} {f : List zV → zH d → zP d → Bool} {recv : va_W → List Value → Prop} {cA : Nat → ClassId} {D : va_G} {A : Nat → Prop} {MC MS : Nat} {p : Program} {l : Launch} {e : Env} {s : State} {m : MethodId} {args : Array Value} {below : List Frame} {meth : Method} {c : Code} {Q : State → Prop} {ls : Array Slot} {H : Heap} {locs : List Loc} {cells slots : Nat} {as : List zV} {st av : List Value} {h : zH d} {ws : va_W} {kr : zV → zH d → Bool}
    (hM : zMet Xc yc frc f) (run : zRun X Xc yc fr frc pc n mc ms recv) (Cx : zCx X cA D p s m args meth c A) (hk : zgo mc ms f as h kr = true) (hHp : @zHp Ch d cA h ws) (hP : va_P D zcl ws H) (hD : va_D A ws) (hS : va_S A s.heap H locs) (hls : ls.size = X.2.2.1) (has : zRepL (zad cA ws) as av) (hcat : (st.map fun v => v.category).sum ≤ 8) (hn : av.length = n) (hrc : recv ws av) (hcb : cells + h.2.2.1 ≤ MC) (hsb : slots + h.2.2.2 ≤ MS)
    (kk : ∀ (Ch' : zCh) (r : zV) (h' : zH d) (ws' : va_W) (ov : Option Value) (H1 : Heap) (locs1 : List Loc), ((ov = none ∧ r = zU) ∨ ∃ x, ov = some x ∧ ∀ (_ : zGh), zRep (zad cA ws') r x) → kr r (h'.1, (h'.2.1, (h.2.2.1 - mc, h.2.2.2 - ms))) = true → @zHp Ch' d cA (h'.1, (h'.2.1, (h.2.2.1 - mc, h.2.2.2 - ms))) ws' → zPre (zad cA ws) (zad cA ws') → va_P D zcl ws' H1 → va_D A ws' → va_S A s.heap H1 locs1 → W p l e (zRm fr MC MS) s m args below meth c H1 locs1 (cells + mc) (slots + ms) Q (F0 m (pc + 3) ls (ov.toList ++ st))) :
    W p l e (zRm fr MC MS) s m args below meth c H locs cells slots Q (F0 m pc ls (av.reverse ++ st)) := by
  obtain ⟨g1, g2, hk⟩ := zgo_t hk
  have hF := zfree hD hS Cx.2.2.2.2.2.2.1
  have hMet := @hM G Ch l cA D ws av as (h.1, (h.2.1, (mc, ms))) _ H.size hk has hHp
  refine zrun (run (l := l) (e := e) (below := below) (MC := MC) (MS := MS) (locs := locs) (cells := cells) (slots := slots) (ls := ls) (rest := st) Cx hP hrc hMet zPc_blind (fun U hU hW => ⟨rfl, by rw [hU], by rw [hU]; exact hP, va_K.moved hW.alike Cx.2.2.2.2.2.1, hD.weaken (fun _ _ _ _ => trivial), zStat_to Cx.2.2.2.2.2.2.2.2.2.2.1 hS hF hU hW.alike, zEx_moved hW Cx.2.2.2.2.2.2.2.2.2.2.2⟩) hn hls hcat (by omega) (by omega)) hS (fun q _ h => hF q h) hF (@fun Ch' r h' ws' ov H1 locs1 hov hPk hHp' hpre' hP' hD' hS' => ?_)
  exact kk Ch' r h' ws' ov H1 locs1 hov hPk hHp' hpre' hP' (hD'.weaken (fun _ q _ hq => hF _ hq)) hS'
/-- an object made, its end told -/
theorem pt_new [G : zGh] {Ch : zCh} {d : Nat} {X : zM} {fr pc ci index : Nat} {C : String} {T : u_T} {N : Nat} {ty0 : Nat → FieldType} {cA : Nat → ClassId} {D : va_G} {A : Nat → Prop} {MC MS : Nat} {p : Program} {l : Launch} {e : Env} {s : State} {m : MethodId} {args : Array Value} {below : List Frame} {meth : Method} {c : Code} {Q : State → Prop} {ls : Array Slot} {st : List Value} {H : Heap} {locs : List Loc} {cells slots : Nat} {h : zH d} {ws : va_W} {kr : Nat → zH d → Bool}
    (hN : N = zN ci) (hfty : ∀ j, j < N → ty0 j = zfty ci j) (hall : ∀ j, j < N → zfty ci j = .int ∨ zisR (zfty ci j) = true) (hin : ∀ w ∈ u_ws C T N, w ∈ ztbl) (hty : ∀ k, k < N → parseFieldDescriptor (T k).2.2.1 = some (ty0 k)) (hc : zcl[ci]? = some (C, T, N)) (hcl : Cond.classLink X.1 index C ∈ ztbl) (hinst : Cond.instantiable C N ∈ ztbl) (hini : Cond.initialized C ∈ ztbl) (dg : decode X.2.1 pc = .ok (.new index, 3))
    (Cx : zCx X cA D p s m args meth c A) (hk : zmk h N (16 + ci, N, 0) kr = true) (hHp : @zHp Ch d cA h ws) (hP : va_P D zcl ws H) (hD : va_D A ws) (hS : va_S A s.heap H locs) (hcb : cells + h.2.2.1 ≤ MC) (hsb : slots + h.2.2.2 ≤ MS)
    (kk : ∀ (q : Nat) (fs : List Value) (H1 : Heap), kr (h.2.1 + 1) (zset d h.1 h.2.1 (16 + ci, N, 0), (h.2.1 + 1, (h.2.2.1 - 1, h.2.2.2 - N))) = true → @zHp Ch d cA (zset d h.1 h.2.1 (16 + ci, N, 0), (h.2.1 + 1, (h.2.2.1 - 1, h.2.2.2 - N))) (ws ++ [(q, .inr (ci, fs))]) → (zad cA (ws ++ [(q, .inr (ci, fs))])).1[h.2.1]? = some q → (ws ++ [(q, .inr (ci, fs))])[h.2.1]? = some (q, .inr (ci, fs)) → va_P D zcl (ws ++ [(q, .inr (ci, fs))]) H1 → va_D A (ws ++ [(q, .inr (ci, fs))]) → va_S A s.heap H1 locs → zPre (zad cA ws) (zad cA (ws ++ [(q, .inr (ci, fs))])) → 1 ≤ h.2.2.1 → N ≤ h.2.2.2 → W p l e (zRm fr MC MS) s m args below meth c H1 locs (cells + 1) (slots + N) Q (F0 m (pc + 3) ls (.ref q :: st))) :
    W p l e (zRm fr MC MS) s m args below meth c H locs cells slots Q (F0 m pc ls st) := by
  obtain ⟨h1, h2, h3, hk⟩ := zmk_t hk
  refine va_new (fs := (List.range N).map (fun j => defaultValue (ty0 j))) Cx.1 Cx.2.1 Cx.2.2.2.2.1 hin ty0 hty Cx.2.2.2.1 (Cx.2.2.2.2.1 _ hcl) (Cx.2.2.2.2.1 _ hinst) (Cx.2.2.2.2.1 _ hini) Cx.2.2.2.2.2.1 hP hD hS Cx.2.2.2.2.2.2.1 hc (fun j hj => ?_) (by show cells + 1 ≤ MC; omega) (by show slots + N ≤ MS; omega) dg (fun q H1 hP1 hD1 hS1 => ?_)
  · show _ = ((List.range N).map (fun j => defaultValue (ty0 j))).getD j .null
    rw [List.getD_eq_getElem?_getD, List.getElem?_map, List.getElem?_range hj]
    rfl
  · have hp := zPre_push (cA := cA) ws q (.inr (ci, (List.range N).map (fun j => defaultValue (ty0 j))))
    refine kk q _ H1 hk (zHp_push hHp h3 (zCell_ok (by rw [List.length_map, List.length_range]; exact hN) (fun j v hj => ?_))) (zad_new hHp.1) ?_ hP1 hD1 hS1 hp h1 h2
    · have hj2 : j < N := by
        have := (List.getElem?_eq_some_iff.mp hj).1
        rw [List.length_map, List.length_range] at this
        exact this
      rw [List.getElem?_map, List.getElem?_range hj2] at hj
      cases hj
      unfold zFl
      rw [zwd_zero]
      show zRepC _ _ (defaultValue (ty0 j))
      rw [hfty j hj2]
      exact zdef _ _ (hall j hj2)
    · rw [← hHp.1, List.getElem?_concat_length]
/-- the receiver -/
theorem zrecv2 {Ch : zCh} {d : Nat} {cA : Nat → ClassId} {h : zH d} {ws : va_W} {k kd len x ci a : Nat} {As' : List Value} (hHp : @zHp Ch d cA h ws) (ha : (zad cA ws).1[k]? = some a) (hg : zget d h.1 k = (kd, len, x)) (hkd : Nat.beq kd (16 + ci) = true) : ∃ (b : Nat) (As'' : List Value) (q0 : Nat) (fs : List Value), Value.ref a :: As' = .ref b :: As'' ∧ ws[q0]? = some (b, .inr (ci, fs)) := by
  obtain ⟨en, hw⟩ := zad_at ha
  have hc := hHp.2.2 k _ hw
  rw [hg] at hc
  obtain ⟨fs, e1, -, -⟩ := @zCell_obj Ch cA _ kd len x ci _ hc (Nat.eq_of_beq_eq_true hkd)
  have e1 : en = .inr (ci, fs) := e1
  exact ⟨a, As', k, fs, rfl, by rw [hw, e1]⟩
theorem zrecv {Ch : zCh} {d : Nat} {cA : Nat → ClassId} {h : zH d} {ws : va_W} {k ci a : Nat} {As' : List Value} (hHp : @zHp Ch d cA h ws) (ha : (zad cA ws).1[k]? = some a) (hg : Nat.beq (zget d h.1 k).1 (16 + ci) = true) : ∃ (b : Nat) (As'' : List Value) (q0 : Nat) (fs : List Value), Value.ref a :: As' = .ref b :: As'' ∧ ws[q0]? = some (b, .inr (ci, fs)) := zrecv2 hHp ha (kd := (zget d h.1 k).1) (len := (zget d h.1 k).2.1) (x := (zget d h.1 k).2.2) rfl hg
theorem kB_x : Nat.beq (zget 10 hB_lw.1 0).1 (16 + 8) = true := by decide +kernel
theorem zcat1 {ad : zA} {r : zV} {ov : Option Value} (h : (ov = none ∧ r = zU) ∨ ∃ x, ov = some x ∧ ∀ (_ : zGh), zRep ad r x) : ((ov.toList ++ []).map fun (v : Value) => v.category).sum ≤ 8 := by
  rcases h with ⟨h, -⟩ | ⟨x, h, -⟩
  · subst h
    exact Nat.zero_le _
  · subst h
    cases x <;> exact Nat.le_of_ble_eq_true rfl
theorem lg_cmp_self (x : Int64) : lg_cmp x x = 0 := by
  unfold lg_cmp
  rw [if_neg Int64.lt_irrefl, if_pos rfl]
theorem zeqI_t {ad ad2 : zA} {r r2 : zV} {ov ov2 : Option Value} (h : zeqI r r2 = true) (h1 : (ov = none ∧ r = zU) ∨ ∃ x, ov = some x ∧ ∀ (_ : zGh), zRep ad r x) (h2 : (ov2 = none ∧ r2 = zU) ∨ ∃ x, ov2 = some x ∧ ∀ (_ : zGh), zRep ad2 r2 x) : ∃ i : Int32, ov = some (.int i) ∧ ov2 = some (.int i) := by
  have G : zGh := ⟨(fun _ => 0 : Nat → Nat)⟩
  match r, r2, h, h1, h2 with
  | .inl a, .inl b, h, h1, h2 =>
    have h : cond (Nat.ble a 4294967295) (Nat.beq a b) false = true := h
    obtain ⟨g1, g2⟩ := zcnd_t h
    have g1 := Nat.le_of_ble_eq_true g1
    have g2 := Nat.eq_of_beq_eq_true g2
    subst g2
    rcases h1 with ⟨-, h1⟩ | ⟨x, h1, hx⟩
    · cases h1
    rcases h2 with ⟨-, h2⟩ | ⟨y, h2, hy⟩
    · cases h2
    obtain ⟨i, rfl, hi⟩ := hx G
    obtain ⟨j, rfl, hj⟩ := hy G
    have e : i = j := zi_inj (by rw [hi.1 (by omega), hj.1 (by omega)])
    subst e
    exact ⟨i, h1, h2⟩
theorem zeqJ_t {ad ad2 : zA} {r r2 : zV} {ov ov2 : Option Value} (h : zeqJ r r2 = true) (h1 : (ov = none ∧ r = zU) ∨ ∃ x, ov = some x ∧ ∀ (_ : zGh), zRep ad r x) (h2 : (ov2 = none ∧ r2 = zU) ∨ ∃ x, ov2 = some x ∧ ∀ (_ : zGh), zRep ad2 r2 x) : ∃ i : Int64, ov = some (.long i) ∧ ov2 = some (.long i) := by
  have G : zGh := ⟨(fun _ => 0 : Nat → Nat)⟩
  match r, r2, h, h1, h2 with
  | .inr (.inr (.inl a)), .inr (.inr (.inl b)), h, h1, h2 =>
    have h : cond (Nat.ble a 18446744073709551615) (Nat.beq a b) false = true := h
    obtain ⟨g1, g2⟩ := zcnd_t h
    have g1 := Nat.le_of_ble_eq_true g1
    have g2 := Nat.eq_of_beq_eq_true g2
    subst g2
    rcases h1 with ⟨-, h1⟩ | ⟨x, h1, hx⟩
    · cases h1
    rcases h2 with ⟨-, h2⟩ | ⟨y, h2, hy⟩
    · cases h2
    obtain ⟨i, rfl, hi⟩ := hx G
    obtain ⟨j, rfl, hj⟩ := hy G
    have e : i = j := zj_inj (by rw [hi.1 (by omega), hj.1 (by omega)])
    subst e
    exact ⟨i, h1, h2⟩
