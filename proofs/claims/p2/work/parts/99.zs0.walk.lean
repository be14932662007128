/-! the law's walk: what all its turns stand on -/
noncomputable def zrI (r : zV) : Bool := Sum.rec (motive := fun _ => Bool) (fun _ => true) (fun _ => false) r
noncomputable def zrJ (r : zV) : Bool := Sum.rec (motive := fun _ => Bool) (fun _ => false) (fun u => Sum.rec (motive := fun _ => Bool) (fun _ => false) (fun w => Sum.rec (motive := fun _ => Bool) (fun _ => true) (fun _ => false) w) u) r
theorem zrI_t {ad : zA} {r : zV} {ov : Option Value} (h : zrI r = true) (h1 : (ov = none ∧ r = zU) ∨ ∃ x, ov = some x ∧ ∀ (_ : zGh), zRep ad r x) : ∃ i : Int32, ov = some (.int i) := by
  have G : zGh := ⟨(fun _ => 0 : Nat → Nat)⟩
  match r, h, h1 with
  | .inl a, _, h1 =>
    rcases h1 with ⟨-, h1⟩ | ⟨x, h1, hx⟩
    · cases h1
    obtain ⟨i, rfl, -⟩ := hx G
    exact ⟨i, h1⟩
theorem zrJ_t {ad : zA} {r : zV} {ov : Option Value} (h : zrJ r = true) (h1 : (ov = none ∧ r = zU) ∨ ∃ x, ov = some x ∧ ∀ (_ : zGh), zRep ad r x) : ∃ i : Int64, ov = some (.long i) := by
  have G : zGh := ⟨(fun _ => 0 : Nat → Nat)⟩
  match r, h, h1 with
  | .inr (.inr (.inl a)), _, h1 =>
    rcases h1 with ⟨-, h1⟩ | ⟨x, h1, hx⟩
    · cases h1
    obtain ⟨i, rfl, -⟩ := hx G
    exact ⟨i, h1⟩
theorem zeqI_c {ad : zA} {r : zV} {a : Nat} {ov : Option Value} (h : zeqI r (zI a) = true) (h1 : (ov = none ∧ r = zU) ∨ ∃ x, ov = some x ∧ ∀ (_ : zGh), zRep ad r x) : ∃ i : Int32, ov = some (.int i) ∧ zi i = a := by
  have G : zGh := ⟨(fun _ => 0 : Nat → Nat)⟩
  match r, h, h1 with
  | .inl b, h, h1 =>
    have h : cond (Nat.ble b 4294967295) (Nat.beq b a) false = true := h
    obtain ⟨g1, g2⟩ := zcnd_t h
    have g1 := Nat.le_of_ble_eq_true g1
    have g2 := Nat.eq_of_beq_eq_true g2
    rcases h1 with ⟨-, h1⟩ | ⟨x, h1, hx⟩
    · cases h1
    obtain ⟨i, rfl, hi⟩ := hx G
    exact ⟨i, h1, (hi.1 (by omega)).trans g2⟩
/-- calls of one to four numbers, by regions -/
def zX1 (K : Nat → Bool) : Prop := ∀ (G : zGh) (i1 : Int32), ∃ r1, @zIs G r1 i1 ∧ K r1 = true
def zX2 (K : Nat → Nat → Bool) : Prop := ∀ (G : zGh) (i1 i2 : Int32), ∃ r1 r2, @zIs G r1 i1 ∧ @zIs G r2 i2 ∧ K r1 r2 = true
def zX3 (K : Nat → Nat → Nat → Bool) : Prop := ∀ (G : zGh) (i1 i2 i3 : Int32), ∃ r1 r2 r3, @zIs G r1 i1 ∧ @zIs G r2 i2 ∧ @zIs G r3 i3 ∧ K r1 r2 r3 = true
def zX4 (K : Nat → Nat → Nat → Nat → Bool) : Prop := ∀ (G : zGh) (i1 i2 i3 i4 : Int32), ∃ r1 r2 r3 r4, @zIs G r1 i1 ∧ @zIs G r2 i2 ∧ @zIs G r3 i3 ∧ @zIs G r4 i4 ∧ K r1 r2 r3 r4 = true
theorem zX1_of {L1 : List Nat} {K : Nat → Bool} (c1 : zcvr L1 0 = true) (h : zrgs L1 K = true) : zX1 K := fun G i1 => @zrgs_i G _ _ c1 h i1
theorem zX2_of {L1 : List Nat} {L2 : Nat → List Nat} {K : Nat → Nat → Bool} (c1 : zcvr L1 0 = true) (c2 : ∀ a, zcvr (L2 a) 0 = true) (h : zrgs L1 (fun a => zrgs (L2 a) (K a)) = true) : zX2 K := fun G i1 i2 => by
  obtain ⟨r1, e1, k1⟩ := @zrgs_i G _ _ c1 h i1
  obtain ⟨r2, e2, k2⟩ := @zrgs_i G _ _ (c2 r1) k1 i2
  exact ⟨r1, r2, e1, e2, k2⟩
theorem zX3_of {L1 : List Nat} {L2 : Nat → List Nat} {L3 : Nat → Nat → List Nat} {K : Nat → Nat → Nat → Bool} (c1 : zcvr L1 0 = true) (c2 : ∀ a, zcvr (L2 a) 0 = true) (c3 : ∀ a b, zcvr (L3 a b) 0 = true) (h : zrgs L1 (fun a => zrgs (L2 a) (fun b => zrgs (L3 a b) (K a b))) = true) : zX3 K := fun G i1 i2 i3 => by
  obtain ⟨r1, e1, k1⟩ := @zrgs_i G _ _ c1 h i1
  obtain ⟨r2, e2, k2⟩ := @zrgs_i G _ _ (c2 r1) k1 i2
  obtain ⟨r3, e3, k3⟩ := @zrgs_i G _ _ (c3 r1 r2) k2 i3
  exact ⟨r1, r2, r3, e1, e2, e3, k3⟩
theorem zX4_of {L1 : List Nat} {L2 : Nat → List Nat} {L3 : Nat → Nat → List Nat} {L4 : Nat → Nat → Nat → List Nat} {K : Nat → Nat → Nat → Nat → Bool} (c1 : zcvr L1 0 = true) (c2 : ∀ a, zcvr (L2 a) 0 = true) (c3 : ∀ a b, zcvr (L3 a b) 0 = true) (c4 : ∀ a b c, zcvr (L4 a b c) 0 = true) (h : zrgs L1 (fun a => zrgs (L2 a) (fun b => zrgs (L3 a b) (fun c => zrgs (L4 a b c) (K a b c)))) = true) : zX4 K := fun G i1 i2 i3 i4 => by
  obtain ⟨r1, e1, k1⟩ := @zrgs_i G _ _ c1 h i1
  obtain ⟨r2, e2, k2⟩ := @zrgs_i G _ _ (c2 r1) k1 i2
  obtain ⟨r3, e3, k3⟩ := @zrgs_i G _ _ (c3 r1 r2) k2 i3
  obtain ⟨r4, e4, k4⟩ := @zrgs_i G _ _ (c4 r1 r2 r3) k3 i4
  exact ⟨r1, r2, r3, r4, e1, e2, e3, e4, k4⟩
/-- what holds between two turns -/
def qI (cA : Nat → ClassId) (D : va_G) (A : Nat → Prop) (H : Heap) (own : Nat → Nat) (ax am g : Nat) (w0 wR : va_W) : Prop := qC cA D A H own ax g w0 ∧ qR cA D A H own am g wR ∧ zgw wR 0 46 = zgw w0 11 1 ∧ zgw w0 11 1 ≤ 200
theorem qR_kept {cA : Nat → ClassId} {D : va_G} {A : Nat → Prop} {H H1 : Heap} {own own1 : Nat → Nat} {am g : Nat} {wR : va_W} (hfr : ∀ (d2 : Nat) (h2 : zH d2) (w2 : va_W), qB cA D A H own 1 h2 w2 → qB cA D A H1 own1 1 h2 w2) (h : qR cA D A H own am g wR) : qR cA D A H1 own1 am g wR := ⟨hfr _ _ _ h.1, h.2⟩
/-- a wrong group: nothing is looked at -/
theorem q_subC0 [G : zGh] {X Xc : zM} {yc : MethodName} {fr frc pc n : Nat} {f : List zV → zH 2 → zP 2 → Bool} {cA : Nat → ClassId} {D : va_G} {A : Nat → Prop} {MC MS : Nat} {p : Program} {l : Launch} {e : Env} {s : State} {m : MethodId} {args : Array Value} {below : List Frame} {meth : Method} {c : Code} {Q : State → Prop} {ls : Array Slot} {H : Heap} {locs : List Loc} {cells slots : Nat} {as' : List zV} {st av' : List Value} {w0 : va_W} {own : Nat → Nat} {ax g : Nat} {a : zV}
    (hg : g < 24) (hM : zMet Xc yc frc f) (run : zRun X Xc yc fr frc pc n 0 0 (qrc 8)) (Cx : zCx X cA D p s m args meth c A)
    (IC : qC cA D A H own ax g w0) (hk : f (zR 1 :: as') hs0C (fun r h => zands [zeqI r a, zsubH h hs0C]) = true)
    (hS : va_S A s.heap H locs) (hls : ls.size = X.2.2.1) (has : ∀ ad, zRepL ad as' av') (hcat : (st.map fun v => v.category).sum ≤ 8) (hn : av'.length + 1 = n) (hcb : cells ≤ MC) (hsb : slots ≤ MS)
    (kk : ∀ (w0' : va_W) (ad : zA) (r : zV) (ov : Option Value) (H1 : Heap) (locs1 : List Loc), ((ov = none ∧ r = zU) ∨ ∃ x, ov = some x ∧ ∀ (_ : zGh), zRep ad r x) → zeqI r a = true → qC cA D A H1 own ax g w0' → qMis w0' = qMis w0 → zgw w0' 11 1 = zgw w0 11 1 → (∀ (d2 : Nat) (h2 : zH d2) (w2 : va_W), qB cA D A H own 1 h2 w2 → qB cA D A H1 own 1 h2 w2) → va_S A s.heap H1 locs1 → W p l e (zRm fr MC MS) s m args below meth c H1 locs1 cells slots Q (F0 m (pc + 3) ls (ov.toList ++ st))) :
    W p l e (zRm fr MC MS) s m args below meth c H locs cells slots Q (F0 m pc ls ((.ref ax :: av').reverse ++ st)) := by
  obtain ⟨B0, hax, cur, hT, hS0⟩ := IC
  obtain ⟨e1, e0⟩ := zands_c ev_tC
  obtain ⟨e2, e0⟩ := zands_c e0
  obtain ⟨e3, e0⟩ := zands_c e0
  obtain ⟨-, e0⟩ := zands_c e0
  obtain ⟨e4, -⟩ := zands_c e0
  obtain ⟨k1, k⟩ := zands_c ev_tk
  obtain ⟨k2, k⟩ := zands_c k
  obtain ⟨k3, k⟩ := zands_c k
  obtain ⟨k4, k⟩ := zands_c k
  obtain ⟨k5, k⟩ := zands_c k
  obtain ⟨k6, k⟩ := zands_c k
  obtain ⟨k7, -⟩ := zands_c k
  have l0 : w0.length = 38 := by
    obtain ⟨⟨C0, H0⟩, -⟩ := id B0
    exact H0.1.trans hcore_n
  refine q_sub (hh := hcore) (hs0 := hs0C) (hin := hs0C) (hout := hs0C) (hb := hbC) (φ := [0, 11, 12]) hM run Cx B0 hax rfl e1 e2 (fun Ch h0 => h0) rfl rfl rfl hk (fun r h hP => (zands_c (zands_c hP).2).1) rfl e4 e3 hS hls has hcat hn hcb hsb (fun w' ws' ad r h' ov H1 locs1 hov hP B' hd' ho hi hHo hfr hS1 => ?_)
  obtain ⟨Ch', hHo⟩ := hHo
  have z2 := zgw_ref hHo (show 0 < 3 by decide) (zc3 k1 k2) (j := 6) (by decide) (by decide) rfl
  have z3 := zgw_ref hHo (show 0 < 3 by decide) (zc3 k1 k2) (j := 7) (by decide) (by decide) rfl
  obtain ⟨-, -, i, -, -, -, y1, -, y2⟩ := zgw_num hHo (show 1 < 3 by decide) (zc3 k3 k4) (j := 1) (by decide) (by decide) rfl
  have z1 := y1.trans (y2 (by rw [Nat.eq_of_beq_eq_true k7]; decide))
  rw [Nat.eq_of_beq_eq_true k5, zrvl_oc] at z2
  rw [Nat.eq_of_beq_eq_true k6, zrvl_oc] at z3
  rw [Nat.eq_of_beq_eq_true k7, zcg_gw (by decide), zgw_sub (k := 1) rfl (by omega)] at z1
  have hsame : qSame w0 w' := ⟨fun k hk => zgw_of (ho 1 (q_no rfl)), fun j hj => zgw_of (ho 2 (q_no rfl)), ?_, ?_, zgw_of (ho 13 (q_no rfl)), zgw_of (ho 13 (q_no rfl))⟩
  · exact kk w' ad r ov H1 locs1 hov (zands_c hP).1 ⟨B', hd', qSame_cur hg hsame cur, qT_kept hsame (fun d2 z2 h2 w2 hz B2 => hfr d2 z2 h2 w2 (by omega) B2) hT, qS_kept hsame (fun d2 z2 h2 w2 hz B2 => hfr d2 z2 h2 w2 (by omega) B2) hS0⟩ (qSame_mis hsame) ((zgw_of (hi 1 11 rfl)).trans z1) (fun d2 h2 w2 B2 => hfr d2 1 h2 w2 (by decide) B2) hS1
  · rw [zgw_of (hi 0 0 rfl), z2]
    show zcg cA (zsubw [0, 11, 12] w0) (zoc 0 6) = _
    rw [zcg_gw (by decide), zgw_sub (k := 0) rfl (by omega)]
  · rw [zgw_of (hi 0 0 rfl), z3]
    show zcg cA (zsubw [0, 11, 12] w0) (zoc 0 7) = _
    rw [zcg_gw (by decide), zgw_sub (k := 0) rfl (by omega)]
theorem q_subR0 [G : zGh] {X Xc : zM} {yc : MethodName} {fr frc pc n : Nat} {f : List zV → zH 1 → zP 1 → Bool} {cA : Nat → ClassId} {D : va_G} {A : Nat → Prop} {MC MS : Nat} {p : Program} {l : Launch} {e : Env} {s : State} {m : MethodId} {args : Array Value} {below : List Frame} {meth : Method} {c : Code} {Q : State → Prop} {ls : Array Slot} {H : Heap} {locs : List Loc} {cells slots : Nat} {as' : List zV} {st av' : List Value} {w : va_W} {own : Nat → Nat} {am g : Nat} {a : zV}
    (hg : g < 24) (hM : zMet Xc yc frc f) (run : zRun X Xc yc fr frc pc n 0 0 (qrc 9)) (Cx : zCx X cA D p s m args meth c A)
    (IR : qR cA D A H own am g w) (hk : f (zR 1 :: as') hs0R (fun r h => zands [zeqI r a, zsubH h hs0R]) = true) (hob : zsubH hs0R hbR = true)
    (hS : va_S A s.heap H locs) (hls : ls.size = X.2.2.1) (has : ∀ ad, zRepL ad as' av') (hcat : (st.map fun v => v.category).sum ≤ 8) (hn : av'.length + 1 = n) (hcb : cells ≤ MC) (hsb : slots ≤ MS)
    (kk : ∀ (w' : va_W) (ad : zA) (r : zV) (ov : Option Value) (H1 : Heap) (locs1 : List Loc), ((ov = none ∧ r = zU) ∨ ∃ x, ov = some x ∧ ∀ (_ : zGh), zRep ad r x) → zeqI r a = true → qR cA D A H1 own am g w' → zgw w' 0 46 = zgw w 0 46 → (∀ (d2 z2 : Nat) (h2 : zH d2) (w2 : va_W), z2 ≠ 1 → qB cA D A H own z2 h2 w2 → qB cA D A H1 own z2 h2 w2) → va_S A s.heap H1 locs1 → W p l e (zRm fr MC MS) s m args below meth c H1 locs1 cells slots Q (F0 m (pc + 3) ls (ov.toList ++ st))) :
    W p l e (zRm fr MC MS) s m args below meth c H locs cells slots Q (F0 m pc ls ((.ref am :: av').reverse ++ st)) := by
  obtain ⟨B0, hax⟩ := IR
  obtain ⟨e1, e0⟩ := zands_c (zall_t ev_tR g hg)
  obtain ⟨e2, e0⟩ := zands_c e0
  obtain ⟨e3, -⟩ := zands_c e0
  have l0 : 0 < w.length := by
    obtain ⟨en, h⟩ := hax
    exact Nat.lt_of_le_of_lt (Nat.zero_le _) (List.getElem?_eq_some_iff.mp h).1
  obtain ⟨-, k⟩ := zands_c ev_tk
  obtain ⟨-, k⟩ := zands_c k
  obtain ⟨-, k⟩ := zands_c k
  obtain ⟨-, k⟩ := zands_c k
  obtain ⟨-, k⟩ := zands_c k
  obtain ⟨-, k⟩ := zands_c k
  obtain ⟨-, k⟩ := zands_c k
  obtain ⟨k3, k⟩ := zands_c k
  obtain ⟨k4, k⟩ := zands_c k
  obtain ⟨k5, -⟩ := zands_c k
  refine q_sub (hh := hRf g) (hs0 := hs0R) (hin := hs0R) (hout := hs0R) (hb := hbR) (φ := [0, 37]) hM run Cx B0 hax rfl e1 e2 (fun Ch h0 => h0) rfl rfl rfl hk (fun r h hP => (zands_c (zands_c hP).2).1) rfl hob e3 hS hls has hcat hn hcb hsb (fun w' ws' ad r h' ov H1 locs1 hov hP B' hd' ho hi hHo hfr hS1 => ?_)
  obtain ⟨Ch', hHo⟩ := hHo
  obtain ⟨-, -, i, -, -, -, y1, -, y2⟩ := zgw_num hHo (show 0 < 2 by decide) (zc3 k3 k4) (j := 46) (by decide) (by decide) rfl
  have z1 := y1.trans (y2 (by rw [Nat.eq_of_beq_eq_true k5]; decide))
  rw [Nat.eq_of_beq_eq_true k5, zcg_gw (by decide), zgw_sub (k := 0) rfl l0] at z1
  exact kk w' ad r ov H1 locs1 hov (zands_c hP).1 ⟨B', hd'⟩ ((zgw_of (hi 0 0 rfl)).trans z1) hfr hS1
section LAWW
variable {p : Program} {l : Launch} {e : Env} {R R' : Room} {s : State} {m : MethodId} {args : Array Value} {below : List Frame} {meth : Method} {c : Code} {H : Heap} {locs : List Loc} {cells slots : Nat} {Q : State → Prop}
theorem W_room {g : JFrame} (h1 : R.frames ≤ R'.frames) (h2 : R.cells ≤ R'.cells) (h3 : R.slots ≤ R'.slots) (h4 : R.locals ≤ R'.locals) (k : W p l e R s m args below meth c H locs cells slots Q g) : W p l e R' s m args below meth c H locs cells slots Q g := by
  intro T hT X
  refine k T hT ⟨X.admits, X.cas, X.clock, X.frames, ?_, X.hears, X.method, X.code, X.here, X.tail, X.warmed, X.limits, X.bytes, X.same⟩
  have hr := X.room
  simp only [State.hasRoom, Bool.and_eq_true, decide_eq_true_eq] at hr ⊢
  obtain ⟨⟨⟨⟨r1, r2, r3, r4, r5, r6⟩, r7⟩, r8⟩, r9⟩ := hr
  exact ⟨⟨⟨⟨by omega, by omega, by omega, by omega, by omega, r6⟩, by omega⟩, by omega⟩, r9⟩
/-- a number of the script -/
theorem lw_argk {pc b i0 j k0 k3 L : Nat} {kc : Int} {xs : Nat → Int32} {ls : Array Slot} {lv : List (Nat × Value)} {rest : List Value} (d1 : decode code pc = .ok (.aload_n 0, 1)) (d2 : decode code (pc + 1) = .ok (.iload_n 3, 1)) (d3 : decode code (pc + 2) = .ok (.iconst kc, 1)) (d4 : decode code (pc + 3) = .ok (.iadd, 1)) (d5 : decode code (pc + 4) = .ok (.iaload, 1)) (hj : Int32.ofInt kc = nI j) (hL : i0 + j < L) (hLm : L ≤ 3072) (hx : p.tables.exec = Jvm.exec) (hb : c.code = code) (hX : va_X b L xs s s.heap) (hbl : b < s.heap.size) (hS : va_S (fun q => s.heap.size ≤ q) s.heap H locs) (hl : lv_has ls 4 lv) (h0 : lv[k0]? = some (0, .ref b)) (h3 : lv[k3]? = some (3, .int (nI i0)))
    (kk : W p l e R s m args below meth c H locs cells slots Q (F0 m (pc + 5) ls (.int (xs (i0 + j)) :: rest))) : W p l e R s m args below meth c H locs cells slots Q (F0 m pc ls rest) := by
  refine lv_aload_n hx hb d1 rfl (lv_at hl k0 h0) ?_
  refine lv_iload_n hx hb d2 rfl (lv_at hl k3 h3) ?_
  refine lv_iconst hx hb d3 rfl ?_
  refine lv_iadd hx hb d4 ?_
  rw [hj, nI_add]
  refine va_sld hx hb hX hbl (Nat.not_le.mpr hbl) hS (vp_in_nI hL (by omega)) d5 ?_
  rw [nI_clamp (by omega)]
  exact kk
end LAWW
