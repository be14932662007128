/-! calls -/
theorem zgood {w : Cond} (h : w ∈ ztbl) : goodWord w = true := (List.mem_filter.mp h).2
theorem zgoodIn {X : zM} {y : MethodName} (hc : Cond.code y X.2.1 X.2.2.1 X.2.2.2.1 ∈ ztbl) : GoodIn ztbl (zws X y) := by
  intro w hw
  have hm : w ∈ ztbl := by
    rcases List.mem_cons.mp hw with rfl | h
    · exact hc
    · exact h
  exact ⟨hm, good_of_word (zgood hm)⟩
theorem zSt1_to {C n : String} {tb : List Nat} {A A' : Nat → Prop} {s U : State} {H : Heap} {locs : List Loc} (h : zSt1 C n tb A s s.heap) (hS : va_S A s.heap H locs) (hA : ∀ q, A' q → A q) (hU : U.heap = H) (hvm : s.vm.Alike U.vm) : zSt1 C n tb A' U U.heap := by
  obtain ⟨t, ⟨cf, kf, fi, f, a, cell, z1, z2, z3, z4, z5, z6, z7, z8⟩, g, ⟨cell2, t1, t2, t3, t4, t5, t6, t7⟩, hg⟩ := h
  have k1 : H[a]? = some cell := by rw [hS.2.1 a (Array.getElem?_eq_some_iff.mp z5).1 z8]; exact z5
  have k2 : H[t]? = some cell2 := by rw [hS.2.1 t (Array.getElem?_eq_some_iff.mp t1).1 t7]; exact t1
  refine ⟨t, va_Z.moved hvm ⟨cf, kf, fi, f, a, cell, z1, z2, z3, z4, by rw [hU]; exact k1, z6, z7, fun q => z8 (hA _ q)⟩, g, va_T.moved hvm ⟨cell2, by rw [hU]; exact k2, t2, t3, t4, t5, t6, fun q => t7 (hA _ q)⟩, hg⟩
theorem zStat_to {A A' : Nat → Prop} {s U : State} {H : Heap} {locs : List Loc} (h : zStat A s s.heap) (hS : va_S A s.heap H locs) (hA : ∀ q, A' q → A q) (hU : U.heap = H) (hvm : s.vm.Alike U.vm) : zStat A' U U.heap := ⟨zSt1_to h.1 hS hA hU hvm, zSt1_to h.2.1 hS hA hU hvm, zSt1_to h.2.2 hS hA hU hvm⟩
theorem zSt1_mv {C n : String} {tb : List Nat} {A : Nat → Prop} {s U : State} (h : zSt1 C n tb A s s.heap) (hU : U.heap = s.heap) (hvm : s.vm.Alike U.vm) : zSt1 C n tb A U U.heap := zSt1_to h va_S.rf (fun _ q => q) hU hvm
theorem zPc_blind {cA : Nat → ClassId} {D : va_G} {ws : va_W} {av : List Value} {sz : Nat} : FrameBlind (zPc cA D ws av sz) := by
  intro a U g mk q
  obtain ⟨q0, q1, qP, qK, qD, qS, qE⟩ := q
  exact ⟨q0, q1, qP, va_K.moved (u := U) (U := U.calling g mk a) (Vm.Alike.refl U.vm) qK, qD, ⟨zSt1_mv (U := U.calling g mk a) qS.1 rfl (Vm.Alike.refl U.vm), zSt1_mv (U := U.calling g mk a) qS.2.1 rfl (Vm.Alike.refl U.vm), zSt1_mv (U := U.calling g mk a) qS.2.2 rfl (Vm.Alike.refl U.vm)⟩, zEx_moved (U := U.calling g mk a) (State.WarmedH.refl U) qE⟩
theorem zfree {A : Nat → Prop} {ws : va_W} {s : State} {H : Heap} {locs : List Loc} (hD : va_D A ws) (hS : va_S A s.heap H locs) (hA : ∀ q, s.heap.size ≤ q → A q) : ∀ q, va_A ws H.size q → A q := by
  intro q h
  rcases h with ⟨k, e, hk⟩ | h
  · exact hD.2 k _ hk
  · exact hA q (Nat.le_trans hS.1 h)
section CALLS
variable {p : Program} {l : Launch} {e : Env} {R : Room} {s : State} {m : MethodId} {args : Array Value} {below : List Frame} {meth : Method} {c : Code} {H : Heap} {locs : List Loc} {cells slots : Nat} {Q : State → Prop}
variable {pc : Nat} {ls : Array Slot} {rest st0 : List Value} {a : Array Value} {A0 A1 : Nat → Prop} {mc ms : Nat} {free : Addr → Prop}
theorem zrun {d : Nat} {P : zP d} {cA : Nat → ClassId} {D : va_G} {ad : zA} (hr : va_Run p l e R s m args below meth c H locs cells slots mc ms (F0 m pc ls st0) rest (zQc P cA D ad A1 a) free) (hS : va_S A0 s.heap H locs) (hA : ∀ q, q < H.size → A1 q → A0 q) (hf : ∀ q, free q → A0 q)
    (kk : ∀ [zCh] (r : zV) (h : zH d) (ws : va_W) (ov : Option Value) (H1 : Heap) (locs1 : List Loc), ((ov = none ∧ r = zU) ∨ ∃ x, ov = some x ∧ ∀ (_ : zGh), zRep (zad cA ws) r x) → P r h = true → zHp cA h ws → zPre ad (zad cA ws) → va_P D zcl ws H1 → va_D A1 ws → va_S A0 s.heap H1 locs1 → W p l e R s m args below meth c H1 locs1 (cells + mc) (slots + ms) Q (F0 m (pc + 3) ls (ov.toList ++ rest))) : W p l e R s m args below meth c H locs cells slots Q (F0 m pc ls st0) := by
  intro T hT X
  obtain ⟨v, st₀, t, T', L, h0, X', hL, e1, e2, ⟨⟨Ch, r, h, ws, ov, hv, hp, hb, hh, hpr, hP, hD⟩, hz, hk⟩, st⟩ := hr T hT X
  cases hv
  rw [h0] at hz hk
  obtain ⟨t2, a1, b1⟩ := kk r h ws v T'.heap (locs ++ L) hp hb hh hpr (by rw [e1]; exact hP) hD
    ⟨Nat.le_trans hS.1 (by rw [e1]; exact hz), fun q h1 h2 => by rw [e1, hk q (Nat.lt_of_lt_of_le h1 hS.1) (fun z => h2 (hA q (Nat.lt_of_lt_of_le h1 hS.1) z))]; exact hS.2.1 q h1 h2, fun q hq => by
      rcases List.mem_append.mp hq with h | h
      · exact hS.2.2 q h
      · exact hf _ (hL q h)⟩ T' rfl X'
  exact ⟨t2, st t2 a1, b1⟩
end CALLS
section OPS
variable {d : Nat} {X Xc : zM} {yc : MethodName} {fr frc : Nat} {P : zP d} {pc pc' tgt : Nat} {k : zK d} {f : List zV → zH d → zP d → Bool}
/-- the callee runs with a room of its own -/
noncomputable def zgo (mc ms : Nat) (f : List zV → zH d → zP d → Bool) (as : List zV) (h : zH d) (kr : zV → zH d → Bool) : Bool := Prod.rec (motive := fun _ => Bool) (fun t u => Prod.rec (motive := fun _ => Bool) (fun n w => Prod.rec (motive := fun _ => Bool) (fun bc bs => cond (Nat.ble mc bc) (cond (Nat.ble ms bs) (zF (fun bc => zF (fun bs => f as (t, (n, (mc, ms))) (fun r h => Prod.rec (motive := fun _ => Bool) (fun t u => Prod.rec (motive := fun _ => Bool) (fun n _ => kr r (t, (n, (bc, bs)))) u) h)) (Nat.sub bs ms)) (Nat.sub bc mc)) false) false) w) u) h
theorem zgo_t {mc ms : Nat} {as : List zV} {h : zH d} {kr : zV → zH d → Bool} (hk : zgo mc ms f as h kr = true) : mc ≤ h.2.2.1 ∧ ms ≤ h.2.2.2 ∧ f as (h.1, (h.2.1, (mc, ms))) (fun r h' => kr r (h'.1, (h'.2.1, (h.2.2.1 - mc, h.2.2.2 - ms)))) = true := by
  obtain ⟨t, n, bc, bs⟩ := h
  have hk : cond (Nat.ble mc bc) (cond (Nat.ble ms bs) (zF (fun bc => zF (fun bs => f as (t, (n, (mc, ms))) (fun r h => Prod.rec (motive := fun _ => Bool) (fun t u => Prod.rec (motive := fun _ => Bool) (fun n _ => kr r (t, (n, (bc, bs)))) u) h)) (Nat.sub bs ms)) (Nat.sub bc mc)) false) false = true := hk
  cases h1 : Nat.ble mc bc
  · rw [h1] at hk; cases hk
  · cases h2 : Nat.ble ms bs
    · rw [h1, h2] at hk; cases hk
    · rw [h1, h2, cond_true, cond_true, zF_eq, zF_eq] at hk
      exact ⟨Nat.le_of_ble_eq_true h1, Nat.le_of_ble_eq_true h2, hk⟩
/-- the result on the stack, if there is one -/
noncomputable def zpsh (r : zV) (S : List zV) (k : List zV → Bool) : Bool := Sum.rec (motive := fun _ => Bool) (fun n => k (zI n :: S)) (fun u => Sum.rec (motive := fun _ => Bool) (fun n => k (zR n :: S)) (fun w => Sum.rec (motive := fun _ => Bool) (fun n => k (zL n :: S)) (fun n => Nat.rec (motive := fun _ => Bool) (k S) (fun m _ => k (zW (Nat.succ m) :: S)) n) w) u) r
theorem zpsh_t [G : zGh] {ad : zA} {r : zV} {S : List zV} {st : List Value} {ov : Option Value} {k : List zV → Bool} (h : zpsh r S k = true) (hov : (ov = none ∧ r = zU) ∨ ∃ x, ov = some x ∧ ∀ (_ : zGh), zRep ad r x) (hst : zRepL ad S st) : ∃ S', k S' = true ∧ zRepL ad S' (ov.toList ++ st) := by
  match r, h, hov with
  | .inl n, h, hov =>
    rcases hov with ⟨-, q⟩ | ⟨x, rfl, hx⟩
    · cases q
    · exact ⟨zI n :: S, h, hx G, hst⟩
  | .inr (.inl n), h, hov =>
    rcases hov with ⟨-, q⟩ | ⟨x, rfl, hx⟩
    · cases q
    · exact ⟨zR n :: S, h, hx G, hst⟩
  | .inr (.inr (.inl n)), h, hov =>
    rcases hov with ⟨-, q⟩ | ⟨x, rfl, hx⟩
    · cases q
    · exact ⟨zL n :: S, h, hx G, hst⟩
  | .inr (.inr (.inr 0)), h, hov =>
    rcases hov with ⟨rfl, -⟩ | ⟨x, rfl, hx⟩
    · exact ⟨S, h, hst⟩
    · exact absurd (hx G) zRep_U
  | .inr (.inr (.inr (n + 1))), h, hov =>
    rcases hov with ⟨-, q⟩ | ⟨x, rfl, hx⟩
    · cases q
    · exact ⟨zW (n + 1) :: S, h, hx G, hst⟩
noncomputable def xcS (n mc ms : Nat) (f : List zV → zH d → zP d → Bool) (k : zK d) : zK d := fun L S h => zarg n S [] (fun as S => zle4 S (zgo mc ms f as h (fun r h => zpsh r S (fun S => k L S h))))
noncomputable def xcV (ko n mc ms : Nat) (f : List zV → zH d → zP d → Bool) (k : zK d) : zK d := fun L S h => zarg n S [] (fun as S => zpR as (fun r _ => zat h r (fun _ _ _ kd _ _ => cond (Nat.beq kd ko) (zle4 S (zgo mc ms f as h (fun r h => zpsh r S (fun S => k L S h)))) false)))
/-- what a row of the kit does at a call: ci: the receiver's class, if there is one -/
def zRun (X Xc : zM) (yc : MethodName) (fr frc pc n mc ms : Nat) (recv : va_W → List Value → Prop) : Prop := ∀ [zGh] {cA : Nat → ClassId} {D : va_G} {p : Program} {l : Launch} {e : Env} {s : State} {m : MethodId} {args : Array Value} {below : List Frame} {meth : Method} {c : Code} {A : Nat → Prop} {H : Heap} {locs : List Loc} {cells slots : Nat} {ls : Array Slot} {rest As : List Value} {ws : va_W} {MC MS : Nat} {Pc : Array Value → State → Prop} {Qc : Array Value → State → Outcome → State → Prop} {free : Addr → Prop},
  zCx X cA D p s m args meth c A → va_P D zcl ws H → recv ws As → Met l yc (zws Xc yc) (zRm frc mc ms) Pc Qc mc ms free → FrameBlind Pc → (∀ U : State, U.heap = H → s.WarmedH U.vm → Pc As.toArray U) → As.length = n → ls.size = X.2.2.1 → (rest.map fun v => v.category).sum ≤ 8 → cells + mc ≤ MC → slots + ms ≤ MS →
  va_Run p l e (zRm fr MC MS) s m args below meth c H locs cells slots mc ms (F0 m pc ls (As.reverse ++ rest)) rest (Qc As.toArray) free
theorem sm_call0 [G : zGh] [Ch : zCh] {n mc ms : Nat} {recv : va_W → List Value → Prop} (hM : zMet Xc yc frc f) (run : zRun X Xc yc fr frc pc n mc ms recv) (hs : zSim X fr P (pc + 3) k)
    {cA : Nat → ClassId} {D : va_G} {ad0 : zA} {A : Nat → Prop} {MC MS : Nat} {p : Program} {l : Launch} {e : Env} {s : State} {m : MethodId} {args : Array Value} {below : List Frame} {meth : Method} {c : Code} {ls : Array Slot} {H : Heap} {locs : List Loc} {cells slots : Nat} {L S as : List zV} {st av : List Value} {h : zH d} {ws : va_W}
    (Cx : zCx X cA D p s m args meth c A) (hk : zle4 S (zgo mc ms f as h (fun r h => zpsh r S (fun S => k L S h))) = true) (hHp : zHp cA h ws) (hpre : zPre ad0 (zad cA ws)) (hP : va_P D zcl ws H) (hD : va_D A ws) (hS : va_S A s.heap H locs) (hL : zLoc (zad cA ws) X.2.2.1 L ls) (has : zRepL (zad cA ws) as av) (hst : zRepL (zad cA ws) S st) (hn : av.length = n) (hrc : recv ws av) (hcb : cells + h.2.2.1 ≤ MC) (hsb : slots + h.2.2.2 ≤ MS) :
    W p l e (zRm fr MC MS) s m args below meth c H locs cells slots (MQ below (zQc P cA D ad0 A) args s MC MS A) (F0 m pc ls (av.reverse ++ st)) := by
  obtain ⟨h4, hk⟩ := zle4_t hk
  obtain ⟨g1, g2, hk⟩ := zgo_t hk
  have hF := zfree hD hS Cx.2.2.2.2.2.2.1
  have hMet := hM l cA D ws av as (h.1, (h.2.1, (mc, ms))) _ H.size hk has hHp Cx.2.2.2.2.2.2.2.2.1.2
  refine zrun (run (l := l) (e := e) (below := below) (MC := MC) (MS := MS) (locs := locs) (cells := cells) (slots := slots) (ls := ls) (rest := st) Cx hP hrc hMet zPc_blind (fun U hU hW => ⟨rfl, by rw [hU], by rw [hU]; exact hP, va_K.moved hW.alike Cx.2.2.2.2.2.1, hD.weaken (fun _ _ _ _ => trivial), zStat_to Cx.2.2.2.2.2.2.2.2.2.2.1 hS hF hU hW.alike, zEx_moved hW Cx.2.2.2.2.2.2.2.2.2.2.2⟩) hn hL.2.choose_spec.1.1 (Nat.le_trans (zcat hst) (by omega)) (by omega) (by omega)) hS (fun q _ h => hF q h) hF (fun r h' ws' ov H1 locs1 hov hPk hHp' hpre' hP' hD' hS' => ?_)
  obtain ⟨S', hk', hst'⟩ := zpsh_t hPk hov (zRepL_mono hpre' hst)
  exact hs _ cA D ad0 A MC MS p l e s m args below meth c ls _ H1 locs1 _ _ L S' (h'.1, (h'.2.1, (h.2.2.1 - mc, h.2.2.2 - ms))) Cx hk' ⟨ws', hHp', zPre_trans hpre hpre', hP', hD'.weaken (fun _ q _ hq => hF _ hq), hS', zLoc_mono hpre' hL, hst', by show cells + mc + (h.2.2.1 - mc) ≤ MC; omega, by show slots + ms + (h.2.2.2 - ms) ≤ MS; omega⟩
theorem sm_cS [G : zGh] {n mc ms : Nat} (hM : zMet Xc yc frc f) (run : zRun X Xc yc fr frc pc n mc ms (fun _ _ => True)) (hs : zSim X fr P (pc + 3) k) : zSim X fr P pc (xcS n mc ms f k) := by
  intro Ch cA D ad0 A MC MS p l e s m args below meth c ls st H locs cells slots L S h Cx hk R0
  obtain ⟨ws, hHp, hpre, hP, hD, hS, hL, hst, hcb, hsb⟩ := R0
  obtain ⟨as, S', av, rest, hk, has, hst', hn, he⟩ := zarg_t n S [] st [] hst trivial hk
  have he : av.reverse ++ rest = st := by simpa using he
  subst he
  exact sm_call0 hM run hs Cx hk hHp hpre hP hD hS hL has hst' hn trivial hcb hsb
theorem sm_cV [G : zGh] {n mc ms ko ci : Nat} (hko : 16 + ci = ko) (hM : zMet Xc yc frc f) (run : zRun X Xc yc fr frc pc n mc ms (fun ws As => ∃ (b : Nat) (As' : List Value) (q0 : Nat) (fs : List Value), As = .ref b :: As' ∧ ws[q0]? = some (b, .inr (ci, fs)))) (hs : zSim X fr P (pc + 3) k) : zSim X fr P pc (xcV ko n mc ms f k) := by
  subst hko
  intro Ch cA D ad0 A MC MS p l e s m args below meth c ls st H locs cells slots L S h Cx hk R0
  obtain ⟨ws, hHp, hpre, hP, hD, hS, hL, hst, hcb, hsb⟩ := R0
  obtain ⟨as, S', av, rest, hk, has, hst', hn, he⟩ := zarg_t n S [] st [] hst trivial hk
  have he : av.reverse ++ rest = st := by simpa using he
  subst he
  obtain ⟨r, as', rfl, hk1⟩ := zpR_t hk
  obtain ⟨o, av', rfl, ho, has'⟩ := zRepL_R has
  obtain ⟨i, kd, len, x, rfl, hg, hk2⟩ := zat_t hk1
  obtain ⟨b, en, rfl, hwi, hcell⟩ := zat_w hHp ho
  rw [hg] at hcell
  have hk2 : cond (Nat.beq kd (16 + ci)) (zle4 S' (zgo mc ms f (zR (i + 1) :: as') h (fun r h => zpsh r S' (fun S => k L S h)))) false = true := hk2
  cases hb : Nat.beq kd (16 + ci)
  · rw [hb] at hk2; cases hk2
  · rw [hb, cond_true] at hk2
    obtain ⟨fs, rfl, -, -⟩ := zCell_obj hcell (Nat.eq_of_beq_eq_true hb)
    exact sm_call0 hM run hs Cx hk2 hHp hpre hP hD hS hL has hst' hn ⟨b, av', i, fs, rfl, hwi⟩ hcb hsb
theorem zroom {fr frc nL MC MS mc ms : Nat} (h : frc + 1 ≤ fr) (hn : nL ≤ 45) : (zRm frc mc ms).frames + 1 ≤ (zRm fr MC MS).frames ∧ 8 + (nL + 11) + (zRm frc mc ms).locals ≤ (zRm fr MC MS).locals := ⟨h, by show 8 + (nL + 11) + 64 * frc ≤ 64 * fr; omega⟩
/-- a static method -/
theorem zrunS {n mc ms index : Nat} (hc : Cond.code yc Xc.2.1 Xc.2.2.1 Xc.2.2.2.1 ∈ ztbl) (hini : Cond.initialized yc.cls ∈ ztbl) (hl : Cond.methodLink X.1 index yc ∈ ztbl) (hst : Cond.static yc ∈ ztbl) (hd : yc.cls ≠ "java/lang/invoke/MethodHandle" ∧ yc.cls ≠ "java/lang/invoke/VarHandle" ∧ (parseMethodDescriptor yc.desc).map (fun d => d.parameters.length) = some n) (hfr : frc + 1 ≤ fr) (hnl : Xc.2.2.1 ≤ 45) (dg : decode X.2.1 pc = .ok (.invokestatic index, 3)) : zRun X Xc yc fr frc pc n mc ms (fun _ _ => True) := by
  intro G0 cA D p l e s m args below meth c A H locs cells slots ls rest As ws MC MS Pc Qc free Cx hP _ hM hbl hPc hn hls hcat h1 h2
  exact va_runS (Ts := ztbl) (own := X.1) (nL := X.2.2.1) ⟨Cx.1, Cx.2.1, Cx.2.2.1, Cx.2.2.2.1, Cx.2.2.2.2.1⟩ hM ⟨callB_of n Cx.2.2.2.2.1 (zgoodIn hc) rfl rfl rfl (Cx.2.2.2.2.1 _ hini) (Cx.2.2.2.2.1 _ hl) hd (zroom hfr hnl), Cx.2.2.2.2.1 _ hst⟩ ⟨hbl, hPc⟩ rfl hn hls rfl (lv_room hcat) dg ⟨h1, h2⟩
/-- a constructor -/
theorem zrunI {n mc ms index ci : Nat} (hc : Cond.code yc Xc.2.1 Xc.2.2.1 none ∈ ztbl) (hret : Xc.2.2.2.1 = none) (hini : Cond.initialized yc.cls ∈ ztbl) (hl : Cond.methodLink X.1 index yc ∈ ztbl) (hin : Cond.instanceMethod yc ∈ ztbl) (hnm : yc.name = "<init>") (hd : yc.cls ≠ "java/lang/invoke/MethodHandle" ∧ yc.cls ≠ "java/lang/invoke/VarHandle" ∧ (parseMethodDescriptor yc.desc).map (fun d => d.parameters.length) = some n) (hfr : frc + 1 ≤ fr) (hnl : Xc.2.2.1 ≤ 45) (dg : decode X.2.1 pc = .ok (.invokespecial index, 3)) : zRun X Xc yc fr frc pc (n + 1) mc ms (fun ws As => ∃ (b : Nat) (As' : List Value) (q0 : Nat) (fs : List Value), As = .ref b :: As' ∧ ws[q0]? = some (b, .inr (ci, fs))) := by
  intro G0 cA D p l e s m args below meth c A H locs cells slots ls rest As ws MC MS Pc Qc free Cx hP hr hM hbl hPc hn hls hcat h1 h2
  obtain ⟨b, As', q0, fs, rfl, hq⟩ := hr
  have hM2 : Met l yc (Cond.code yc Xc.2.1 Xc.2.2.1 none :: ztbl) (zRm frc mc ms) Pc Qc mc ms free := by
    have := hM
    unfold zws at this
    rw [hret] at this
    exact this
  have hg : GoodIn ztbl (Cond.code yc Xc.2.1 Xc.2.2.1 none :: ztbl) := by
    have := zgoodIn (X := Xc) (y := yc) (by rw [hret]; exact hc)
    unfold zws at this
    rw [hret] at this
    exact this
  have hst : (Value.ref b :: As').reverse ++ rest = As'.reverse ++ .ref b :: rest := by simp
  rw [hst]
  exact va_runI (Ts := ztbl) (own := X.1) (nL := X.2.2.1) ⟨Cx.1, Cx.2.1, Cx.2.2.1, Cx.2.2.2.1, Cx.2.2.2.2.1⟩ hM2 ⟨callB_of n Cx.2.2.2.2.1 hg rfl rfl rfl (Cx.2.2.2.2.1 _ hini) (Cx.2.2.2.2.1 _ hl) hd (zroom hfr hnl), hnm, Cx.2.2.2.2.1 _ hin⟩ ⟨hbl, hPc⟩ rfl (by simpa using hn) hls rfl (lv_room hcat) dg ⟨h1, h2⟩
/-- a method of an object -/
theorem zrunV {n mc ms index ci : Nat} {q : vw_C} (hq : zcl[ci]? = some q) (hqc : q.1 = yc.cls) (hc : Cond.code yc Xc.2.1 Xc.2.2.1 Xc.2.2.2.1 ∈ ztbl) (hini : Cond.initialized yc.cls ∈ ztbl) (hl : Cond.methodLink X.1 index yc ∈ ztbl) (hin : Cond.instanceMethod yc ∈ ztbl) (hse : Cond.selects yc.cls yc yc ∈ ztbl) (hd : yc.cls ≠ "java/lang/invoke/MethodHandle" ∧ yc.cls ≠ "java/lang/invoke/VarHandle" ∧ (parseMethodDescriptor yc.desc).map (fun d => d.parameters.length) = some n) (hfr : frc + 1 ≤ fr) (hnl : Xc.2.2.1 ≤ 45) (dg : decode X.2.1 pc = .ok (.invokevirtual index, 3)) : zRun X Xc yc fr frc pc (n + 1) mc ms (fun ws As => ∃ (b : Nat) (As' : List Value) (q0 : Nat) (fs : List Value), As = .ref b :: As' ∧ ws[q0]? = some (b, .inr (ci, fs))) := by
  intro G0 cA D p l e s m args below meth c A H locs cells slots ls rest As ws MC MS Pc Qc free Cx hP hr hM hbl hPc hn hls hcat h1 h2
  obtain ⟨b, As', q0, fs, rfl, hw⟩ := hr
  have hst : (Value.ref b :: As').reverse ++ rest = As'.reverse ++ .ref b :: rest := by simp
  rw [hst]
  exact va_runV (Ts := ztbl) (own := X.1) (nL := X.2.2.1) (C := yc.cls) ⟨Cx.1, Cx.2.1, Cx.2.2.1, Cx.2.2.2.1, Cx.2.2.2.2.1⟩ hM ⟨callB_of n Cx.2.2.2.2.1 (zgoodIn hc) rfl rfl rfl (Cx.2.2.2.2.1 _ hini) (Cx.2.2.2.2.1 _ hl) hd (zroom hfr hnl), Cx.2.2.2.2.1 _ hin, Cx.2.2.2.2.1 _ hse⟩ ⟨hbl, by rw [← hqc]; exact va_recv Cx.2.2.2.2.2.1 hP hq hw, hPc⟩ rfl (by simpa using hn) hls rfl (lv_room hcat) dg ⟨h1, h2⟩
/-- a nest mate's static method -/
theorem zrunSN {n mc ms index : Nat} {host : String} (hc : Cond.code yc Xc.2.1 Xc.2.2.1 Xc.2.2.2.1 ∈ ztbl) (hini : Cond.initialized yc.cls ∈ ztbl) (hl : (X.1, index, yc, host) ∈ zNest) (hst : Cond.static yc ∈ ztbl) (hd : yc.cls ≠ "java/lang/invoke/MethodHandle" ∧ yc.cls ≠ "java/lang/invoke/VarHandle" ∧ (parseMethodDescriptor yc.desc).map (fun d => d.parameters.length) = some n) (hfr : frc + 1 ≤ fr) (hnl : Xc.2.2.1 ≤ 45) (dg : decode X.2.1 pc = .ok (.invokestatic index, 3)) : zRun X Xc yc fr frc pc n mc ms (fun _ _ => True) := by
  intro G0 cA D p l e s m args below meth c A H locs cells slots ls rest As ws MC MS Pc Qc free Cx hP _ hM hbl hPc hn hls hcat h1 h2
  exact va_runSN (Ts := ztbl) (own := X.1) (nL := X.2.2.1) ⟨Cx.1, Cx.2.1, Cx.2.2.1, Cx.2.2.2.1, Cx.2.2.2.2.1⟩ hM ⟨va_cnB n Cx.2.2.2.2.1 (zgoodIn hc) rfl rfl rfl (Cx.2.2.2.2.2.2.2.2.2.2.2.2.2.2.2.2.1 _ hl) (Cx.2.2.2.2.1 _ hini) hd (zroom hfr hnl), Cx.2.2.2.2.1 _ hst, trivial⟩ ⟨hbl, hPc⟩ rfl hn hls rfl (lv_room hcat) dg ⟨h1, h2⟩
/-- a nest mate's constructor -/
theorem zrunIN {n mc ms index ci : Nat} {host : String} (hc : Cond.code yc Xc.2.1 Xc.2.2.1 none ∈ ztbl) (hret : Xc.2.2.2.1 = none) (hini : Cond.initialized yc.cls ∈ ztbl) (hl : (X.1, index, yc, host) ∈ zNest) (hin : Cond.instanceMethod yc ∈ ztbl) (hnm : yc.name = "<init>") (hd : yc.cls ≠ "java/lang/invoke/MethodHandle" ∧ yc.cls ≠ "java/lang/invoke/VarHandle" ∧ (parseMethodDescriptor yc.desc).map (fun d => d.parameters.length) = some n) (hfr : frc + 1 ≤ fr) (hnl : Xc.2.2.1 ≤ 45) (dg : decode X.2.1 pc = .ok (.invokespecial index, 3)) : zRun X Xc yc fr frc pc (n + 1) mc ms (fun ws As => ∃ (b : Nat) (As' : List Value) (q0 : Nat) (fs : List Value), As = .ref b :: As' ∧ ws[q0]? = some (b, .inr (ci, fs))) := by
  intro G0 cA D p l e s m args below meth c A H locs cells slots ls rest As ws MC MS Pc Qc free Cx hP hr hM hbl hPc hn hls hcat h1 h2
  obtain ⟨b, As', q0, fs, rfl, hq⟩ := hr
  have hM2 : Met l yc (Cond.code yc Xc.2.1 Xc.2.2.1 none :: ztbl) (zRm frc mc ms) Pc Qc mc ms free := by
    have := hM
    unfold zws at this
    rw [hret] at this
    exact this
  have hg : GoodIn ztbl (Cond.code yc Xc.2.1 Xc.2.2.1 none :: ztbl) := by
    have := zgoodIn (X := Xc) (y := yc) (by rw [hret]; exact hc)
    unfold zws at this
    rw [hret] at this
    exact this
  have hst : (Value.ref b :: As').reverse ++ rest = As'.reverse ++ .ref b :: rest := by simp
  rw [hst]
  exact va_runIN (Ts := ztbl) (own := X.1) (nL := X.2.2.1) ⟨Cx.1, Cx.2.1, Cx.2.2.1, Cx.2.2.2.1, Cx.2.2.2.2.1⟩ hM2 ⟨va_cnB n Cx.2.2.2.2.1 hg rfl rfl rfl (Cx.2.2.2.2.2.2.2.2.2.2.2.2.2.2.2.2.1 _ hl) (Cx.2.2.2.2.1 _ hini) hd (zroom hfr hnl), hnm, Cx.2.2.2.2.1 _ hin⟩ ⟨hbl, hPc⟩ rfl (by simpa using hn) hls rfl (lv_room hcat) dg ⟨h1, h2⟩
end OPS
