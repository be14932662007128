section
/-! calls that make nothing, on both sides -/
theorem qC_kept {cA : Nat → ClassId} {D : va_G} {A : Nat → Prop} {H H1 : Heap} {own : Nat → Nat} {ax g : Nat} {w0 : va_W} (hfr : ∀ (d2 z2 : Nat) (h2 : zH d2) (w2 : va_W), z2 ≠ 1 → qB cA D A H own z2 h2 w2 → qB cA D A H1 own z2 h2 w2) (h : qC cA D A H own ax g w0) : qC cA D A H1 own ax g w0 := by
  obtain ⟨B0, hax, cur, hT, hS0⟩ := h
  exact ⟨hfr _ _ _ _ (by decide) B0, hax, cur, qT_kept ⟨fun _ _ => rfl, fun _ _ => rfl, rfl, rfl, rfl, rfl⟩ (fun d2 z2 h2 w2 hz B2 => hfr d2 z2 h2 w2 (by omega) B2) hT, qS_kept ⟨fun _ _ => rfl, fun _ _ => rfl, rfl, rfl, rfl, rfl⟩ (fun d2 z2 h2 w2 hz B2 => hfr d2 z2 h2 w2 (by omega) B2) hS0⟩
theorem ev_k11 (g : Nat) (hg : g < 24) : zget 10 (hCf g).1 11 = (22, 2, (zget 10 (hCf g).1 11).2.2) ∧ zwd 40 (zget 10 (hCf g).1 11).2.2 1 = zoc 11 1 ∧ 38 ≤ (hCf g).2.1 ∧ (hCf g).2.1 ≤ 1024 ∧ Nat.beq (zget 10 (hCf g).1 0).1 (16 + 8) = true := by
  have hk := ev_K g hg
  obtain ⟨k1, hk⟩ := zands_c hk
  obtain ⟨-, hk⟩ := zands_c hk
  obtain ⟨-, hk⟩ := zands_c hk
  obtain ⟨-, hk⟩ := zands_c hk
  obtain ⟨-, hk⟩ := zands_c hk
  obtain ⟨-, hk⟩ := zands_c hk
  obtain ⟨-, hk⟩ := zands_c hk
  obtain ⟨-, hk⟩ := zands_c hk
  obtain ⟨k10, hk⟩ := zands_c hk
  obtain ⟨k11, hk⟩ := zands_c hk
  obtain ⟨k12, hk⟩ := zands_c hk
  obtain ⟨k9, -⟩ := zands_c hk
  obtain ⟨s1, hs⟩ := zands_c (ev_S g hg)
  obtain ⟨s2, -⟩ := zands_c hs
  obtain ⟨-, hk2⟩ := zcnd_t (ev_J g hg)
  obtain ⟨j2, -⟩ := zcnd_t hk2
  exact ⟨zc3 k10 k11, Nat.eq_of_beq_eq_true k12, Nat.le_of_ble_eq_true k9, Nat.le_of_ble_eq_true j2, k1⟩
/-- the class's world, its tape's length told otherwise -/
noncomputable def hCt (g t : Nat) : zH 10 := (zset 10 (hCf g).1 11 (22, 2, zup 40 (zget 10 (hCf g).1 11).2.2 1 t), (hCf g).2)
noncomputable def hRt (g t : Nat) : zH 6 := (zset 6 (hRf g).1 0 (25, 63, zup 40 (zget 6 (hRf g).1 0).2.2 46 t), (hRf g).2)
set_option maxRecDepth 100000 in
theorem ev_St0 : zall 8 (fun g => qspl g (hCt g 0)) = true := by decide +kernel
set_option maxRecDepth 100000 in
theorem ev_St1 : zall 8 (fun g => zF (fun g => qspl g (hCt g 0)) (Nat.add 8 g)) = true := by decide +kernel
set_option maxRecDepth 100000 in
theorem ev_St2 : zall 8 (fun g => zF (fun g => qspl g (hCt g 0)) (Nat.add 16 g)) = true := by decide +kernel
theorem ev_St (g : Nat) (hg : g < 24) : qspl g (hCt g 0) = true := by
  by_cases c : g < 8
  · exact zall_t ev_St0 g c
  · by_cases c2 : g < 16
    · have := zall_t ev_St1 (g - 8) (by omega)
      rw [zF_eq] at this
      rw [show Nat.add 8 (g - 8) = g by show 8 + (g - 8) = g; omega] at this
      exact this
    · have := zall_t ev_St2 (g - 16) (by omega)
      rw [zF_eq] at this
      rw [show Nat.add 16 (g - 16) = g by show 16 + (g - 16) = g; omega] at this
      exact this
theorem ev_sR (g : Nat) (hg : g < 24) : zsubB (zrng 0 45) (hRf g) (hRf g) = true ∧ (hRf g).2.1 = 45 ∧ zget 6 (hRf g).1 0 = (25, 63, (zget 6 (hRf g).1 0).2.2) ∧ zwd 40 (zget 6 (hRf g).1 0).2.2 46 = zoc 0 46 ∧ zsubH (hRf g) hRw = true ∧ Nat.beq (zget 6 (hRf g).1 0).1 (16 + 9) = true ∧ (hRf g).2.2.1 = 0 ∧ (hRf g).2.2.2 = 0 ∧ (hCf g).2.2.1 = 0 ∧ (hCf g).2.2.2 = 0 := by
  obtain ⟨k1, hk⟩ := zands_c (zall_t ev_sR0 g hg)
  obtain ⟨k2, hk⟩ := zands_c hk
  obtain ⟨k3, hk⟩ := zands_c hk
  obtain ⟨k4, hk⟩ := zands_c hk
  obtain ⟨k5, hk⟩ := zands_c hk
  obtain ⟨k6, -⟩ := zands_c hk
  obtain ⟨r1, hr⟩ := zands_c (zall_t ev_r0 g hg)
  obtain ⟨r2, hr⟩ := zands_c hr
  obtain ⟨r3, hr⟩ := zands_c hr
  obtain ⟨r4, -⟩ := zands_c hr
  exact ⟨k1, Nat.eq_of_beq_eq_true k2, zc3 k3 k4, Nat.eq_of_beq_eq_true k5, k6, k3, Nat.eq_of_beq_eq_true r3, Nat.eq_of_beq_eq_true r4, Nat.eq_of_beq_eq_true r1, Nat.eq_of_beq_eq_true r2⟩
theorem hRt_0 (g : Nat) (hg : g < 24) : zsubB (zrng 0 45) (hRt g 0) (hRf g) = true := by
  obtain ⟨k1, k2, k3, k4, -⟩ := ev_sR g hg
  exact zsubB_up k1 (by decide) (by rw [k2]; decide) k3 (by decide) (zrng_at 45 0 0 (by decide)) k3 (by decide) k4 (by decide)
theorem q_ordC1 [G : zGh] {X Xc : zM} {yc : MethodName} {fr frc pc n : Nat} {f : List zV → zH 10 → zP 10 → Bool} {cA : Nat → ClassId} {D : va_G} {A : Nat → Prop} {MC MS : Nat} {p : Program} {l : Launch} {e : Env} {s : State} {m : MethodId} {args : Array Value} {below : List Frame} {meth : Method} {c : Code} {Q : State → Prop} {ls : Array Slot} {H : Heap} {locs : List Loc} {cells slots : Nat} {as' : List zV} {st av' : List Value} {w0 : va_W} {P : zP 10} {own : Nat → Nat} {ax g : Nat}
    (hg : g < 24) (hM : zMet Xc yc frc f) (run : zRun X Xc yc fr frc pc n 0 0 (qrc 8)) (Cx : zCx X cA D p s m args meth c A) (IC : qC cA D A H own ax g w0)
    (hk : f (zR 1 :: as') (hCf g) P = true) (hPo : ∀ r h, P r h = true → zsubH h (hCf g) = true)
    (hS : va_S A s.heap H locs) (hls : ls.size = X.2.2.1) (has : ∀ ad, zRepL ad as' av') (hcat : (st.map fun v => v.category).sum ≤ 8) (hn : av'.length + 1 = n) (hcb : cells ≤ MC) (hsb : slots ≤ MS)
    (kk : ∀ (w0' : va_W) (ad : zA) (r : zV) (h' : zH 10) (ov : Option Value) (H1 : Heap) (locs1 : List Loc), ((ov = none ∧ r = zU) ∨ ∃ x, ov = some x ∧ ∀ (_ : zGh), zRep ad r x) → P r h' = true → qC cA D A H1 own ax g w0' → qMis w0' = qMis w0 → zgw w0' 11 1 = zgw w0 11 1 → (∀ (d2 : Nat) (h2 : zH d2) (w2 : va_W), qB cA D A H own 1 h2 w2 → qB cA D A H1 own 1 h2 w2) → va_S A s.heap H1 locs1 → W p l e (zRm fr MC MS) s m args below meth c H1 locs1 cells slots Q (F0 m (pc + 3) ls (ov.toList ++ st))) :
    W p l e (zRm fr MC MS) s m args below meth c H locs cells slots Q (F0 m pc ls ((.ref ax :: av').reverse ++ st)) := by
  obtain ⟨c1, c2, c3, c4, c5⟩ := ev_k11 g hg
  obtain ⟨-, -, -, -, -, -, -, -, r1, r2⟩ := ev_sR g hg
  refine q_ordC (hin := hCf g) (hout := hCf g) hg hM run Cx IC (fun Ch cJ ws h _ => h) r1 r2 c5 hk hPo (ev_S g hg) (fun t _ => rfl) hS hls has hcat hn hcb hsb (fun w0' ws' cJ ad r h' ov H1 locs1 hov hP hq hm hHo hcJ hz hfr hs => ?_)
  obtain ⟨Ch, hHo⟩ := hHo
  obtain ⟨-, -, i, -, -, -, e1, -, e2⟩ := zgw_num hHo (by omega) c1 (j := 1) (by decide) (by decide) rfl
  exact kk w0' ad r h' ov H1 locs1 hov hP hq hm (hz.trans (e1.trans ((e2 (by rw [c2]; decide)).trans (by rw [c2]; exact hcJ)))) hfr hs
theorem q_txtC [G : zGh] {X Xc : zM} {yc : MethodName} {fr frc pc n : Nat} {f : List zV → zH 10 → zP 10 → Bool} {cA : Nat → ClassId} {D : va_G} {A : Nat → Prop} {MC MS : Nat} {p : Program} {l : Launch} {e : Env} {s : State} {m : MethodId} {args : Array Value} {below : List Frame} {meth : Method} {c : Code} {Q : State → Prop} {ls : Array Slot} {H : Heap} {locs : List Loc} {cells slots : Nat} {as' : List zV} {st av' : List Value} {w0 : va_W} {P : zP 10} {own : Nat → Nat} {ax g : Nat}
    (hg : g < 24) (hM : zMet Xc yc frc f) (run : zRun X Xc yc fr frc pc n 0 0 (qrc 8)) (Cx : zCx X cA D p s m args meth c A) (IC : qC cA D A H own ax g w0) (ht : zgw w0 11 1 ≤ 200)
    (hk : f (zR 1 :: as') (hCt g 4294967497) P = true) (hPo : ∀ r h, P r h = true → zsubH h (hCt g 0) = true)
    (hS : va_S A s.heap H locs) (hls : ls.size = X.2.2.1) (has : ∀ ad, zRepL ad as' av') (hcat : (st.map fun v => v.category).sum ≤ 8) (hn : av'.length + 1 = n) (hcb : cells ≤ MC) (hsb : slots ≤ MS)
    (kk : ∀ (w0' : va_W) (ad : zA) (r : zV) (h' : zH 10) (ov : Option Value) (H1 : Heap) (locs1 : List Loc), ((ov = none ∧ r = zU) ∨ ∃ x, ov = some x ∧ ∀ (_ : zGh), zRep ad r x) → P r h' = true → qC cA D A H1 own ax g w0' → qMis w0' = qMis w0 → zgw w0' 11 1 = 0 → (∀ (d2 : Nat) (h2 : zH d2) (w2 : va_W), qB cA D A H own 1 h2 w2 → qB cA D A H1 own 1 h2 w2) → va_S A s.heap H1 locs1 → W p l e (zRm fr MC MS) s m args below meth c H1 locs1 cells slots Q (F0 m (pc + 3) ls (ov.toList ++ st))) :
    W p l e (zRm fr MC MS) s m args below meth c H locs cells slots Q (F0 m pc ls ((.ref ax :: av').reverse ++ st)) := by
  obtain ⟨c1, c2, c3, c4, c5⟩ := ev_k11 g hg
  obtain ⟨-, -, -, -, -, -, -, -, r1, r2⟩ := ev_sR g hg
  have hne : ∀ v t : Nat, t < 1024 → t ≠ 11 → zget 10 (hCt g v).1 t = zget 10 (hCf g).1 t := fun v t h1 h2 => zget_set_ne 10 _ 11 t _ (by decide) h1 (fun q => h2 q.symm)
  refine q_ordC (hin := hCt g 4294967497) (hout := hCt g 0) hg hM run Cx IC (fun Ch cJ ws h hz => zHp_open h (by omega) c1 (by decide) (by decide) rfl (by decide) (fun i hi => ⟨fun z => absurd z (by decide), fun _ _ => by rw [hi, hz]; omega⟩)) r1 r2 (by rw [hne _ 0 (by decide) (by decide)]; exact c5) hk hPo (ev_St g hg) (fun t h => hne 0 t (by omega) (by omega)) hS hls has hcat hn hcb hsb (fun w0' ws' cJ ad r h' ov H1 locs1 hov hP hq hm hHo hcJ hz hfr hs => ?_)
  obtain ⟨Ch, hHo⟩ := hHo
  have g1 : zget 10 (hCt g 0).1 11 = (22, 2, zup 40 (zget 10 (hCf g).1 11).2.2 1 0) := zget_set_same 10 _ _ _ (by decide)
  obtain ⟨-, -, i, -, -, -, e1, e2, -⟩ := zgw_num hHo (show 11 < (hCf g).2.1 by omega) g1 (j := 1) (by decide) (by decide) rfl
  rw [zwd_up_same _ _ _ _ (by decide)] at e2
  exact kk w0' ad r h' ov H1 locs1 hov hP hq hm (hz.trans (e1.trans (e2.1 (by decide)))) hfr hs
theorem q_ordR1 [G : zGh] {X Xc : zM} {yc : MethodName} {fr frc pc n : Nat} {f : List zV → zH 6 → zP 6 → Bool} {cA : Nat → ClassId} {D : va_G} {A : Nat → Prop} {MC MS : Nat} {p : Program} {l : Launch} {e : Env} {s : State} {m : MethodId} {args : Array Value} {below : List Frame} {meth : Method} {c : Code} {Q : State → Prop} {ls : Array Slot} {H : Heap} {locs : List Loc} {cells slots : Nat} {as' : List zV} {st av' : List Value} {w : va_W} {P : zP 6} {own : Nat → Nat} {am g : Nat}
    (hg : g < 24) (hM : zMet Xc yc frc f) (run : zRun X Xc yc fr frc pc n 0 0 (qrc 9)) (Cx : zCx X cA D p s m args meth c A) (IR : qR cA D A H own am g w)
    (hk : f (zR 1 :: as') (hRf g) P = true) (hPo : ∀ r h, P r h = true → zsubH h (hRf g) = true)
    (hS : va_S A s.heap H locs) (hls : ls.size = X.2.2.1) (has : ∀ ad, zRepL ad as' av') (hcat : (st.map fun v => v.category).sum ≤ 8) (hn : av'.length + 1 = n) (hcb : cells ≤ MC) (hsb : slots ≤ MS)
    (kk : ∀ (w' : va_W) (ad : zA) (r : zV) (h' : zH 6) (ov : Option Value) (H1 : Heap) (locs1 : List Loc), ((ov = none ∧ r = zU) ∨ ∃ x, ov = some x ∧ ∀ (_ : zGh), zRep ad r x) → P r h' = true → qR cA D A H1 own am g w' → zgw w' 0 46 = zgw w 0 46 → (∀ (d2 z2 : Nat) (h2 : zH d2) (w2 : va_W), z2 ≠ 1 → qB cA D A H own z2 h2 w2 → qB cA D A H1 own z2 h2 w2) → va_S A s.heap H1 locs1 → W p l e (zRm fr MC MS) s m args below meth c H1 locs1 cells slots Q (F0 m (pc + 3) ls (ov.toList ++ st))) :
    W p l e (zRm fr MC MS) s m args below meth c H locs cells slots Q (F0 m pc ls ((.ref am :: av').reverse ++ st)) := by
  obtain ⟨B, hd⟩ := IR
  obtain ⟨k1, k2, k3, k4, k5, k6, r1, r2, -⟩ := ev_sR g hg
  refine q_one (hin := hRf g) (hout := hRf g) (hs := hRf g) (N := 45) hM run Cx B hd (fun Ch h => h) r1 r2 k6 hk hPo k2 k2 k1 hS hls has hcat hn hcb hsb (fun w' ad r h' ov H1 locs1 hov hP B' hd' hHo ha hfr hs => ?_)
  obtain ⟨Ch, hHo⟩ := hHo
  obtain ⟨-, -, i, -, -, -, e1, -, e2⟩ := zgw_num hHo (show 0 < (hRf g).2.1 by omega) k3 (j := 46) (by decide) (by decide) rfl
  exact kk w' ad r h' ov H1 locs1 hov hP ⟨B', hd'⟩ (e1.trans ((e2 (by rw [k4]; decide)).trans (by rw [k4]; exact zcg_gw (by decide)))) hfr hs
theorem q_txtR [G : zGh] {X Xc : zM} {yc : MethodName} {fr frc pc n : Nat} {f : List zV → zH 6 → zP 6 → Bool} {cA : Nat → ClassId} {D : va_G} {A : Nat → Prop} {MC MS : Nat} {p : Program} {l : Launch} {e : Env} {s : State} {m : MethodId} {args : Array Value} {below : List Frame} {meth : Method} {c : Code} {Q : State → Prop} {ls : Array Slot} {H : Heap} {locs : List Loc} {cells slots : Nat} {as' : List zV} {st av' : List Value} {w : va_W} {P : zP 6} {own : Nat → Nat} {am g : Nat}
    (hg : g < 24) (hM : zMet Xc yc frc f) (run : zRun X Xc yc fr frc pc n 0 0 (qrc 9)) (Cx : zCx X cA D p s m args meth c A) (IR : qR cA D A H own am g w) (ht : zgw w 0 46 ≤ 200)
    (hk : f (zR 1 :: as') (hRt g 4294967497) P = true) (hPo : ∀ r h, P r h = true → zsubH h (hRt g 0) = true)
    (hS : va_S A s.heap H locs) (hls : ls.size = X.2.2.1) (has : ∀ ad, zRepL ad as' av') (hcat : (st.map fun v => v.category).sum ≤ 8) (hn : av'.length + 1 = n) (hcb : cells ≤ MC) (hsb : slots ≤ MS)
    (kk : ∀ (w' : va_W) (ad : zA) (r : zV) (h' : zH 6) (ov : Option Value) (H1 : Heap) (locs1 : List Loc), ((ov = none ∧ r = zU) ∨ ∃ x, ov = some x ∧ ∀ (_ : zGh), zRep ad r x) → P r h' = true → qR cA D A H1 own am g w' → zgw w' 0 46 = 0 → (∀ (d2 z2 : Nat) (h2 : zH d2) (w2 : va_W), z2 ≠ 1 → qB cA D A H own z2 h2 w2 → qB cA D A H1 own z2 h2 w2) → va_S A s.heap H1 locs1 → W p l e (zRm fr MC MS) s m args below meth c H1 locs1 cells slots Q (F0 m (pc + 3) ls (ov.toList ++ st))) :
    W p l e (zRm fr MC MS) s m args below meth c H locs cells slots Q (F0 m pc ls ((.ref am :: av').reverse ++ st)) := by
  obtain ⟨B, hd⟩ := IR
  obtain ⟨k1, k2, k3, k4, k5, k6, r1, r2, -⟩ := ev_sR g hg
  obtain ⟨en, hw0⟩ := id hd
  have g0 : zget 6 (hRt g 4294967497).1 0 = (25, 63, zup 40 (zget 6 (hRf g).1 0).2.2 46 4294967497) := zget_set_same 6 _ _ _ (by decide)
  have g1 : zget 6 (hRt g 0).1 0 = (25, 63, zup 40 (zget 6 (hRf g).1 0).2.2 46 0) := zget_set_same 6 _ _ _ (by decide)
  refine q_one (hin := hRt g 4294967497) (hout := hRt g 0) (hs := hRf g) (N := 45) hM run Cx B hd (fun Ch h => zHp_open h (by omega) k3 (by decide) (by decide) rfl (by decide) (fun i hi => ⟨fun z => absurd z (by decide), fun _ _ => by rw [hi]; omega⟩)) r1 r2 (by rw [g0]; rfl) hk hPo k2 k2 (hRt_0 g hg) hS hls has hcat hn hcb hsb (fun w' ad r h' ov H1 locs1 hov hP B' hd' hHo ha hfr hs => ?_)
  obtain ⟨Ch, hHo⟩ := hHo
  obtain ⟨-, -, i, -, -, -, e1, e2, -⟩ := zgw_num hHo (show 0 < (hRf g).2.1 by omega) g1 (j := 46) (by decide) (by decide) rfl
  rw [zwd_up_same _ _ _ _ (by decide)] at e2
  exact kk w' ad r h' ov H1 locs1 hov hP ⟨B', hd'⟩ (e1.trans (e2.1 (by decide))) hfr hs
/-- group on the reference, from whatever group there was -/
theorem q_grpR [G : zGh] {X Xc : zM} {yc : MethodName} {fr frc pc n : Nat} {f : List zV → zH 6 → zP 6 → Bool} {cA : Nat → ClassId} {D : va_G} {A : Nat → Prop} {MC MS : Nat} {p : Program} {l : Launch} {e : Env} {s : State} {m : MethodId} {args : Array Value} {below : List Frame} {meth : Method} {c : Code} {Q : State → Prop} {ls : Array Slot} {H : Heap} {locs : List Loc} {cells slots : Nat} {as' : List zV} {st av' : List Value} {w : va_W} {own : Nat → Nat} {am g g' : Nat} {a : zV}
    (hg : g < 24) (hg' : g' < 24) (hM : zMet Xc yc frc f) (run : zRun X Xc yc fr frc pc n 0 0 (qrc 9)) (Cx : zCx X cA D p s m args meth c A) (IR : qR cA D A H own am g w)
    (hk : f (zR 1 :: as') hRw (fun r h => zands [zeqI r a, zsubH h (hRf g')]) = true) (hw : zands [Nat.beq hRw.2.2.1 0, Nat.beq hRw.2.2.2 0, Nat.beq (zget 6 hRw.1 0).1 (16 + 9)] = true)
    (hS : va_S A s.heap H locs) (hls : ls.size = X.2.2.1) (has : ∀ ad, zRepL ad as' av') (hcat : (st.map fun v => v.category).sum ≤ 8) (hn : av'.length + 1 = n) (hcb : cells ≤ MC) (hsb : slots ≤ MS)
    (kk : ∀ (w' : va_W) (ad : zA) (r : zV) (ov : Option Value) (H1 : Heap) (locs1 : List Loc), ((ov = none ∧ r = zU) ∨ ∃ x, ov = some x ∧ ∀ (_ : zGh), zRep ad r x) → zeqI r a = true → qR cA D A H1 own am g' w' → zgw w' 0 46 = zgw w 0 46 → (∀ (d2 z2 : Nat) (h2 : zH d2) (w2 : va_W), z2 ≠ 1 → qB cA D A H own z2 h2 w2 → qB cA D A H1 own z2 h2 w2) → va_S A s.heap H1 locs1 → W p l e (zRm fr MC MS) s m args below meth c H1 locs1 cells slots Q (F0 m (pc + 3) ls (ov.toList ++ st))) :
    W p l e (zRm fr MC MS) s m args below meth c H locs cells slots Q (F0 m pc ls ((.ref am :: av').reverse ++ st)) := by
  obtain ⟨B, hd⟩ := IR
  obtain ⟨k1, k2, k3, k4, k5, k6, r1, r2, -⟩ := ev_sR g hg
  obtain ⟨k1', k2', k3', k4', -⟩ := ev_sR g' hg'
  obtain ⟨v1, hw⟩ := zands_c hw
  obtain ⟨v2, hw⟩ := zands_c hw
  obtain ⟨v3, -⟩ := zands_c hw
  refine q_one (hin := hRw) (hout := hRf g') (hs := hRf g') (N := 45) hM run Cx B hd (fun Ch h => zsubH_ok k5 h) (Nat.eq_of_beq_eq_true v1) (Nat.eq_of_beq_eq_true v2) v3 hk (fun r h hP => (zands_c (zands_c hP).2).1) k2 k2' k1' hS hls has hcat hn hcb hsb (fun w' ad r h' ov H1 locs1 hov hP B' hd' hHo ha hfr hs => ?_)
  obtain ⟨Ch, hHo⟩ := hHo
  obtain ⟨-, -, i, -, -, -, e1, -, e2⟩ := zgw_num hHo (show 0 < (hRf g').2.1 by omega) k3' (j := 46) (by decide) (by decide) rfl
  exact kk w' ad r ov H1 locs1 hov (zands_c hP).1 ⟨B', hd'⟩ (e1.trans ((e2 (by rw [k4']; decide)).trans (by rw [k4']; exact zcg_gw (by decide)))) hfr hs
end
section
/-! longs of an array at a place that is known within bounds: nothing is known of them -/
section OPSB
variable {d : Nat} {X : zM} {fr : Nat} {P : zP d} {pc : Nat} {k : zK d}
noncomputable def xlalB (k : zK d) : zK d := fun L S h => zpI S (fun i S => zpR S (fun r S => zat h r (fun _ _ _ kd len _ => cond (Nat.beq kd 2) (cond (Nat.ble (zhi i) len) (k L (zL 18446744073709551616 :: S) h) false) false)))
theorem sm_laloadB [G : zGh] (dg : decode X.2.1 pc = .ok (.laload, 1)) (hs : zSim X fr P (pc + 1) k) : zSim X fr P pc (xlalB k) := by
  intro Ch cA D ad0 A MC MS p l e s m args below meth c ls st H locs cells slots L S h Cx hk R0
  obtain ⟨ws, hHp, hpre, hP, hD, hS, hL, hst, hcb, hsb⟩ := R0
  obtain ⟨n, S, rfl, hk1⟩ := zpI_t hk
  obtain ⟨r, S, rfl, hk2⟩ := zpR_t hk1
  obtain ⟨i, st, rfl, hi, hst1⟩ := zRepL_I hst
  obtain ⟨o, st, rfl, ho, hst2⟩ := zRepL_R hst1
  obtain ⟨j, kd, len, x, rfl, hg, hk3⟩ := zat_t hk2
  obtain ⟨a, en, rfl, hwi, hcell⟩ := zat_w hHp ho
  rw [hg] at hcell
  have hk3 : cond (Nat.beq kd 2) (cond (Nat.ble (zhi n) len) (k L (zL 18446744073709551616 :: S) h) false) false = true := hk3
  obtain ⟨hb, hk4⟩ := zcnd_t hk3
  obtain ⟨hbl0, hk5⟩ := zcnd_t hk4
  have hb2 := Nat.eq_of_beq_eq_true hb
  clear hk3 hk4 hb
  subst hb2
  have hbl := Nat.le_of_ble_eq_true hbl0
  obtain ⟨hlen, f, rfl, hf⟩ := zCell_j hcell
  obtain ⟨g1, g2, g3⟩ := zi_idxR hi hlen hbl
  exact va_lald Cx.1 Cx.2.1 Cx.2.2.2.2.2.1 hP j 2 hwi rfl g1 dg (hs Ch cA D ad0 A MC MS p l e s m args below meth c ls _ H locs cells slots L _ h Cx hk5 ⟨ws, hHp, hpre, hP, hD, hS, hL, ⟨⟨_, rfl, zJs_of (fun z => absurd z (Nat.lt_irrefl _)) (by decide)⟩, hst2⟩, hcb, hsb⟩)
noncomputable def xlasB (k : zK d) : zK d := fun L S h => zpL S (fun _ S => zpI S (fun i S => zpR S (fun r S => zat h r (fun t u j kd len _ => cond (Nat.beq kd 2) (cond (Nat.ble (zhi i) len) (zF (fun y => zsetK d t j (kd, len, y) (fun t => k L S (t, u))) (zun 72 len 18446744073709551616)) false) false))))
theorem sm_lastoreB [G : zGh] (dg : decode X.2.1 pc = .ok (.lastore, 1)) (hs : zSim X fr P (pc + 1) k) : zSim X fr P pc (xlasB k) := by
  intro Ch cA D ad0 A MC MS p l e s m args below meth c ls st H locs cells slots L S h Cx hk R0
  obtain ⟨ws, hHp, hpre, hP, hD, hS, hL, hst, hcb, hsb⟩ := R0
  obtain ⟨v, S, rfl, hk0⟩ := zpL_t hk
  obtain ⟨n, S, rfl, hk1⟩ := zpI_t hk0
  obtain ⟨r, S, rfl, hk2⟩ := zpR_t hk1
  obtain ⟨y, st, rfl, hy, hst0⟩ := zRepL_L hst
  obtain ⟨i, st, rfl, hi, hst1⟩ := zRepL_I hst0
  obtain ⟨o, st, rfl, ho, hst2⟩ := zRepL_R hst1
  obtain ⟨j, kd, len, x, rfl, hgt, hk3⟩ := zat_t hk2
  obtain ⟨a, en, rfl, hwi, hcell⟩ := zat_w hHp ho
  rw [hgt] at hcell
  have hk3 : cond (Nat.beq kd 2) (cond (Nat.ble (zhi n) len) (zF (fun y => zsetK d h.1 j (kd, len, y) (fun t => k L S (t, h.2))) (zun 72 len 18446744073709551616)) false) false = true := hk3
  obtain ⟨hb, hk4⟩ := zcnd_t hk3
  obtain ⟨hbl0, hk5⟩ := zcnd_t hk4
  have hb2 := Nat.eq_of_beq_eq_true hb
  clear hk3 hk4 hb
  subst hb2
  have hbl := Nat.le_of_ble_eq_true hbl0
  rw [zF_eq, zsetK_eq] at hk5
  obtain ⟨hlen, f, rfl, hf⟩ := zCell_j hcell
  obtain ⟨g1, g2, g3⟩ := zi_idxR hi hlen hbl
  refine va_last Cx.1 Cx.2.1 Cx.2.2.2.2.2.1 hP hD hS j 2 hwi rfl g1 dg (fun H1 locs1 hP1 hD1 hS1 => ?_)
  have hz := zad_set (cA := cA) (e' := .inl (cA 2, len, .inr (.inl (vp_updL f i.toNatClampNeg y)))) hwi
  exact hs Ch cA D ad0 A MC MS p l e s m args below meth c ls _ H1 locs1 cells slots L _ _ Cx hk5 ⟨_, zHp_set hHp hwi (zCell_jk hlen (fun q hq => by
    rw [zun_wd 72 len _ q (by decide) (by decide) hq]
    exact ⟨fun z => absurd z (Nat.lt_irrefl _), fun z => absurd z (by decide)⟩)), by rw [hz]; exact hpre, hP1, hD1, hS1, by rw [hz]; exact hL, by rw [hz]; exact hst2, hcb, hsb⟩
end OPSB
end
section
/-! public methods, by program -/

noncomputable def cX9_ordinarySumv_44 {d : Nat} (P : zP d) (r5 : zK d) : zK d := (xild 5 (xbin zaddR (xalQ 0 (xi2lR (xbinj zmulj (xbinj zaddj (xlst 3 (xincR 5 1 r5))))))))
set_option maxRecDepth 100000 in
set_option maxHeartbeats 4000000 in
theorem scX9_ordinarySumv_44 {d : Nat} [zGh] (P : zP d) (r5 : zK d) (hr5 : zSimJ 1 X_X9_ordinarySum 1 P 5 r5) : zSim X_X9_ordinarySum 1 P 44 (cX9_ordinarySumv_44 P r5) := by
  unfold cX9_ordinarySumv_44
  refine sm_iload (pc := 44) (n := 5) dX9_ordinarySum_44 ?_
  refine sm_iaddR (pc := 46) dX9_ordinarySum_46 ?_
  refine sm_ialoadQ (pc := 47) dX9_ordinarySum_47 ?_
  refine sm_i2lR (pc := 48) dX9_ordinarySum_48 ?_
  refine sm_lmul (pc := 49) dX9_ordinarySum_49 ?_
  refine sm_ladd (pc := 50) dX9_ordinarySum_50 ?_
  refine sm_lstore_n (pc := 51) (n := 3) dX9_ordinarySum_51 rfl ?_
  refine sm_iincR (pc := 52) (n := 5) dX9_ordinarySum_52 zc_i_1 ?_
  refine sm_goto (pc := 55) (tgt := 5) dX9_ordinarySum_55 (by decide) ?_
  exact hr5.use
noncomputable def lX9_ordinarySumv_5 {d : Nat} (P : zP d) (r5 : zK d) : zK d := (xild 5 (xaldV 0 (xgfI 25 2 (xcmpS tgeR rlGe rhS rlS rhLt (xlld 3 (xlret P)) (xlld 3 (xaldV 0 (xgfR 25 43 (xpI 11 (xild 1 (xbin zmulR (xild 5 (xbin zaddR (xlalB (xaldV 0 (xgfR 25 5 (xild 5 (xalQ 0 (xi2lR (xbinj zmulj (xaldV 0 (xgfR 25 14 (xpI 11 (xild 2 (xbin zmulR (cX9_ordinarySumv_44 P r5)))))))))))))))))))))))))
set_option maxRecDepth 100000 in
set_option maxHeartbeats 4000000 in
theorem slX9_ordinarySumv_5 {d : Nat} [zGh] (P : zP d) (r5 : zK d) (hr5 : zSimJ 1 X_X9_ordinarySum 1 P 5 r5) : zSim X_X9_ordinarySum 1 P 5 (lX9_ordinarySumv_5 P r5) := by
  unfold lX9_ordinarySumv_5
  refine sm_iload (pc := 5) (n := 5) dX9_ordinarySum_5 ?_
  refine sm_aloadV_n (pc := 7) (n := 0) dX9_ordinarySum_7 rfl ?_
  refine gf_X9_153 (pc := 8) rfl dX9_ordinarySum_8 ?_
  refine sm_icmpS_ge (pc := 11) (tgt := 58) dX9_ordinarySum_11 (by decide) ?_ ?_
  · skip
    refine sm_lload_n (pc := 58) (n := 3) dX9_ordinarySum_58 rfl ?_
    exact sm_lreturn (pc := 59) dX9_ordinarySum_59 rfl
  · skip
    refine sm_lload_n (pc := 14) (n := 3) dX9_ordinarySum_14 rfl ?_
    refine sm_aloadV_n (pc := 15) (n := 0) dX9_ordinarySum_15 rfl ?_
    refine gf_X9_115 (pc := 16) rfl dX9_ordinarySum_16 ?_
    refine sm_bipush (pc := 19) dX9_ordinarySum_19 zc_b_11 ?_
    refine sm_iload_n (pc := 21) (n := 1) dX9_ordinarySum_21 rfl ?_
    refine sm_imulR (pc := 22) dX9_ordinarySum_22 ?_
    refine sm_iload (pc := 23) (n := 5) dX9_ordinarySum_23 ?_
    refine sm_iaddR (pc := 25) dX9_ordinarySum_25 ?_
    refine sm_laloadB (pc := 26) dX9_ordinarySum_26 ?_
    refine sm_aloadV_n (pc := 27) (n := 0) dX9_ordinarySum_27 rfl ?_
    refine gf_X9_16 (pc := 28) rfl dX9_ordinarySum_28 ?_
    refine sm_iload (pc := 31) (n := 5) dX9_ordinarySum_31 ?_
    refine sm_ialoadQ (pc := 33) dX9_ordinarySum_33 ?_
    refine sm_i2lR (pc := 34) dX9_ordinarySum_34 ?_
    refine sm_lmul (pc := 35) dX9_ordinarySum_35 ?_
    refine sm_aloadV_n (pc := 36) (n := 0) dX9_ordinarySum_36 rfl ?_
    refine gf_X9_38 (pc := 37) rfl dX9_ordinarySum_37 ?_
    refine sm_bipush (pc := 40) dX9_ordinarySum_40 zc_b_11 ?_
    refine sm_iload_n (pc := 42) (n := 2) dX9_ordinarySum_42 rfl ?_
    refine sm_imulR (pc := 43) dX9_ordinarySum_43 ?_
    exact scX9_ordinarySumv_44 P r5 hr5
noncomputable def b_X9_ordinarySumv {d : Nat} (P : zP d) : zK d := (xpL 0 (xlst 3 (xpI 0 (xist 5 (xloop (fun r5 => (lX9_ordinarySumv_5 P r5)) 100000)))))
set_option maxRecDepth 100000 in
set_option maxHeartbeats 4000000 in
theorem s_X9_ordinarySumv {d : Nat} [zGh] (P : zP d) : zSim X_X9_ordinarySum 1 P 0 (b_X9_ordinarySumv P) := by
  unfold b_X9_ordinarySumv
  refine sm_lconst (pc := 0) dX9_ordinarySum_0 zc_l_0 ?_
  refine sm_lstore_n (pc := 1) (n := 3) dX9_ordinarySum_1 rfl ?_
  refine sm_iconst (pc := 2) dX9_ordinarySum_2 zc_i_0 ?_
  refine sm_istore (pc := 3) (n := 5) dX9_ordinarySum_3 ?_
  exact (sm_loopJ (j := 1) (fun G1 hG1 r5 hr5 => @slX9_ordinarySumv_5 d G1 P r5 hr5) _).use
noncomputable def f_X9_ordinarySumv {d : Nat} : List zV → zH d → zP d → Bool := zfn 6 (b_X9_ordinarySumv )
theorem m_X9_ordinarySumv {d : Nat} : zMet (d := d) X_X9_ordinarySum yX9_ordinarySum 1 (f_X9_ordinarySumv ) := zmet_mk (X := X_X9_ordinarySum) (by decide) rfl rfl (fun P => s_X9_ordinarySumv P)

noncomputable def bX9_modularSumv_62 {d : Nat} (P : zP d) (r5 : zK d) : zK d := (xincR 5 1 r5)
set_option maxRecDepth 100000 in
set_option maxHeartbeats 4000000 in
theorem sbX9_modularSumv_62 {d : Nat} [zGh] (P : zP d) (r5 : zK d) (hr5 : zSimJ 1 X_X9_modularSum 1 P 5 r5) : zSim X_X9_modularSum 1 P 62 (bX9_modularSumv_62 P r5) := by
  unfold bX9_modularSumv_62
  refine sm_iincR (pc := 62) (n := 5) dX9_modularSum_62 zc_i_1 ?_
  refine sm_goto (pc := 65) (tgt := 5) dX9_modularSum_65 (by decide) ?_
  exact hr5.use
noncomputable def cX9_modularSumv_46 {d : Nat} (P : zP d) (j62 : zK d) : zK d := (xaldV 0 (xgfR 25 40 (xpI 11 (xild 2 (xbin zmulR (xild 5 (xbin zaddR (xalQ 0 (xi2lR (xbinj zmulj (xbinj zaddj (xlst 3 j62))))))))))))
set_option maxRecDepth 100000 in
set_option maxHeartbeats 4000000 in
theorem scX9_modularSumv_46 {d : Nat} [zGh] (P : zP d) (j62 : zK d) (hj62 : zSimJ 1 X_X9_modularSum 1 P 62 j62) : zSim X_X9_modularSum 1 P 46 (cX9_modularSumv_46 P j62) := by
  unfold cX9_modularSumv_46
  refine sm_aloadV_n (pc := 46) (n := 0) dX9_modularSum_46 rfl ?_
  refine gf_X9_105 (pc := 47) rfl dX9_modularSum_47 ?_
  refine sm_bipush (pc := 50) dX9_modularSum_50 zc_b_11 ?_
  refine sm_iload_n (pc := 52) (n := 2) dX9_modularSum_52 rfl ?_
  refine sm_imulR (pc := 53) dX9_modularSum_53 ?_
  refine sm_iload (pc := 54) (n := 5) dX9_modularSum_54 ?_
  refine sm_iaddR (pc := 56) dX9_modularSum_56 ?_
  refine sm_ialoadQ (pc := 57) dX9_modularSum_57 ?_
  refine sm_i2lR (pc := 58) dX9_modularSum_58 ?_
  refine sm_lmul (pc := 59) dX9_modularSum_59 ?_
  refine sm_ladd (pc := 60) dX9_modularSum_60 ?_
  refine sm_lstore_n (pc := 61) (n := 3) dX9_modularSum_61 rfl ?_
  exact hj62.use
noncomputable def lX9_modularSumv_5 {d : Nat} (P : zP d) (r5 : zK d) : zK d := (xild 5 (xaldV 0 (xgfI 25 2 (xcmpS tgeR rlGe rhS rlS rhLt (xlld 3 (xlret P)) (xaldV 0 (xgfR 25 8 (xild 5 (xalQ 1 (xjoin (bX9_modularSumv_62 P r5) (fun j62 => (xif0S teqR rlEq rhEq rlNe rhNe j62 (xlld 3 (xaldV 0 (xgfR 25 43 (xpI 11 (xild 1 (xbin zmulR (xild 5 (xbin zaddR (xlalB (xaldV 0 (xgfR 25 5 (xild 5 (xalQ 0 (xi2lR (xbinj zmulj (cX9_modularSumv_46 P j62)))))))))))))))))))))))))))
set_option maxRecDepth 100000 in
set_option maxHeartbeats 4000000 in
theorem slX9_modularSumv_5 {d : Nat} [zGh] (P : zP d) (r5 : zK d) (hr5 : zSimJ 1 X_X9_modularSum 1 P 5 r5) : zSim X_X9_modularSum 1 P 5 (lX9_modularSumv_5 P r5) := by
  unfold lX9_modularSumv_5
  refine sm_iload (pc := 5) (n := 5) dX9_modularSum_5 ?_
  refine sm_aloadV_n (pc := 7) (n := 0) dX9_modularSum_7 rfl ?_
  refine gf_X9_153 (pc := 8) rfl dX9_modularSum_8 ?_
  refine sm_icmpS_ge (pc := 11) (tgt := 68) dX9_modularSum_11 (by decide) ?_ ?_
  · skip
    refine sm_lload_n (pc := 68) (n := 3) dX9_modularSum_68 rfl ?_
    exact sm_lreturn (pc := 69) dX9_modularSum_69 rfl
  · skip
    refine sm_aloadV_n (pc := 14) (n := 0) dX9_modularSum_14 rfl ?_
    refine gf_X9_26 (pc := 15) rfl dX9_modularSum_15 ?_
    refine sm_iload (pc := 18) (n := 5) dX9_modularSum_18 ?_
    refine sm_baloadQ (pc := 20) dX9_modularSum_20 ?_
    refine sm_joinJ (pc := 21) (pc' := 62) (j := 1) (fun G0 hG0 => @sbX9_modularSumv_62 d G0 P r5 (hr5.mv hG0 (by decide))) (fun j62 hj62 => ?_)
    refine sm_ifS_eq (pc := 21) (tgt := 62) dX9_modularSum_21 (by decide) ?_ ?_
    · skip
      exact hj62.use
    · skip
      refine sm_lload_n (pc := 24) (n := 3) dX9_modularSum_24 rfl ?_
      refine sm_aloadV_n (pc := 25) (n := 0) dX9_modularSum_25 rfl ?_
      refine gf_X9_115 (pc := 26) rfl dX9_modularSum_26 ?_
      refine sm_bipush (pc := 29) dX9_modularSum_29 zc_b_11 ?_
      refine sm_iload_n (pc := 31) (n := 1) dX9_modularSum_31 rfl ?_
      refine sm_imulR (pc := 32) dX9_modularSum_32 ?_
      refine sm_iload (pc := 33) (n := 5) dX9_modularSum_33 ?_
      refine sm_iaddR (pc := 35) dX9_modularSum_35 ?_
      refine sm_laloadB (pc := 36) dX9_modularSum_36 ?_
      refine sm_aloadV_n (pc := 37) (n := 0) dX9_modularSum_37 rfl ?_
      refine gf_X9_16 (pc := 38) rfl dX9_modularSum_38 ?_
      refine sm_iload (pc := 41) (n := 5) dX9_modularSum_41 ?_
      refine sm_ialoadQ (pc := 43) dX9_modularSum_43 ?_
      refine sm_i2lR (pc := 44) dX9_modularSum_44 ?_
      refine sm_lmul (pc := 45) dX9_modularSum_45 ?_
      exact scX9_modularSumv_46 P j62 hj62
noncomputable def b_X9_modularSumv {d : Nat} (P : zP d) : zK d := (xpL 0 (xlst 3 (xpI 0 (xist 5 (xloop (fun r5 => (lX9_modularSumv_5 P r5)) 100000)))))
set_option maxRecDepth 100000 in
set_option maxHeartbeats 4000000 in
theorem s_X9_modularSumv {d : Nat} [zGh] (P : zP d) : zSim X_X9_modularSum 1 P 0 (b_X9_modularSumv P) := by
  unfold b_X9_modularSumv
  refine sm_lconst (pc := 0) dX9_modularSum_0 zc_l_0 ?_
  refine sm_lstore_n (pc := 1) (n := 3) dX9_modularSum_1 rfl ?_
  refine sm_iconst (pc := 2) dX9_modularSum_2 zc_i_0 ?_
  refine sm_istore (pc := 3) (n := 5) dX9_modularSum_3 ?_
  exact (sm_loopJ (j := 1) (fun G1 hG1 r5 hr5 => @slX9_modularSumv_5 d G1 P r5 hr5) _).use
noncomputable def f_X9_modularSumv {d : Nat} : List zV → zH d → zP d → Bool := zfn 6 (b_X9_modularSumv )
theorem m_X9_modularSumv {d : Nat} : zMet (d := d) X_X9_modularSum yX9_modularSum 1 (f_X9_modularSumv ) := zmet_mk (X := X_X9_modularSum) (by decide) rfl rfl (fun P => s_X9_modularSumv P)

noncomputable def bX9_areWholev_78 {d : Nat} (P : zP d) (r3 : zK d) : zK d := (xincR 4 1 r3)
set_option maxRecDepth 100000 in
set_option maxHeartbeats 4000000 in
theorem sbX9_areWholev_78 {d : Nat} [zGh] (P : zP d) (r3 : zK d) (hr3 : zSimJ 1 X_X9_areWhole 2 P 3 r3) : zSim X_X9_areWhole 2 P 78 (bX9_areWholev_78 P r3) := by
  unfold bX9_areWholev_78
  refine sm_iincR (pc := 78) (n := 4) dX9_areWhole_78 zc_i_1 ?_
  refine sm_goto (pc := 81) (tgt := 3) dX9_areWhole_81 (by decide) ?_
  exact hr3.use
noncomputable def bX9_areWholev_76 {d : Nat} (P : zP d) : zK d := (xpI 0 (xzret P))
set_option maxRecDepth 100000 in
set_option maxHeartbeats 4000000 in
theorem sbX9_areWholev_76 {d : Nat} [zGh] (P : zP d) : zSim X_X9_areWhole 2 P 76 (bX9_areWholev_76 P) := by
  unfold bX9_areWholev_76
  refine sm_iconst (pc := 76) dX9_areWhole_76 zc_i_0 ?_
  exact sm_zreturn (pc := 77) dX9_areWhole_77 rfl
noncomputable def bX9_areWholev_50 {d : Nat} (P : zP d) (j78 : zK d) : zK d := (xlst 5 (xlld 5 (xaldV 0 (xgfI 25 12 (xi2lR (xbinjN zremj (xpL 0 (xlcmpR (xjoin (bX9_areWholev_76 P) (fun j76 => (xif0S teqR rlEq rhEq rlNe rhNe (xild 3 (xif0S teqR rlEq rhEq rlNe rhNe j78 (xlld 5 (xpL 0 (xlcmpR (xif0S tgeR rlGe rhS rlS rhLt j78 j76)))))) j76)))))))))))
set_option maxRecDepth 100000 in
set_option maxHeartbeats 4000000 in
theorem sbX9_areWholev_50 {d : Nat} [zGh] (P : zP d) (j78 : zK d) (hj78 : zSimJ 1 X_X9_areWhole 2 P 78 j78) : zSim X_X9_areWhole 2 P 50 (bX9_areWholev_50 P j78) := by
  unfold bX9_areWholev_50
  refine sm_lstore (pc := 50) (n := 5) dX9_areWhole_50 ?_
  refine sm_lload (pc := 52) (n := 5) dX9_areWhole_52 ?_
  refine sm_aloadV_n (pc := 54) (n := 0) dX9_areWhole_54 rfl ?_
  refine gf_X9_166 (pc := 55) rfl dX9_areWhole_55 ?_
  refine sm_i2lR (pc := 58) dX9_areWhole_58 ?_
  refine sm_lrem (pc := 59) dX9_areWhole_59 ?_
  refine sm_lconst (pc := 60) dX9_areWhole_60 zc_l_0 ?_
  refine sm_lcmpR (pc := 61) dX9_areWhole_61 ?_
  refine sm_joinJ (pc := 62) (pc' := 76) (j := 1) (fun G0 hG0 => @sbX9_areWholev_76 d G0 P) (fun j76 hj76 => ?_)
  refine sm_ifS_ne (pc := 62) (tgt := 76) dX9_areWhole_62 (by decide) ?_ ?_
  · skip
    exact hj76.use
  · skip
    refine sm_iload_n (pc := 65) (n := 3) dX9_areWhole_65 rfl ?_
    refine sm_ifS_eq (pc := 66) (tgt := 78) dX9_areWhole_66 (by decide) ?_ ?_
    · skip
      exact hj78.use
    · skip
      refine sm_lload (pc := 69) (n := 5) dX9_areWhole_69 ?_
      refine sm_lconst (pc := 71) dX9_areWhole_71 zc_l_0 ?_
      refine sm_lcmpR (pc := 72) dX9_areWhole_72 ?_
      refine sm_ifS_ge (pc := 73) (tgt := 78) dX9_areWhole_73 (by decide) ?_ ?_
      · skip
        exact hj78.use
      · skip
        exact hj76.use
noncomputable def bX9_areWholev_29 {d : Nat} (P : zP d) (j78 : zK d) : zK d := (xild 2 (xjoin (bX9_areWholev_50 P j78) (fun j50 => (xif0S teqR rlEq rhEq rlNe rhNe (xaldV 0 (xild 1 (xild 4 (xcV 25 3 0 0 (zstr f_X9_ordinarySumv) j50)))) (xaldV 0 (xild 1 (xild 4 (xcV 25 3 0 0 (zstr f_X9_modularSumv) j50))))))))
set_option maxRecDepth 100000 in
set_option maxHeartbeats 4000000 in
theorem sbX9_areWholev_29 {d : Nat} [zGh] (P : zP d) (j78 : zK d) (hj78 : zSimJ 1 X_X9_areWhole 2 P 78 j78) : zSim X_X9_areWhole 2 P 29 (bX9_areWholev_29 P j78) := by
  unfold bX9_areWholev_29
  refine sm_iload_n (pc := 29) (n := 2) dX9_areWhole_29 rfl ?_
  refine sm_joinJ (pc := 30) (pc' := 50) (j := 1) (fun G0 hG0 => @sbX9_areWholev_50 d G0 P j78 (hj78.mv hG0 (by decide))) (fun j50 hj50 => ?_)
  refine sm_ifS_eq (pc := 30) (tgt := 43) dX9_areWhole_30 (by decide) ?_ ?_
  · skip
    refine sm_aloadV_n (pc := 43) (n := 0) dX9_areWhole_43 rfl ?_
    refine sm_iload_n (pc := 44) (n := 1) dX9_areWhole_44 rfl ?_
    refine sm_iload (pc := 45) (n := 4) dX9_areWhole_45 ?_
    refine sm_cV (pc := 47) (ci := 9) (n := 3) (mc := 0) (ms := 0) rfl (zMet_str m_X9_ordinarySumv) (cr_X9_328 (X := X_X9_areWhole) (fr := 2) (frc := 1) (pc := 47) (mc := 0) (ms := 0) rfl (by decide) dX9_areWhole_47) ?_
    exact hj50.use
  · skip
    refine sm_aloadV_n (pc := 33) (n := 0) dX9_areWhole_33 rfl ?_
    refine sm_iload_n (pc := 34) (n := 1) dX9_areWhole_34 rfl ?_
    refine sm_iload (pc := 35) (n := 4) dX9_areWhole_35 ?_
    refine sm_cV (pc := 37) (ci := 9) (n := 3) (mc := 0) (ms := 0) rfl (zMet_str m_X9_modularSumv) (cr_X9_332 (X := X_X9_areWhole) (fr := 2) (frc := 1) (pc := 37) (mc := 0) (ms := 0) rfl (by decide) dX9_areWhole_37) ?_
    refine sm_goto (pc := 40) (tgt := 50) dX9_areWhole_40 (by decide) ?_
    exact hj50.use
noncomputable def lX9_areWholev_3 {d : Nat} (P : zP d) (r3 : zK d) : zK d := (xild 4 (xaldV 0 (xgfI 25 2 (xcmpS tgeR rlGe rhS rlS rhLt (xpI 1 (xzret P)) (xild 2 (xjoin (bX9_areWholev_78 P r3) (fun j78 => (xjoin (bX9_areWholev_29 P j78) (fun j29 => (xif0S teqR rlEq rhEq rlNe rhNe j29 (xaldV 0 (xgfR 25 7 (xild 4 (xalQ 1 (xif0S teqR rlEq rhEq rlNe rhNe j78 j29)))))))))))))))
set_option maxRecDepth 100000 in
set_option maxHeartbeats 4000000 in
theorem slX9_areWholev_3 {d : Nat} [zGh] (P : zP d) (r3 : zK d) (hr3 : zSimJ 1 X_X9_areWhole 2 P 3 r3) : zSim X_X9_areWhole 2 P 3 (lX9_areWholev_3 P r3) := by
  unfold lX9_areWholev_3
  refine sm_iload (pc := 3) (n := 4) dX9_areWhole_3 ?_
  refine sm_aloadV_n (pc := 5) (n := 0) dX9_areWhole_5 rfl ?_
  refine gf_X9_153 (pc := 6) rfl dX9_areWhole_6 ?_
  refine sm_icmpS_ge (pc := 9) (tgt := 84) dX9_areWhole_9 (by decide) ?_ ?_
  · skip
    refine sm_iconst (pc := 84) dX9_areWhole_84 zc_i_1 ?_
    exact sm_zreturn (pc := 85) dX9_areWhole_85 rfl
  · skip
    refine sm_iload_n (pc := 12) (n := 2) dX9_areWhole_12 rfl ?_
    refine sm_joinJ (pc := 13) (pc' := 78) (j := 1) (fun G0 hG0 => @sbX9_areWholev_78 d G0 P r3 (hr3.mv hG0 (by decide))) (fun j78 hj78 => ?_)
    refine sm_joinJ (pc := 13) (pc' := 29) (j := 1) (fun G0 hG0 => @sbX9_areWholev_29 d G0 P j78 (hj78.mv hG0 (by decide))) (fun j29 hj29 => ?_)
    refine sm_ifS_eq (pc := 13) (tgt := 29) dX9_areWhole_13 (by decide) ?_ ?_
    · skip
      exact hj29.use
    · skip
      refine sm_aloadV_n (pc := 16) (n := 0) dX9_areWhole_16 rfl ?_
      refine gf_X9_22 (pc := 17) rfl dX9_areWhole_17 ?_
      refine sm_iload (pc := 20) (n := 4) dX9_areWhole_20 ?_
      refine sm_baloadQ (pc := 22) dX9_areWhole_22 ?_
      refine sm_ifS_ne (pc := 23) (tgt := 29) dX9_areWhole_23 (by decide) ?_ ?_
      · skip
        exact hj29.use
      · skip
        refine sm_goto (pc := 26) (tgt := 78) dX9_areWhole_26 (by decide) ?_
        exact hj78.use
noncomputable def b_X9_areWholev {d : Nat} (P : zP d) : zK d := (xpI 0 (xist 4 (xloop (fun r3 => (lX9_areWholev_3 P r3)) 100000)))
set_option maxRecDepth 100000 in
set_option maxHeartbeats 4000000 in
theorem s_X9_areWholev {d : Nat} [zGh] (P : zP d) : zSim X_X9_areWhole 2 P 0 (b_X9_areWholev P) := by
  unfold b_X9_areWholev
  refine sm_iconst (pc := 0) dX9_areWhole_0 zc_i_0 ?_
  refine sm_istore (pc := 1) (n := 4) dX9_areWhole_1 ?_
  exact (sm_loopJ (j := 1) (fun G1 hG1 r3 hr3 => @slX9_areWholev_3 d G1 P r3 hr3) _).use
noncomputable def f_X9_areWholev {d : Nat} : List zV → zH d → zP d → Bool := zfn 7 (b_X9_areWholev )
theorem m_X9_areWholev {d : Nat} : zMet (d := d) X_X9_areWhole yX9_areWhole 2 (f_X9_areWholev ) := zmet_mk (X := X_X9_areWhole) (by decide) rfl rfl (fun P => s_X9_areWholev P)

noncomputable def bX9_valuev_32 {d : Nat} (P : zP d) : zK d := (xlret P)
set_option maxRecDepth 100000 in
set_option maxHeartbeats 4000000 in
theorem sbX9_valuev_32 {d : Nat} [zGh] (P : zP d) : zSim X_X9_value 3 P 32 (bX9_valuev_32 P) := by
  unfold bX9_valuev_32
  exact sm_lreturn (pc := 32) dX9_value_32 rfl
noncomputable def bX9_valuev_29 {d : Nat} (P : zP d) (j32 : zK d) : zK d := (xpL 9223372036854775808 j32)
set_option maxRecDepth 100000 in
set_option maxHeartbeats 4000000 in
theorem sbX9_valuev_29 {d : Nat} [zGh] (P : zP d) (j32 : zK d) (hj32 : zSimJ 1 X_X9_value 3 P 32 j32) : zSim X_X9_value 3 P 29 (bX9_valuev_29 P j32) := by
  unfold bX9_valuev_29
  refine sm_ldc2 (pc := 29) dX9_value_29 wd_1311 zc_cl_m9223372036854775808 ?_
  exact hj32.use
noncomputable def b_X9_valuev {d : Nat} (P : zP d) : zK d := (xild 1 (xcS 1 0 0 (zstr f_X9_isSlota) (xjoin (bX9_valuev_32 P) (fun j32 => (xjoin (bX9_valuev_29 P j32) (fun j29 => (xif0S teqR rlEq rhEq rlNe rhNe j29 (xaldV 0 (xild 2 (xcV 25 2 0 0 (zstr f_X9_isParta) (xif0S teqR rlEq rhEq rlNe rhNe j29 (xaldV 0 (xgfR 25 43 (xpI 11 (xild 1 (xbin zmulR (xild 2 (xbin zaddR (xlalB j32)))))))))))))))))))
set_option maxRecDepth 100000 in
set_option maxHeartbeats 4000000 in
theorem s_X9_valuev {d : Nat} [zGh] (P : zP d) : zSim X_X9_value 3 P 0 (b_X9_valuev P) := by
  unfold b_X9_valuev
  refine sm_iload_n (pc := 0) (n := 1) dX9_value_0 rfl ?_
  refine sm_cS (pc := 1) (n := 1) (mc := 0) (ms := 0) (zMet_str m_X9_isSlota) (cr_X9_319 (X := X_X9_value) (fr := 3) (frc := 2) (pc := 1) (mc := 0) (ms := 0) rfl (by decide) dX9_value_1) ?_
  refine sm_joinJ (pc := 4) (pc' := 32) (j := 1) (fun G0 hG0 => @sbX9_valuev_32 d G0 P) (fun j32 hj32 => ?_)
  refine sm_joinJ (pc := 4) (pc' := 29) (j := 1) (fun G0 hG0 => @sbX9_valuev_29 d G0 P j32 (hj32.mv hG0 (by decide))) (fun j29 hj29 => ?_)
  refine sm_ifS_eq (pc := 4) (tgt := 29) dX9_value_4 (by decide) ?_ ?_
  · skip
    exact hj29.use
  · skip
    refine sm_aloadV_n (pc := 7) (n := 0) dX9_value_7 rfl ?_
    refine sm_iload_n (pc := 8) (n := 2) dX9_value_8 rfl ?_
    refine sm_cV (pc := 9) (ci := 9) (n := 2) (mc := 0) (ms := 0) rfl (zMet_str m_X9_isParta) (cr_X9_287 (X := X_X9_value) (fr := 3) (frc := 2) (pc := 9) (mc := 0) (ms := 0) rfl (by decide) dX9_value_9) ?_
    refine sm_ifS_eq (pc := 12) (tgt := 29) dX9_value_12 (by decide) ?_ ?_
    · skip
      exact hj29.use
    · skip
      refine sm_aloadV_n (pc := 15) (n := 0) dX9_value_15 rfl ?_
      refine gf_X9_115 (pc := 16) rfl dX9_value_16 ?_
      refine sm_bipush (pc := 19) dX9_value_19 zc_b_11 ?_
      refine sm_iload_n (pc := 21) (n := 1) dX9_value_21 rfl ?_
      refine sm_imulR (pc := 22) dX9_value_22 ?_
      refine sm_iload_n (pc := 23) (n := 2) dX9_value_23 rfl ?_
      refine sm_iaddR (pc := 24) dX9_value_24 ?_
      refine sm_laloadB (pc := 25) dX9_value_25 ?_
      refine sm_goto (pc := 26) (tgt := 32) dX9_value_26 (by decide) ?_
      exact hj32.use
noncomputable def f_X9_valuev {d : Nat} : List zV → zH d → zP d → Bool := zfn 3 (b_X9_valuev )
theorem m_X9_valuev {d : Nat} : zMet (d := d) X_X9_value yX9_value 3 (f_X9_valuev ) := zmet_mk (X := X_X9_value) (by decide) rfl rfl (fun P => s_X9_valuev P)

noncomputable def bX9_partsv_43 {d : Nat} (P : zP d) : zK d := (xpL 9223372036854775808 (xlret P))
set_option maxRecDepth 100000 in
set_option maxHeartbeats 4000000 in
theorem sbX9_partsv_43 {d : Nat} [zGh] (P : zP d) : zSim X_X9_parts 3 P 43 (bX9_partsv_43 P) := by
  unfold bX9_partsv_43
  refine sm_ldc2 (pc := 43) dX9_parts_43 wd_1311 zc_cl_m9223372036854775808 ?_
  exact sm_lreturn (pc := 46) dX9_parts_46 rfl
noncomputable def bX9_partsv_103 {d : Nat} (P : zP d) : zK d := (xlret P)
set_option maxRecDepth 100000 in
set_option maxHeartbeats 4000000 in
theorem sbX9_partsv_103 {d : Nat} [zGh] (P : zP d) : zSim X_X9_parts 3 P 103 (bX9_partsv_103 P) := by
  unfold bX9_partsv_103
  exact sm_lreturn (pc := 103) dX9_parts_103 rfl
noncomputable def bX9_partsv_68 {d : Nat} (P : zP d) : zK d := (xlst 4 (xlld 4 (xaldV 0 (xgfI 25 12 (xi2lR (xcS 2 0 0 (zstr gX_X9_divisor) (xlst 6 (xild 3 (xpI 2 (xjoin (bX9_partsv_103 P) (fun j103 => (xcmpS tgeR rlGe rhS rlS rhLt (xaldV 0 (xgfI 25 12 (xi2lR (xlld 6 (xdvT j103))))) (xlld 4 (xlld 6 (xdvT j103)))))))))))))))
set_option maxRecDepth 100000 in
set_option maxHeartbeats 4000000 in
theorem sbX9_partsv_68 {d : Nat} [zGh] (P : zP d) : zSim X_X9_parts 3 P 68 (bX9_partsv_68 P) := by
  unfold bX9_partsv_68
  refine sm_lstore (pc := 68) (n := 4) dX9_parts_68 ?_
  refine sm_lload (pc := 70) (n := 4) dX9_parts_70 ?_
  refine sm_aloadV_n (pc := 72) (n := 0) dX9_parts_72 rfl ?_
  refine gf_X9_166 (pc := 73) rfl dX9_parts_73 ?_
  refine sm_i2lR (pc := 76) dX9_parts_76 ?_
  refine sm_cS (pc := 77) (n := 2) (mc := 0) (ms := 0) (zMet_str mX_X9_divisor) (cr_X9_335 (X := X_X9_parts) (fr := 3) (frc := 1) (pc := 77) (mc := 0) (ms := 0) rfl (by decide) dX9_parts_77) ?_
  refine sm_lstore (pc := 80) (n := 6) dX9_parts_80 ?_
  refine sm_iload_n (pc := 82) (n := 3) dX9_parts_82 rfl ?_
  refine sm_iconst (pc := 83) dX9_parts_83 zc_i_2 ?_
  refine sm_joinJ (pc := 84) (pc' := 103) (j := 1) (fun G0 hG0 => @sbX9_partsv_103 d G0 P) (fun j103 hj103 => ?_)
  refine sm_icmpS_ge (pc := 84) (tgt := 95) dX9_parts_84 (by decide) ?_ ?_
  · skip
    refine sm_aloadV_n (pc := 95) (n := 0) dX9_parts_95 rfl ?_
    refine gf_X9_166 (pc := 96) rfl dX9_parts_96 ?_
    refine sm_i2lR (pc := 99) dX9_parts_99 ?_
    refine sm_lload (pc := 100) (n := 6) dX9_parts_100 ?_
    refine sm_ldivT (pc := 102) dX9_parts_102 ?_
    exact hj103.use
  · skip
    refine sm_lload (pc := 87) (n := 4) dX9_parts_87 ?_
    refine sm_lload (pc := 89) (n := 6) dX9_parts_89 ?_
    refine sm_ldivT (pc := 91) dX9_parts_91 ?_
    refine sm_goto (pc := 92) (tgt := 103) dX9_parts_92 (by decide) ?_
    exact hj103.use
noncomputable def bX9_partsv_47 {d : Nat} (P : zP d) : zK d := (xild 3 (xpI 2 (xbinN zremR (xjoin (bX9_partsv_68 P) (fun j68 => (xif0S teqR rlEq rhEq rlNe rhNe (xaldV 0 (xild 1 (xild 2 (xcV 25 3 0 0 (zstr f_X9_ordinarySumv) j68)))) (xaldV 0 (xild 1 (xild 2 (xcV 25 3 0 0 (zstr f_X9_modularSumv) j68))))))))))
set_option maxRecDepth 100000 in
set_option maxHeartbeats 4000000 in
theorem sbX9_partsv_47 {d : Nat} [zGh] (P : zP d) : zSim X_X9_parts 3 P 47 (bX9_partsv_47 P) := by
  unfold bX9_partsv_47
  refine sm_iload_n (pc := 47) (n := 3) dX9_parts_47 rfl ?_
  refine sm_iconst (pc := 48) dX9_parts_48 zc_i_2 ?_
  refine sm_iremR (pc := 49) dX9_parts_49 ?_
  refine sm_joinJ (pc := 50) (pc' := 68) (j := 1) (fun G0 hG0 => @sbX9_partsv_68 d G0 P) (fun j68 hj68 => ?_)
  refine sm_ifS_ne (pc := 50) (tgt := 62) dX9_parts_50 (by decide) ?_ ?_
  · skip
    refine sm_aloadV_n (pc := 62) (n := 0) dX9_parts_62 rfl ?_
    refine sm_iload_n (pc := 63) (n := 1) dX9_parts_63 rfl ?_
    refine sm_iload_n (pc := 64) (n := 2) dX9_parts_64 rfl ?_
    refine sm_cV (pc := 65) (ci := 9) (n := 3) (mc := 0) (ms := 0) rfl (zMet_str m_X9_modularSumv) (cr_X9_332 (X := X_X9_parts) (fr := 3) (frc := 1) (pc := 65) (mc := 0) (ms := 0) rfl (by decide) dX9_parts_65) ?_
    exact hj68.use
  · skip
    refine sm_aloadV_n (pc := 53) (n := 0) dX9_parts_53 rfl ?_
    refine sm_iload_n (pc := 54) (n := 1) dX9_parts_54 rfl ?_
    refine sm_iload_n (pc := 55) (n := 2) dX9_parts_55 rfl ?_
    refine sm_cV (pc := 56) (ci := 9) (n := 3) (mc := 0) (ms := 0) rfl (zMet_str m_X9_ordinarySumv) (cr_X9_328 (X := X_X9_parts) (fr := 3) (frc := 1) (pc := 56) (mc := 0) (ms := 0) rfl (by decide) dX9_parts_56) ?_
    refine sm_goto (pc := 59) (tgt := 68) dX9_parts_59 (by decide) ?_
    exact hj68.use
noncomputable def b_X9_partsv {d : Nat} (P : zP d) : zK d := (xild 1 (xcS 1 0 0 (zstr f_X9_isSlota) (xjoin (bX9_partsv_43 P) (fun j43 => (xif0S teqR rlEq rhEq rlNe rhNe j43 (xaldV 0 (xild 2 (xcV 25 2 0 0 (zstr f_X9_isParta) (xif0S teqR rlEq rhEq rlNe rhNe j43 (xild 3 (xi2lR (xpL 0 (xpL 3 (xcS 3 0 0 (zstr f_X9_isIna) (xif0S teqR rlEq rhEq rlNe rhNe j43 (xild 3 (xpI 2 (xbinN zremR (xpI 1 (xjoin (bX9_partsv_47 P) (fun j47 => (xcmpS teqR rlEq rhEq rlNe rhNe (xaldV 0 (xgfR 25 7 (xild 2 (xalQ 1 (xif0S teqR rlEq rhEq rlNe rhNe j43 j47))))) j47))))))))))))))))))))))
set_option maxRecDepth 100000 in
set_option maxHeartbeats 4000000 in
theorem s_X9_partsv {d : Nat} [zGh] (P : zP d) : zSim X_X9_parts 3 P 0 (b_X9_partsv P) := by
  unfold b_X9_partsv
  refine sm_iload_n (pc := 0) (n := 1) dX9_parts_0 rfl ?_
  refine sm_cS (pc := 1) (n := 1) (mc := 0) (ms := 0) (zMet_str m_X9_isSlota) (cr_X9_319 (X := X_X9_parts) (fr := 3) (frc := 2) (pc := 1) (mc := 0) (ms := 0) rfl (by decide) dX9_parts_1) ?_
  refine sm_joinJ (pc := 4) (pc' := 43) (j := 1) (fun G0 hG0 => @sbX9_partsv_43 d G0 P) (fun j43 hj43 => ?_)
  refine sm_ifS_eq (pc := 4) (tgt := 43) dX9_parts_4 (by decide) ?_ ?_
  · skip
    exact hj43.use
  · skip
    refine sm_aloadV_n (pc := 7) (n := 0) dX9_parts_7 rfl ?_
    refine sm_iload_n (pc := 8) (n := 2) dX9_parts_8 rfl ?_
    refine sm_cV (pc := 9) (ci := 9) (n := 2) (mc := 0) (ms := 0) rfl (zMet_str m_X9_isParta) (cr_X9_287 (X := X_X9_parts) (fr := 3) (frc := 2) (pc := 9) (mc := 0) (ms := 0) rfl (by decide) dX9_parts_9) ?_
    refine sm_ifS_eq (pc := 12) (tgt := 43) dX9_parts_12 (by decide) ?_ ?_
    · skip
      exact hj43.use
    · skip
      refine sm_iload_n (pc := 15) (n := 3) dX9_parts_15 rfl ?_
      refine sm_i2lR (pc := 16) dX9_parts_16 ?_
      refine sm_lconst (pc := 17) dX9_parts_17 zc_l_0 ?_
      refine sm_ldc2 (pc := 18) dX9_parts_18 wd_1316 zc_cl_3 ?_
      refine sm_cS (pc := 21) (n := 3) (mc := 0) (ms := 0) (zMet_str m_X9_isIna) (cr_X9_283 (X := X_X9_parts) (fr := 3) (frc := 1) (pc := 21) (mc := 0) (ms := 0) rfl (by decide) dX9_parts_21) ?_
      refine sm_ifS_eq (pc := 24) (tgt := 43) dX9_parts_24 (by decide) ?_ ?_
      · skip
        exact hj43.use
      · skip
        refine sm_iload_n (pc := 27) (n := 3) dX9_parts_27 rfl ?_
        refine sm_iconst (pc := 28) dX9_parts_28 zc_i_2 ?_
        refine sm_iremR (pc := 29) dX9_parts_29 ?_
        refine sm_iconst (pc := 30) dX9_parts_30 zc_i_1 ?_
        refine sm_joinJ (pc := 31) (pc' := 47) (j := 1) (fun G0 hG0 => @sbX9_partsv_47 d G0 P) (fun j47 hj47 => ?_)
        refine sm_icmpS_ne (pc := 31) (tgt := 47) dX9_parts_31 (by decide) ?_ ?_
        · skip
          exact hj47.use
        · skip
          refine sm_aloadV_n (pc := 34) (n := 0) dX9_parts_34 rfl ?_
          refine gf_X9_22 (pc := 35) rfl dX9_parts_35 ?_
          refine sm_iload_n (pc := 38) (n := 2) dX9_parts_38 rfl ?_
          refine sm_baloadQ (pc := 39) dX9_parts_39 ?_
          refine sm_ifS_ne (pc := 40) (tgt := 47) dX9_parts_40 (by decide) ?_ ?_
          · skip
            exact hj47.use
          · skip
            exact hj43.use
noncomputable def f_X9_partsv {d : Nat} : List zV → zH d → zP d → Bool := zfn 8 (b_X9_partsv )
theorem m_X9_partsv {d : Nat} : zMet (d := d) X_X9_parts yX9_parts 3 (f_X9_partsv ) := zmet_mk (X := X_X9_parts) (by decide) rfl rfl (fun P => s_X9_partsv P)

noncomputable def bX9_innerv_14 {d : Nat} (P : zP d) : zK d := (xpL 18446744073709551615 (xlret P))
set_option maxRecDepth 100000 in
set_option maxHeartbeats 4000000 in
theorem sbX9_innerv_14 {d : Nat} [zGh] (P : zP d) : zSim X_X9_inner 3 P 14 (bX9_innerv_14 P) := by
  unfold bX9_innerv_14
  refine sm_ldc2 (pc := 14) dX9_inner_14 wd_1332 zc_cl_m1 ?_
  exact sm_lreturn (pc := 17) dX9_inner_17 rfl
noncomputable def cX9_innerv_62 {d : Nat} (P : zP d) (r23 : zK d) : zK d := (xild 5 (xalQ 0 (xi2lR (xbinj zmulj (xbinj zaddj (xlst 3 (xincR 5 1 r23)))))))
set_option maxRecDepth 100000 in
set_option maxHeartbeats 4000000 in
theorem scX9_innerv_62 {d : Nat} [zGh] (P : zP d) (r23 : zK d) (hr23 : zSimJ 1 X_X9_inner 3 P 23 r23) : zSim X_X9_inner 3 P 62 (cX9_innerv_62 P r23) := by
  unfold cX9_innerv_62
  refine sm_iload (pc := 62) (n := 5) dX9_inner_62 ?_
  refine sm_ialoadQ (pc := 64) dX9_inner_64 ?_
  refine sm_i2lR (pc := 65) dX9_inner_65 ?_
  refine sm_lmul (pc := 66) dX9_inner_66 ?_
  refine sm_ladd (pc := 67) dX9_inner_67 ?_
  refine sm_lstore_n (pc := 68) (n := 3) dX9_inner_68 rfl ?_
  refine sm_iincR (pc := 69) (n := 5) dX9_inner_69 zc_i_1 ?_
  refine sm_goto (pc := 72) (tgt := 23) dX9_inner_72 (by decide) ?_
  exact hr23.use
noncomputable def lX9_innerv_23 {d : Nat} (P : zP d) (r23 : zK d) : zK d := (xild 5 (xaldV 0 (xgfI 25 2 (xcmpS tgeR rlGe rhS rlS rhLt (xlld 3 (xlret P)) (xlld 3 (xaldV 0 (xgfR 25 43 (xpI 11 (xild 1 (xbin zmulR (xild 5 (xbin zaddR (xlalB (xaldV 0 (xgfR 25 43 (xpI 11 (xild 2 (xbin zmulR (xild 5 (xbin zaddR (xlalB (xbinj zmulj (xaldV 0 (xgfR 25 5 (cX9_innerv_62 P r23)))))))))))))))))))))))))
set_option maxRecDepth 100000 in
set_option maxHeartbeats 4000000 in
theorem slX9_innerv_23 {d : Nat} [zGh] (P : zP d) (r23 : zK d) (hr23 : zSimJ 1 X_X9_inner 3 P 23 r23) : zSim X_X9_inner 3 P 23 (lX9_innerv_23 P r23) := by
  unfold lX9_innerv_23
  refine sm_iload (pc := 23) (n := 5) dX9_inner_23 ?_
  refine sm_aloadV_n (pc := 25) (n := 0) dX9_inner_25 rfl ?_
  refine gf_X9_153 (pc := 26) rfl dX9_inner_26 ?_
  refine sm_icmpS_ge (pc := 29) (tgt := 75) dX9_inner_29 (by decide) ?_ ?_
  · skip
    refine sm_lload_n (pc := 75) (n := 3) dX9_inner_75 rfl ?_
    exact sm_lreturn (pc := 76) dX9_inner_76 rfl
  · skip
    refine sm_lload_n (pc := 32) (n := 3) dX9_inner_32 rfl ?_
    refine sm_aloadV_n (pc := 33) (n := 0) dX9_inner_33 rfl ?_
    refine gf_X9_115 (pc := 34) rfl dX9_inner_34 ?_
    refine sm_bipush (pc := 37) dX9_inner_37 zc_b_11 ?_
    refine sm_iload_n (pc := 39) (n := 1) dX9_inner_39 rfl ?_
    refine sm_imulR (pc := 40) dX9_inner_40 ?_
    refine sm_iload (pc := 41) (n := 5) dX9_inner_41 ?_
    refine sm_iaddR (pc := 43) dX9_inner_43 ?_
    refine sm_laloadB (pc := 44) dX9_inner_44 ?_
    refine sm_aloadV_n (pc := 45) (n := 0) dX9_inner_45 rfl ?_
    refine gf_X9_115 (pc := 46) rfl dX9_inner_46 ?_
    refine sm_bipush (pc := 49) dX9_inner_49 zc_b_11 ?_
    refine sm_iload_n (pc := 51) (n := 2) dX9_inner_51 rfl ?_
    refine sm_imulR (pc := 52) dX9_inner_52 ?_
    refine sm_iload (pc := 53) (n := 5) dX9_inner_53 ?_
    refine sm_iaddR (pc := 55) dX9_inner_55 ?_
    refine sm_laloadB (pc := 56) dX9_inner_56 ?_
    refine sm_lmul (pc := 57) dX9_inner_57 ?_
    refine sm_aloadV_n (pc := 58) (n := 0) dX9_inner_58 rfl ?_
    refine gf_X9_16 (pc := 59) rfl dX9_inner_59 ?_
    exact scX9_innerv_62 P r23 hr23
noncomputable def b_X9_innerv {d : Nat} (P : zP d) : zK d := (xild 1 (xcS 1 0 0 (zstr f_X9_isSlota) (xjoin (bX9_innerv_14 P) (fun j14 => (xif0S teqR rlEq rhEq rlNe rhNe j14 (xild 2 (xcS 1 0 0 (zstr f_X9_isSlota) (xif0S teqR rlEq rhEq rlNe rhNe j14 (xpL 0 (xlst 3 (xpI 0 (xist 5 (xloop (fun r23 => (lX9_innerv_23 P r23)) 100000)))))))))))))
set_option maxRecDepth 100000 in
set_option maxHeartbeats 4000000 in
theorem s_X9_innerv {d : Nat} [zGh] (P : zP d) : zSim X_X9_inner 3 P 0 (b_X9_innerv P) := by
  unfold b_X9_innerv
  refine sm_iload_n (pc := 0) (n := 1) dX9_inner_0 rfl ?_
  refine sm_cS (pc := 1) (n := 1) (mc := 0) (ms := 0) (zMet_str m_X9_isSlota) (cr_X9_319 (X := X_X9_inner) (fr := 3) (frc := 2) (pc := 1) (mc := 0) (ms := 0) rfl (by decide) dX9_inner_1) ?_
  refine sm_joinJ (pc := 4) (pc' := 14) (j := 1) (fun G0 hG0 => @sbX9_innerv_14 d G0 P) (fun j14 hj14 => ?_)
  refine sm_ifS_eq (pc := 4) (tgt := 14) dX9_inner_4 (by decide) ?_ ?_
  · skip
    exact hj14.use
  · skip
    refine sm_iload_n (pc := 7) (n := 2) dX9_inner_7 rfl ?_
    refine sm_cS (pc := 8) (n := 1) (mc := 0) (ms := 0) (zMet_str m_X9_isSlota) (cr_X9_319 (X := X_X9_inner) (fr := 3) (frc := 2) (pc := 8) (mc := 0) (ms := 0) rfl (by decide) dX9_inner_8) ?_
    refine sm_ifS_ne (pc := 11) (tgt := 18) dX9_inner_11 (by decide) ?_ ?_
    · skip
      refine sm_lconst (pc := 18) dX9_inner_18 zc_l_0 ?_
      refine sm_lstore_n (pc := 19) (n := 3) dX9_inner_19 rfl ?_
      refine sm_iconst (pc := 20) dX9_inner_20 zc_i_0 ?_
      refine sm_istore (pc := 21) (n := 5) dX9_inner_21 ?_
      exact (sm_loopJ (j := 1) (fun G1 hG1 r23 hr23 => @slX9_innerv_23 d G1 P r23 hr23) _).use
    · skip
      exact hj14.use
noncomputable def f_X9_innerv {d : Nat} : List zV → zH d → zP d → Bool := zfn 6 (b_X9_innerv )
theorem m_X9_innerv {d : Nat} : zMet (d := d) X_X9_inner yX9_inner 3 (f_X9_innerv ) := zmet_mk (X := X_X9_inner) (by decide) rfl rfl (fun P => s_X9_innerv P)

noncomputable def bX9_kindv_19 {d : Nat} (P : zP d) : zK d := (xpI 4294967295 (xiret P))
set_option maxRecDepth 100000 in
set_option maxHeartbeats 4000000 in
theorem sbX9_kindv_19 {d : Nat} [zGh] (P : zP d) : zSim X_X9_kind 3 P 19 (bX9_kindv_19 P) := by
  unfold bX9_kindv_19
  refine sm_iconst (pc := 19) dX9_kind_19 zc_i_m1 ?_
  exact sm_ireturn (pc := 20) dX9_kind_20 rfl
noncomputable def bX9_kindv_105 {d : Nat} (P : zP d) (r60 : zK d) : zK d := (xist 3 (xincR 4 1 r60))
set_option maxRecDepth 100000 in
set_option maxHeartbeats 4000000 in
theorem sbX9_kindv_105 {d : Nat} [zGh] (P : zP d) (r60 : zK d) (hr60 : zSimJ 1 X_X9_kind 3 P 60 r60) : zSim X_X9_kind 3 P 105 (bX9_kindv_105 P r60) := by
  unfold bX9_kindv_105
  refine sm_istore_n (pc := 105) (n := 3) dX9_kind_105 rfl ?_
  refine sm_iincR (pc := 106) (n := 4) dX9_kind_106 zc_i_1 ?_
  refine sm_goto (pc := 109) (tgt := 60) dX9_kind_109 (by decide) ?_
  exact hr60.use
noncomputable def bX9_kindv_104 {d : Nat} (P : zP d) (j105 : zK d) : zK d := (xpI 0 j105)
set_option maxRecDepth 100000 in
set_option maxHeartbeats 4000000 in
theorem sbX9_kindv_104 {d : Nat} [zGh] (P : zP d) (j105 : zK d) (hj105 : zSimJ 1 X_X9_kind 3 P 105 j105) : zSim X_X9_kind 3 P 104 (bX9_kindv_104 P j105) := by
  unfold bX9_kindv_104
  refine sm_iconst (pc := 104) dX9_kind_104 zc_i_0 ?_
  exact hj105.use
noncomputable def bX9_kindv_100 {d : Nat} (P : zP d) (j105 : zK d) : zK d := (xpI 1 j105)
set_option maxRecDepth 100000 in
set_option maxHeartbeats 4000000 in
theorem sbX9_kindv_100 {d : Nat} [zGh] (P : zP d) (j105 : zK d) (hj105 : zSimJ 1 X_X9_kind 3 P 105 j105) : zSim X_X9_kind 3 P 100 (bX9_kindv_100 P j105) := by
  unfold bX9_kindv_100
  refine sm_iconst (pc := 100) dX9_kind_100 zc_i_1 ?_
  refine sm_goto (pc := 101) (tgt := 105) dX9_kind_101 (by decide) ?_
  exact hj105.use
noncomputable def lX9_kindv_60 {d : Nat} (P : zP d) (r60 : zK d) : zK d := (xild 4 (xaldV 0 (xgfI 25 2 (xcmpS tgeR rlGe rhS rlS rhLt (xild 3 (xcS 1 0 0 (zstr f_X9_one) (xiret P))) (xild 3 (xjn wkE (zsp [zI 4294967298] 1) (bX9_kindv_105 P r60) (fun j105 => (xjoin (bX9_kindv_104 P j105) (fun j104 => (xif0S teqR rlEq rhEq rlNe rhNe j104 (xaldV 0 (xgfR 25 8 (xild 4 (xalQ 1 (xjoin (bX9_kindv_100 P j105) (fun j100 => (xif0S teqR rlEq rhEq rlNe rhNe (xaldV 0 (xgfR 25 43 (xpI 11 (xild 1 (xbin zmulR (xild 4 (xbin zaddR (xlalB (xpL 0 (xlcmpR (xif0S teqR rlEq rhEq rlNe rhNe j100 j104))))))))))) j100)))))))))))))))))
set_option maxRecDepth 100000 in
set_option maxHeartbeats 4000000 in
theorem slX9_kindv_60 {d : Nat} [zGh] (P : zP d) (r60 : zK d) (hr60 : zSimJ 1 X_X9_kind 3 P 60 r60) : zSim X_X9_kind 3 P 60 (lX9_kindv_60 P r60) := by
  unfold lX9_kindv_60
  refine sm_iload (pc := 60) (n := 4) dX9_kind_60 ?_
  refine sm_aloadV_n (pc := 62) (n := 0) dX9_kind_62 rfl ?_
  refine gf_X9_153 (pc := 63) rfl dX9_kind_63 ?_
  refine sm_icmpS_ge (pc := 66) (tgt := 112) dX9_kind_66 (by decide) ?_ ?_
  · skip
    refine sm_iload_n (pc := 112) (n := 3) dX9_kind_112 rfl ?_
    refine sm_cS (pc := 113) (n := 1) (mc := 0) (ms := 0) (zMet_str m_X9_one) (cr_X9_187 (X := X_X9_kind) (fr := 3) (frc := 1) (pc := 113) (mc := 0) (ms := 0) rfl (by decide) dX9_kind_113) ?_
    exact sm_ireturn (pc := 116) dX9_kind_116 rfl
  · skip
    refine sm_iload_n (pc := 69) (n := 3) dX9_kind_69 rfl ?_
    refine sm_jn (pc := 70) (pc' := 105) (j := 1) wkE_ok (zsp_ok _ _) (fun G0 hG0 => @sbX9_kindv_105 d G0 P r60 (hr60.mv hG0 (by decide))) (fun j105 hj105 => ?_)
    refine sm_joinJ (pc := 70) (pc' := 104) (j := 1) (fun G0 hG0 => @sbX9_kindv_104 d G0 P j105 (hj105.mv hG0 (by decide))) (fun j104 hj104 => ?_)
    refine sm_ifS_eq (pc := 70) (tgt := 104) dX9_kind_70 (by decide) ?_ ?_
    · skip
      exact hj104.use
    · skip
      refine sm_aloadV_n (pc := 73) (n := 0) dX9_kind_73 rfl ?_
      refine gf_X9_26 (pc := 74) rfl dX9_kind_74 ?_
      refine sm_iload (pc := 77) (n := 4) dX9_kind_77 ?_
      refine sm_baloadQ (pc := 79) dX9_kind_79 ?_
      refine sm_joinJ (pc := 80) (pc' := 100) (j := 1) (fun G0 hG0 => @sbX9_kindv_100 d G0 P j105 (hj105.mv hG0 (by decide))) (fun j100 hj100 => ?_)
      refine sm_ifS_ne (pc := 80) (tgt := 100) dX9_kind_80 (by decide) ?_ ?_
      · skip
        exact hj100.use
      · skip
        refine sm_aloadV_n (pc := 83) (n := 0) dX9_kind_83 rfl ?_
        refine gf_X9_115 (pc := 84) rfl dX9_kind_84 ?_
        refine sm_bipush (pc := 87) dX9_kind_87 zc_b_11 ?_
        refine sm_iload_n (pc := 89) (n := 1) dX9_kind_89 rfl ?_
        refine sm_imulR (pc := 90) dX9_kind_90 ?_
        refine sm_iload (pc := 91) (n := 4) dX9_kind_91 ?_
        refine sm_iaddR (pc := 93) dX9_kind_93 ?_
        refine sm_laloadB (pc := 94) dX9_kind_94 ?_
        refine sm_lconst (pc := 95) dX9_kind_95 zc_l_0 ?_
        refine sm_lcmpR (pc := 96) dX9_kind_96 ?_
        refine sm_ifS_ne (pc := 97) (tgt := 104) dX9_kind_97 (by decide) ?_ ?_
        · skip
          exact hj104.use
        · skip
          exact hj100.use
noncomputable def bX9_kindv_48 {d : Nat} (P : zP d) : zK d := (xcV 25 4 0 0 (zstr f_X9_areWholev) (xcS 1 0 0 (zstr f_X9_one) (xiret P)))
set_option maxRecDepth 100000 in
set_option maxHeartbeats 4000000 in
theorem sbX9_kindv_48 {d : Nat} [zGh] (P : zP d) : zSim X_X9_kind 3 P 48 (bX9_kindv_48 P) := by
  unfold bX9_kindv_48
  refine sm_cV (pc := 48) (ci := 9) (n := 4) (mc := 0) (ms := 0) rfl (zMet_str m_X9_areWholev) (cr_X9_343 (X := X_X9_kind) (fr := 3) (frc := 2) (pc := 48) (mc := 0) (ms := 0) rfl (by decide) dX9_kind_48) ?_
  refine sm_cS (pc := 51) (n := 1) (mc := 0) (ms := 0) (zMet_str m_X9_one) (cr_X9_187 (X := X_X9_kind) (fr := 3) (frc := 1) (pc := 51) (mc := 0) (ms := 0) rfl (by decide) dX9_kind_51) ?_
  exact sm_ireturn (pc := 54) dX9_kind_54 rfl
noncomputable def bX9_kindv_37 {d : Nat} (P : zP d) : zK d := (xild 2 (xpI 2 (xbinN zremR (xjoin (bX9_kindv_48 P) (fun j48 => (xif0S teqR rlEq rhEq rlNe rhNe (xpI 1 j48) (xpI 0 j48)))))))
set_option maxRecDepth 100000 in
set_option maxHeartbeats 4000000 in
theorem sbX9_kindv_37 {d : Nat} [zGh] (P : zP d) : zSim X_X9_kind 3 P 37 (bX9_kindv_37 P) := by
  unfold bX9_kindv_37
  refine sm_iload_n (pc := 37) (n := 2) dX9_kind_37 rfl ?_
  refine sm_iconst (pc := 38) dX9_kind_38 zc_i_2 ?_
  refine sm_iremR (pc := 39) dX9_kind_39 ?_
  refine sm_joinJ (pc := 40) (pc' := 48) (j := 1) (fun G0 hG0 => @sbX9_kindv_48 d G0 P) (fun j48 hj48 => ?_)
  refine sm_ifS_ne (pc := 40) (tgt := 47) dX9_kind_40 (by decide) ?_ ?_
  · skip
    refine sm_iconst (pc := 47) dX9_kind_47 zc_i_0 ?_
    exact hj48.use
  · skip
    refine sm_iconst (pc := 43) dX9_kind_43 zc_i_1 ?_
    refine sm_goto (pc := 44) (tgt := 48) dX9_kind_44 (by decide) ?_
    exact hj48.use
noncomputable def b_X9_kindv {d : Nat} (P : zP d) : zK d := (xild 1 (xcS 1 0 0 (zstr f_X9_isSlota) (xjoin (bX9_kindv_19 P) (fun j19 => (xif0S teqR rlEq rhEq rlNe rhNe j19 (xild 2 (xi2lR (xpL 0 (xpL 4 (xcS 3 0 0 (zstr f_X9_isIna) (xif0S teqR rlEq rhEq rlNe rhNe j19 (xild 2 (xif0S tleR rlS rhLe rlGt rhS (xpI 1 (xist 3 (xpI 0 (xist 4 (xloop (fun r60 => (lX9_kindv_60 P r60)) 100000))))) (xaldV 0 (xild 1 (xild 2 (xpI 2 (xjoin (bX9_kindv_37 P) (fun j37 => (xcmpS tleR rlS rhLe rlGt rhS (xpI 0 j37) (xpI 1 j37)))))))))))))))))))))
set_option maxRecDepth 100000 in
set_option maxHeartbeats 4000000 in
theorem s_X9_kindv {d : Nat} [zGh] (P : zP d) : zSim X_X9_kind 3 P 0 (b_X9_kindv P) := by
  unfold b_X9_kindv
  refine sm_iload_n (pc := 0) (n := 1) dX9_kind_0 rfl ?_
  refine sm_cS (pc := 1) (n := 1) (mc := 0) (ms := 0) (zMet_str m_X9_isSlota) (cr_X9_319 (X := X_X9_kind) (fr := 3) (frc := 2) (pc := 1) (mc := 0) (ms := 0) rfl (by decide) dX9_kind_1) ?_
  refine sm_joinJ (pc := 4) (pc' := 19) (j := 1) (fun G0 hG0 => @sbX9_kindv_19 d G0 P) (fun j19 hj19 => ?_)
  refine sm_ifS_eq (pc := 4) (tgt := 19) dX9_kind_4 (by decide) ?_ ?_
  · skip
    exact hj19.use
  · skip
    refine sm_iload_n (pc := 7) (n := 2) dX9_kind_7 rfl ?_
    refine sm_i2lR (pc := 8) dX9_kind_8 ?_
    refine sm_lconst (pc := 9) dX9_kind_9 zc_l_0 ?_
    refine sm_ldc2 (pc := 10) dX9_kind_10 wd_1337 zc_cl_4 ?_
    refine sm_cS (pc := 13) (n := 3) (mc := 0) (ms := 0) (zMet_str m_X9_isIna) (cr_X9_283 (X := X_X9_kind) (fr := 3) (frc := 1) (pc := 13) (mc := 0) (ms := 0) rfl (by decide) dX9_kind_13) ?_
    refine sm_ifS_ne (pc := 16) (tgt := 21) dX9_kind_16 (by decide) ?_ ?_
    · skip
      refine sm_iload_n (pc := 21) (n := 2) dX9_kind_21 rfl ?_
      refine sm_ifS_le (pc := 22) (tgt := 55) dX9_kind_22 (by decide) ?_ ?_
      · skip
        refine sm_iconst (pc := 55) dX9_kind_55 zc_i_1 ?_
        refine sm_istore_n (pc := 56) (n := 3) dX9_kind_56 rfl ?_
        refine sm_iconst (pc := 57) dX9_kind_57 zc_i_0 ?_
        refine sm_istore (pc := 58) (n := 4) dX9_kind_58 ?_
        exact (sm_loopJ (j := 1) (fun G1 hG1 r60 hr60 => @slX9_kindv_60 d G1 P r60 hr60) _).use
      · skip
        refine sm_aloadV_n (pc := 25) (n := 0) dX9_kind_25 rfl ?_
        refine sm_iload_n (pc := 26) (n := 1) dX9_kind_26 rfl ?_
        refine sm_iload_n (pc := 27) (n := 2) dX9_kind_27 rfl ?_
        refine sm_iconst (pc := 28) dX9_kind_28 zc_i_2 ?_
        refine sm_joinJ (pc := 29) (pc' := 37) (j := 1) (fun G0 hG0 => @sbX9_kindv_37 d G0 P) (fun j37 hj37 => ?_)
        refine sm_icmpS_le (pc := 29) (tgt := 36) dX9_kind_29 (by decide) ?_ ?_
        · skip
          refine sm_iconst (pc := 36) dX9_kind_36 zc_i_0 ?_
          exact hj37.use
        · skip
          refine sm_iconst (pc := 32) dX9_kind_32 zc_i_1 ?_
          refine sm_goto (pc := 33) (tgt := 37) dX9_kind_33 (by decide) ?_
          exact hj37.use
    · skip
      exact hj19.use
noncomputable def f_X9_kindv {d : Nat} : List zV → zH d → zP d → Bool := zfn 5 (b_X9_kindv )
theorem m_X9_kindv {d : Nat} : zMet (d := d) X_X9_kind yX9_kind 3 (f_X9_kindv ) := zmet_mk (X := X_X9_kind) (by decide) rfl rfl (fun P => s_X9_kindv P)

noncomputable def bX9_cutv_40 {d : Nat} (P : zP d) : zK d := (xpI 4294967295 (xiret P))
set_option maxRecDepth 100000 in
set_option maxHeartbeats 4000000 in
theorem sbX9_cutv_40 {d : Nat} [zGh] (P : zP d) : zSim X_X9_cut 3 P 40 (bX9_cutv_40 P) := by
  unfold bX9_cutv_40
  refine sm_iconst (pc := 40) dX9_cut_40 zc_i_m1 ?_
  exact sm_ireturn (pc := 41) dX9_cut_41 rfl
noncomputable def lX9_cutv_163 {d : Nat} (P : zP d) (r163 : zK d) : zK d := (xild 4 (xaldV 0 (xgfI 25 2 (xcmpS tgeR rlGe rhS rlS rhLt (xpI 0 (xiret P)) (xaldV 0 (xgfR 25 43 (xpI 11 (xild 3 (xbin zmulR (xild 4 (xbin zaddR (xaldV 0 (xgfR 25 44 (xild 4 (xlalB (xlasB (xincR 4 1 r163)))))))))))))))))
set_option maxRecDepth 100000 in
set_option maxHeartbeats 4000000 in
theorem slX9_cutv_163 {d : Nat} [zGh] (P : zP d) (r163 : zK d) (hr163 : zSimJ 1 X_X9_cut 3 P 163 r163) : zSim X_X9_cut 3 P 163 (lX9_cutv_163 P r163) := by
  unfold lX9_cutv_163
  refine sm_iload (pc := 163) (n := 4) dX9_cut_163 ?_
  refine sm_aloadV_n (pc := 165) (n := 0) dX9_cut_165 rfl ?_
  refine gf_X9_153 (pc := 166) rfl dX9_cut_166 ?_
  refine sm_icmpS_ge (pc := 169) (tgt := 197) dX9_cut_169 (by decide) ?_ ?_
  · skip
    refine sm_iconst (pc := 197) dX9_cut_197 zc_i_0 ?_
    exact sm_ireturn (pc := 198) dX9_cut_198 rfl
  · skip
    refine sm_aloadV_n (pc := 172) (n := 0) dX9_cut_172 rfl ?_
    refine gf_X9_115 (pc := 173) rfl dX9_cut_173 ?_
    refine sm_bipush (pc := 176) dX9_cut_176 zc_b_11 ?_
    refine sm_iload_n (pc := 178) (n := 3) dX9_cut_178 rfl ?_
    refine sm_imulR (pc := 179) dX9_cut_179 ?_
    refine sm_iload (pc := 180) (n := 4) dX9_cut_180 ?_
    refine sm_iaddR (pc := 182) dX9_cut_182 ?_
    refine sm_aloadV_n (pc := 183) (n := 0) dX9_cut_183 rfl ?_
    refine gf_X9_118 (pc := 184) rfl dX9_cut_184 ?_
    refine sm_iload (pc := 187) (n := 4) dX9_cut_187 ?_
    refine sm_laloadB (pc := 189) dX9_cut_189 ?_
    refine sm_lastoreB (pc := 190) dX9_cut_190 ?_
    refine sm_iincR (pc := 191) (n := 4) dX9_cut_191 zc_i_1 ?_
    refine sm_goto (pc := 194) (tgt := 163) dX9_cut_194 (by decide) ?_
    exact hr163.use
noncomputable def bX9_cutv_154 {d : Nat} (P : zP d) (r71 : zK d) : zK d := (xincR 4 1 r71)
set_option maxRecDepth 100000 in
set_option maxHeartbeats 4000000 in
theorem sbX9_cutv_154 {d : Nat} [zGh] (P : zP d) (r71 : zK d) (hr71 : zSimJ 1 X_X9_cut 3 P 71 r71) : zSim X_X9_cut 3 P 154 (bX9_cutv_154 P r71) := by
  unfold bX9_cutv_154
  refine sm_iincR (pc := 154) (n := 4) dX9_cut_154 zc_i_1 ?_
  refine sm_goto (pc := 157) (tgt := 71) dX9_cut_157 (by decide) ?_
  exact hr71.use
noncomputable def lX9_cutv_112 {d : Nat} (P : zP d) (j154 : zK d) (r112 : zK d) : zK d := (xild 7 (xaldV 0 (xgfI 25 2 (xcmpS tgeR rlGe rhS rlS rhLt j154 (xaldV 0 (xgfR 25 44 (xild 7 (xdup2V (xlalB (xlld 5 (xaldV 0 (xgfR 25 14 (xpI 11 (xild 4 (xbin zmulR (xild 7 (xbin zaddR (xalQ 0 (xi2lR (xbinj zmulj (xbinj zaddj (xlas (xincR 7 1 r112)))))))))))))))))))))))
set_option maxRecDepth 100000 in
set_option maxHeartbeats 4000000 in
theorem slX9_cutv_112 {d : Nat} [zGh] (P : zP d) (j154 : zK d) (r112 : zK d) (hj154 : zSimJ 1 X_X9_cut 3 P 154 j154) (hr112 : zSimJ 1 X_X9_cut 3 P 112 r112) : zSim X_X9_cut 3 P 112 (lX9_cutv_112 P j154 r112) := by
  unfold lX9_cutv_112
  refine sm_iload (pc := 112) (n := 7) dX9_cut_112 ?_
  refine sm_aloadV_n (pc := 114) (n := 0) dX9_cut_114 rfl ?_
  refine gf_X9_153 (pc := 115) rfl dX9_cut_115 ?_
  refine sm_icmpS_ge (pc := 118) (tgt := 154) dX9_cut_118 (by decide) ?_ ?_
  · skip
    exact hj154.use
  · skip
    refine sm_aloadV_n (pc := 121) (n := 0) dX9_cut_121 rfl ?_
    refine gf_X9_118 (pc := 122) rfl dX9_cut_122 ?_
    refine sm_iload (pc := 125) (n := 7) dX9_cut_125 ?_
    refine sm_dup2V (pc := 127) dX9_cut_127 ?_
    refine sm_laloadB (pc := 128) dX9_cut_128 ?_
    refine sm_lload (pc := 129) (n := 5) dX9_cut_129 ?_
    refine sm_aloadV_n (pc := 131) (n := 0) dX9_cut_131 rfl ?_
    refine gf_X9_38 (pc := 132) rfl dX9_cut_132 ?_
    refine sm_bipush (pc := 135) dX9_cut_135 zc_b_11 ?_
    refine sm_iload (pc := 137) (n := 4) dX9_cut_137 ?_
    refine sm_imulR (pc := 139) dX9_cut_139 ?_
    refine sm_iload (pc := 140) (n := 7) dX9_cut_140 ?_
    refine sm_iaddR (pc := 142) dX9_cut_142 ?_
    refine sm_ialoadQ (pc := 143) dX9_cut_143 ?_
    refine sm_i2lR (pc := 144) dX9_cut_144 ?_
    refine sm_lmul (pc := 145) dX9_cut_145 ?_
    refine sm_ladd (pc := 146) dX9_cut_146 ?_
    refine sm_lastore (pc := 147) dX9_cut_147 ?_
    refine sm_iincR (pc := 148) (n := 7) dX9_cut_148 zc_i_1 ?_
    refine sm_goto (pc := 151) (tgt := 112) dX9_cut_151 (by decide) ?_
    exact hr112.use
noncomputable def lX9_cutv_71 {d : Nat} (P : zP d) (r71 : zK d) : zK d := (xild 4 (xaldV 0 (xgfI 25 2 (xcmpS tgeR rlGe rhS rlS rhLt (xpI 0 (xist 4 (xloop (fun r163 => (lX9_cutv_163 P r163)) 100000))) (xaldV 0 (xgfR 25 17 (xild 4 (xalQ 0 (xild 2 (xjoin (bX9_cutv_154 P r71) (fun j154 => (xcmpS teqR rlEq rhEq rlNe rhNe (xaldV 0 (xild 1 (xild 4 (xcV 25 3 0 0 (zstr f_X9_ordinarySumv) (xaldV 0 (xgfI 25 12 (xi2lR (xbinjN zdivj (xlst 5 (xpI 0 (xist 7 (xloop (fun r112 => (lX9_cutv_112 P j154 r112)) 100000)))))))))))) j154))))))))))))
set_option maxRecDepth 100000 in
set_option maxHeartbeats 4000000 in
theorem slX9_cutv_71 {d : Nat} [zGh] (P : zP d) (r71 : zK d) (hr71 : zSimJ 1 X_X9_cut 3 P 71 r71) : zSim X_X9_cut 3 P 71 (lX9_cutv_71 P r71) := by
  unfold lX9_cutv_71
  refine sm_iload (pc := 71) (n := 4) dX9_cut_71 ?_
  refine sm_aloadV_n (pc := 73) (n := 0) dX9_cut_73 rfl ?_
  refine gf_X9_153 (pc := 74) rfl dX9_cut_74 ?_
  refine sm_icmpS_ge (pc := 77) (tgt := 160) dX9_cut_77 (by decide) ?_ ?_
  · skip
    refine sm_iconst (pc := 160) dX9_cut_160 zc_i_0 ?_
    refine sm_istore (pc := 161) (n := 4) dX9_cut_161 ?_
    exact (sm_loopJ (j := 1) (fun G1 hG1 r163 hr163 => @slX9_cutv_163 d G1 P r163 hr163) _).use
  · skip
    refine sm_aloadV_n (pc := 80) (n := 0) dX9_cut_80 rfl ?_
    refine gf_X9_47 (pc := 81) rfl dX9_cut_81 ?_
    refine sm_iload (pc := 84) (n := 4) dX9_cut_84 ?_
    refine sm_ialoadQ (pc := 86) dX9_cut_86 ?_
    refine sm_iload_n (pc := 87) (n := 2) dX9_cut_87 rfl ?_
    refine sm_joinJ (pc := 88) (pc' := 154) (j := 1) (fun G0 hG0 => @sbX9_cutv_154 d G0 P r71 (hr71.mv hG0 (by decide))) (fun j154 hj154 => ?_)
    refine sm_icmpS_eq (pc := 88) (tgt := 94) dX9_cut_88 (by decide) ?_ ?_
    · skip
      refine sm_aloadV_n (pc := 94) (n := 0) dX9_cut_94 rfl ?_
      refine sm_iload_n (pc := 95) (n := 1) dX9_cut_95 rfl ?_
      refine sm_iload (pc := 96) (n := 4) dX9_cut_96 ?_
      refine sm_cV (pc := 98) (ci := 9) (n := 3) (mc := 0) (ms := 0) rfl (zMet_str m_X9_ordinarySumv) (cr_X9_328 (X := X_X9_cut) (fr := 3) (frc := 1) (pc := 98) (mc := 0) (ms := 0) rfl (by decide) dX9_cut_98) ?_
      refine sm_aloadV_n (pc := 101) (n := 0) dX9_cut_101 rfl ?_
      refine gf_X9_166 (pc := 102) rfl dX9_cut_102 ?_
      refine sm_i2lR (pc := 105) dX9_cut_105 ?_
      refine sm_ldiv (pc := 106) dX9_cut_106 ?_
      refine sm_lstore (pc := 107) (n := 5) dX9_cut_107 ?_
      refine sm_iconst (pc := 109) dX9_cut_109 zc_i_0 ?_
      refine sm_istore (pc := 110) (n := 7) dX9_cut_110 ?_
      exact (sm_loopJ (j := 1) (fun G1 hG1 r112 hr112 => @slX9_cutv_112 d G1 P j154 r112 (hj154.mv hG1 (by decide)) hr112) _).use
    · skip
      refine sm_goto (pc := 91) (tgt := 154) dX9_cut_91 (by decide) ?_
      exact hj154.use
noncomputable def lX9_cutv_45 {d : Nat} (P : zP d) (r45 : zK d) : zK d := (xild 4 (xaldV 0 (xgfI 25 2 (xcmpS tgeR rlGe rhS rlS rhLt (xpI 0 (xist 4 (xloop (fun r71 => (lX9_cutv_71 P r71)) 100000))) (xaldV 0 (xgfR 25 44 (xild 4 (xpL 0 (xlas (xincR 4 1 r45))))))))))
set_option maxRecDepth 100000 in
set_option maxHeartbeats 4000000 in
theorem slX9_cutv_45 {d : Nat} [zGh] (P : zP d) (r45 : zK d) (hr45 : zSimJ 1 X_X9_cut 3 P 45 r45) : zSim X_X9_cut 3 P 45 (lX9_cutv_45 P r45) := by
  unfold lX9_cutv_45
  refine sm_iload (pc := 45) (n := 4) dX9_cut_45 ?_
  refine sm_aloadV_n (pc := 47) (n := 0) dX9_cut_47 rfl ?_
  refine gf_X9_153 (pc := 48) rfl dX9_cut_48 ?_
  refine sm_icmpS_ge (pc := 51) (tgt := 68) dX9_cut_51 (by decide) ?_ ?_
  · skip
    refine sm_iconst (pc := 68) dX9_cut_68 zc_i_0 ?_
    refine sm_istore (pc := 69) (n := 4) dX9_cut_69 ?_
    exact (sm_loopJ (j := 1) (fun G1 hG1 r71 hr71 => @slX9_cutv_71 d G1 P r71 hr71) _).use
  · skip
    refine sm_aloadV_n (pc := 54) (n := 0) dX9_cut_54 rfl ?_
    refine gf_X9_118 (pc := 55) rfl dX9_cut_55 ?_
    refine sm_iload (pc := 58) (n := 4) dX9_cut_58 ?_
    refine sm_lconst (pc := 60) dX9_cut_60 zc_l_0 ?_
    refine sm_lastore (pc := 61) dX9_cut_61 ?_
    refine sm_iincR (pc := 62) (n := 4) dX9_cut_62 zc_i_1 ?_
    refine sm_goto (pc := 65) (tgt := 45) dX9_cut_65 (by decide) ?_
    exact hr45.use
noncomputable def b_X9_cutv {d : Nat} (P : zP d) : zK d := (xild 1 (xcS 1 0 0 (zstr f_X9_isSlota) (xjoin (bX9_cutv_40 P) (fun j40 => (xif0S teqR rlEq rhEq rlNe rhNe j40 (xild 3 (xcS 1 0 0 (zstr f_X9_isSlota) (xif0S teqR rlEq rhEq rlNe rhNe j40 (xild 2 (xi2lR (xpL 0 (xaldV 0 (xgfI 25 18 (xpI 1 (xbin zsubR (xi2lR (xcS 3 0 0 (zstr f_X9_isIna) (xif0S teqR rlEq rhEq rlNe rhNe j40 (xaldV 0 (xild 1 (xpI 0 (xpI 0 (xcV 25 4 0 0 (zstr f_X9_areWholev) (xif0S teqR rlEq rhEq rlNe rhNe j40 (xpI 0 (xist 4 (xloop (fun r45 => (lX9_cutv_45 P r45)) 100000)))))))))))))))))))))))))))
set_option maxRecDepth 100000 in
set_option maxHeartbeats 4000000 in
theorem s_X9_cutv {d : Nat} [zGh] (P : zP d) : zSim X_X9_cut 3 P 0 (b_X9_cutv P) := by
  unfold b_X9_cutv
  refine sm_iload_n (pc := 0) (n := 1) dX9_cut_0 rfl ?_
  refine sm_cS (pc := 1) (n := 1) (mc := 0) (ms := 0) (zMet_str m_X9_isSlota) (cr_X9_319 (X := X_X9_cut) (fr := 3) (frc := 2) (pc := 1) (mc := 0) (ms := 0) rfl (by decide) dX9_cut_1) ?_
  refine sm_joinJ (pc := 4) (pc' := 40) (j := 1) (fun G0 hG0 => @sbX9_cutv_40 d G0 P) (fun j40 hj40 => ?_)
  refine sm_ifS_eq (pc := 4) (tgt := 40) dX9_cut_4 (by decide) ?_ ?_
  · skip
    exact hj40.use
  · skip
    refine sm_iload_n (pc := 7) (n := 3) dX9_cut_7 rfl ?_
    refine sm_cS (pc := 8) (n := 1) (mc := 0) (ms := 0) (zMet_str m_X9_isSlota) (cr_X9_319 (X := X_X9_cut) (fr := 3) (frc := 2) (pc := 8) (mc := 0) (ms := 0) rfl (by decide) dX9_cut_8) ?_
    refine sm_ifS_eq (pc := 11) (tgt := 40) dX9_cut_11 (by decide) ?_ ?_
    · skip
      exact hj40.use
    · skip
      refine sm_iload_n (pc := 14) (n := 2) dX9_cut_14 rfl ?_
      refine sm_i2lR (pc := 15) dX9_cut_15 ?_
      refine sm_lconst (pc := 16) dX9_cut_16 zc_l_0 ?_
      refine sm_aloadV_n (pc := 17) (n := 0) dX9_cut_17 rfl ?_
      refine gf_X9_199 (pc := 18) rfl dX9_cut_18 ?_
      refine sm_iconst (pc := 21) dX9_cut_21 zc_i_1 ?_
      refine sm_isubR (pc := 22) dX9_cut_22 ?_
      refine sm_i2lR (pc := 23) dX9_cut_23 ?_
      refine sm_cS (pc := 24) (n := 3) (mc := 0) (ms := 0) (zMet_str m_X9_isIna) (cr_X9_283 (X := X_X9_cut) (fr := 3) (frc := 1) (pc := 24) (mc := 0) (ms := 0) rfl (by decide) dX9_cut_24) ?_
      refine sm_ifS_eq (pc := 27) (tgt := 40) dX9_cut_27 (by decide) ?_ ?_
      · skip
        exact hj40.use
      · skip
        refine sm_aloadV_n (pc := 30) (n := 0) dX9_cut_30 rfl ?_
        refine sm_iload_n (pc := 31) (n := 1) dX9_cut_31 rfl ?_
        refine sm_iconst (pc := 32) dX9_cut_32 zc_i_0 ?_
        refine sm_iconst (pc := 33) dX9_cut_33 zc_i_0 ?_
        refine sm_cV (pc := 34) (ci := 9) (n := 4) (mc := 0) (ms := 0) rfl (zMet_str m_X9_areWholev) (cr_X9_343 (X := X_X9_cut) (fr := 3) (frc := 2) (pc := 34) (mc := 0) (ms := 0) rfl (by decide) dX9_cut_34) ?_
        refine sm_ifS_ne (pc := 37) (tgt := 42) dX9_cut_37 (by decide) ?_ ?_
        · skip
          refine sm_iconst (pc := 42) dX9_cut_42 zc_i_0 ?_
          refine sm_istore (pc := 43) (n := 4) dX9_cut_43 ?_
          exact (sm_loopJ (j := 1) (fun G1 hG1 r45 hr45 => @slX9_cutv_45 d G1 P r45 hr45) _).use
        · skip
          exact hj40.use
noncomputable def f_X9_cutv {d : Nat} : List zV → zH d → zP d → Bool := zfn 8 (b_X9_cutv )
theorem m_X9_cutv {d : Nat} : zMet (d := d) X_X9_cut yX9_cut 3 (f_X9_cutv ) := zmet_mk (X := X_X9_cut) (by decide) rfl rfl (fun P => s_X9_cutv P)

noncomputable def bX9_lookv_187 {d : Nat} (P : zP d) : zK d := (xpI 4294967295 (xiret P))
set_option maxRecDepth 100000 in
set_option maxHeartbeats 4000000 in
theorem sbX9_lookv_187 {d : Nat} [zGh] (P : zP d) : zSim X_X9_look 2 P 187 (bX9_lookv_187 P) := by
  unfold bX9_lookv_187
  refine sm_iconst (pc := 187) dX9_look_187 zc_i_m1 ?_
  exact sm_ireturn (pc := 188) dX9_look_188 rfl
noncomputable def bX9_lookv_148 {d : Nat} (P : zP d) : zK d := (xaldV 0 (xgfI 25 0 (xiret P)))
set_option maxRecDepth 100000 in
set_option maxHeartbeats 4000000 in
theorem sbX9_lookv_148 {d : Nat} [zGh] (P : zP d) : zSim X_X9_look 2 P 148 (bX9_lookv_148 P) := by
  unfold bX9_lookv_148
  refine sm_aloadV_n (pc := 148) (n := 0) dX9_look_148 rfl ?_
  refine gf_X9_169 (pc := 149) rfl dX9_look_149 ?_
  exact sm_ireturn (pc := 152) dX9_look_152 rfl
noncomputable def bX9_lookv_153 {d : Nat} (P : zP d) : zK d := (xaldV 0 (xgfI 25 1 (xiret P)))
set_option maxRecDepth 100000 in
set_option maxHeartbeats 4000000 in
theorem sbX9_lookv_153 {d : Nat} [zGh] (P : zP d) : zSim X_X9_look 2 P 153 (bX9_lookv_153 P) := by
  unfold bX9_lookv_153
  refine sm_aloadV_n (pc := 153) (n := 0) dX9_look_153 rfl ?_
  refine gf_X9_184 (pc := 154) rfl dX9_look_154 ?_
  exact sm_ireturn (pc := 157) dX9_look_157 rfl
noncomputable def bX9_lookv_158 {d : Nat} (P : zP d) : zK d := (xaldV 0 (xgfI 25 2 (xiret P)))
set_option maxRecDepth 100000 in
set_option maxHeartbeats 4000000 in
theorem sbX9_lookv_158 {d : Nat} [zGh] (P : zP d) : zSim X_X9_look 2 P 158 (bX9_lookv_158 P) := by
  unfold bX9_lookv_158
  refine sm_aloadV_n (pc := 158) (n := 0) dX9_look_158 rfl ?_
  refine gf_X9_153 (pc := 159) rfl dX9_look_159 ?_
  exact sm_ireturn (pc := 162) dX9_look_162 rfl
noncomputable def bX9_lookv_163 {d : Nat} (P : zP d) : zK d := (xaldV 0 (xgfI 25 11 (xiret P)))
set_option maxRecDepth 100000 in
set_option maxHeartbeats 4000000 in
theorem sbX9_lookv_163 {d : Nat} [zGh] (P : zP d) : zSim X_X9_look 2 P 163 (bX9_lookv_163 P) := by
  unfold bX9_lookv_163
  refine sm_aloadV_n (pc := 163) (n := 0) dX9_look_163 rfl ?_
  refine gf_X9_172 (pc := 164) rfl dX9_look_164 ?_
  exact sm_ireturn (pc := 167) dX9_look_167 rfl
noncomputable def bX9_lookv_168 {d : Nat} (P : zP d) : zK d := (xaldV 0 (xgfI 25 18 (xiret P)))
set_option maxRecDepth 100000 in
set_option maxHeartbeats 4000000 in
theorem sbX9_lookv_168 {d : Nat} [zGh] (P : zP d) : zSim X_X9_look 2 P 168 (bX9_lookv_168 P) := by
  unfold bX9_lookv_168
  refine sm_aloadV_n (pc := 168) (n := 0) dX9_look_168 rfl ?_
  refine gf_X9_199 (pc := 169) rfl dX9_look_169 ?_
  exact sm_ireturn (pc := 172) dX9_look_172 rfl
noncomputable def bX9_lookv_173 {d : Nat} (P : zP d) : zK d := (xaldV 0 (xgfI 25 12 (xiret P)))
set_option maxRecDepth 100000 in
set_option maxHeartbeats 4000000 in
theorem sbX9_lookv_173 {d : Nat} [zGh] (P : zP d) : zSim X_X9_look 2 P 173 (bX9_lookv_173 P) := by
  unfold bX9_lookv_173
  refine sm_aloadV_n (pc := 173) (n := 0) dX9_look_173 rfl ?_
  refine gf_X9_166 (pc := 174) rfl dX9_look_174 ?_
  exact sm_ireturn (pc := 177) dX9_look_177 rfl
noncomputable def bX9_lookv_178 {d : Nat} (P : zP d) : zK d := (xaldV 0 (xgfI 25 46 (xiret P)))
set_option maxRecDepth 100000 in
set_option maxHeartbeats 4000000 in
theorem sbX9_lookv_178 {d : Nat} [zGh] (P : zP d) : zSim X_X9_look 2 P 178 (bX9_lookv_178 P) := by
  unfold bX9_lookv_178
  refine sm_aloadV_n (pc := 178) (n := 0) dX9_look_178 rfl ?_
  refine gf_X9_347 (pc := 179) rfl dX9_look_179 ?_
  exact sm_ireturn (pc := 182) dX9_look_182 rfl
noncomputable def bX9_lookv_183 {d : Nat} (P : zP d) : zK d := (xild 2 (xiret P))
set_option maxRecDepth 100000 in
set_option maxHeartbeats 4000000 in
theorem sbX9_lookv_183 {d : Nat} [zGh] (P : zP d) : zSim X_X9_look 2 P 183 (bX9_lookv_183 P) := by
  unfold bX9_lookv_183
  refine sm_iload_n (pc := 183) (n := 2) dX9_look_183 rfl ?_
  exact sm_ireturn (pc := 184) dX9_look_184 rfl
noncomputable def bX9_lookv_185 {d : Nat} (P : zP d) : zK d := (xild 3 (xiret P))
set_option maxRecDepth 100000 in
set_option maxHeartbeats 4000000 in
theorem sbX9_lookv_185 {d : Nat} [zGh] (P : zP d) : zSim X_X9_look 2 P 185 (bX9_lookv_185 P) := by
  unfold bX9_lookv_185
  refine sm_iload_n (pc := 185) (n := 3) dX9_look_185 rfl ?_
  exact sm_ireturn (pc := 186) dX9_look_186 rfl
noncomputable def bX9_lookv_87 {d : Nat} (P : zP d) (r57 : zK d) : zK d := (xcS 1 0 0 (zstr f_X9_one) (xbin zaddR (xist 3 (xincR 4 1 r57))))
set_option maxRecDepth 100000 in
set_option maxHeartbeats 4000000 in
theorem sbX9_lookv_87 {d : Nat} [zGh] (P : zP d) (r57 : zK d) (hr57 : zSimJ 1 X_X9_look 2 P 57 r57) : zSim X_X9_look 2 P 87 (bX9_lookv_87 P r57) := by
  unfold bX9_lookv_87
  refine sm_cS (pc := 87) (n := 1) (mc := 0) (ms := 0) (zMet_str m_X9_one) (cr_X9_187 (X := X_X9_look) (fr := 2) (frc := 1) (pc := 87) (mc := 0) (ms := 0) rfl (by decide) dX9_look_87) ?_
  refine sm_iaddR (pc := 90) dX9_look_90 ?_
  refine sm_istore_n (pc := 91) (n := 3) dX9_look_91 rfl ?_
  refine sm_iincR (pc := 92) (n := 4) dX9_look_92 zc_i_1 ?_
  refine sm_goto (pc := 95) (tgt := 57) dX9_look_95 (by decide) ?_
  exact hr57.use
noncomputable def lX9_lookv_57 {d : Nat} (P : zP d) (r57 : zK d) : zK d := (xild 4 (xaldV 0 (xgfI 25 18 (xcmpS tgeR rlGe rhS rlS rhLt (xild 1 (xtswR 8 [(bX9_lookv_148 P), (bX9_lookv_153 P), (bX9_lookv_158 P), (bX9_lookv_163 P), (bX9_lookv_168 P), (bX9_lookv_173 P), (bX9_lookv_178 P), (bX9_lookv_183 P), (bX9_lookv_185 P)] (bX9_lookv_187 P))) (xild 3 (xaldV 0 (xgfR 25 15 (xaldV 0 (xgfR 25 19 (xild 4 (xalQ 0 (xalQ 0 (xjoin (bX9_lookv_87 P r57) (fun j87 => (xif0S teqR rlEq rhEq rlNe rhNe (xpI 1 j87) (xpI 0 j87))))))))))))))))
set_option maxRecDepth 100000 in
set_option maxHeartbeats 4000000 in
theorem slX9_lookv_57 {d : Nat} [zGh] (P : zP d) (r57 : zK d) (hr57 : zSimJ 1 X_X9_look 2 P 57 r57) : zSim X_X9_look 2 P 57 (lX9_lookv_57 P r57) := by
  unfold lX9_lookv_57
  refine sm_iload (pc := 57) (n := 4) dX9_look_57 ?_
  refine sm_aloadV_n (pc := 59) (n := 0) dX9_look_59 rfl ?_
  refine gf_X9_199 (pc := 60) rfl dX9_look_60 ?_
  refine sm_icmpS_ge (pc := 63) (tgt := 98) dX9_look_63 (by decide) ?_ ?_
  · skip
    refine sm_iload_n (pc := 98) (n := 1) dX9_look_98 rfl ?_
    exact sm_tswR (pc := 99) (n := 8) (tdf := 187) [148, 153, 158, 163, 168, 173, 178, 183, 185] rfl (by decide) dX9_look_99 rfl (by decide +kernel) (by decide) (sbX9_lookv_187 P) ⟨sbX9_lookv_148 P, sbX9_lookv_153 P, sbX9_lookv_158 P, sbX9_lookv_163 P, sbX9_lookv_168 P, sbX9_lookv_173 P, sbX9_lookv_178 P, sbX9_lookv_183 P, sbX9_lookv_185 P, trivial⟩
  · skip
    refine sm_iload_n (pc := 66) (n := 3) dX9_look_66 rfl ?_
    refine sm_aloadV_n (pc := 67) (n := 0) dX9_look_67 rfl ?_
    refine gf_X9_41 (pc := 68) rfl dX9_look_68 ?_
    refine sm_aloadV_n (pc := 71) (n := 0) dX9_look_71 rfl ?_
    refine gf_X9_50 (pc := 72) rfl dX9_look_72 ?_
    refine sm_iload (pc := 75) (n := 4) dX9_look_75 ?_
    refine sm_ialoadQ (pc := 77) dX9_look_77 ?_
    refine sm_ialoadQ (pc := 78) dX9_look_78 ?_
    refine sm_joinJ (pc := 79) (pc' := 87) (j := 1) (fun G0 hG0 => @sbX9_lookv_87 d G0 P r57 (hr57.mv hG0 (by decide))) (fun j87 hj87 => ?_)
    refine sm_ifS_ne (pc := 79) (tgt := 86) dX9_look_79 (by decide) ?_ ?_
    · skip
      refine sm_iconst (pc := 86) dX9_look_86 zc_i_0 ?_
      exact hj87.use
    · skip
      refine sm_iconst (pc := 82) dX9_look_82 zc_i_1 ?_
      refine sm_goto (pc := 83) (tgt := 87) dX9_look_83 (by decide) ?_
      exact hj87.use
noncomputable def bX9_lookv_48 {d : Nat} (P : zP d) (r7 : zK d) : zK d := (xincR 4 1 r7)
set_option maxRecDepth 100000 in
set_option maxHeartbeats 4000000 in
theorem sbX9_lookv_48 {d : Nat} [zGh] (P : zP d) (r7 : zK d) (hr7 : zSimJ 1 X_X9_look 2 P 7 r7) : zSim X_X9_look 2 P 48 (bX9_lookv_48 P r7) := by
  unfold bX9_lookv_48
  refine sm_iincR (pc := 48) (n := 4) dX9_look_48 zc_i_1 ?_
  refine sm_goto (pc := 51) (tgt := 7) dX9_look_51 (by decide) ?_
  exact hr7.use
noncomputable def lX9_lookv_7 {d : Nat} (P : zP d) (r7 : zK d) : zK d := (xild 4 (xpI 66 (xcmpS tgeR rlGe rhS rlS rhLt (xpI 0 (xist 4 (xloop (fun r57 => (lX9_lookv_57 P r57)) 100000))) (xild 4 (xpI 11 (xbinN zremR (xaldV 0 (xgfI 25 2 (xjn (wkL 2 4294967296 wkE) (zsp [] 2) (bX9_lookv_48 P r7) (fun j48 => (xcmpS tgeR rlGe rhS rlS rhLt j48 (xaldV 0 (xgfR 25 43 (xild 4 (xlal (xpL 0 (xlcmpR (xif0S teqR rlEq rhEq rlNe rhNe j48 (xild 2 (xpI 1 (xild 4 (xpI 11 (xbinN zdivR (xbin zshl (xbin zor (xist 2 j48))))))))))))))))))))))))))
set_option maxRecDepth 100000 in
set_option maxHeartbeats 4000000 in
theorem slX9_lookv_7 {d : Nat} [zGh] (P : zP d) (r7 : zK d) (hr7 : zSimJ 1 X_X9_look 2 P 7 r7) : zSim X_X9_look 2 P 7 (lX9_lookv_7 P r7) := by
  unfold lX9_lookv_7
  refine sm_iload (pc := 7) (n := 4) dX9_look_7 ?_
  refine sm_bipush (pc := 9) dX9_look_9 zc_b_66 ?_
  refine sm_icmpS_ge (pc := 11) (tgt := 54) dX9_look_11 (by decide) ?_ ?_
  · skip
    refine sm_iconst (pc := 54) dX9_look_54 zc_i_0 ?_
    refine sm_istore (pc := 55) (n := 4) dX9_look_55 ?_
    exact (sm_loopJ (j := 1) (fun G1 hG1 r57 hr57 => @slX9_lookv_57 d G1 P r57 hr57) _).use
  · skip
    refine sm_iload (pc := 14) (n := 4) dX9_look_14 ?_
    refine sm_bipush (pc := 16) dX9_look_16 zc_b_11 ?_
    refine sm_iremR (pc := 18) dX9_look_18 ?_
    refine sm_aloadV_n (pc := 19) (n := 0) dX9_look_19 rfl ?_
    refine gf_X9_153 (pc := 20) rfl dX9_look_20 ?_
    refine sm_jn (pc := 23) (pc' := 48) (j := 1) (wkL_ok wkE_ok) (zsp_ok _ _) (fun G0 hG0 => @sbX9_lookv_48 d G0 P r7 (hr7.mv hG0 (by decide))) (fun j48 hj48 => ?_)
    refine sm_icmpS_ge (pc := 23) (tgt := 48) dX9_look_23 (by decide) ?_ ?_
    · skip
      exact hj48.use
    · skip
      refine sm_aloadV_n (pc := 26) (n := 0) dX9_look_26 rfl ?_
      refine gf_X9_115 (pc := 27) rfl dX9_look_27 ?_
      refine sm_iload (pc := 30) (n := 4) dX9_look_30 ?_
      refine sm_laload (pc := 32) dX9_look_32 ?_
      refine sm_lconst (pc := 33) dX9_look_33 zc_l_0 ?_
      refine sm_lcmpR (pc := 34) dX9_look_34 ?_
      refine sm_ifS_eq (pc := 35) (tgt := 48) dX9_look_35 (by decide) ?_ ?_
      · skip
        exact hj48.use
      · skip
        refine sm_iload_n (pc := 38) (n := 2) dX9_look_38 rfl ?_
        refine sm_iconst (pc := 39) dX9_look_39 zc_i_1 ?_
        refine sm_iload (pc := 40) (n := 4) dX9_look_40 ?_
        refine sm_bipush (pc := 42) dX9_look_42 zc_b_11 ?_
        refine sm_idivR (pc := 44) dX9_look_44 ?_
        refine sm_ishl (pc := 45) dX9_look_45 ?_
        refine sm_ior (pc := 46) dX9_look_46 ?_
        refine sm_istore_n (pc := 47) (n := 2) dX9_look_47 rfl ?_
        exact hj48.use
noncomputable def b_X9_lookv {d : Nat} (P : zP d) : zK d := (xpI 0 (xist 2 (xpI 0 (xist 3 (xpI 0 (xist 4 (xloop (fun r7 => (lX9_lookv_7 P r7)) 100000)))))))
set_option maxRecDepth 100000 in
set_option maxHeartbeats 4000000 in
theorem s_X9_lookv {d : Nat} [zGh] (P : zP d) : zSim X_X9_look 2 P 0 (b_X9_lookv P) := by
  unfold b_X9_lookv
  refine sm_iconst (pc := 0) dX9_look_0 zc_i_0 ?_
  refine sm_istore_n (pc := 1) (n := 2) dX9_look_1 rfl ?_
  refine sm_iconst (pc := 2) dX9_look_2 zc_i_0 ?_
  refine sm_istore_n (pc := 3) (n := 3) dX9_look_3 rfl ?_
  refine sm_iconst (pc := 4) dX9_look_4 zc_i_0 ?_
  refine sm_istore (pc := 5) (n := 4) dX9_look_5 ?_
  exact (sm_loopJ (j := 1) (fun G1 hG1 r7 hr7 => @slX9_lookv_7 d G1 P r7 hr7) _).use
noncomputable def f_X9_lookv {d : Nat} : List zV → zH d → zP d → Bool := zfn 5 (b_X9_lookv )
theorem m_X9_lookv {d : Nat} : zMet (d := d) X_X9_look yX9_look 2 (f_X9_lookv ) := zmet_mk (X := X_X9_look) (by decide) rfl rfl (fun P => s_X9_lookv P)
end
section
/-! regions of the numbers, by program -/
noncomputable def zlvQ : Nat → List Nat
  | 1 => [0, 1105954078720, 2361183241439117574144]
  | 2 => [0, 1, 2, 3, 4404488962048, 2361183241443412541439, 4294967295]
  | 3 => [0, 1, 2, 3304977334272, 2361183241439117574144]
  | 4 => [0, 1, 2, 3, 4, 5, 6603512217600, 2361183241443412541439, 4294967295]
  | 5 => [0, 1, 2, 3, 4, 5, 6603512217600, 2361183241439117574144]
  | 6 => [0, 1, 2, 3, 4, 5, 6, 7, 8, 9, 10, 11, 13200581984256, 2361183241439117574144]
  | 7 => [0, 1, 2, 3, 4, 5, 6, 7, 8, 9, 10, 11, 12, 13, 14, 15, 17598628495360, 2361183241443412541439, 4294967295]
  | 8 => [0, 1, 2, 3, 4, 5, 6, 7, 8, 9, 10, 11, 12, 13, 14, 15, 16, 17, 18, 19, 20, 21, 22, 23, 24, 25, 28593744773120, 2361183241439117574144]
  | _ => [4294967296]
theorem zlvQ_cv : ∀ i, zcvr (zlvQ i) 0 = true
  | 0 => by decide +kernel
  | 1 => by decide +kernel
  | 2 => by decide +kernel
  | 3 => by decide +kernel
  | 4 => by decide +kernel
  | 5 => by decide +kernel
  | 6 => by decide +kernel
  | 7 => by decide +kernel
  | 8 => by decide +kernel
  | n + 9 => by show zcvr [4294967296] 0 = true; decide +kernel
noncomputable def zlkQ (l : List (Nat × Nat)) (k : Nat) : Nat := List.rec (motive := fun _ => Nat) 0 (fun e _ r => Prod.rec (motive := fun _ => Nat) (fun a v => cond (Nat.beq k a) v r) e) l
end
section
/-! one more cut: by program -/
noncomputable def zlvR : List Nat := [0, 1, 2, 3, 4, 5, 6, 7, 8, 9, 10, 11, 12, 13, 14, 15, 16, 17, 18, 19, 20, 21, 22, 23, 24, 25, 26, 27, 28, 29, 30, 31, 35190814539776, 2361183241439117574144]
theorem zlvR_cv : zcvr zlvR 0 = true := by decide +kernel
end
section
/-! the law's walk: what all its turns stand on -/
noncomputable def zrI (r : zV) : Bool := Sum.rec (motive := fun _ => Bool) (fun _ => true) (fun _ => false) r
noncomputable def zrJ (r : zV) : Bool := Sum.rec (motive := fun _ => Bool) (fun _ => false) (fun u => Sum.rec (motive := fun _ => Bool) (fun _ => false) (fun w => Sum.rec (motive := fun _ => Bool) (fun _ => true) (fun _ => false) w) u) r
theorem zrI_t {ad : zA} {r : zV} {ov : Option Value} (h : zrI r = true) (h1 : (ov = none ∧ r = zU) ∨ ∃ x, ov = some x ∧ ∀ (_ : zGh), zRep ad r x) : ∃ i : Int32, ov = some (.int i) := by
  have G : zGh := ⟨(fun _ => 0 : Nat → Nat)⟩
  match r, h, h1 with
  | .inl a, _, h1 =>
    rcases h1 with ⟨-, h1⟩ | ⟨x, h1, hx⟩
    · cases h1
    obtain ⟨i, rfl, -⟩ := hx G
    exact ⟨i, h1⟩
theorem zrJ_t {ad : zA} {r : zV} {ov : Option Value} (h : zrJ r = true) (h1 : (ov = none ∧ r = zU) ∨ ∃ x, ov = some x ∧ ∀ (_ : zGh), zRep ad r x) : ∃ i : Int64, ov = some (.long i) := by
  have G : zGh := ⟨(fun _ => 0 : Nat → Nat)⟩
  match r, h, h1 with
  | .inr (.inr (.inl a)), _, h1 =>
    rcases h1 with ⟨-, h1⟩ | ⟨x, h1, hx⟩
    · cases h1
    obtain ⟨i, rfl, -⟩ := hx G
    exact ⟨i, h1⟩
theorem zeqI_c {ad : zA} {r : zV} {a : Nat} {ov : Option Value} (h : zeqI r (zI a) = true) (h1 : (ov = none ∧ r = zU) ∨ ∃ x, ov = some x ∧ ∀ (_ : zGh), zRep ad r x) : ∃ i : Int32, ov = some (.int i) ∧ zi i = a := by
  have G : zGh := ⟨(fun _ => 0 : Nat → Nat)⟩
  match r, h, h1 with
  | .inl b, h, h1 =>
    have h : cond (Nat.ble b 4294967295) (Nat.beq b a) false = true := h
    obtain ⟨g1, g2⟩ := zcnd_t h
    have g1 := Nat.le_of_ble_eq_true g1
    have g2 := Nat.eq_of_beq_eq_true g2
    rcases h1 with ⟨-, h1⟩ | ⟨x, h1, hx⟩
    · cases h1
    obtain ⟨i, rfl, hi⟩ := hx G
    exact ⟨i, h1, (hi.1 (by omega)).trans g2⟩
/-- calls of one to four numbers, by regions -/
def zX1 (K : Nat → Bool) : Prop := ∀ (G : zGh) (i1 : Int32), ∃ r1, @zIs G r1 i1 ∧ K r1 = true
def zX2 (K : Nat → Nat → Bool) : Prop := ∀ (G : zGh) (i1 i2 : Int32), ∃ r1 r2, @zIs G r1 i1 ∧ @zIs G r2 i2 ∧ K r1 r2 = true
def zX3 (K : Nat → Nat → Nat → Bool) : Prop := ∀ (G : zGh) (i1 i2 i3 : Int32), ∃ r1 r2 r3, @zIs G r1 i1 ∧ @zIs G r2 i2 ∧ @zIs G r3 i3 ∧ K r1 r2 r3 = true
def zX4 (K : Nat → Nat → Nat → Nat → Bool) : Prop := ∀ (G : zGh) (i1 i2 i3 i4 : Int32), ∃ r1 r2 r3 r4, @zIs G r1 i1 ∧ @zIs G r2 i2 ∧ @zIs G r3 i3 ∧ @zIs G r4 i4 ∧ K r1 r2 r3 r4 = true
theorem zX1_of {L1 : List Nat} {K : Nat → Bool} (c1 : zcvr L1 0 = true) (h : zrgs L1 K = true) : zX1 K := fun G i1 => @zrgs_i G _ _ c1 h i1
theorem zX2_of {L1 : List Nat} {L2 : Nat → List Nat} {K : Nat → Nat → Bool} (c1 : zcvr L1 0 = true) (c2 : ∀ a, zcvr (L2 a) 0 = true) (h : zrgs L1 (fun a => zrgs (L2 a) (K a)) = true) : zX2 K := fun G i1 i2 => by
  obtain ⟨r1, e1, k1⟩ := @zrgs_i G _ _ c1 h i1
  obtain ⟨r2, e2, k2⟩ := @zrgs_i G _ _ (c2 r1) k1 i2
  exact ⟨r1, r2, e1, e2, k2⟩
theorem zX3_of {L1 : List Nat} {L2 : Nat → List Nat} {L3 : Nat → Nat → List Nat} {K : Nat → Nat → Nat → Bool} (c1 : zcvr L1 0 = true) (c2 : ∀ a, zcvr (L2 a) 0 = true) (c3 : ∀ a b, zcvr (L3 a b) 0 = true) (h : zrgs L1 (fun a => zrgs (L2 a) (fun b => zrgs (L3 a b) (K a b))) = true) : zX3 K := fun G i1 i2 i3 => by
  obtain ⟨r1, e1, k1⟩ := @zrgs_i G _ _ c1 h i1
  obtain ⟨r2, e2, k2⟩ := @zrgs_i G _ _ (c2 r1) k1 i2
  obtain ⟨r3, e3, k3⟩ := @zrgs_i G _ _ (c3 r1 r2) k2 i3
  exact ⟨r1, r2, r3, e1, e2, e3, k3⟩
theorem zX4_of {L1 : List Nat} {L2 : Nat → List Nat} {L3 : Nat → Nat → List Nat} {L4 : Nat → Nat → Nat → List Nat} {K : Nat → Nat → Nat → Nat → Bool} (c1 : zcvr L1 0 = true) (c2 : ∀ a, zcvr (L2 a) 0 = true) (c3 : ∀ a b, zcvr (L3 a b) 0 = true) (c4 : ∀ a b c, zcvr (L4 a b c) 0 = true) (h : zrgs L1 (fun a => zrgs (L2 a) (fun b => zrgs (L3 a b) (fun c => zrgs (L4 a b c) (K a b c)))) = true) : zX4 K := fun G i1 i2 i3 i4 => by
  obtain ⟨r1, e1, k1⟩ := @zrgs_i G _ _ c1 h i1
  obtain ⟨r2, e2, k2⟩ := @zrgs_i G _ _ (c2 r1) k1 i2
  obtain ⟨r3, e3, k3⟩ := @zrgs_i G _ _ (c3 r1 r2) k2 i3
  obtain ⟨r4, e4, k4⟩ := @zrgs_i G _ _ (c4 r1 r2 r3) k3 i4
  exact ⟨r1, r2, r3, r4, e1, e2, e3, e4, k4⟩
/-- what holds between two turns -/
def qI (cA : Nat → ClassId) (D : va_G) (A : Nat → Prop) (H : Heap) (own : Nat → Nat) (ax am g : Nat) (w0 wR : va_W) : Prop := qC cA D A H own ax g w0 ∧ qR cA D A H own am g wR ∧ zgw wR 0 46 = zgw w0 11 1 ∧ zgw w0 11 1 ≤ 200
theorem qR_kept {cA : Nat → ClassId} {D : va_G} {A : Nat → Prop} {H H1 : Heap} {own own1 : Nat → Nat} {am g : Nat} {wR : va_W} (hfr : ∀ (d2 : Nat) (h2 : zH d2) (w2 : va_W), qB cA D A H own 1 h2 w2 → qB cA D A H1 own1 1 h2 w2) (h : qR cA D A H own am g wR) : qR cA D A H1 own1 am g wR := ⟨hfr _ _ _ h.1, h.2⟩
/-- a wrong group: nothing is looked at -/
theorem q_subC0 [G : zGh] {X Xc : zM} {yc : MethodName} {fr frc pc n : Nat} {f : List zV → zH 2 → zP 2 → Bool} {cA : Nat → ClassId} {D : va_G} {A : Nat → Prop} {MC MS : Nat} {p : Program} {l : Launch} {e : Env} {s : State} {m : MethodId} {args : Array Value} {below : List Frame} {meth : Method} {c : Code} {Q : State → Prop} {ls : Array Slot} {H : Heap} {locs : List Loc} {cells slots : Nat} {as' : List zV} {st av' : List Value} {w0 : va_W} {own : Nat → Nat} {ax g : Nat} {a : zV}
    (hg : g < 24) (hM : zMet Xc yc frc f) (run : zRun X Xc yc fr frc pc n 0 0 (qrc 8)) (Cx : zCx X cA D p s m args meth c A)
    (IC : qC cA D A H own ax g w0) (hk : f (zR 1 :: as') hs0C (fun r h => zands [zeqI r a, zsubH h hs0C]) = true)
    (hS : va_S A s.heap H locs) (hls : ls.size = X.2.2.1) (has : ∀ ad, zRepL ad as' av') (hcat : (st.map fun v => v.category).sum ≤ 8) (hn : av'.length + 1 = n) (hcb : cells ≤ MC) (hsb : slots ≤ MS)
    (kk : ∀ (w0' : va_W) (ad : zA) (r : zV) (ov : Option Value) (H1 : Heap) (locs1 : List Loc), ((ov = none ∧ r = zU) ∨ ∃ x, ov = some x ∧ ∀ (_ : zGh), zRep ad r x) → zeqI r a = true → qC cA D A H1 own ax g w0' → qMis w0' = qMis w0 → zgw w0' 11 1 = zgw w0 11 1 → (∀ (d2 : Nat) (h2 : zH d2) (w2 : va_W), qB cA D A H own 1 h2 w2 → qB cA D A H1 own 1 h2 w2) → va_S A s.heap H1 locs1 → W p l e (zRm fr MC MS) s m args below meth c H1 locs1 cells slots Q (F0 m (pc + 3) ls (ov.toList ++ st))) :
    W p l e (zRm fr MC MS) s m args below meth c H locs cells slots Q (F0 m pc ls ((.ref ax :: av').reverse ++ st)) := by
  obtain ⟨B0, hax, cur, hT, hS0⟩ := IC
  obtain ⟨e1, e0⟩ := zands_c ev_tC
  obtain ⟨e2, e0⟩ := zands_c e0
  obtain ⟨e3, e0⟩ := zands_c e0
  obtain ⟨-, e0⟩ := zands_c e0
  obtain ⟨e4, -⟩ := zands_c e0
  obtain ⟨k1, k⟩ := zands_c ev_tk
  obtain ⟨k2, k⟩ := zands_c k
  obtain ⟨k3, k⟩ := zands_c k
  obtain ⟨k4, k⟩ := zands_c k
  obtain ⟨k5, k⟩ := zands_c k
  obtain ⟨k6, k⟩ := zands_c k
  obtain ⟨k7, -⟩ := zands_c k
  have l0 : w0.length = 38 := by
    obtain ⟨⟨C0, H0⟩, -⟩ := id B0
    exact H0.1.trans hcore_n
  refine q_sub (hh := hcore) (hs0 := hs0C) (hin := hs0C) (hout := hs0C) (hb := hbC) (φ := [0, 11, 12]) hM run Cx B0 hax rfl e1 e2 (fun Ch h0 => h0) rfl rfl rfl hk (fun r h hP => (zands_c (zands_c hP).2).1) rfl e4 e3 hS hls has hcat hn hcb hsb (fun w' ws' ad r h' ov H1 locs1 hov hP B' hd' ho hi hHo hfr hS1 => ?_)
  obtain ⟨Ch', hHo⟩ := hHo
  have z2 := zgw_ref hHo (show 0 < 3 by decide) (zc3 k1 k2) (j := 6) (by decide) (by decide) rfl
  have z3 := zgw_ref hHo (show 0 < 3 by decide) (zc3 k1 k2) (j := 7) (by decide) (by decide) rfl
  obtain ⟨-, -, i, -, -, -, y1, -, y2⟩ := zgw_num hHo (show 1 < 3 by decide) (zc3 k3 k4) (j := 1) (by decide) (by decide) rfl
  have z1 := y1.trans (y2 (by rw [Nat.eq_of_beq_eq_true k7]; decide))
  rw [Nat.eq_of_beq_eq_true k5, zrvl_oc] at z2
  rw [Nat.eq_of_beq_eq_true k6, zrvl_oc] at z3
  rw [Nat.eq_of_beq_eq_true k7, zcg_gw (by decide), zgw_sub (k := 1) rfl (by omega)] at z1
  have hsame : qSame w0 w' := ⟨fun k hk => zgw_of (ho 1 (q_no rfl)), fun j hj => zgw_of (ho 2 (q_no rfl)), ?_, ?_, zgw_of (ho 13 (q_no rfl)), zgw_of (ho 13 (q_no rfl))⟩
  · exact kk w' ad r ov H1 locs1 hov (zands_c hP).1 ⟨B', hd', qSame_cur hg hsame cur, qT_kept hsame (fun d2 z2 h2 w2 hz B2 => hfr d2 z2 h2 w2 (by omega) B2) hT, qS_kept hsame (fun d2 z2 h2 w2 hz B2 => hfr d2 z2 h2 w2 (by omega) B2) hS0⟩ (qSame_mis hsame) ((zgw_of (hi 1 11 rfl)).trans z1) (fun d2 h2 w2 B2 => hfr d2 1 h2 w2 (by decide) B2) hS1
  · rw [zgw_of (hi 0 0 rfl), z2]
    show zcg cA (zsubw [0, 11, 12] w0) (zoc 0 6) = _
    rw [zcg_gw (by decide), zgw_sub (k := 0) rfl (by omega)]
  · rw [zgw_of (hi 0 0 rfl), z3]
    show zcg cA (zsubw [0, 11, 12] w0) (zoc 0 7) = _
    rw [zcg_gw (by decide), zgw_sub (k := 0) rfl (by omega)]
theorem q_subR0 [G : zGh] {X Xc : zM} {yc : MethodName} {fr frc pc n : Nat} {f : List zV → zH 1 → zP 1 → Bool} {cA : Nat → ClassId} {D : va_G} {A : Nat → Prop} {MC MS : Nat} {p : Program} {l : Launch} {e : Env} {s : State} {m : MethodId} {args : Array Value} {below : List Frame} {meth : Method} {c : Code} {Q : State → Prop} {ls : Array Slot} {H : Heap} {locs : List Loc} {cells slots : Nat} {as' : List zV} {st av' : List Value} {w : va_W} {own : Nat → Nat} {am g : Nat} {a : zV}
    (hg : g < 24) (hM : zMet Xc yc frc f) (run : zRun X Xc yc fr frc pc n 0 0 (qrc 9)) (Cx : zCx X cA D p s m args meth c A)
    (IR : qR cA D A H own am g w) (hk : f (zR 1 :: as') hs0R (fun r h => zands [zeqI r a, zsubH h hs0R]) = true) (hob : zsubH hs0R hbR = true)
    (hS : va_S A s.heap H locs) (hls : ls.size = X.2.2.1) (has : ∀ ad, zRepL ad as' av') (hcat : (st.map fun v => v.category).sum ≤ 8) (hn : av'.length + 1 = n) (hcb : cells ≤ MC) (hsb : slots ≤ MS)
    (kk : ∀ (w' : va_W) (ad : zA) (r : zV) (ov : Option Value) (H1 : Heap) (locs1 : List Loc), ((ov = none ∧ r = zU) ∨ ∃ x, ov = some x ∧ ∀ (_ : zGh), zRep ad r x) → zeqI r a = true → qR cA D A H1 own am g w' → zgw w' 0 46 = zgw w 0 46 → (∀ (d2 z2 : Nat) (h2 : zH d2) (w2 : va_W), z2 ≠ 1 → qB cA D A H own z2 h2 w2 → qB cA D A H1 own z2 h2 w2) → va_S A s.heap H1 locs1 → W p l e (zRm fr MC MS) s m args below meth c H1 locs1 cells slots Q (F0 m (pc + 3) ls (ov.toList ++ st))) :
    W p l e (zRm fr MC MS) s m args below meth c H locs cells slots Q (F0 m pc ls ((.ref am :: av').reverse ++ st)) := by
  obtain ⟨B0, hax⟩ := IR
  obtain ⟨e1, e0⟩ := zands_c (zall_t ev_tR g hg)
  obtain ⟨e2, e0⟩ := zands_c e0
  obtain ⟨e3, -⟩ := zands_c e0
  have l0 : 0 < w.length := by
    obtain ⟨en, h⟩ := hax
    exact Nat.lt_of_le_of_lt (Nat.zero_le _) (List.getElem?_eq_some_iff.mp h).1
  obtain ⟨-, k⟩ := zands_c ev_tk
  obtain ⟨-, k⟩ := zands_c k
  obtain ⟨-, k⟩ := zands_c k
  obtain ⟨-, k⟩ := zands_c k
  obtain ⟨-, k⟩ := zands_c k
  obtain ⟨-, k⟩ := zands_c k
  obtain ⟨-, k⟩ := zands_c k
  obtain ⟨k3, k⟩ := zands_c k
  obtain ⟨k4, k⟩ := zands_c k
  obtain ⟨k5, -⟩ := zands_c k
  refine q_sub (hh := hRf g) (hs0 := hs0R) (hin := hs0R) (hout := hs0R) (hb := hbR) (φ := [0, 37]) hM run Cx B0 hax rfl e1 e2 (fun Ch h0 => h0) rfl rfl rfl hk (fun r h hP => (zands_c (zands_c hP).2).1) rfl hob e3 hS hls has hcat hn hcb hsb (fun w' ws' ad r h' ov H1 locs1 hov hP B' hd' ho hi hHo hfr hS1 => ?_)
  obtain ⟨Ch', hHo⟩ := hHo
  obtain ⟨-, -, i, -, -, -, y1, -, y2⟩ := zgw_num hHo (show 0 < 2 by decide) (zc3 k3 k4) (j := 46) (by decide) (by decide) rfl
  have z1 := y1.trans (y2 (by rw [Nat.eq_of_beq_eq_true k5]; decide))
  rw [Nat.eq_of_beq_eq_true k5, zcg_gw (by decide), zgw_sub (k := 0) rfl l0] at z1
  exact kk w' ad r ov H1 locs1 hov (zands_c hP).1 ⟨B', hd'⟩ ((zgw_of (hi 0 0 rfl)).trans z1) hfr hS1
section LAWW
variable {p : Program} {l : Launch} {e : Env} {R R' : Room} {s : State} {m : MethodId} {args : Array Value} {below : List Frame} {meth : Method} {c : Code} {H : Heap} {locs : List Loc} {cells slots : Nat} {Q : State → Prop}
theorem W_room {g : JFrame} (h1 : R.frames ≤ R'.frames) (h2 : R.cells ≤ R'.cells) (h3 : R.slots ≤ R'.slots) (h4 : R.locals ≤ R'.locals) (k : W p l e R s m args below meth c H locs cells slots Q g) : W p l e R' s m args below meth c H locs cells slots Q g := by
  intro T hT X
  refine k T hT ⟨X.admits, X.cas, X.clock, X.frames, ?_, X.hears, X.method, X.code, X.here, X.tail, X.warmed, X.limits, X.bytes, X.same⟩
  have hr := X.room
  simp only [State.hasRoom, Bool.and_eq_true, decide_eq_true_eq] at hr ⊢
  obtain ⟨⟨⟨⟨r1, r2, r3, r4, r5, r6⟩, r7⟩, r8⟩, r9⟩ := hr
  exact ⟨⟨⟨⟨by omega, by omega, by omega, by omega, by omega, r6⟩, by omega⟩, by omega⟩, r9⟩
/-- a number of the script -/
theorem lw_argk {pc b i0 j k0 k3 L : Nat} {kc : Int} {xs : Nat → Int32} {ls : Array Slot} {lv : List (Nat × Value)} {rest : List Value} (d1 : decode code pc = .ok (.aload_n 0, 1)) (d2 : decode code (pc + 1) = .ok (.iload_n 3, 1)) (d3 : decode code (pc + 2) = .ok (.iconst kc, 1)) (d4 : decode code (pc + 3) = .ok (.iadd, 1)) (d5 : decode code (pc + 4) = .ok (.iaload, 1)) (hj : Int32.ofInt kc = nI j) (hL : i0 + j < L) (hLm : L ≤ 3072) (hx : p.tables.exec = Jvm.exec) (hb : c.code = code) (hX : va_X b L xs s s.heap) (hbl : b < s.heap.size) (hS : va_S (fun q => s.heap.size ≤ q) s.heap H locs) (hl : lv_has ls 4 lv) (h0 : lv[k0]? = some (0, .ref b)) (h3 : lv[k3]? = some (3, .int (nI i0)))
    (kk : W p l e R s m args below meth c H locs cells slots Q (F0 m (pc + 5) ls (.int (xs (i0 + j)) :: rest))) : W p l e R s m args below meth c H locs cells slots Q (F0 m pc ls rest) := by
  refine lv_aload_n hx hb d1 rfl (lv_at hl k0 h0) ?_
  refine lv_iload_n hx hb d2 rfl (lv_at hl k3 h3) ?_
  refine lv_iconst hx hb d3 rfl ?_
  refine lv_iadd hx hb d4 ?_
  rw [hj, nI_add]
  refine va_sld hx hb hX hbl (Nat.not_le.mpr hbl) hS (vp_in_nI hL (by omega)) d5 ?_
  rw [nI_clamp (by omega)]
  exact kk
end LAWW
end
section
/-! the class by summaries, by program -/
noncomputable def bX4_fillWaysa_210 {d : Nat} (self : List zV → zH d → zP d → Bool) (P : zP d) (r87 : zK d) : zK d := (xincR 5 1 r87)
set_option maxRecDepth 100000 in
set_option maxHeartbeats 4000000 in
theorem sbX4_fillWaysa_210 {d : Nat} [zGh] (n : Nat) (self : List zV → zH d → zP d → Bool) (hself : zMet X_X4_fillWays yX4_fillWays (1 + n) self) (P : zP d) (r87 : zK d) (hr87 : zSimJ 2 X_X4_fillWays (1 + (n + 1)) P 87 r87) : zSim X_X4_fillWays (1 + (n + 1)) P 210 (bX4_fillWaysa_210 self P r87) := by
  unfold bX4_fillWaysa_210
  refine sm_iincR (pc := 210) (n := 5) dX4_fillWays_210 zc_i_1 ?_
  refine sm_goto (pc := 213) (tgt := 87) dX4_fillWays_213 (by decide) ?_
  exact hr87.use
noncomputable def bX4_fillWaysa_192 {d : Nat} (self : List zV → zH d → zP d → Bool) (P : zP d) (j210 : zK d) : zK d := (xcV 20 4 0 0 self (xald 0 (xgfR 20 15 (xild 2 (xdup2 (xalQ 0 (xpI 1 (xild 5 (xbin zshl (xpI 4294967295 (xbin zxor (xbin zandR (xasQ 0 (fun v => v) j210)))))))))))))
set_option maxRecDepth 100000 in
set_option maxHeartbeats 4000000 in
theorem sbX4_fillWaysa_192 {d : Nat} [zGh] (n : Nat) (self : List zV → zH d → zP d → Bool) (hself : zMet X_X4_fillWays yX4_fillWays (1 + n) self) (P : zP d) (j210 : zK d) (hj210 : zSimJ 2 X_X4_fillWays (1 + (n + 1)) P 210 j210) : zSim X_X4_fillWays (1 + (n + 1)) P 192 (bX4_fillWaysa_192 self P j210) := by
  unfold bX4_fillWaysa_192
  refine sm_cV (pc := 192) (ci := 4) (n := 4) (mc := 0) (ms := 0) rfl hself (cr_X4_76 (X := X_X4_fillWays) (fr := 1 + (n + 1)) (frc := 1 + n) (pc := 192) (mc := 0) (ms := 0) rfl (by omega) dX4_fillWays_192) ?_
  refine sm_aload_n (pc := 195) (n := 0) dX4_fillWays_195 rfl ?_
  refine gf_X4_45 (pc := 196) rfl dX4_fillWays_196 ?_
  refine sm_iload_n (pc := 199) (n := 2) dX4_fillWays_199 rfl ?_
  refine sm_dup2 (pc := 200) dX4_fillWays_200 ?_
  refine sm_ialoadQ (pc := 201) dX4_fillWays_201 ?_
  refine sm_iconst (pc := 202) dX4_fillWays_202 zc_i_1 ?_
  refine sm_iload (pc := 203) (n := 5) dX4_fillWays_203 ?_
  refine sm_ishl (pc := 205) dX4_fillWays_205 ?_
  refine sm_iconst (pc := 206) dX4_fillWays_206 zc_i_m1 ?_
  refine sm_ixor (pc := 207) dX4_fillWays_207 ?_
  refine sm_iandR (pc := 208) dX4_fillWays_208 ?_
  refine sm_iastoreQ (pc := 209) dX4_fillWays_209 ?_
  exact hj210.use
noncomputable def bX4_fillWaysa_179 {d : Nat} (self : List zV → zH d → zP d → Bool) (P : zP d) (j210 : zK d) : zK d := (xild 6 (xpI 2 (xbinN zremR (xjoin (bX4_fillWaysa_192 self P j210) (fun j192 => (xif0S teqR rlEq rhEq rlNe rhNe (xild 3 j192) (xild 3 (xun zneg j192))))))))
set_option maxRecDepth 100000 in
set_option maxHeartbeats 4000000 in
theorem sbX4_fillWaysa_179 {d : Nat} [zGh] (n : Nat) (self : List zV → zH d → zP d → Bool) (hself : zMet X_X4_fillWays yX4_fillWays (1 + n) self) (P : zP d) (j210 : zK d) (hj210 : zSimJ 2 X_X4_fillWays (1 + (n + 1)) P 210 j210) : zSim X_X4_fillWays (1 + (n + 1)) P 179 (bX4_fillWaysa_179 self P j210) := by
  unfold bX4_fillWaysa_179
  refine sm_iload (pc := 179) (n := 6) dX4_fillWays_179 ?_
  refine sm_iconst (pc := 181) dX4_fillWays_181 zc_i_2 ?_
  refine sm_iremR (pc := 182) dX4_fillWays_182 ?_
  refine sm_joinJ (pc := 183) (pc' := 192) (j := 2) (fun G0 hG0 => @sbX4_fillWaysa_192 d G0 n self hself P j210 (hj210.mv hG0 (by decide))) (fun j192 hj192 => ?_)
  refine sm_ifS_ne (pc := 183) (tgt := 190) dX4_fillWays_183 (by decide) ?_ ?_
  · skip
    refine sm_iload_n (pc := 190) (n := 3) dX4_fillWays_190 rfl ?_
    refine sm_ineg (pc := 191) dX4_fillWays_191 ?_
    exact hj192.use
  · skip
    refine sm_iload_n (pc := 186) (n := 3) dX4_fillWays_186 rfl ?_
    refine sm_goto (pc := 187) (tgt := 192) dX4_fillWays_187 (by decide) ?_
    exact hj192.use
noncomputable def bX4_fillWaysa_167 {d : Nat} (self : List zV → zH d → zP d → Bool) (P : zP d) (j210 : zK d) : zK d := (xild 4 (xjoin (bX4_fillWaysa_179 self P j210) (fun j179 => (xif0S teqR rlEq rhEq rlNe rhNe (xild 2 (xpI 1 (xbin zaddR j179))) (xpI 0 j179)))))
set_option maxRecDepth 100000 in
set_option maxHeartbeats 4000000 in
theorem sbX4_fillWaysa_167 {d : Nat} [zGh] (n : Nat) (self : List zV → zH d → zP d → Bool) (hself : zMet X_X4_fillWays yX4_fillWays (1 + n) self) (P : zP d) (j210 : zK d) (hj210 : zSimJ 2 X_X4_fillWays (1 + (n + 1)) P 210 j210) : zSim X_X4_fillWays (1 + (n + 1)) P 167 (bX4_fillWaysa_167 self P j210) := by
  unfold bX4_fillWaysa_167
  refine sm_iload (pc := 167) (n := 4) dX4_fillWays_167 ?_
  refine sm_joinJ (pc := 169) (pc' := 179) (j := 2) (fun G0 hG0 => @sbX4_fillWaysa_179 d G0 n self hself P j210 (hj210.mv hG0 (by decide))) (fun j179 hj179 => ?_)
  refine sm_ifS_eq (pc := 169) (tgt := 176) dX4_fillWays_169 (by decide) ?_ ?_
  · skip
    refine sm_iload_n (pc := 176) (n := 2) dX4_fillWays_176 rfl ?_
    refine sm_iconst (pc := 177) dX4_fillWays_177 zc_i_1 ?_
    refine sm_iaddR (pc := 178) dX4_fillWays_178 ?_
    exact hj179.use
  · skip
    refine sm_iconst (pc := 172) dX4_fillWays_172 zc_i_0 ?_
    refine sm_goto (pc := 173) (tgt := 179) dX4_fillWays_173 (by decide) ?_
    exact hj179.use
noncomputable def cX4_fillWaysa_162 {d : Nat} (self : List zV → zH d → zP d → Bool) (P : zP d) (j167 : zK d) : zK d := (xbin zaddR j167)
set_option maxRecDepth 100000 in
set_option maxHeartbeats 4000000 in
theorem scX4_fillWaysa_162 {d : Nat} [zGh] (n : Nat) (self : List zV → zH d → zP d → Bool) (hself : zMet X_X4_fillWays yX4_fillWays (1 + n) self) (P : zP d) (j167 : zK d) (hj167 : zSimJ 2 X_X4_fillWays (1 + (n + 1)) P 167 j167) : zSim X_X4_fillWays (1 + (n + 1)) P 162 (cX4_fillWaysa_162 self P j167) := by
  unfold cX4_fillWaysa_162
  refine sm_iaddR (pc := 162) dX4_fillWays_162 ?_
  refine sm_goto (pc := 163) (tgt := 167) dX4_fillWays_163 (by decide) ?_
  exact hj167.use
noncomputable def cX4_fillWaysa_127 {d : Nat} (self : List zV → zH d → zP d → Bool) (P : zP d) (j210 : zK d) : zK d := (xgfR 20 15 (xild 2 (xdup2 (xalQ 0 (xpI 1 (xild 5 (xbin zshl (xbin zor (xasQ 0 (fun v => v) (xald 0 (xgfR 20 14 (xald 0 (xgfR 20 4 (xild 1 (xalQ 0 (xild 2 (xbin zaddR (xild 5 (xasQ 0 (fun v => v) (xald 0 (xild 4 (xjoin (bX4_fillWaysa_167 self P j210) (fun j167 => (xif0S teqR rlEq rhEq rlNe rhNe (xild 1 j167) (xild 1 (xpI 1 (cX4_fillWaysa_162 self P j167)))))))))))))))))))))))))))
set_option maxRecDepth 100000 in
set_option maxHeartbeats 4000000 in
theorem scX4_fillWaysa_127 {d : Nat} [zGh] (n : Nat) (self : List zV → zH d → zP d → Bool) (hself : zMet X_X4_fillWays yX4_fillWays (1 + n) self) (P : zP d) (j210 : zK d) (hj210 : zSimJ 2 X_X4_fillWays (1 + (n + 1)) P 210 j210) : zSim X_X4_fillWays (1 + (n + 1)) P 127 (cX4_fillWaysa_127 self P j210) := by
  unfold cX4_fillWaysa_127
  refine gf_X4_45 (pc := 127) rfl dX4_fillWays_127 ?_
  refine sm_iload_n (pc := 130) (n := 2) dX4_fillWays_130 rfl ?_
  refine sm_dup2 (pc := 131) dX4_fillWays_131 ?_
  refine sm_ialoadQ (pc := 132) dX4_fillWays_132 ?_
  refine sm_iconst (pc := 133) dX4_fillWays_133 zc_i_1 ?_
  refine sm_iload (pc := 134) (n := 5) dX4_fillWays_134 ?_
  refine sm_ishl (pc := 136) dX4_fillWays_136 ?_
  refine sm_ior (pc := 137) dX4_fillWays_137 ?_
  refine sm_iastoreQ (pc := 138) dX4_fillWays_138 ?_
  refine sm_aload_n (pc := 139) (n := 0) dX4_fillWays_139 rfl ?_
  refine gf_X4_42 (pc := 140) rfl dX4_fillWays_140 ?_
  refine sm_aload_n (pc := 143) (n := 0) dX4_fillWays_143 rfl ?_
  refine gf_X4_29 (pc := 144) rfl dX4_fillWays_144 ?_
  refine sm_iload_n (pc := 147) (n := 1) dX4_fillWays_147 rfl ?_
  refine sm_ialoadQ (pc := 148) dX4_fillWays_148 ?_
  refine sm_iload_n (pc := 149) (n := 2) dX4_fillWays_149 rfl ?_
  refine sm_iaddR (pc := 150) dX4_fillWays_150 ?_
  refine sm_iload (pc := 151) (n := 5) dX4_fillWays_151 ?_
  refine sm_iastoreQ (pc := 153) dX4_fillWays_153 ?_
  refine sm_aload_n (pc := 154) (n := 0) dX4_fillWays_154 rfl ?_
  refine sm_iload (pc := 155) (n := 4) dX4_fillWays_155 ?_
  refine sm_joinJ (pc := 157) (pc' := 167) (j := 2) (fun G0 hG0 => @sbX4_fillWaysa_167 d G0 n self hself P j210 (hj210.mv hG0 (by decide))) (fun j167 hj167 => ?_)
  refine sm_ifS_eq (pc := 157) (tgt := 166) dX4_fillWays_157 (by decide) ?_ ?_
  · skip
    refine sm_iload_n (pc := 166) (n := 1) dX4_fillWays_166 rfl ?_
    exact hj167.use
  · skip
    refine sm_iload_n (pc := 160) (n := 1) dX4_fillWays_160 rfl ?_
    refine sm_iconst (pc := 161) dX4_fillWays_161 zc_i_1 ?_
    exact scX4_fillWaysa_162 n self hself P j167 hj167
noncomputable def lX4_fillWaysa_87 {d : Nat} (self : List zV → zH d → zP d → Bool) (P : zP d) (r87 : zK d) : zK d := (xild 5 (xald 0 (xgfR 20 3 (xild 2 (xalQ 0 (xcmpS tgeR rlGe rhS rlS rhLt (xvret P) (xald 0 (xgfR 20 15 (xild 2 (xalQ 0 (xild 5 (xbin zshr (xpI 1 (xbin zandR (xjoin (bX4_fillWaysa_210 self P r87) (fun j210 => (xif0S teqR rlEq rhEq rlNe rhNe (xald 0 (xgfR 20 15 (xild 2 (xalQ 0 (xild 5 (xbin zshr (xcS 1 0 0 (zstr f_J6_bitCount_0f7a4) (xist 6 (xald 0 (cX4_fillWaysa_127 self P j210)))))))))) j210)))))))))))))))))
set_option maxRecDepth 100000 in
set_option maxHeartbeats 4000000 in
theorem slX4_fillWaysa_87 {d : Nat} [zGh] (n : Nat) (self : List zV → zH d → zP d → Bool) (hself : zMet X_X4_fillWays yX4_fillWays (1 + n) self) (P : zP d) (r87 : zK d) (hr87 : zSimJ 2 X_X4_fillWays (1 + (n + 1)) P 87 r87) : zSim X_X4_fillWays (1 + (n + 1)) P 87 (lX4_fillWaysa_87 self P r87) := by
  unfold lX4_fillWaysa_87
  refine sm_iload (pc := 87) (n := 5) dX4_fillWays_87 ?_
  refine sm_aload_n (pc := 89) (n := 0) dX4_fillWays_89 rfl ?_
  refine gf_X4_26 (pc := 90) rfl dX4_fillWays_90 ?_
  refine sm_iload_n (pc := 93) (n := 2) dX4_fillWays_93 rfl ?_
  refine sm_ialoadQ (pc := 94) dX4_fillWays_94 ?_
  refine sm_icmpS_ge (pc := 95) (tgt := 216) dX4_fillWays_95 (by decide) ?_ ?_
  · skip
    exact sm_vreturn (pc := 216) dX4_fillWays_216 rfl
  · skip
    refine sm_aload_n (pc := 98) (n := 0) dX4_fillWays_98 rfl ?_
    refine gf_X4_45 (pc := 99) rfl dX4_fillWays_99 ?_
    refine sm_iload_n (pc := 102) (n := 2) dX4_fillWays_102 rfl ?_
    refine sm_ialoadQ (pc := 103) dX4_fillWays_103 ?_
    refine sm_iload (pc := 104) (n := 5) dX4_fillWays_104 ?_
    refine sm_ishr (pc := 106) dX4_fillWays_106 ?_
    refine sm_iconst (pc := 107) dX4_fillWays_107 zc_i_1 ?_
    refine sm_iandR (pc := 108) dX4_fillWays_108 ?_
    refine sm_joinJ (pc := 109) (pc' := 210) (j := 2) (fun G0 hG0 => @sbX4_fillWaysa_210 d G0 n self hself P r87 (hr87.mv hG0 (by decide))) (fun j210 hj210 => ?_)
    refine sm_ifS_ne (pc := 109) (tgt := 210) dX4_fillWays_109 (by decide) ?_ ?_
    · skip
      exact hj210.use
    · skip
      refine sm_aload_n (pc := 112) (n := 0) dX4_fillWays_112 rfl ?_
      refine gf_X4_45 (pc := 113) rfl dX4_fillWays_113 ?_
      refine sm_iload_n (pc := 116) (n := 2) dX4_fillWays_116 rfl ?_
      refine sm_ialoadQ (pc := 117) dX4_fillWays_117 ?_
      refine sm_iload (pc := 118) (n := 5) dX4_fillWays_118 ?_
      refine sm_ishr (pc := 120) dX4_fillWays_120 ?_
      refine sm_cS (pc := 121) (n := 1) (mc := 0) (ms := 0) (zMet_str m_J6_bitCount_0f7a4) (cr_X4_113 (X := X_X4_fillWays) (fr := 1 + (n + 1)) (frc := 1) (pc := 121) (mc := 0) (ms := 0) rfl (by omega) dX4_fillWays_121) ?_
      refine sm_istore (pc := 124) (n := 6) dX4_fillWays_124 ?_
      refine sm_aload_n (pc := 126) (n := 0) dX4_fillWays_126 rfl ?_
      exact scX4_fillWaysa_127 n self hself P j210 hj210
noncomputable def bX4_fillWaysa_82 {d : Nat} (self : List zV → zH d → zP d → Bool) (P : zP d) : zK d := (xist 4 (xpI 0 (xist 5 (xlp 5 1 (hsC 7) wkE (fun r87 => (lX4_fillWaysa_87 self P r87))))))
set_option maxRecDepth 100000 in
set_option maxHeartbeats 4000000 in
theorem sbX4_fillWaysa_82 {d : Nat} [zGh] (n : Nat) (self : List zV → zH d → zP d → Bool) (hself : zMet X_X4_fillWays yX4_fillWays (1 + n) self) (P : zP d) : zSim X_X4_fillWays (1 + (n + 1)) P 82 (bX4_fillWaysa_82 self P) := by
  unfold bX4_fillWaysa_82
  refine sm_istore (pc := 82) (n := 4) dX4_fillWays_82 ?_
  refine sm_iconst (pc := 84) dX4_fillWays_84 zc_i_0 ?_
  refine sm_istore (pc := 85) (n := 5) dX4_fillWays_85 ?_
  exact sm_lp (i := 5) (j := 1) (by decide) (by decide) hsC_ok wkE_ok (fun G1 hG1 r87 hr87 => @slX4_fillWaysa_87 d G1 n self hself P r87 hr87)
noncomputable def cX4_fillWaysa_54 {d : Nat} (self : List zV → zH d → zP d → Bool) (P : zP d) : zK d := (xald 0 (xdup (xgfI 20 13 (xpI 1 (xbin zaddR (xpfI 20 13 (xvret P)))))))
set_option maxRecDepth 100000 in
set_option maxHeartbeats 4000000 in
theorem scX4_fillWaysa_54 {d : Nat} [zGh] (n : Nat) (self : List zV → zH d → zP d → Bool) (hself : zMet X_X4_fillWays yX4_fillWays (1 + n) self) (P : zP d) : zSim X_X4_fillWays (1 + (n + 1)) P 54 (cX4_fillWaysa_54 self P) := by
  unfold cX4_fillWaysa_54
  refine sm_aload_n (pc := 54) (n := 0) dX4_fillWays_54 rfl ?_
  refine sm_dup (pc := 55) dX4_fillWays_55 ?_
  refine gf_X4_69 (pc := 56) rfl dX4_fillWays_56 ?_
  refine sm_iconst (pc := 59) dX4_fillWays_59 zc_i_1 ?_
  refine sm_iaddR (pc := 60) dX4_fillWays_60 ?_
  refine pf_X4_69 (pc := 61) rfl dX4_fillWays_61 ?_
  exact sm_vreturn (pc := 64) dX4_fillWays_64 rfl
noncomputable def b_X4_fillWaysa {d : Nat} (self : List zV → zH d → zP d → Bool) (P : zP d) : zK d := (xild 1 (xald 0 (xgfI 20 1 (xcmpS tgeR rlGe rhS rlS rhLt (xfc 20 13 8 (xvret P) (xald 0 (xgfR 20 14 (xpI 0 (xald 0 (xgfR 20 9 (xald 0 (xgfI 20 13 (xald 0 (xgfI 20 0 (xbin zmulR (xald 0 (xgfI 20 0 (xcpQ (xald 0 (xgfR 20 10 (xald 0 (xgfI 20 13 (xild 3 (xasQ 0 (fun v => v) (cX4_fillWaysa_54 self P))))))))))))))))))))) (xild 2 (xpI 1 (xbin zaddR (xald 0 (xgfR 20 2 (xild 1 (xalQ 0 (xjoin (bX4_fillWaysa_82 self P) (fun j82 => (xcmpS teqR rlEq rhEq rlNe rhNe (xpI 1 j82) (xpI 0 j82)))))))))))))))
set_option maxRecDepth 100000 in
set_option maxHeartbeats 4000000 in
theorem s_X4_fillWaysa {d : Nat} [zGh] (n : Nat) (self : List zV → zH d → zP d → Bool) (hself : zMet X_X4_fillWays yX4_fillWays (1 + n) self) (P : zP d) : zSim X_X4_fillWays (1 + (n + 1)) P 0 (b_X4_fillWaysa self P) := by
  unfold b_X4_fillWaysa
  refine sm_iload_n (pc := 0) (n := 1) dX4_fillWays_0 rfl ?_
  refine sm_aload_n (pc := 1) (n := 0) dX4_fillWays_1 rfl ?_
  refine gf_X4_13 (pc := 2) rfl dX4_fillWays_2 ?_
  refine sm_icmpS_lt (pc := 5) (tgt := 65) dX4_fillWays_5 (by decide) ?_ ?_
  · skip
    refine sm_iload_n (pc := 65) (n := 2) dX4_fillWays_65 rfl ?_
    refine sm_iconst (pc := 66) dX4_fillWays_66 zc_i_1 ?_
    refine sm_iaddR (pc := 67) dX4_fillWays_67 ?_
    refine sm_aload_n (pc := 68) (n := 0) dX4_fillWays_68 rfl ?_
    refine gf_X4_22 (pc := 69) rfl dX4_fillWays_69 ?_
    refine sm_iload_n (pc := 72) (n := 1) dX4_fillWays_72 rfl ?_
    refine sm_ialoadQ (pc := 73) dX4_fillWays_73 ?_
    refine sm_joinJ (pc := 74) (pc' := 82) (j := 1) (fun G0 hG0 => @sbX4_fillWaysa_82 d G0 n self hself P) (fun j82 hj82 => ?_)
    refine sm_icmpS_ne (pc := 74) (tgt := 81) dX4_fillWays_74 (by decide) ?_ ?_
    · skip
      refine sm_iconst (pc := 81) dX4_fillWays_81 zc_i_0 ?_
      exact hj82.use
    · skip
      refine sm_iconst (pc := 77) dX4_fillWays_77 zc_i_1 ?_
      refine sm_goto (pc := 78) (tgt := 82) dX4_fillWays_78 (by decide) ?_
      exact hj82.use
  · skip
    refine sm_fcmp (pc := 8) (tgt := 64) (ci := 4) (n1 := 13) (n2 := 8) (C := RX4) (T := TX4) (N := 16) rfl rfl rfl inz4 rfl (by decide) (by decide) rfl wd_153 rfl wd_148 rfl dX4_fillWays_8 rfl dX4_fillWays_9 dX4_fillWays_12 rfl dX4_fillWays_13 dX4_fillWays_16 (by decide) ?_ ?_
    · skip
      exact sm_vreturn (pc := 64) dX4_fillWays_64 rfl
    · skip
      refine sm_aload_n (pc := 19) (n := 0) dX4_fillWays_19 rfl ?_
      refine gf_X4_42 (pc := 20) rfl dX4_fillWays_20 ?_
      refine sm_iconst (pc := 23) dX4_fillWays_23 zc_i_0 ?_
      refine sm_aload_n (pc := 24) (n := 0) dX4_fillWays_24 rfl ?_
      refine gf_X4_63 (pc := 25) rfl dX4_fillWays_25 ?_
      refine sm_aload_n (pc := 28) (n := 0) dX4_fillWays_28 rfl ?_
      refine gf_X4_69 (pc := 29) rfl dX4_fillWays_29 ?_
      refine sm_aload_n (pc := 32) (n := 0) dX4_fillWays_32 rfl ?_
      refine gf_X4_7 (pc := 33) rfl dX4_fillWays_33 ?_
      refine sm_imulR (pc := 36) dX4_fillWays_36 ?_
      refine sm_aload_n (pc := 37) (n := 0) dX4_fillWays_37 rfl ?_
      refine gf_X4_7 (pc := 38) rfl dX4_fillWays_38 ?_
      refine sm_copyQ (pc := 41) wd_102 wd_80 wd_79 wd_7 (by omega) dX4_fillWays_41 ?_
      refine sm_aload_n (pc := 44) (n := 0) dX4_fillWays_44 rfl ?_
      refine gf_X4_66 (pc := 45) rfl dX4_fillWays_45 ?_
      refine sm_aload_n (pc := 48) (n := 0) dX4_fillWays_48 rfl ?_
      refine gf_X4_69 (pc := 49) rfl dX4_fillWays_49 ?_
      refine sm_iload_n (pc := 52) (n := 3) dX4_fillWays_52 rfl ?_
      refine sm_iastoreQ (pc := 53) dX4_fillWays_53 ?_
      exact scX4_fillWaysa_54 n self hself P
theorem mr_X4_fillWaysa {d : Nat} {mc ms : Nat} {r0 : zV} (Es : List (zEn d)) (hg : zgdR mc ms r0 (fun f => zfn 7 (b_X4_fillWaysa f)) Es = true) (n : Nat) (hn : Es.length ≤ n) : zMet X_X4_fillWays yX4_fillWays (1 + n) (zselfR mc ms r0 Es) := zMet_rc (X := X_X4_fillWays) (by decide) rfl rfl (fun n f hf _ P => s_X4_fillWaysa n f hf P) Es hg n hn

noncomputable def zk_99_zs1_60_X4_fillWays_0 : zT 2 := @Prod.mk (zT 1) (zT 1) ((20, 16, 0x6000000000501000000020000000000000000000000000000080000000007000000000100000000008000000007800000000600000000040000000003000000000200000000010000000001), (0, 1, 1)) ((0, 1, 1), (0, 1, 0))
noncomputable def e_X4_fillWays_0_0 : zH 3 := (show zT 3 from (zk_99_zs1_60_X4_fillWays_0, (((0, 1, 0x100000007), (0, 2, 0x1000000000100000000)), ((0, 1, 0x100000001), (0, 1, 0x100000000)))), (8, (0, 0)))
noncomputable def e_X4_fillWays_0_1 : zH 3 := (show zT 3 from (zk_99_zs1_60_X4_fillWays_0, (((0, 1, 0x100000001), (0, 2, 0x1000000000100000000)), ((0, 1, 0x100000001), (0, 1, 0x100000000)))), (8, (0, 0)))
noncomputable abbrev es_X4_fillWays_0 : List (zEn 3) := [([zR 1, zI 0, zI 0, zI 4294967296], e_X4_fillWays_0_0), ([zR 1, zI 1, zI 0, zI 4294967296], e_X4_fillWays_0_1)]
theorem we_X4_fillWays_0 : zgdR 0 0 (zU) (fun f => zfn 7 (b_X4_fillWaysa f)) es_X4_fillWays_0 = true := by decide +kernel
theorem ev_X4_fillWays_0 : zselfR 0 0 (zU) es_X4_fillWays_0 [zR 1, zI 0, zI 0, zI 4294967296] e_X4_fillWays_0_0 (zrk (zU) e_X4_fillWays_0_0) = true := by decide +kernel
noncomputable def g_X4_fillWays_0 {d : Nat} : List zV → zH d → zP d → Bool := zsmy [(0, 0), (1, 2), (1, 3), (1, 4), (1, 14), (1, 15), (1, 9), (1, 10)] [zR 1, zI 0, zI 0, zI 4294967296] e_X4_fillWays_0_0 (zU) e_X4_fillWays_0_0
theorem mg_X4_fillWays_0 {d : Nat} : zMet (d := d) X_X4_fillWays yX4_fillWays 9 g_X4_fillWays_0 := zMet_sm (mr_X4_fillWaysa es_X4_fillWays_0 we_X4_fillWays_0 8 (by decide)) ev_X4_fillWays_0
noncomputable def zk_99_zs1_60_X4_fillWays_1 : zT 2 := @Prod.mk (zT 1) (zT 1) ((20, 16, 0x6000000000501000000020000000000000000000000000000080000000007000000000100000000008000000007800000000600000000040000000003000000000200000000010000000002), (0, 1, 2)) ((0, 2, 0x10000000001), (0, 1, 0))
noncomputable def zk_99_zs1_60_X4_fillWays_2 : zT 1 := @Prod.mk (zT 0) (zT 0) (0, 2, 0x1000000070100000007) (0, 3, 0x10000000001000000000100000000)
noncomputable def e_X4_fillWays_1_0 : zH 3 := (show zT 3 from (zk_99_zs1_60_X4_fillWays_1, (zk_99_zs1_60_X4_fillWays_2, ((0, 2, 0x1000000010100000001), (0, 1, 0x100000000)))), (8, (0, 0)))
noncomputable def e_X4_fillWays_1_1 : zH 3 := (show zT 3 from (zk_99_zs1_60_X4_fillWays_1, (((0, 2, 0x1000000070100000001), (0, 3, 0x10000000001000000000100000000)), ((0, 2, 0x1000000010100000001), (0, 1, 0x100000000)))), (8, (0, 0)))
noncomputable def e_X4_fillWays_1_2 : zH 3 := (show zT 3 from (zk_99_zs1_60_X4_fillWays_1, (((0, 2, 0x1000000010100000001), (0, 3, 0x10000000001000000000100000000)), ((0, 2, 0x1000000010100000001), (0, 1, 0x100000000)))), (8, (0, 0)))
noncomputable abbrev es_X4_fillWays_1 : List (zEn 3) := [([zR 1, zI 0, zI 0, zI 4294967296], e_X4_fillWays_1_0), ([zR 1, zI 0, zI 1, zI 4294967296], e_X4_fillWays_1_1), ([zR 1, zI 1, zI 0, zI 4294967296], e_X4_fillWays_1_2)]
theorem we_X4_fillWays_1 : zgdR 0 0 (zU) (fun f => zfn 7 (b_X4_fillWaysa f)) es_X4_fillWays_1 = true := by decide +kernel
theorem ev_X4_fillWays_1 : zselfR 0 0 (zU) es_X4_fillWays_1 [zR 1, zI 0, zI 0, zI 4294967296] e_X4_fillWays_1_0 (zrk (zU) e_X4_fillWays_1_0) = true := by decide +kernel
noncomputable def g_X4_fillWays_1 {d : Nat} : List zV → zH d → zP d → Bool := zsmy [(0, 0), (1, 2), (1, 3), (1, 4), (1, 14), (1, 15), (1, 9), (1, 10)] [zR 1, zI 0, zI 0, zI 4294967296] e_X4_fillWays_1_0 (zU) e_X4_fillWays_1_0
theorem mg_X4_fillWays_1 {d : Nat} : zMet (d := d) X_X4_fillWays yX4_fillWays 9 g_X4_fillWays_1 := zMet_sm (mr_X4_fillWaysa es_X4_fillWays_1 we_X4_fillWays_1 8 (by decide)) ev_X4_fillWays_1
noncomputable def zk_99_zs1_60_X4_fillWays_3 : zT 2 := @Prod.mk (zT 1) (zT 1) ((20, 16, 0x6000000000501000000030000000000000000000000000000080000000007000000000200000000008000000007800000000600000000040000000003000000000200000000020000000002), (0, 2, 0x10000000001)) ((0, 1, 2), (0, 2, 0x10000000000))
noncomputable def zk_99_zs1_60_X4_fillWays_4 : zT 1 := @Prod.mk (zT 0) (zT 0) (0, 4, 0x100000002010000000201000000020100000002) (0, 2, 0x1000000000100000000)
noncomputable def e_X4_fillWays_2_0 : zH 3 := (show zT 3 from (zk_99_zs1_60_X4_fillWays_3, (zk_99_zs1_60_X4_fillWays_2, zk_99_zs1_60_X4_fillWays_4)), (8, (0, 0)))
noncomputable def e_X4_fillWays_2_1 : zH 3 := (show zT 3 from (zk_99_zs1_60_X4_fillWays_3, (((0, 2, 0x1000000070100000002), (0, 3, 0x10000000001000000000100000000)), zk_99_zs1_60_X4_fillWays_4)), (8, (0, 0)))
noncomputable def e_X4_fillWays_2_2 : zH 3 := (show zT 3 from (zk_99_zs1_60_X4_fillWays_3, (((0, 2, 0x1000000020100000002), (0, 3, 0x10000000001000000000100000000)), zk_99_zs1_60_X4_fillWays_4)), (8, (0, 0)))
noncomputable abbrev es_X4_fillWays_2 : List (zEn 3) := [([zR 1, zI 0, zI 0, zI 4294967296], e_X4_fillWays_2_0), ([zR 1, zI 1, zI 0, zI 4294967296], e_X4_fillWays_2_1), ([zR 1, zI 2, zI 0, zI 4294967296], e_X4_fillWays_2_2)]
theorem we_X4_fillWays_2 : zgdR 0 0 (zU) (fun f => zfn 7 (b_X4_fillWaysa f)) es_X4_fillWays_2 = true := by decide +kernel
theorem ev_X4_fillWays_2 : zselfR 0 0 (zU) es_X4_fillWays_2 [zR 1, zI 0, zI 0, zI 4294967296] e_X4_fillWays_2_0 (zrk (zU) e_X4_fillWays_2_0) = true := by decide +kernel
noncomputable def g_X4_fillWays_2 {d : Nat} : List zV → zH d → zP d → Bool := zsmy [(0, 0), (1, 2), (1, 3), (1, 4), (1, 14), (1, 15), (1, 9), (1, 10)] [zR 1, zI 0, zI 0, zI 4294967296] e_X4_fillWays_2_0 (zU) e_X4_fillWays_2_0
theorem mg_X4_fillWays_2 {d : Nat} : zMet (d := d) X_X4_fillWays yX4_fillWays 9 g_X4_fillWays_2 := zMet_sm (mr_X4_fillWaysa es_X4_fillWays_2 we_X4_fillWays_2 8 (by decide)) ev_X4_fillWays_2
noncomputable def zk_99_zs1_60_X4_fillWays_5 : zT 2 := @Prod.mk (zT 1) (zT 1) ((20, 16, 0x6000000000501000000020000000000000000000000000000080000000007000000000100000000008000000007800000000600000000040000000003000000000200000000010000000003), (0, 1, 3)) ((0, 3, 0x100000000010000000001), (0, 1, 0))
noncomputable def zk_99_zs1_60_X4_fillWays_6 : zT 1 := @Prod.mk (zT 0) (zT 0) (0, 3, 0x10000000701000000070100000007) (0, 4, 0x100000000010000000001000000000100000000)
noncomputable def zk_99_zs1_60_X4_fillWays_7 : zT 1 := @Prod.mk (zT 0) (zT 0) (0, 3, 0x10000000101000000010100000001) (0, 1, 0x100000000)
noncomputable def e_X4_fillWays_3_0 : zH 3 := (show zT 3 from (zk_99_zs1_60_X4_fillWays_5, (zk_99_zs1_60_X4_fillWays_6, zk_99_zs1_60_X4_fillWays_7)), (8, (0, 0)))
noncomputable def e_X4_fillWays_3_1 : zH 3 := (show zT 3 from (zk_99_zs1_60_X4_fillWays_5, (((0, 3, 0x10000000701000000070100000001), (0, 4, 0x100000000010000000001000000000100000000)), zk_99_zs1_60_X4_fillWays_7)), (8, (0, 0)))
noncomputable def e_X4_fillWays_3_2 : zH 3 := (show zT 3 from (zk_99_zs1_60_X4_fillWays_5, (((0, 3, 0x10000000701000000010100000001), (0, 4, 0x100000000010000000001000000000100000000)), zk_99_zs1_60_X4_fillWays_7)), (8, (0, 0)))
noncomputable def e_X4_fillWays_3_3 : zH 3 := (show zT 3 from (zk_99_zs1_60_X4_fillWays_5, (((0, 3, 0x10000000101000000010100000001), (0, 4, 0x100000000010000000001000000000100000000)), zk_99_zs1_60_X4_fillWays_7)), (8, (0, 0)))
noncomputable abbrev es_X4_fillWays_3 : List (zEn 3) := [([zR 1, zI 0, zI 0, zI 4294967296], e_X4_fillWays_3_0), ([zR 1, zI 0, zI 1, zI 4294967296], e_X4_fillWays_3_1), ([zR 1, zI 0, zI 2, zI 4294967296], e_X4_fillWays_3_2), ([zR 1, zI 1, zI 0, zI 4294967296], e_X4_fillWays_3_3)]
theorem we_X4_fillWays_3 : zgdR 0 0 (zU) (fun f => zfn 7 (b_X4_fillWaysa f)) es_X4_fillWays_3 = true := by decide +kernel
theorem ev_X4_fillWays_3 : zselfR 0 0 (zU) es_X4_fillWays_3 [zR 1, zI 0, zI 0, zI 4294967296] e_X4_fillWays_3_0 (zrk (zU) e_X4_fillWays_3_0) = true := by decide +kernel
noncomputable def g_X4_fillWays_3 {d : Nat} : List zV → zH d → zP d → Bool := zsmy [(0, 0), (1, 2), (1, 3), (1, 4), (1, 14), (1, 15), (1, 9), (1, 10)] [zR 1, zI 0, zI 0, zI 4294967296] e_X4_fillWays_3_0 (zU) e_X4_fillWays_3_0
theorem mg_X4_fillWays_3 {d : Nat} : zMet (d := d) X_X4_fillWays yX4_fillWays 9 g_X4_fillWays_3 := zMet_sm (mr_X4_fillWaysa es_X4_fillWays_3 we_X4_fillWays_3 8 (by decide)) ev_X4_fillWays_3
noncomputable def zk_99_zs1_60_X4_fillWays_8 : zT 2 := @Prod.mk (zT 1) (zT 1) ((20, 16, 0x6000000000501000000030000000000000000000000000000080000000007000000000200000000008000000007800000000600000000040000000003000000000200000000020000000003), (0, 2, 0x10000000002)) ((0, 2, 0x10000000002), (0, 2, 0x20000000000))
noncomputable def zk_99_zs1_60_X4_fillWays_9 : zC := (0, 6, 0x10000000201000000020100000002010000000201000000020100000002)
noncomputable def e_X4_fillWays_4_0 : zH 3 := (show zT 3 from (zk_99_zs1_60_X4_fillWays_8, (zk_99_zs1_60_X4_fillWays_6, (zk_99_zs1_60_X4_fillWays_9, (0, 2, 0x1000000000100000000)))), (8, (0, 0)))
noncomputable def e_X4_fillWays_4_1 : zH 3 := (show zT 3 from (zk_99_zs1_60_X4_fillWays_8, (((0, 3, 0x10000000701000000070100000002), (0, 4, 0x100000000010000000001000000000100000000)), (zk_99_zs1_60_X4_fillWays_9, (0, 2, 0x1000000000100000000)))), (8, (0, 0)))
noncomputable def e_X4_fillWays_4_2 : zH 3 := (show zT 3 from (zk_99_zs1_60_X4_fillWays_8, (((0, 3, 0x10000000701000000020100000002), (0, 4, 0x100000000010000000001000000000100000000)), (zk_99_zs1_60_X4_fillWays_9, (0, 2, 0x1000000000100000000)))), (8, (0, 0)))
noncomputable def e_X4_fillWays_4_3 : zH 3 := (show zT 3 from (zk_99_zs1_60_X4_fillWays_8, (((0, 3, 0x10000000201000000020100000002), (0, 4, 0x100000000010000000001000000000100000000)), (zk_99_zs1_60_X4_fillWays_9, (0, 2, 0x1000000000100000000)))), (8, (0, 0)))
noncomputable abbrev es_X4_fillWays_4 : List (zEn 3) := [([zR 1, zI 0, zI 0, zI 4294967296], e_X4_fillWays_4_0), ([zR 1, zI 0, zI 1, zI 4294967296], e_X4_fillWays_4_1), ([zR 1, zI 1, zI 0, zI 4294967296], e_X4_fillWays_4_2), ([zR 1, zI 2, zI 0, zI 4294967296], e_X4_fillWays_4_3)]
theorem we_X4_fillWays_4 : zgdR 0 0 (zU) (fun f => zfn 7 (b_X4_fillWaysa f)) es_X4_fillWays_4 = true := by decide +kernel
theorem ev_X4_fillWays_4 : zselfR 0 0 (zU) es_X4_fillWays_4 [zR 1, zI 0, zI 0, zI 4294967296] e_X4_fillWays_4_0 (zrk (zU) e_X4_fillWays_4_0) = true := by decide +kernel
noncomputable def g_X4_fillWays_4 {d : Nat} : List zV → zH d → zP d → Bool := zsmy [(0, 0), (1, 2), (1, 3), (1, 4), (1, 14), (1, 15), (1, 9), (1, 10)] [zR 1, zI 0, zI 0, zI 4294967296] e_X4_fillWays_4_0 (zU) e_X4_fillWays_4_0
theorem mg_X4_fillWays_4 {d : Nat} : zMet (d := d) X_X4_fillWays yX4_fillWays 9 g_X4_fillWays_4 := zMet_sm (mr_X4_fillWaysa es_X4_fillWays_4 we_X4_fillWays_4 8 (by decide)) ev_X4_fillWays_4
noncomputable def zk_99_zs1_60_X4_fillWays_10 : zT 2 := @Prod.mk (zT 1) (zT 1) ((20, 16, 0x6000000000501000000070000000000000000000000000000080000000007000000000600000000008000000007800000000600000000040000000003000000000200000000030000000003), (0, 3, 0x100000000010000000001)) ((0, 1, 3), (0, 3, 0x200000000010000000000))
noncomputable def zk_99_zs1_60_X4_fillWays_11 : zC := (0, 6, 0x10000000001000000000100000000010000000001000000000100000000)
noncomputable def zk_99_zs1_60_X4_fillWays_12 : zT 1 := @Prod.mk (zT 0) (zT 0) (0, 18, zun 40 18 4294967299) zk_99_zs1_60_X4_fillWays_11
noncomputable def e_X4_fillWays_5_0 : zH 3 := (show zT 3 from (zk_99_zs1_60_X4_fillWays_10, (zk_99_zs1_60_X4_fillWays_6, zk_99_zs1_60_X4_fillWays_12)), (8, (0, 0)))
noncomputable def e_X4_fillWays_5_1 : zH 3 := (show zT 3 from (zk_99_zs1_60_X4_fillWays_10, (((0, 3, 0x10000000701000000070100000003), (0, 4, 0x100000000010000000001000000000100000000)), zk_99_zs1_60_X4_fillWays_12)), (8, (0, 0)))
noncomputable def e_X4_fillWays_5_2 : zH 3 := (show zT 3 from (zk_99_zs1_60_X4_fillWays_10, (((0, 3, 0x10000000701000000030100000003), (0, 4, 0x100000000010000000001000000000100000000)), zk_99_zs1_60_X4_fillWays_12)), (8, (0, 0)))
noncomputable def e_X4_fillWays_5_3 : zH 3 := (show zT 3 from (zk_99_zs1_60_X4_fillWays_10, (((0, 3, 0x10000000301000000030100000003), (0, 4, 0x100000000010000000001000000000100000000)), zk_99_zs1_60_X4_fillWays_12)), (8, (0, 0)))
noncomputable abbrev es_X4_fillWays_5 : List (zEn 3) := [([zR 1, zI 0, zI 0, zI 4294967296], e_X4_fillWays_5_0), ([zR 1, zI 1, zI 0, zI 4294967296], e_X4_fillWays_5_1), ([zR 1, zI 2, zI 0, zI 4294967296], e_X4_fillWays_5_2), ([zR 1, zI 3, zI 0, zI 4294967296], e_X4_fillWays_5_3)]
theorem we_X4_fillWays_5 : zgdR 0 0 (zU) (fun f => zfn 7 (b_X4_fillWaysa f)) es_X4_fillWays_5 = true := by decide +kernel
theorem ev_X4_fillWays_5 : zselfR 0 0 (zU) es_X4_fillWays_5 [zR 1, zI 0, zI 0, zI 4294967296] e_X4_fillWays_5_0 (zrk (zU) e_X4_fillWays_5_0) = true := by decide +kernel
noncomputable def g_X4_fillWays_5 {d : Nat} : List zV → zH d → zP d → Bool := zsmy [(0, 0), (1, 2), (1, 3), (1, 4), (1, 14), (1, 15), (1, 9), (1, 10)] [zR 1, zI 0, zI 0, zI 4294967296] e_X4_fillWays_5_0 (zU) e_X4_fillWays_5_0
theorem mg_X4_fillWays_5 {d : Nat} : zMet (d := d) X_X4_fillWays yX4_fillWays 9 g_X4_fillWays_5 := zMet_sm (mr_X4_fillWaysa es_X4_fillWays_5 we_X4_fillWays_5 8 (by decide)) ev_X4_fillWays_5
noncomputable def zk_99_zs1_60_X4_fillWays_13 : zT 2 := @Prod.mk (zT 1) (zT 1) ((20, 16, 0x6000000000501000000020000000000000000000000000000080000000007000000000100000000008000000007800000000600000000040000000003000000000200000000010000000004), (0, 1, 4)) ((0, 4, 0x1000000000100000000010000000001), (0, 1, 0))
noncomputable def zk_99_zs1_60_X4_fillWays_14 : zT 1 := @Prod.mk (zT 0) (zT 0) (0, 4, 0x100000007010000000701000000070100000007) (0, 5, 0x1000000000100000000010000000001000000000100000000)
noncomputable def zk_99_zs1_60_X4_fillWays_15 : zT 1 := @Prod.mk (zT 0) (zT 0) (0, 4, 0x100000001010000000101000000010100000001) (0, 1, 0x100000000)
noncomputable def e_X4_fillWays_6_0 : zH 3 := (show zT 3 from (zk_99_zs1_60_X4_fillWays_13, (zk_99_zs1_60_X4_fillWays_14, zk_99_zs1_60_X4_fillWays_15)), (8, (0, 0)))
noncomputable def e_X4_fillWays_6_1 : zH 3 := (show zT 3 from (zk_99_zs1_60_X4_fillWays_13, (((0, 4, 0x100000007010000000701000000070100000001), (0, 5, 0x1000000000100000000010000000001000000000100000000)), zk_99_zs1_60_X4_fillWays_15)), (8, (0, 0)))
noncomputable def e_X4_fillWays_6_2 : zH 3 := (show zT 3 from (zk_99_zs1_60_X4_fillWays_13, (((0, 4, 0x100000007010000000701000000010100000001), (0, 5, 0x1000000000100000000010000000001000000000100000000)), zk_99_zs1_60_X4_fillWays_15)), (8, (0, 0)))
noncomputable def e_X4_fillWays_6_3 : zH 3 := (show zT 3 from (zk_99_zs1_60_X4_fillWays_13, (((0, 4, 0x100000007010000000101000000010100000001), (0, 5, 0x1000000000100000000010000000001000000000100000000)), zk_99_zs1_60_X4_fillWays_15)), (8, (0, 0)))
noncomputable def e_X4_fillWays_6_4 : zH 3 := (show zT 3 from (zk_99_zs1_60_X4_fillWays_13, (((0, 4, 0x100000001010000000101000000010100000001), (0, 5, 0x1000000000100000000010000000001000000000100000000)), zk_99_zs1_60_X4_fillWays_15)), (8, (0, 0)))
noncomputable abbrev es_X4_fillWays_6 : List (zEn 3) := [([zR 1, zI 0, zI 0, zI 4294967296], e_X4_fillWays_6_0), ([zR 1, zI 0, zI 1, zI 4294967296], e_X4_fillWays_6_1), ([zR 1, zI 0, zI 2, zI 4294967296], e_X4_fillWays_6_2), ([zR 1, zI 0, zI 3, zI 4294967296], e_X4_fillWays_6_3), ([zR 1, zI 1, zI 0, zI 4294967296], e_X4_fillWays_6_4)]
theorem we_X4_fillWays_6 : zgdR 0 0 (zU) (fun f => zfn 7 (b_X4_fillWaysa f)) es_X4_fillWays_6 = true := by decide +kernel
theorem ev_X4_fillWays_6 : zselfR 0 0 (zU) es_X4_fillWays_6 [zR 1, zI 0, zI 0, zI 4294967296] e_X4_fillWays_6_0 (zrk (zU) e_X4_fillWays_6_0) = true := by decide +kernel
noncomputable def g_X4_fillWays_6 {d : Nat} : List zV → zH d → zP d → Bool := zsmy [(0, 0), (1, 2), (1, 3), (1, 4), (1, 14), (1, 15), (1, 9), (1, 10)] [zR 1, zI 0, zI 0, zI 4294967296] e_X4_fillWays_6_0 (zU) e_X4_fillWays_6_0
theorem mg_X4_fillWays_6 {d : Nat} : zMet (d := d) X_X4_fillWays yX4_fillWays 9 g_X4_fillWays_6 := zMet_sm (mr_X4_fillWaysa es_X4_fillWays_6 we_X4_fillWays_6 8 (by decide)) ev_X4_fillWays_6
noncomputable def zk_99_zs1_60_X4_fillWays_16 : zT 2 := @Prod.mk (zT 1) (zT 1) ((20, 16, 0x6000000000501000000030000000000000000000000000000080000000007000000000200000000008000000007800000000600000000040000000003000000000200000000020000000004), (0, 2, 0x10000000003)) ((0, 3, 0x100000000010000000002), (0, 2, 0x30000000000))
noncomputable def zk_99_zs1_60_X4_fillWays_17 : zT 1 := @Prod.mk (zT 0) (zT 0) (0, 8, zun 40 8 4294967298) (0, 2, 0x1000000000100000000)
noncomputable def e_X4_fillWays_7_0 : zH 3 := (show zT 3 from (zk_99_zs1_60_X4_fillWays_16, (zk_99_zs1_60_X4_fillWays_14, zk_99_zs1_60_X4_fillWays_17)), (8, (0, 0)))
noncomputable def zk_99_zs1_60_X4_fillWays_18 : zT 1 := @Prod.mk (zT 0) (zT 0) (0, 4, 0x100000007010000000701000000070100000002) (0, 5, 0x1000000000100000000010000000001000000000100000000)
noncomputable def e_X4_fillWays_7_1 : zH 3 := (show zT 3 from (zk_99_zs1_60_X4_fillWays_16, (zk_99_zs1_60_X4_fillWays_18, zk_99_zs1_60_X4_fillWays_17)), (8, (0, 0)))
noncomputable def zk_99_zs1_60_X4_fillWays_19 : zT 1 := @Prod.mk (zT 0) (zT 0) (0, 4, 0x100000007010000000701000000020100000002) (0, 5, 0x1000000000100000000010000000001000000000100000000)
noncomputable def e_X4_fillWays_7_2 : zH 3 := (show zT 3 from (zk_99_zs1_60_X4_fillWays_16, (zk_99_zs1_60_X4_fillWays_19, zk_99_zs1_60_X4_fillWays_17)), (8, (0, 0)))
noncomputable def zk_99_zs1_60_X4_fillWays_20 : zT 1 := @Prod.mk (zT 0) (zT 0) (0, 4, 0x100000007010000000201000000020100000002) (0, 5, 0x1000000000100000000010000000001000000000100000000)
noncomputable def e_X4_fillWays_7_3 : zH 3 := (show zT 3 from (zk_99_zs1_60_X4_fillWays_16, (zk_99_zs1_60_X4_fillWays_20, zk_99_zs1_60_X4_fillWays_17)), (8, (0, 0)))
noncomputable def zk_99_zs1_60_X4_fillWays_21 : zT 1 := @Prod.mk (zT 0) (zT 0) (0, 4, 0x100000002010000000201000000020100000002) (0, 5, 0x1000000000100000000010000000001000000000100000000)
noncomputable def e_X4_fillWays_7_4 : zH 3 := (show zT 3 from (zk_99_zs1_60_X4_fillWays_16, (zk_99_zs1_60_X4_fillWays_21, zk_99_zs1_60_X4_fillWays_17)), (8, (0, 0)))
noncomputable abbrev es_X4_fillWays_7 : List (zEn 3) := [([zR 1, zI 0, zI 0, zI 4294967296], e_X4_fillWays_7_0), ([zR 1, zI 0, zI 1, zI 4294967296], e_X4_fillWays_7_1), ([zR 1, zI 0, zI 2, zI 4294967296], e_X4_fillWays_7_2), ([zR 1, zI 1, zI 0, zI 4294967296], e_X4_fillWays_7_3), ([zR 1, zI 2, zI 0, zI 4294967296], e_X4_fillWays_7_4)]
theorem we_X4_fillWays_7 : zgdR 0 0 (zU) (fun f => zfn 7 (b_X4_fillWaysa f)) es_X4_fillWays_7 = true := by decide +kernel
theorem ev_X4_fillWays_7 : zselfR 0 0 (zU) es_X4_fillWays_7 [zR 1, zI 0, zI 0, zI 4294967296] e_X4_fillWays_7_0 (zrk (zU) e_X4_fillWays_7_0) = true := by decide +kernel
noncomputable def g_X4_fillWays_7 {d : Nat} : List zV → zH d → zP d → Bool := zsmy [(0, 0), (1, 2), (1, 3), (1, 4), (1, 14), (1, 15), (1, 9), (1, 10)] [zR 1, zI 0, zI 0, zI 4294967296] e_X4_fillWays_7_0 (zU) e_X4_fillWays_7_0
theorem mg_X4_fillWays_7 {d : Nat} : zMet (d := d) X_X4_fillWays yX4_fillWays 9 g_X4_fillWays_7 := zMet_sm (mr_X4_fillWaysa es_X4_fillWays_7 we_X4_fillWays_7 8 (by decide)) ev_X4_fillWays_7
noncomputable def zk_99_zs1_60_X4_fillWays_22 : zT 2 := @Prod.mk (zT 1) (zT 1) ((20, 16, 0x6000000000501000000050000000000000000000000000000080000000007000000000400000000008000000007800000000600000000040000000003000000000200000000020000000004), (0, 2, 0x20000000002)) ((0, 2, 0x20000000002), (0, 2, 0x20000000000))
noncomputable def zk_99_zs1_60_X4_fillWays_23 : zT 1 := @Prod.mk (zT 0) (zT 0) (0, 16, zun 40 16 4294967298) (0, 4, 0x100000000010000000001000000000100000000)
noncomputable def e_X4_fillWays_8_0 : zH 3 := (show zT 3 from (zk_99_zs1_60_X4_fillWays_22, (zk_99_zs1_60_X4_fillWays_14, zk_99_zs1_60_X4_fillWays_23)), (8, (0, 0)))
noncomputable def e_X4_fillWays_8_1 : zH 3 := (show zT 3 from (zk_99_zs1_60_X4_fillWays_22, (zk_99_zs1_60_X4_fillWays_18, zk_99_zs1_60_X4_fillWays_23)), (8, (0, 0)))
noncomputable def e_X4_fillWays_8_2 : zH 3 := (show zT 3 from (zk_99_zs1_60_X4_fillWays_22, (zk_99_zs1_60_X4_fillWays_19, zk_99_zs1_60_X4_fillWays_23)), (8, (0, 0)))
noncomputable def e_X4_fillWays_8_3 : zH 3 := (show zT 3 from (zk_99_zs1_60_X4_fillWays_22, (zk_99_zs1_60_X4_fillWays_20, zk_99_zs1_60_X4_fillWays_23)), (8, (0, 0)))
noncomputable def e_X4_fillWays_8_4 : zH 3 := (show zT 3 from (zk_99_zs1_60_X4_fillWays_22, (zk_99_zs1_60_X4_fillWays_21, zk_99_zs1_60_X4_fillWays_23)), (8, (0, 0)))
noncomputable abbrev es_X4_fillWays_8 : List (zEn 3) := [([zR 1, zI 0, zI 0, zI 4294967296], e_X4_fillWays_8_0), ([zR 1, zI 0, zI 1, zI 4294967296], e_X4_fillWays_8_1), ([zR 1, zI 1, zI 0, zI 4294967296], e_X4_fillWays_8_2), ([zR 1, zI 1, zI 1, zI 4294967296], e_X4_fillWays_8_3), ([zR 1, zI 2, zI 0, zI 4294967296], e_X4_fillWays_8_4)]
theorem we_X4_fillWays_8 : zgdR 0 0 (zU) (fun f => zfn 7 (b_X4_fillWaysa f)) es_X4_fillWays_8 = true := by decide +kernel
theorem ev_X4_fillWays_8 : zselfR 0 0 (zU) es_X4_fillWays_8 [zR 1, zI 0, zI 0, zI 4294967296] e_X4_fillWays_8_0 (zrk (zU) e_X4_fillWays_8_0) = true := by decide +kernel
noncomputable def g_X4_fillWays_8 {d : Nat} : List zV → zH d → zP d → Bool := zsmy [(0, 0), (1, 2), (1, 3), (1, 4), (1, 14), (1, 15), (1, 9), (1, 10)] [zR 1, zI 0, zI 0, zI 4294967296] e_X4_fillWays_8_0 (zU) e_X4_fillWays_8_0
theorem mg_X4_fillWays_8 {d : Nat} : zMet (d := d) X_X4_fillWays yX4_fillWays 9 g_X4_fillWays_8 := zMet_sm (mr_X4_fillWaysa es_X4_fillWays_8 we_X4_fillWays_8 8 (by decide)) ev_X4_fillWays_8
noncomputable def zk_99_zs1_60_X4_fillWays_24 : zT 2 := @Prod.mk (zT 1) (zT 1) ((20, 16, 0x6000000000501000000070000000000000000000000000000080000000007000000000600000000008000000007800000000600000000040000000003000000000200000000030000000004), (0, 3, 0x100000000010000000002)) ((0, 2, 0x10000000003), (0, 3, 0x300000000020000000000))
noncomputable def zk_99_zs1_60_X4_fillWays_25 : zT 1 := @Prod.mk (zT 0) (zT 0) (0, 24, zun 40 24 4294967299) zk_99_zs1_60_X4_fillWays_11
noncomputable def e_X4_fillWays_9_0 : zH 3 := (show zT 3 from (zk_99_zs1_60_X4_fillWays_24, (zk_99_zs1_60_X4_fillWays_14, zk_99_zs1_60_X4_fillWays_25)), (8, (0, 0)))
noncomputable def e_X4_fillWays_9_1 : zH 3 := (show zT 3 from (zk_99_zs1_60_X4_fillWays_24, (((0, 4, 0x100000007010000000701000000070100000003), (0, 5, 0x1000000000100000000010000000001000000000100000000)), zk_99_zs1_60_X4_fillWays_25)), (8, (0, 0)))
noncomputable def e_X4_fillWays_9_2 : zH 3 := (show zT 3 from (zk_99_zs1_60_X4_fillWays_24, (((0, 4, 0x100000007010000000701000000030100000003), (0, 5, 0x1000000000100000000010000000001000000000100000000)), zk_99_zs1_60_X4_fillWays_25)), (8, (0, 0)))
noncomputable def e_X4_fillWays_9_3 : zH 3 := (show zT 3 from (zk_99_zs1_60_X4_fillWays_24, (((0, 4, 0x100000007010000000301000000030100000003), (0, 5, 0x1000000000100000000010000000001000000000100000000)), zk_99_zs1_60_X4_fillWays_25)), (8, (0, 0)))
noncomputable def e_X4_fillWays_9_4 : zH 3 := (show zT 3 from (zk_99_zs1_60_X4_fillWays_24, (((0, 4, 0x100000003010000000301000000030100000003), (0, 5, 0x1000000000100000000010000000001000000000100000000)), zk_99_zs1_60_X4_fillWays_25)), (8, (0, 0)))
noncomputable abbrev es_X4_fillWays_9 : List (zEn 3) := [([zR 1, zI 0, zI 0, zI 4294967296], e_X4_fillWays_9_0), ([zR 1, zI 0, zI 1, zI 4294967296], e_X4_fillWays_9_1), ([zR 1, zI 1, zI 0, zI 4294967296], e_X4_fillWays_9_2), ([zR 1, zI 2, zI 0, zI 4294967296], e_X4_fillWays_9_3), ([zR 1, zI 3, zI 0, zI 4294967296], e_X4_fillWays_9_4)]
theorem we_X4_fillWays_9 : zgdR 0 0 (zU) (fun f => zfn 7 (b_X4_fillWaysa f)) es_X4_fillWays_9 = true := by decide +kernel
theorem ev_X4_fillWays_9 : zselfR 0 0 (zU) es_X4_fillWays_9 [zR 1, zI 0, zI 0, zI 4294967296] e_X4_fillWays_9_0 (zrk (zU) e_X4_fillWays_9_0) = true := by decide +kernel
noncomputable def g_X4_fillWays_9 {d : Nat} : List zV → zH d → zP d → Bool := zsmy [(0, 0), (1, 2), (1, 3), (1, 4), (1, 14), (1, 15), (1, 9), (1, 10)] [zR 1, zI 0, zI 0, zI 4294967296] e_X4_fillWays_9_0 (zU) e_X4_fillWays_9_0
theorem mg_X4_fillWays_9 {d : Nat} : zMet (d := d) X_X4_fillWays yX4_fillWays 9 g_X4_fillWays_9 := zMet_sm (mr_X4_fillWaysa es_X4_fillWays_9 we_X4_fillWays_9 8 (by decide)) ev_X4_fillWays_9
noncomputable def zk_99_zs1_60_X4_fillWays_26 : zT 2 := @Prod.mk (zT 1) (zT 1) ((20, 16, 0x6000000000501000000190000000000000000000000000000080000000007000000001800000000008000000007800000000600000000040000000003000000000200000000040000000004), (0, 4, 0x1000000000100000000010000000001)) ((0, 1, 4), (0, 4, 0x3000000000200000000010000000000))
noncomputable def zk_99_zs1_60_X4_fillWays_27 : zT 1 := @Prod.mk (zT 0) (zT 0) (0, 96, zun 40 96 4294967300) (0, 24, zun 40 24 4294967296)
noncomputable def e_X4_fillWays_10_0 : zH 3 := (show zT 3 from (zk_99_zs1_60_X4_fillWays_26, (zk_99_zs1_60_X4_fillWays_14, zk_99_zs1_60_X4_fillWays_27)), (8, (0, 0)))
noncomputable def e_X4_fillWays_10_1 : zH 3 := (show zT 3 from (zk_99_zs1_60_X4_fillWays_26, (((0, 4, 0x100000007010000000701000000070100000004), (0, 5, 0x1000000000100000000010000000001000000000100000000)), zk_99_zs1_60_X4_fillWays_27)), (8, (0, 0)))
noncomputable def e_X4_fillWays_10_2 : zH 3 := (show zT 3 from (zk_99_zs1_60_X4_fillWays_26, (((0, 4, 0x100000007010000000701000000040100000004), (0, 5, 0x1000000000100000000010000000001000000000100000000)), zk_99_zs1_60_X4_fillWays_27)), (8, (0, 0)))
noncomputable def e_X4_fillWays_10_3 : zH 3 := (show zT 3 from (zk_99_zs1_60_X4_fillWays_26, (((0, 4, 0x100000007010000000401000000040100000004), (0, 5, 0x1000000000100000000010000000001000000000100000000)), zk_99_zs1_60_X4_fillWays_27)), (8, (0, 0)))
noncomputable def e_X4_fillWays_10_4 : zH 3 := (show zT 3 from (zk_99_zs1_60_X4_fillWays_26, (((0, 4, 0x100000004010000000401000000040100000004), (0, 5, 0x1000000000100000000010000000001000000000100000000)), zk_99_zs1_60_X4_fillWays_27)), (8, (0, 0)))
noncomputable abbrev es_X4_fillWays_10 : List (zEn 3) := [([zR 1, zI 0, zI 0, zI 4294967296], e_X4_fillWays_10_0), ([zR 1, zI 1, zI 0, zI 4294967296], e_X4_fillWays_10_1), ([zR 1, zI 2, zI 0, zI 4294967296], e_X4_fillWays_10_2), ([zR 1, zI 3, zI 0, zI 4294967296], e_X4_fillWays_10_3), ([zR 1, zI 4, zI 0, zI 4294967296], e_X4_fillWays_10_4)]
theorem we_X4_fillWays_10 : zgdR 0 0 (zU) (fun f => zfn 7 (b_X4_fillWaysa f)) es_X4_fillWays_10 = true := by decide +kernel
theorem ev_X4_fillWays_10 : zselfR 0 0 (zU) es_X4_fillWays_10 [zR 1, zI 0, zI 0, zI 4294967296] e_X4_fillWays_10_0 (zrk (zU) e_X4_fillWays_10_0) = true := by decide +kernel
noncomputable def g_X4_fillWays_10 {d : Nat} : List zV → zH d → zP d → Bool := zsmy [(0, 0), (1, 2), (1, 3), (1, 4), (1, 14), (1, 15), (1, 9), (1, 10)] [zR 1, zI 0, zI 0, zI 4294967296] e_X4_fillWays_10_0 (zU) e_X4_fillWays_10_0
theorem mg_X4_fillWays_10 {d : Nat} : zMet (d := d) X_X4_fillWays yX4_fillWays 9 g_X4_fillWays_10 := zMet_sm (mr_X4_fillWaysa es_X4_fillWays_10 we_X4_fillWays_10 8 (by decide)) ev_X4_fillWays_10
noncomputable def zk_99_zs1_60_X4_fillWays_28 : zT 2 := @Prod.mk (zT 1) (zT 1) ((20, 16, 0x6000000000501000000020000000000000000000000000000080000000007000000000100000000008000000007800000000600000000040000000003000000000200000000010000000005), (0, 1, 5)) ((0, 5, 0x10000000001000000000100000000010000000001), (0, 1, 0))
noncomputable def zk_99_zs1_60_X4_fillWays_29 : zT 1 := @Prod.mk (zT 0) (zT 0) (0, 5, 0x1000000070100000007010000000701000000070100000007) zk_99_zs1_60_X4_fillWays_11
noncomputable def zk_99_zs1_60_X4_fillWays_30 : zT 1 := @Prod.mk (zT 0) (zT 0) (0, 5, 0x1000000010100000001010000000101000000010100000001) (0, 1, 0x100000000)
noncomputable def e_X4_fillWays_11_0 : zH 3 := (show zT 3 from (zk_99_zs1_60_X4_fillWays_28, (zk_99_zs1_60_X4_fillWays_29, zk_99_zs1_60_X4_fillWays_30)), (8, (0, 0)))
noncomputable def e_X4_fillWays_11_1 : zH 3 := (show zT 3 from (zk_99_zs1_60_X4_fillWays_28, (((0, 5, 0x1000000070100000007010000000701000000070100000001), zk_99_zs1_60_X4_fillWays_11), zk_99_zs1_60_X4_fillWays_30)), (8, (0, 0)))
noncomputable def e_X4_fillWays_11_2 : zH 3 := (show zT 3 from (zk_99_zs1_60_X4_fillWays_28, (((0, 5, 0x1000000070100000007010000000701000000010100000001), zk_99_zs1_60_X4_fillWays_11), zk_99_zs1_60_X4_fillWays_30)), (8, (0, 0)))
noncomputable def e_X4_fillWays_11_3 : zH 3 := (show zT 3 from (zk_99_zs1_60_X4_fillWays_28, (((0, 5, 0x1000000070100000007010000000101000000010100000001), zk_99_zs1_60_X4_fillWays_11), zk_99_zs1_60_X4_fillWays_30)), (8, (0, 0)))
noncomputable def e_X4_fillWays_11_4 : zH 3 := (show zT 3 from (zk_99_zs1_60_X4_fillWays_28, (((0, 5, 0x1000000070100000001010000000101000000010100000001), zk_99_zs1_60_X4_fillWays_11), zk_99_zs1_60_X4_fillWays_30)), (8, (0, 0)))
noncomputable def e_X4_fillWays_11_5 : zH 3 := (show zT 3 from (zk_99_zs1_60_X4_fillWays_28, (((0, 5, 0x1000000010100000001010000000101000000010100000001), zk_99_zs1_60_X4_fillWays_11), zk_99_zs1_60_X4_fillWays_30)), (8, (0, 0)))
noncomputable abbrev es_X4_fillWays_11 : List (zEn 3) := [([zR 1, zI 0, zI 0, zI 4294967296], e_X4_fillWays_11_0), ([zR 1, zI 0, zI 1, zI 4294967296], e_X4_fillWays_11_1), ([zR 1, zI 0, zI 2, zI 4294967296], e_X4_fillWays_11_2), ([zR 1, zI 0, zI 3, zI 4294967296], e_X4_fillWays_11_3), ([zR 1, zI 0, zI 4, zI 4294967296], e_X4_fillWays_11_4), ([zR 1, zI 1, zI 0, zI 4294967296], e_X4_fillWays_11_5)]
theorem we_X4_fillWays_11 : zgdR 0 0 (zU) (fun f => zfn 7 (b_X4_fillWaysa f)) es_X4_fillWays_11 = true := by decide +kernel
theorem ev_X4_fillWays_11 : zselfR 0 0 (zU) es_X4_fillWays_11 [zR 1, zI 0, zI 0, zI 4294967296] e_X4_fillWays_11_0 (zrk (zU) e_X4_fillWays_11_0) = true := by decide +kernel
noncomputable def g_X4_fillWays_11 {d : Nat} : List zV → zH d → zP d → Bool := zsmy [(0, 0), (1, 2), (1, 3), (1, 4), (1, 14), (1, 15), (1, 9), (1, 10)] [zR 1, zI 0, zI 0, zI 4294967296] e_X4_fillWays_11_0 (zU) e_X4_fillWays_11_0
theorem mg_X4_fillWays_11 {d : Nat} : zMet (d := d) X_X4_fillWays yX4_fillWays 9 g_X4_fillWays_11 := zMet_sm (mr_X4_fillWaysa es_X4_fillWays_11 we_X4_fillWays_11 8 (by decide)) ev_X4_fillWays_11
noncomputable def zk_99_zs1_60_X4_fillWays_31 : zT 2 := @Prod.mk (zT 1) (zT 1) ((20, 16, 0x6000000000501000000030000000000000000000000000000080000000007000000000200000000008000000007800000000600000000040000000003000000000200000000020000000005), (0, 2, 0x10000000004)) ((0, 4, 0x1000000000100000000010000000002), (0, 2, 0x40000000000))
noncomputable def zk_99_zs1_60_X4_fillWays_32 : zT 1 := @Prod.mk (zT 0) (zT 0) (0, 10, zun 40 10 4294967298) (0, 2, 0x1000000000100000000)
noncomputable def e_X4_fillWays_12_0 : zH 3 := (show zT 3 from (zk_99_zs1_60_X4_fillWays_31, (zk_99_zs1_60_X4_fillWays_29, zk_99_zs1_60_X4_fillWays_32)), (8, (0, 0)))
noncomputable def zk_99_zs1_60_X4_fillWays_33 : zT 1 := @Prod.mk (zT 0) (zT 0) (0, 5, 0x1000000070100000007010000000701000000070100000002) zk_99_zs1_60_X4_fillWays_11
noncomputable def e_X4_fillWays_12_1 : zH 3 := (show zT 3 from (zk_99_zs1_60_X4_fillWays_31, (zk_99_zs1_60_X4_fillWays_33, zk_99_zs1_60_X4_fillWays_32)), (8, (0, 0)))
noncomputable def zk_99_zs1_60_X4_fillWays_34 : zT 1 := @Prod.mk (zT 0) (zT 0) (0, 5, 0x1000000070100000007010000000701000000020100000002) zk_99_zs1_60_X4_fillWays_11
noncomputable def e_X4_fillWays_12_2 : zH 3 := (show zT 3 from (zk_99_zs1_60_X4_fillWays_31, (zk_99_zs1_60_X4_fillWays_34, zk_99_zs1_60_X4_fillWays_32)), (8, (0, 0)))
noncomputable def zk_99_zs1_60_X4_fillWays_35 : zT 1 := @Prod.mk (zT 0) (zT 0) (0, 5, 0x1000000070100000007010000000201000000020100000002) zk_99_zs1_60_X4_fillWays_11
noncomputable def e_X4_fillWays_12_3 : zH 3 := (show zT 3 from (zk_99_zs1_60_X4_fillWays_31, (zk_99_zs1_60_X4_fillWays_35, zk_99_zs1_60_X4_fillWays_32)), (8, (0, 0)))
noncomputable def zk_99_zs1_60_X4_fillWays_36 : zT 1 := @Prod.mk (zT 0) (zT 0) (0, 5, 0x1000000070100000002010000000201000000020100000002) zk_99_zs1_60_X4_fillWays_11
noncomputable def e_X4_fillWays_12_4 : zH 3 := (show zT 3 from (zk_99_zs1_60_X4_fillWays_31, (zk_99_zs1_60_X4_fillWays_36, zk_99_zs1_60_X4_fillWays_32)), (8, (0, 0)))
noncomputable def zk_99_zs1_60_X4_fillWays_37 : zT 1 := @Prod.mk (zT 0) (zT 0) (0, 5, 0x1000000020100000002010000000201000000020100000002) zk_99_zs1_60_X4_fillWays_11
noncomputable def e_X4_fillWays_12_5 : zH 3 := (show zT 3 from (zk_99_zs1_60_X4_fillWays_31, (zk_99_zs1_60_X4_fillWays_37, zk_99_zs1_60_X4_fillWays_32)), (8, (0, 0)))
noncomputable abbrev es_X4_fillWays_12 : List (zEn 3) := [([zR 1, zI 0, zI 0, zI 4294967296], e_X4_fillWays_12_0), ([zR 1, zI 0, zI 1, zI 4294967296], e_X4_fillWays_12_1), ([zR 1, zI 0, zI 2, zI 4294967296], e_X4_fillWays_12_2), ([zR 1, zI 0, zI 3, zI 4294967296], e_X4_fillWays_12_3), ([zR 1, zI 1, zI 0, zI 4294967296], e_X4_fillWays_12_4), ([zR 1, zI 2, zI 0, zI 4294967296], e_X4_fillWays_12_5)]
theorem we_X4_fillWays_12 : zgdR 0 0 (zU) (fun f => zfn 7 (b_X4_fillWaysa f)) es_X4_fillWays_12 = true := by decide +kernel
theorem ev_X4_fillWays_12 : zselfR 0 0 (zU) es_X4_fillWays_12 [zR 1, zI 0, zI 0, zI 4294967296] e_X4_fillWays_12_0 (zrk (zU) e_X4_fillWays_12_0) = true := by decide +kernel
noncomputable def g_X4_fillWays_12 {d : Nat} : List zV → zH d → zP d → Bool := zsmy [(0, 0), (1, 2), (1, 3), (1, 4), (1, 14), (1, 15), (1, 9), (1, 10)] [zR 1, zI 0, zI 0, zI 4294967296] e_X4_fillWays_12_0 (zU) e_X4_fillWays_12_0
theorem mg_X4_fillWays_12 {d : Nat} : zMet (d := d) X_X4_fillWays yX4_fillWays 9 g_X4_fillWays_12 := zMet_sm (mr_X4_fillWaysa es_X4_fillWays_12 we_X4_fillWays_12 8 (by decide)) ev_X4_fillWays_12
noncomputable def zk_99_zs1_60_X4_fillWays_38 : zT 2 := @Prod.mk (zT 1) (zT 1) ((20, 16, 0x6000000000501000000050000000000000000000000000000080000000007000000000400000000008000000007800000000600000000040000000003000000000200000000020000000005), (0, 2, 0x20000000003)) ((0, 3, 0x100000000020000000002), (0, 2, 0x30000000000))
noncomputable def zk_99_zs1_60_X4_fillWays_39 : zT 1 := @Prod.mk (zT 0) (zT 0) (0, 20, zun 40 20 4294967298) (0, 4, 0x100000000010000000001000000000100000000)
noncomputable def e_X4_fillWays_13_0 : zH 3 := (show zT 3 from (zk_99_zs1_60_X4_fillWays_38, (zk_99_zs1_60_X4_fillWays_29, zk_99_zs1_60_X4_fillWays_39)), (8, (0, 0)))
noncomputable def e_X4_fillWays_13_1 : zH 3 := (show zT 3 from (zk_99_zs1_60_X4_fillWays_38, (zk_99_zs1_60_X4_fillWays_33, zk_99_zs1_60_X4_fillWays_39)), (8, (0, 0)))
noncomputable def e_X4_fillWays_13_2 : zH 3 := (show zT 3 from (zk_99_zs1_60_X4_fillWays_38, (zk_99_zs1_60_X4_fillWays_34, zk_99_zs1_60_X4_fillWays_39)), (8, (0, 0)))
noncomputable def e_X4_fillWays_13_3 : zH 3 := (show zT 3 from (zk_99_zs1_60_X4_fillWays_38, (zk_99_zs1_60_X4_fillWays_35, zk_99_zs1_60_X4_fillWays_39)), (8, (0, 0)))
noncomputable def e_X4_fillWays_13_4 : zH 3 := (show zT 3 from (zk_99_zs1_60_X4_fillWays_38, (zk_99_zs1_60_X4_fillWays_36, zk_99_zs1_60_X4_fillWays_39)), (8, (0, 0)))
noncomputable def e_X4_fillWays_13_5 : zH 3 := (show zT 3 from (zk_99_zs1_60_X4_fillWays_38, (zk_99_zs1_60_X4_fillWays_37, zk_99_zs1_60_X4_fillWays_39)), (8, (0, 0)))
noncomputable abbrev es_X4_fillWays_13 : List (zEn 3) := [([zR 1, zI 0, zI 0, zI 4294967296], e_X4_fillWays_13_0), ([zR 1, zI 0, zI 1, zI 4294967296], e_X4_fillWays_13_1), ([zR 1, zI 0, zI 2, zI 4294967296], e_X4_fillWays_13_2), ([zR 1, zI 1, zI 0, zI 4294967296], e_X4_fillWays_13_3), ([zR 1, zI 1, zI 1, zI 4294967296], e_X4_fillWays_13_4), ([zR 1, zI 2, zI 0, zI 4294967296], e_X4_fillWays_13_5)]
theorem we_X4_fillWays_13 : zgdR 0 0 (zU) (fun f => zfn 7 (b_X4_fillWaysa f)) es_X4_fillWays_13 = true := by decide +kernel
theorem ev_X4_fillWays_13 : zselfR 0 0 (zU) es_X4_fillWays_13 [zR 1, zI 0, zI 0, zI 4294967296] e_X4_fillWays_13_0 (zrk (zU) e_X4_fillWays_13_0) = true := by decide +kernel
noncomputable def g_X4_fillWays_13 {d : Nat} : List zV → zH d → zP d → Bool := zsmy [(0, 0), (1, 2), (1, 3), (1, 4), (1, 14), (1, 15), (1, 9), (1, 10)] [zR 1, zI 0, zI 0, zI 4294967296] e_X4_fillWays_13_0 (zU) e_X4_fillWays_13_0
theorem mg_X4_fillWays_13 {d : Nat} : zMet (d := d) X_X4_fillWays yX4_fillWays 9 g_X4_fillWays_13 := zMet_sm (mr_X4_fillWaysa es_X4_fillWays_13 we_X4_fillWays_13 8 (by decide)) ev_X4_fillWays_13
noncomputable def zk_99_zs1_60_X4_fillWays_40 : zT 2 := @Prod.mk (zT 1) (zT 1) ((20, 16, 0x6000000000501000000070000000000000000000000000000080000000007000000000600000000008000000007800000000600000000040000000003000000000200000000030000000005), (0, 3, 0x100000000010000000003)) ((0, 3, 0x100000000010000000003), (0, 3, 0x400000000030000000000))
noncomputable def zk_99_zs1_60_X4_fillWays_41 : zT 1 := @Prod.mk (zT 0) (zT 0) (0, 30, zun 40 30 4294967299) zk_99_zs1_60_X4_fillWays_11
noncomputable def e_X4_fillWays_14_0 : zH 3 := (show zT 3 from (zk_99_zs1_60_X4_fillWays_40, (zk_99_zs1_60_X4_fillWays_29, zk_99_zs1_60_X4_fillWays_41)), (8, (0, 0)))
noncomputable def zk_99_zs1_60_X4_fillWays_42 : zT 1 := @Prod.mk (zT 0) (zT 0) (0, 5, 0x1000000070100000007010000000701000000070100000003) zk_99_zs1_60_X4_fillWays_11
noncomputable def e_X4_fillWays_14_1 : zH 3 := (show zT 3 from (zk_99_zs1_60_X4_fillWays_40, (zk_99_zs1_60_X4_fillWays_42, zk_99_zs1_60_X4_fillWays_41)), (8, (0, 0)))
noncomputable def zk_99_zs1_60_X4_fillWays_43 : zT 1 := @Prod.mk (zT 0) (zT 0) (0, 5, 0x1000000070100000007010000000701000000030100000003) zk_99_zs1_60_X4_fillWays_11
noncomputable def e_X4_fillWays_14_2 : zH 3 := (show zT 3 from (zk_99_zs1_60_X4_fillWays_40, (zk_99_zs1_60_X4_fillWays_43, zk_99_zs1_60_X4_fillWays_41)), (8, (0, 0)))
noncomputable def zk_99_zs1_60_X4_fillWays_44 : zT 1 := @Prod.mk (zT 0) (zT 0) (0, 5, 0x1000000070100000007010000000301000000030100000003) zk_99_zs1_60_X4_fillWays_11
noncomputable def e_X4_fillWays_14_3 : zH 3 := (show zT 3 from (zk_99_zs1_60_X4_fillWays_40, (zk_99_zs1_60_X4_fillWays_44, zk_99_zs1_60_X4_fillWays_41)), (8, (0, 0)))
noncomputable def zk_99_zs1_60_X4_fillWays_45 : zT 1 := @Prod.mk (zT 0) (zT 0) (0, 5, 0x1000000070100000003010000000301000000030100000003) zk_99_zs1_60_X4_fillWays_11
noncomputable def e_X4_fillWays_14_4 : zH 3 := (show zT 3 from (zk_99_zs1_60_X4_fillWays_40, (zk_99_zs1_60_X4_fillWays_45, zk_99_zs1_60_X4_fillWays_41)), (8, (0, 0)))
noncomputable def zk_99_zs1_60_X4_fillWays_46 : zT 1 := @Prod.mk (zT 0) (zT 0) (0, 5, 0x1000000030100000003010000000301000000030100000003) zk_99_zs1_60_X4_fillWays_11
noncomputable def e_X4_fillWays_14_5 : zH 3 := (show zT 3 from (zk_99_zs1_60_X4_fillWays_40, (zk_99_zs1_60_X4_fillWays_46, zk_99_zs1_60_X4_fillWays_41)), (8, (0, 0)))
noncomputable abbrev es_X4_fillWays_14 : List (zEn 3) := [([zR 1, zI 0, zI 0, zI 4294967296], e_X4_fillWays_14_0), ([zR 1, zI 0, zI 1, zI 4294967296], e_X4_fillWays_14_1), ([zR 1, zI 0, zI 2, zI 4294967296], e_X4_fillWays_14_2), ([zR 1, zI 1, zI 0, zI 4294967296], e_X4_fillWays_14_3), ([zR 1, zI 2, zI 0, zI 4294967296], e_X4_fillWays_14_4), ([zR 1, zI 3, zI 0, zI 4294967296], e_X4_fillWays_14_5)]
theorem we_X4_fillWays_14 : zgdR 0 0 (zU) (fun f => zfn 7 (b_X4_fillWaysa f)) es_X4_fillWays_14 = true := by decide +kernel
theorem ev_X4_fillWays_14 : zselfR 0 0 (zU) es_X4_fillWays_14 [zR 1, zI 0, zI 0, zI 4294967296] e_X4_fillWays_14_0 (zrk (zU) e_X4_fillWays_14_0) = true := by decide +kernel
noncomputable def g_X4_fillWays_14 {d : Nat} : List zV → zH d → zP d → Bool := zsmy [(0, 0), (1, 2), (1, 3), (1, 4), (1, 14), (1, 15), (1, 9), (1, 10)] [zR 1, zI 0, zI 0, zI 4294967296] e_X4_fillWays_14_0 (zU) e_X4_fillWays_14_0
theorem mg_X4_fillWays_14 {d : Nat} : zMet (d := d) X_X4_fillWays yX4_fillWays 9 g_X4_fillWays_14 := zMet_sm (mr_X4_fillWaysa es_X4_fillWays_14 we_X4_fillWays_14 8 (by decide)) ev_X4_fillWays_14
noncomputable def zk_99_zs1_60_X4_fillWays_47 : zT 2 := @Prod.mk (zT 1) (zT 1) ((20, 16, 0x60000000005010000000d0000000000000000000000000000080000000007000000000c00000000008000000007800000000600000000040000000003000000000200000000030000000005), (0, 3, 0x100000000020000000002)) ((0, 2, 0x20000000003), (0, 3, 0x400000000020000000000))
noncomputable def zk_99_zs1_60_X4_fillWays_48 : zT 1 := @Prod.mk (zT 0) (zT 0) (0, 60, zun 40 60 4294967299) (0, 12, zun 40 12 4294967296)
noncomputable def e_X4_fillWays_15_0 : zH 3 := (show zT 3 from (zk_99_zs1_60_X4_fillWays_47, (zk_99_zs1_60_X4_fillWays_29, zk_99_zs1_60_X4_fillWays_48)), (8, (0, 0)))
noncomputable def e_X4_fillWays_15_1 : zH 3 := (show zT 3 from (zk_99_zs1_60_X4_fillWays_47, (zk_99_zs1_60_X4_fillWays_42, zk_99_zs1_60_X4_fillWays_48)), (8, (0, 0)))
noncomputable def e_X4_fillWays_15_2 : zH 3 := (show zT 3 from (zk_99_zs1_60_X4_fillWays_47, (zk_99_zs1_60_X4_fillWays_43, zk_99_zs1_60_X4_fillWays_48)), (8, (0, 0)))
noncomputable def e_X4_fillWays_15_3 : zH 3 := (show zT 3 from (zk_99_zs1_60_X4_fillWays_47, (zk_99_zs1_60_X4_fillWays_44, zk_99_zs1_60_X4_fillWays_48)), (8, (0, 0)))
noncomputable def e_X4_fillWays_15_4 : zH 3 := (show zT 3 from (zk_99_zs1_60_X4_fillWays_47, (zk_99_zs1_60_X4_fillWays_45, zk_99_zs1_60_X4_fillWays_48)), (8, (0, 0)))
noncomputable def e_X4_fillWays_15_5 : zH 3 := (show zT 3 from (zk_99_zs1_60_X4_fillWays_47, (zk_99_zs1_60_X4_fillWays_46, zk_99_zs1_60_X4_fillWays_48)), (8, (0, 0)))
noncomputable abbrev es_X4_fillWays_15 : List (zEn 3) := [([zR 1, zI 0, zI 0, zI 4294967296], e_X4_fillWays_15_0), ([zR 1, zI 0, zI 1, zI 4294967296], e_X4_fillWays_15_1), ([zR 1, zI 1, zI 0, zI 4294967296], e_X4_fillWays_15_2), ([zR 1, zI 1, zI 1, zI 4294967296], e_X4_fillWays_15_3), ([zR 1, zI 2, zI 0, zI 4294967296], e_X4_fillWays_15_4), ([zR 1, zI 3, zI 0, zI 4294967296], e_X4_fillWays_15_5)]
theorem we_X4_fillWays_15 : zgdR 0 0 (zU) (fun f => zfn 7 (b_X4_fillWaysa f)) es_X4_fillWays_15 = true := by decide +kernel
theorem ev_X4_fillWays_15 : zselfR 0 0 (zU) es_X4_fillWays_15 [zR 1, zI 0, zI 0, zI 4294967296] e_X4_fillWays_15_0 (zrk (zU) e_X4_fillWays_15_0) = true := by decide +kernel
noncomputable def g_X4_fillWays_15 {d : Nat} : List zV → zH d → zP d → Bool := zsmy [(0, 0), (1, 2), (1, 3), (1, 4), (1, 14), (1, 15), (1, 9), (1, 10)] [zR 1, zI 0, zI 0, zI 4294967296] e_X4_fillWays_15_0 (zU) e_X4_fillWays_15_0
theorem mg_X4_fillWays_15 {d : Nat} : zMet (d := d) X_X4_fillWays yX4_fillWays 9 g_X4_fillWays_15 := zMet_sm (mr_X4_fillWaysa es_X4_fillWays_15 we_X4_fillWays_15 8 (by decide)) ev_X4_fillWays_15
noncomputable def zk_99_zs1_60_X4_fillWays_49 : zT 2 := @Prod.mk (zT 1) (zT 1) ((20, 16, 0x6000000000501000000190000000000000000000000000000080000000007000000001800000000008000000007800000000600000000040000000003000000000200000000040000000005), (0, 4, 0x1000000000100000000010000000002)) ((0, 2, 0x10000000004), (0, 4, 0x4000000000300000000020000000000))
noncomputable def zk_99_zs1_60_X4_fillWays_50 : zT 1 := @Prod.mk (zT 0) (zT 0) (0, 120, zun 40 120 4294967300) (0, 24, zun 40 24 4294967296)
noncomputable def e_X4_fillWays_16_0 : zH 3 := (show zT 3 from (zk_99_zs1_60_X4_fillWays_49, (zk_99_zs1_60_X4_fillWays_29, zk_99_zs1_60_X4_fillWays_50)), (8, (0, 0)))
noncomputable def e_X4_fillWays_16_1 : zH 3 := (show zT 3 from (zk_99_zs1_60_X4_fillWays_49, (((0, 5, 0x1000000070100000007010000000701000000070100000004), zk_99_zs1_60_X4_fillWays_11), zk_99_zs1_60_X4_fillWays_50)), (8, (0, 0)))
noncomputable def e_X4_fillWays_16_2 : zH 3 := (show zT 3 from (zk_99_zs1_60_X4_fillWays_49, (((0, 5, 0x1000000070100000007010000000701000000040100000004), zk_99_zs1_60_X4_fillWays_11), zk_99_zs1_60_X4_fillWays_50)), (8, (0, 0)))
noncomputable def e_X4_fillWays_16_3 : zH 3 := (show zT 3 from (zk_99_zs1_60_X4_fillWays_49, (((0, 5, 0x1000000070100000007010000000401000000040100000004), zk_99_zs1_60_X4_fillWays_11), zk_99_zs1_60_X4_fillWays_50)), (8, (0, 0)))
noncomputable def e_X4_fillWays_16_4 : zH 3 := (show zT 3 from (zk_99_zs1_60_X4_fillWays_49, (((0, 5, 0x1000000070100000004010000000401000000040100000004), zk_99_zs1_60_X4_fillWays_11), zk_99_zs1_60_X4_fillWays_50)), (8, (0, 0)))
noncomputable def e_X4_fillWays_16_5 : zH 3 := (show zT 3 from (zk_99_zs1_60_X4_fillWays_49, (((0, 5, 0x1000000040100000004010000000401000000040100000004), zk_99_zs1_60_X4_fillWays_11), zk_99_zs1_60_X4_fillWays_50)), (8, (0, 0)))
noncomputable abbrev es_X4_fillWays_16 : List (zEn 3) := [([zR 1, zI 0, zI 0, zI 4294967296], e_X4_fillWays_16_0), ([zR 1, zI 0, zI 1, zI 4294967296], e_X4_fillWays_16_1), ([zR 1, zI 1, zI 0, zI 4294967296], e_X4_fillWays_16_2), ([zR 1, zI 2, zI 0, zI 4294967296], e_X4_fillWays_16_3), ([zR 1, zI 3, zI 0, zI 4294967296], e_X4_fillWays_16_4), ([zR 1, zI 4, zI 0, zI 4294967296], e_X4_fillWays_16_5)]
theorem we_X4_fillWays_16 : zgdR 0 0 (zU) (fun f => zfn 7 (b_X4_fillWaysa f)) es_X4_fillWays_16 = true := by decide +kernel
theorem ev_X4_fillWays_16 : zselfR 0 0 (zU) es_X4_fillWays_16 [zR 1, zI 0, zI 0, zI 4294967296] e_X4_fillWays_16_0 (zrk (zU) e_X4_fillWays_16_0) = true := by decide +kernel
noncomputable def g_X4_fillWays_16 {d : Nat} : List zV → zH d → zP d → Bool := zsmy [(0, 0), (1, 2), (1, 3), (1, 4), (1, 14), (1, 15), (1, 9), (1, 10)] [zR 1, zI 0, zI 0, zI 4294967296] e_X4_fillWays_16_0 (zU) e_X4_fillWays_16_0
theorem mg_X4_fillWays_16 {d : Nat} : zMet (d := d) X_X4_fillWays yX4_fillWays 9 g_X4_fillWays_16 := zMet_sm (mr_X4_fillWaysa es_X4_fillWays_16 we_X4_fillWays_16 8 (by decide)) ev_X4_fillWays_16
noncomputable def zk_99_zs1_60_X4_fillWays_51 : zT 2 := @Prod.mk (zT 1) (zT 1) ((20, 16, 0x6000000000501000000790000000000000000000000000000080000000007000000007800000000008000000007800000000600000000040000000003000000000200000000050000000005), (0, 5, 0x10000000001000000000100000000010000000001)) ((0, 1, 5), (0, 5, 0x40000000003000000000200000000010000000000))
noncomputable def zk_99_zs1_60_X4_fillWays_52 : zT 1 := @Prod.mk (zT 0) (zT 0) (0, 600, zun 40 600 4294967301) (0, 120, zun 40 120 4294967296)
noncomputable def e_X4_fillWays_17_0 : zH 3 := (show zT 3 from (zk_99_zs1_60_X4_fillWays_51, (zk_99_zs1_60_X4_fillWays_29, zk_99_zs1_60_X4_fillWays_52)), (8, (0, 0)))
noncomputable def e_X4_fillWays_17_1 : zH 3 := (show zT 3 from (zk_99_zs1_60_X4_fillWays_51, (((0, 5, 0x1000000070100000007010000000701000000070100000005), zk_99_zs1_60_X4_fillWays_11), zk_99_zs1_60_X4_fillWays_52)), (8, (0, 0)))
noncomputable def e_X4_fillWays_17_2 : zH 3 := (show zT 3 from (zk_99_zs1_60_X4_fillWays_51, (((0, 5, 0x1000000070100000007010000000701000000050100000005), zk_99_zs1_60_X4_fillWays_11), zk_99_zs1_60_X4_fillWays_52)), (8, (0, 0)))
noncomputable def e_X4_fillWays_17_3 : zH 3 := (show zT 3 from (zk_99_zs1_60_X4_fillWays_51, (((0, 5, 0x1000000070100000007010000000501000000050100000005), zk_99_zs1_60_X4_fillWays_11), zk_99_zs1_60_X4_fillWays_52)), (8, (0, 0)))
noncomputable def e_X4_fillWays_17_4 : zH 3 := (show zT 3 from (zk_99_zs1_60_X4_fillWays_51, (((0, 5, 0x1000000070100000005010000000501000000050100000005), zk_99_zs1_60_X4_fillWays_11), zk_99_zs1_60_X4_fillWays_52)), (8, (0, 0)))
noncomputable def e_X4_fillWays_17_5 : zH 3 := (show zT 3 from (zk_99_zs1_60_X4_fillWays_51, (((0, 5, 0x1000000050100000005010000000501000000050100000005), zk_99_zs1_60_X4_fillWays_11), zk_99_zs1_60_X4_fillWays_52)), (8, (0, 0)))
noncomputable abbrev es_X4_fillWays_17 : List (zEn 3) := [([zR 1, zI 0, zI 0, zI 4294967296], e_X4_fillWays_17_0), ([zR 1, zI 1, zI 0, zI 4294967296], e_X4_fillWays_17_1), ([zR 1, zI 2, zI 0, zI 4294967296], e_X4_fillWays_17_2), ([zR 1, zI 3, zI 0, zI 4294967296], e_X4_fillWays_17_3), ([zR 1, zI 4, zI 0, zI 4294967296], e_X4_fillWays_17_4), ([zR 1, zI 5, zI 0, zI 4294967296], e_X4_fillWays_17_5)]
theorem we_X4_fillWays_17 : zgdR 0 0 (zU) (fun f => zfn 7 (b_X4_fillWaysa f)) es_X4_fillWays_17 = true := by decide +kernel
theorem ev_X4_fillWays_17 : zselfR 0 0 (zU) es_X4_fillWays_17 [zR 1, zI 0, zI 0, zI 4294967296] e_X4_fillWays_17_0 (zrk (zU) e_X4_fillWays_17_0) = true := by decide +kernel
noncomputable def g_X4_fillWays_17 {d : Nat} : List zV → zH d → zP d → Bool := zsmy [(0, 0), (1, 2), (1, 3), (1, 4), (1, 14), (1, 15), (1, 9), (1, 10)] [zR 1, zI 0, zI 0, zI 4294967296] e_X4_fillWays_17_0 (zU) e_X4_fillWays_17_0
theorem mg_X4_fillWays_17 {d : Nat} : zMet (d := d) X_X4_fillWays yX4_fillWays 9 g_X4_fillWays_17 := zMet_sm (mr_X4_fillWaysa es_X4_fillWays_17 we_X4_fillWays_17 8 (by decide)) ev_X4_fillWays_17
noncomputable def zk_99_zs1_60_X4_fillWays_53 : zC := (0, 6, 0x100000000010000000001000000000100000000010000000001)
noncomputable def zk_99_zs1_60_X4_fillWays_54 : zT 2 := @Prod.mk (zT 1) (zT 1) ((20, 16, 0x6000000000501000000020000000000000000000000000000080000000007000000000100000000008000000007800000000600000000040000000003000000000200000000010000000006), (0, 1, 6)) (zk_99_zs1_60_X4_fillWays_53, (0, 1, 0))
noncomputable def zk_99_zs1_60_X4_fillWays_55 : zC := (0, 7, 0x100000000010000000001000000000100000000010000000001000000000100000000)
noncomputable def zk_99_zs1_60_X4_fillWays_56 : zT 1 := @Prod.mk (zT 0) (zT 0) (0, 6, 0x10000000701000000070100000007010000000701000000070100000007) zk_99_zs1_60_X4_fillWays_55
noncomputable def zk_99_zs1_60_X4_fillWays_57 : zC := (0, 6, 0x10000000101000000010100000001010000000101000000010100000001)
noncomputable def e_X4_fillWays_18_0 : zH 3 := (show zT 3 from (zk_99_zs1_60_X4_fillWays_54, (zk_99_zs1_60_X4_fillWays_56, (zk_99_zs1_60_X4_fillWays_57, (0, 1, 0x100000000)))), (8, (0, 0)))
noncomputable def e_X4_fillWays_18_1 : zH 3 := (show zT 3 from (zk_99_zs1_60_X4_fillWays_54, (((0, 6, 0x10000000701000000070100000007010000000701000000070100000001), zk_99_zs1_60_X4_fillWays_55), (zk_99_zs1_60_X4_fillWays_57, (0, 1, 0x100000000)))), (8, (0, 0)))
noncomputable def e_X4_fillWays_18_2 : zH 3 := (show zT 3 from (zk_99_zs1_60_X4_fillWays_54, (((0, 6, 0x10000000701000000070100000007010000000701000000010100000001), zk_99_zs1_60_X4_fillWays_55), (zk_99_zs1_60_X4_fillWays_57, (0, 1, 0x100000000)))), (8, (0, 0)))
noncomputable def e_X4_fillWays_18_3 : zH 3 := (show zT 3 from (zk_99_zs1_60_X4_fillWays_54, (((0, 6, 0x10000000701000000070100000007010000000101000000010100000001), zk_99_zs1_60_X4_fillWays_55), (zk_99_zs1_60_X4_fillWays_57, (0, 1, 0x100000000)))), (8, (0, 0)))
noncomputable def e_X4_fillWays_18_4 : zH 3 := (show zT 3 from (zk_99_zs1_60_X4_fillWays_54, (((0, 6, 0x10000000701000000070100000001010000000101000000010100000001), zk_99_zs1_60_X4_fillWays_55), (zk_99_zs1_60_X4_fillWays_57, (0, 1, 0x100000000)))), (8, (0, 0)))
noncomputable def e_X4_fillWays_18_5 : zH 3 := (show zT 3 from (zk_99_zs1_60_X4_fillWays_54, (((0, 6, 0x10000000701000000010100000001010000000101000000010100000001), zk_99_zs1_60_X4_fillWays_55), (zk_99_zs1_60_X4_fillWays_57, (0, 1, 0x100000000)))), (8, (0, 0)))
noncomputable def e_X4_fillWays_18_6 : zH 3 := (show zT 3 from (zk_99_zs1_60_X4_fillWays_54, ((zk_99_zs1_60_X4_fillWays_57, zk_99_zs1_60_X4_fillWays_55), (zk_99_zs1_60_X4_fillWays_57, (0, 1, 0x100000000)))), (8, (0, 0)))
noncomputable abbrev es_X4_fillWays_18 : List (zEn 3) := [([zR 1, zI 0, zI 0, zI 4294967296], e_X4_fillWays_18_0), ([zR 1, zI 0, zI 1, zI 4294967296], e_X4_fillWays_18_1), ([zR 1, zI 0, zI 2, zI 4294967296], e_X4_fillWays_18_2), ([zR 1, zI 0, zI 3, zI 4294967296], e_X4_fillWays_18_3), ([zR 1, zI 0, zI 4, zI 4294967296], e_X4_fillWays_18_4), ([zR 1, zI 0, zI 5, zI 4294967296], e_X4_fillWays_18_5), ([zR 1, zI 1, zI 0, zI 4294967296], e_X4_fillWays_18_6)]
theorem we_X4_fillWays_18 : zgdR 0 0 (zU) (fun f => zfn 7 (b_X4_fillWaysa f)) es_X4_fillWays_18 = true := by decide +kernel
theorem ev_X4_fillWays_18 : zselfR 0 0 (zU) es_X4_fillWays_18 [zR 1, zI 0, zI 0, zI 4294967296] e_X4_fillWays_18_0 (zrk (zU) e_X4_fillWays_18_0) = true := by decide +kernel
noncomputable def g_X4_fillWays_18 {d : Nat} : List zV → zH d → zP d → Bool := zsmy [(0, 0), (1, 2), (1, 3), (1, 4), (1, 14), (1, 15), (1, 9), (1, 10)] [zR 1, zI 0, zI 0, zI 4294967296] e_X4_fillWays_18_0 (zU) e_X4_fillWays_18_0
theorem mg_X4_fillWays_18 {d : Nat} : zMet (d := d) X_X4_fillWays yX4_fillWays 9 g_X4_fillWays_18 := zMet_sm (mr_X4_fillWaysa es_X4_fillWays_18 we_X4_fillWays_18 8 (by decide)) ev_X4_fillWays_18
noncomputable def zk_99_zs1_60_X4_fillWays_58 : zT 2 := @Prod.mk (zT 1) (zT 1) ((20, 16, 0x6000000000501000000030000000000000000000000000000080000000007000000000200000000008000000007800000000600000000040000000003000000000200000000020000000006), (0, 2, 0x10000000005)) ((0, 5, 0x10000000001000000000100000000010000000002), (0, 2, 0x50000000000))
noncomputable def zk_99_zs1_60_X4_fillWays_59 : zT 1 := @Prod.mk (zT 0) (zT 0) (0, 12, zun 40 12 4294967298) (0, 2, 0x1000000000100000000)
noncomputable def e_X4_fillWays_19_0 : zH 3 := (show zT 3 from (zk_99_zs1_60_X4_fillWays_58, (zk_99_zs1_60_X4_fillWays_56, zk_99_zs1_60_X4_fillWays_59)), (8, (0, 0)))
noncomputable def zk_99_zs1_60_X4_fillWays_60 : zT 1 := @Prod.mk (zT 0) (zT 0) (0, 6, 0x10000000701000000070100000007010000000701000000070100000002) zk_99_zs1_60_X4_fillWays_55
noncomputable def e_X4_fillWays_19_1 : zH 3 := (show zT 3 from (zk_99_zs1_60_X4_fillWays_58, (zk_99_zs1_60_X4_fillWays_60, zk_99_zs1_60_X4_fillWays_59)), (8, (0, 0)))
noncomputable def zk_99_zs1_60_X4_fillWays_61 : zT 1 := @Prod.mk (zT 0) (zT 0) (0, 6, 0x10000000701000000070100000007010000000701000000020100000002) zk_99_zs1_60_X4_fillWays_55
noncomputable def e_X4_fillWays_19_2 : zH 3 := (show zT 3 from (zk_99_zs1_60_X4_fillWays_58, (zk_99_zs1_60_X4_fillWays_61, zk_99_zs1_60_X4_fillWays_59)), (8, (0, 0)))
noncomputable def zk_99_zs1_60_X4_fillWays_62 : zT 1 := @Prod.mk (zT 0) (zT 0) (0, 6, 0x10000000701000000070100000007010000000201000000020100000002) zk_99_zs1_60_X4_fillWays_55
noncomputable def e_X4_fillWays_19_3 : zH 3 := (show zT 3 from (zk_99_zs1_60_X4_fillWays_58, (zk_99_zs1_60_X4_fillWays_62, zk_99_zs1_60_X4_fillWays_59)), (8, (0, 0)))
noncomputable def zk_99_zs1_60_X4_fillWays_63 : zT 1 := @Prod.mk (zT 0) (zT 0) (0, 6, 0x10000000701000000070100000002010000000201000000020100000002) zk_99_zs1_60_X4_fillWays_55
noncomputable def e_X4_fillWays_19_4 : zH 3 := (show zT 3 from (zk_99_zs1_60_X4_fillWays_58, (zk_99_zs1_60_X4_fillWays_63, zk_99_zs1_60_X4_fillWays_59)), (8, (0, 0)))
noncomputable def zk_99_zs1_60_X4_fillWays_64 : zT 1 := @Prod.mk (zT 0) (zT 0) (0, 6, 0x10000000701000000020100000002010000000201000000020100000002) zk_99_zs1_60_X4_fillWays_55
noncomputable def e_X4_fillWays_19_5 : zH 3 := (show zT 3 from (zk_99_zs1_60_X4_fillWays_58, (zk_99_zs1_60_X4_fillWays_64, zk_99_zs1_60_X4_fillWays_59)), (8, (0, 0)))
noncomputable def e_X4_fillWays_19_6 : zH 3 := (show zT 3 from (zk_99_zs1_60_X4_fillWays_58, ((zk_99_zs1_60_X4_fillWays_9, zk_99_zs1_60_X4_fillWays_55), zk_99_zs1_60_X4_fillWays_59)), (8, (0, 0)))
noncomputable abbrev es_X4_fillWays_19 : List (zEn 3) := [([zR 1, zI 0, zI 0, zI 4294967296], e_X4_fillWays_19_0), ([zR 1, zI 0, zI 1, zI 4294967296], e_X4_fillWays_19_1), ([zR 1, zI 0, zI 2, zI 4294967296], e_X4_fillWays_19_2), ([zR 1, zI 0, zI 3, zI 4294967296], e_X4_fillWays_19_3), ([zR 1, zI 0, zI 4, zI 4294967296], e_X4_fillWays_19_4), ([zR 1, zI 1, zI 0, zI 4294967296], e_X4_fillWays_19_5), ([zR 1, zI 2, zI 0, zI 4294967296], e_X4_fillWays_19_6)]
theorem we_X4_fillWays_19 : zgdR 0 0 (zU) (fun f => zfn 7 (b_X4_fillWaysa f)) es_X4_fillWays_19 = true := by decide +kernel
theorem ev_X4_fillWays_19 : zselfR 0 0 (zU) es_X4_fillWays_19 [zR 1, zI 0, zI 0, zI 4294967296] e_X4_fillWays_19_0 (zrk (zU) e_X4_fillWays_19_0) = true := by decide +kernel
noncomputable def g_X4_fillWays_19 {d : Nat} : List zV → zH d → zP d → Bool := zsmy [(0, 0), (1, 2), (1, 3), (1, 4), (1, 14), (1, 15), (1, 9), (1, 10)] [zR 1, zI 0, zI 0, zI 4294967296] e_X4_fillWays_19_0 (zU) e_X4_fillWays_19_0
theorem mg_X4_fillWays_19 {d : Nat} : zMet (d := d) X_X4_fillWays yX4_fillWays 9 g_X4_fillWays_19 := zMet_sm (mr_X4_fillWaysa es_X4_fillWays_19 we_X4_fillWays_19 8 (by decide)) ev_X4_fillWays_19
noncomputable def zk_99_zs1_60_X4_fillWays_65 : zT 2 := @Prod.mk (zT 1) (zT 1) ((20, 16, 0x6000000000501000000050000000000000000000000000000080000000007000000000400000000008000000007800000000600000000040000000003000000000200000000020000000006), (0, 2, 0x20000000004)) ((0, 4, 0x1000000000100000000020000000002), (0, 2, 0x40000000000))
noncomputable def zk_99_zs1_60_X4_fillWays_66 : zT 1 := @Prod.mk (zT 0) (zT 0) (0, 24, zun 40 24 4294967298) (0, 4, 0x100000000010000000001000000000100000000)
noncomputable def e_X4_fillWays_20_0 : zH 3 := (show zT 3 from (zk_99_zs1_60_X4_fillWays_65, (zk_99_zs1_60_X4_fillWays_56, zk_99_zs1_60_X4_fillWays_66)), (8, (0, 0)))
noncomputable def e_X4_fillWays_20_1 : zH 3 := (show zT 3 from (zk_99_zs1_60_X4_fillWays_65, (zk_99_zs1_60_X4_fillWays_60, zk_99_zs1_60_X4_fillWays_66)), (8, (0, 0)))
noncomputable def e_X4_fillWays_20_2 : zH 3 := (show zT 3 from (zk_99_zs1_60_X4_fillWays_65, (zk_99_zs1_60_X4_fillWays_61, zk_99_zs1_60_X4_fillWays_66)), (8, (0, 0)))
noncomputable def e_X4_fillWays_20_3 : zH 3 := (show zT 3 from (zk_99_zs1_60_X4_fillWays_65, (zk_99_zs1_60_X4_fillWays_62, zk_99_zs1_60_X4_fillWays_66)), (8, (0, 0)))
noncomputable def e_X4_fillWays_20_4 : zH 3 := (show zT 3 from (zk_99_zs1_60_X4_fillWays_65, (zk_99_zs1_60_X4_fillWays_63, zk_99_zs1_60_X4_fillWays_66)), (8, (0, 0)))
noncomputable def e_X4_fillWays_20_5 : zH 3 := (show zT 3 from (zk_99_zs1_60_X4_fillWays_65, (zk_99_zs1_60_X4_fillWays_64, zk_99_zs1_60_X4_fillWays_66)), (8, (0, 0)))
noncomputable def e_X4_fillWays_20_6 : zH 3 := (show zT 3 from (zk_99_zs1_60_X4_fillWays_65, ((zk_99_zs1_60_X4_fillWays_9, zk_99_zs1_60_X4_fillWays_55), zk_99_zs1_60_X4_fillWays_66)), (8, (0, 0)))
noncomputable abbrev es_X4_fillWays_20 : List (zEn 3) := [([zR 1, zI 0, zI 0, zI 4294967296], e_X4_fillWays_20_0), ([zR 1, zI 0, zI 1, zI 4294967296], e_X4_fillWays_20_1), ([zR 1, zI 0, zI 2, zI 4294967296], e_X4_fillWays_20_2), ([zR 1, zI 0, zI 3, zI 4294967296], e_X4_fillWays_20_3), ([zR 1, zI 1, zI 0, zI 4294967296], e_X4_fillWays_20_4), ([zR 1, zI 1, zI 1, zI 4294967296], e_X4_fillWays_20_5), ([zR 1, zI 2, zI 0, zI 4294967296], e_X4_fillWays_20_6)]
theorem we_X4_fillWays_20 : zgdR 0 0 (zU) (fun f => zfn 7 (b_X4_fillWaysa f)) es_X4_fillWays_20 = true := by decide +kernel
theorem ev_X4_fillWays_20 : zselfR 0 0 (zU) es_X4_fillWays_20 [zR 1, zI 0, zI 0, zI 4294967296] e_X4_fillWays_20_0 (zrk (zU) e_X4_fillWays_20_0) = true := by decide +kernel
noncomputable def g_X4_fillWays_20 {d : Nat} : List zV → zH d → zP d → Bool := zsmy [(0, 0), (1, 2), (1, 3), (1, 4), (1, 14), (1, 15), (1, 9), (1, 10)] [zR 1, zI 0, zI 0, zI 4294967296] e_X4_fillWays_20_0 (zU) e_X4_fillWays_20_0
theorem mg_X4_fillWays_20 {d : Nat} : zMet (d := d) X_X4_fillWays yX4_fillWays 9 g_X4_fillWays_20 := zMet_sm (mr_X4_fillWaysa es_X4_fillWays_20 we_X4_fillWays_20 8 (by decide)) ev_X4_fillWays_20
noncomputable def zk_99_zs1_60_X4_fillWays_67 : zT 2 := @Prod.mk (zT 1) (zT 1) ((20, 16, 0x6000000000501000000070000000000000000000000000000080000000007000000000600000000008000000007800000000600000000040000000003000000000200000000030000000006), (0, 3, 0x100000000010000000004)) ((0, 4, 0x1000000000100000000010000000003), (0, 3, 0x500000000040000000000))
noncomputable def zk_99_zs1_60_X4_fillWays_68 : zT 1 := @Prod.mk (zT 0) (zT 0) (0, 36, zun 40 36 4294967299) zk_99_zs1_60_X4_fillWays_11
noncomputable def e_X4_fillWays_21_0 : zH 3 := (show zT 3 from (zk_99_zs1_60_X4_fillWays_67, (zk_99_zs1_60_X4_fillWays_56, zk_99_zs1_60_X4_fillWays_68)), (8, (0, 0)))
noncomputable def zk_99_zs1_60_X4_fillWays_69 : zT 1 := @Prod.mk (zT 0) (zT 0) (0, 6, 0x10000000701000000070100000007010000000701000000070100000003) zk_99_zs1_60_X4_fillWays_55
noncomputable def e_X4_fillWays_21_1 : zH 3 := (show zT 3 from (zk_99_zs1_60_X4_fillWays_67, (zk_99_zs1_60_X4_fillWays_69, zk_99_zs1_60_X4_fillWays_68)), (8, (0, 0)))
noncomputable def zk_99_zs1_60_X4_fillWays_70 : zT 1 := @Prod.mk (zT 0) (zT 0) (0, 6, 0x10000000701000000070100000007010000000701000000030100000003) zk_99_zs1_60_X4_fillWays_55
noncomputable def e_X4_fillWays_21_2 : zH 3 := (show zT 3 from (zk_99_zs1_60_X4_fillWays_67, (zk_99_zs1_60_X4_fillWays_70, zk_99_zs1_60_X4_fillWays_68)), (8, (0, 0)))
noncomputable def zk_99_zs1_60_X4_fillWays_71 : zT 1 := @Prod.mk (zT 0) (zT 0) (0, 6, 0x10000000701000000070100000007010000000301000000030100000003) zk_99_zs1_60_X4_fillWays_55
noncomputable def e_X4_fillWays_21_3 : zH 3 := (show zT 3 from (zk_99_zs1_60_X4_fillWays_67, (zk_99_zs1_60_X4_fillWays_71, zk_99_zs1_60_X4_fillWays_68)), (8, (0, 0)))
noncomputable def zk_99_zs1_60_X4_fillWays_72 : zT 1 := @Prod.mk (zT 0) (zT 0) (0, 6, 0x10000000701000000070100000003010000000301000000030100000003) zk_99_zs1_60_X4_fillWays_55
noncomputable def e_X4_fillWays_21_4 : zH 3 := (show zT 3 from (zk_99_zs1_60_X4_fillWays_67, (zk_99_zs1_60_X4_fillWays_72, zk_99_zs1_60_X4_fillWays_68)), (8, (0, 0)))
noncomputable def zk_99_zs1_60_X4_fillWays_73 : zT 1 := @Prod.mk (zT 0) (zT 0) (0, 6, 0x10000000701000000030100000003010000000301000000030100000003) zk_99_zs1_60_X4_fillWays_55
noncomputable def e_X4_fillWays_21_5 : zH 3 := (show zT 3 from (zk_99_zs1_60_X4_fillWays_67, (zk_99_zs1_60_X4_fillWays_73, zk_99_zs1_60_X4_fillWays_68)), (8, (0, 0)))
noncomputable def zk_99_zs1_60_X4_fillWays_74 : zT 1 := @Prod.mk (zT 0) (zT 0) (0, 6, 0x10000000301000000030100000003010000000301000000030100000003) zk_99_zs1_60_X4_fillWays_55
noncomputable def e_X4_fillWays_21_6 : zH 3 := (show zT 3 from (zk_99_zs1_60_X4_fillWays_67, (zk_99_zs1_60_X4_fillWays_74, zk_99_zs1_60_X4_fillWays_68)), (8, (0, 0)))
noncomputable abbrev es_X4_fillWays_21 : List (zEn 3) := [([zR 1, zI 0, zI 0, zI 4294967296], e_X4_fillWays_21_0), ([zR 1, zI 0, zI 1, zI 4294967296], e_X4_fillWays_21_1), ([zR 1, zI 0, zI 2, zI 4294967296], e_X4_fillWays_21_2), ([zR 1, zI 0, zI 3, zI 4294967296], e_X4_fillWays_21_3), ([zR 1, zI 1, zI 0, zI 4294967296], e_X4_fillWays_21_4), ([zR 1, zI 2, zI 0, zI 4294967296], e_X4_fillWays_21_5), ([zR 1, zI 3, zI 0, zI 4294967296], e_X4_fillWays_21_6)]
theorem we_X4_fillWays_21 : zgdR 0 0 (zU) (fun f => zfn 7 (b_X4_fillWaysa f)) es_X4_fillWays_21 = true := by decide +kernel
theorem ev_X4_fillWays_21 : zselfR 0 0 (zU) es_X4_fillWays_21 [zR 1, zI 0, zI 0, zI 4294967296] e_X4_fillWays_21_0 (zrk (zU) e_X4_fillWays_21_0) = true := by decide +kernel
noncomputable def g_X4_fillWays_21 {d : Nat} : List zV → zH d → zP d → Bool := zsmy [(0, 0), (1, 2), (1, 3), (1, 4), (1, 14), (1, 15), (1, 9), (1, 10)] [zR 1, zI 0, zI 0, zI 4294967296] e_X4_fillWays_21_0 (zU) e_X4_fillWays_21_0
theorem mg_X4_fillWays_21 {d : Nat} : zMet (d := d) X_X4_fillWays yX4_fillWays 9 g_X4_fillWays_21 := zMet_sm (mr_X4_fillWaysa es_X4_fillWays_21 we_X4_fillWays_21 8 (by decide)) ev_X4_fillWays_21
noncomputable def zk_99_zs1_60_X4_fillWays_75 : zT 2 := @Prod.mk (zT 1) (zT 1) ((20, 16, 0x6000000000501000000090000000000000000000000000000080000000007000000000800000000008000000007800000000600000000040000000003000000000200000000020000000006), (0, 2, 0x30000000003)) ((0, 3, 0x200000000020000000002), (0, 2, 0x30000000000))
noncomputable def zk_99_zs1_60_X4_fillWays_76 : zT 1 := @Prod.mk (zT 0) (zT 0) (0, 48, zun 40 48 4294967298) (0, 8, zun 40 8 4294967296)
noncomputable def e_X4_fillWays_22_0 : zH 3 := (show zT 3 from (zk_99_zs1_60_X4_fillWays_75, (zk_99_zs1_60_X4_fillWays_56, zk_99_zs1_60_X4_fillWays_76)), (8, (0, 0)))
noncomputable def e_X4_fillWays_22_1 : zH 3 := (show zT 3 from (zk_99_zs1_60_X4_fillWays_75, (zk_99_zs1_60_X4_fillWays_60, zk_99_zs1_60_X4_fillWays_76)), (8, (0, 0)))
noncomputable def e_X4_fillWays_22_2 : zH 3 := (show zT 3 from (zk_99_zs1_60_X4_fillWays_75, (zk_99_zs1_60_X4_fillWays_61, zk_99_zs1_60_X4_fillWays_76)), (8, (0, 0)))
noncomputable def e_X4_fillWays_22_3 : zH 3 := (show zT 3 from (zk_99_zs1_60_X4_fillWays_75, (zk_99_zs1_60_X4_fillWays_62, zk_99_zs1_60_X4_fillWays_76)), (8, (0, 0)))
noncomputable def e_X4_fillWays_22_4 : zH 3 := (show zT 3 from (zk_99_zs1_60_X4_fillWays_75, (zk_99_zs1_60_X4_fillWays_63, zk_99_zs1_60_X4_fillWays_76)), (8, (0, 0)))
noncomputable def e_X4_fillWays_22_5 : zH 3 := (show zT 3 from (zk_99_zs1_60_X4_fillWays_75, (zk_99_zs1_60_X4_fillWays_64, zk_99_zs1_60_X4_fillWays_76)), (8, (0, 0)))
noncomputable def e_X4_fillWays_22_6 : zH 3 := (show zT 3 from (zk_99_zs1_60_X4_fillWays_75, ((zk_99_zs1_60_X4_fillWays_9, zk_99_zs1_60_X4_fillWays_55), zk_99_zs1_60_X4_fillWays_76)), (8, (0, 0)))
noncomputable abbrev es_X4_fillWays_22 : List (zEn 3) := [([zR 1, zI 0, zI 0, zI 4294967296], e_X4_fillWays_22_0), ([zR 1, zI 0, zI 1, zI 4294967296], e_X4_fillWays_22_1), ([zR 1, zI 0, zI 2, zI 4294967296], e_X4_fillWays_22_2), ([zR 1, zI 1, zI 0, zI 4294967296], e_X4_fillWays_22_3), ([zR 1, zI 1, zI 1, zI 4294967296], e_X4_fillWays_22_4), ([zR 1, zI 1, zI 2, zI 4294967296], e_X4_fillWays_22_5), ([zR 1, zI 2, zI 0, zI 4294967296], e_X4_fillWays_22_6)]
theorem we_X4_fillWays_22 : zgdR 0 0 (zU) (fun f => zfn 7 (b_X4_fillWaysa f)) es_X4_fillWays_22 = true := by decide +kernel
theorem ev_X4_fillWays_22 : zselfR 0 0 (zU) es_X4_fillWays_22 [zR 1, zI 0, zI 0, zI 4294967296] e_X4_fillWays_22_0 (zrk (zU) e_X4_fillWays_22_0) = true := by decide +kernel
noncomputable def g_X4_fillWays_22 {d : Nat} : List zV → zH d → zP d → Bool := zsmy [(0, 0), (1, 2), (1, 3), (1, 4), (1, 14), (1, 15), (1, 9), (1, 10)] [zR 1, zI 0, zI 0, zI 4294967296] e_X4_fillWays_22_0 (zU) e_X4_fillWays_22_0
theorem mg_X4_fillWays_22 {d : Nat} : zMet (d := d) X_X4_fillWays yX4_fillWays 9 g_X4_fillWays_22 := zMet_sm (mr_X4_fillWaysa es_X4_fillWays_22 we_X4_fillWays_22 8 (by decide)) ev_X4_fillWays_22
noncomputable def zk_99_zs1_60_X4_fillWays_77 : zT 2 := @Prod.mk (zT 1) (zT 1) ((20, 16, 0x60000000005010000000d0000000000000000000000000000080000000007000000000c00000000008000000007800000000600000000040000000003000000000200000000030000000006), (0, 3, 0x100000000020000000003)) ((0, 3, 0x100000000020000000003), (0, 3, 0x500000000030000000000))
noncomputable def zk_99_zs1_60_X4_fillWays_78 : zT 1 := @Prod.mk (zT 0) (zT 0) (0, 72, zun 40 72 4294967299) (0, 12, zun 40 12 4294967296)
noncomputable def e_X4_fillWays_23_0 : zH 3 := (show zT 3 from (zk_99_zs1_60_X4_fillWays_77, (zk_99_zs1_60_X4_fillWays_56, zk_99_zs1_60_X4_fillWays_78)), (8, (0, 0)))
noncomputable def e_X4_fillWays_23_1 : zH 3 := (show zT 3 from (zk_99_zs1_60_X4_fillWays_77, (zk_99_zs1_60_X4_fillWays_69, zk_99_zs1_60_X4_fillWays_78)), (8, (0, 0)))
noncomputable def e_X4_fillWays_23_2 : zH 3 := (show zT 3 from (zk_99_zs1_60_X4_fillWays_77, (zk_99_zs1_60_X4_fillWays_70, zk_99_zs1_60_X4_fillWays_78)), (8, (0, 0)))
noncomputable def e_X4_fillWays_23_3 : zH 3 := (show zT 3 from (zk_99_zs1_60_X4_fillWays_77, (zk_99_zs1_60_X4_fillWays_71, zk_99_zs1_60_X4_fillWays_78)), (8, (0, 0)))
noncomputable def e_X4_fillWays_23_4 : zH 3 := (show zT 3 from (zk_99_zs1_60_X4_fillWays_77, (zk_99_zs1_60_X4_fillWays_72, zk_99_zs1_60_X4_fillWays_78)), (8, (0, 0)))
noncomputable def e_X4_fillWays_23_5 : zH 3 := (show zT 3 from (zk_99_zs1_60_X4_fillWays_77, (zk_99_zs1_60_X4_fillWays_73, zk_99_zs1_60_X4_fillWays_78)), (8, (0, 0)))
noncomputable def e_X4_fillWays_23_6 : zH 3 := (show zT 3 from (zk_99_zs1_60_X4_fillWays_77, (zk_99_zs1_60_X4_fillWays_74, zk_99_zs1_60_X4_fillWays_78)), (8, (0, 0)))
noncomputable abbrev es_X4_fillWays_23 : List (zEn 3) := [([zR 1, zI 0, zI 0, zI 4294967296], e_X4_fillWays_23_0), ([zR 1, zI 0, zI 1, zI 4294967296], e_X4_fillWays_23_1), ([zR 1, zI 0, zI 2, zI 4294967296], e_X4_fillWays_23_2), ([zR 1, zI 1, zI 0, zI 4294967296], e_X4_fillWays_23_3), ([zR 1, zI 1, zI 1, zI 4294967296], e_X4_fillWays_23_4), ([zR 1, zI 2, zI 0, zI 4294967296], e_X4_fillWays_23_5), ([zR 1, zI 3, zI 0, zI 4294967296], e_X4_fillWays_23_6)]
theorem we_X4_fillWays_23 : zgdR 0 0 (zU) (fun f => zfn 7 (b_X4_fillWaysa f)) es_X4_fillWays_23 = true := by decide +kernel
theorem ev_X4_fillWays_23 : zselfR 0 0 (zU) es_X4_fillWays_23 [zR 1, zI 0, zI 0, zI 4294967296] e_X4_fillWays_23_0 (zrk (zU) e_X4_fillWays_23_0) = true := by decide +kernel
noncomputable def g_X4_fillWays_23 {d : Nat} : List zV → zH d → zP d → Bool := zsmy [(0, 0), (1, 2), (1, 3), (1, 4), (1, 14), (1, 15), (1, 9), (1, 10)] [zR 1, zI 0, zI 0, zI 4294967296] e_X4_fillWays_23_0 (zU) e_X4_fillWays_23_0
theorem mg_X4_fillWays_23 {d : Nat} : zMet (d := d) X_X4_fillWays yX4_fillWays 9 g_X4_fillWays_23 := zMet_sm (mr_X4_fillWaysa es_X4_fillWays_23 we_X4_fillWays_23 8 (by decide)) ev_X4_fillWays_23
noncomputable def zk_99_zs1_60_X4_fillWays_79 : zT 2 := @Prod.mk (zT 1) (zT 1) ((20, 16, 0x6000000000501000000190000000000000000000000000000080000000007000000001800000000008000000007800000000600000000040000000003000000000200000000040000000006), (0, 4, 0x1000000000100000000010000000003)) ((0, 3, 0x100000000010000000004), (0, 4, 0x5000000000400000000030000000000))
noncomputable def zk_99_zs1_60_X4_fillWays_80 : zT 1 := @Prod.mk (zT 0) (zT 0) (0, 144, zun 40 144 4294967300) (0, 24, zun 40 24 4294967296)
noncomputable def e_X4_fillWays_24_0 : zH 3 := (show zT 3 from (zk_99_zs1_60_X4_fillWays_79, (zk_99_zs1_60_X4_fillWays_56, zk_99_zs1_60_X4_fillWays_80)), (8, (0, 0)))
noncomputable def zk_99_zs1_60_X4_fillWays_81 : zT 1 := @Prod.mk (zT 0) (zT 0) (0, 6, 0x10000000701000000070100000007010000000701000000070100000004) zk_99_zs1_60_X4_fillWays_55
noncomputable def e_X4_fillWays_24_1 : zH 3 := (show zT 3 from (zk_99_zs1_60_X4_fillWays_79, (zk_99_zs1_60_X4_fillWays_81, zk_99_zs1_60_X4_fillWays_80)), (8, (0, 0)))
noncomputable def zk_99_zs1_60_X4_fillWays_82 : zT 1 := @Prod.mk (zT 0) (zT 0) (0, 6, 0x10000000701000000070100000007010000000701000000040100000004) zk_99_zs1_60_X4_fillWays_55
noncomputable def e_X4_fillWays_24_2 : zH 3 := (show zT 3 from (zk_99_zs1_60_X4_fillWays_79, (zk_99_zs1_60_X4_fillWays_82, zk_99_zs1_60_X4_fillWays_80)), (8, (0, 0)))
noncomputable def zk_99_zs1_60_X4_fillWays_83 : zT 1 := @Prod.mk (zT 0) (zT 0) (0, 6, 0x10000000701000000070100000007010000000401000000040100000004) zk_99_zs1_60_X4_fillWays_55
noncomputable def e_X4_fillWays_24_3 : zH 3 := (show zT 3 from (zk_99_zs1_60_X4_fillWays_79, (zk_99_zs1_60_X4_fillWays_83, zk_99_zs1_60_X4_fillWays_80)), (8, (0, 0)))
noncomputable def zk_99_zs1_60_X4_fillWays_84 : zT 1 := @Prod.mk (zT 0) (zT 0) (0, 6, 0x10000000701000000070100000004010000000401000000040100000004) zk_99_zs1_60_X4_fillWays_55
noncomputable def e_X4_fillWays_24_4 : zH 3 := (show zT 3 from (zk_99_zs1_60_X4_fillWays_79, (zk_99_zs1_60_X4_fillWays_84, zk_99_zs1_60_X4_fillWays_80)), (8, (0, 0)))
noncomputable def zk_99_zs1_60_X4_fillWays_85 : zT 1 := @Prod.mk (zT 0) (zT 0) (0, 6, 0x10000000701000000040100000004010000000401000000040100000004) zk_99_zs1_60_X4_fillWays_55
noncomputable def e_X4_fillWays_24_5 : zH 3 := (show zT 3 from (zk_99_zs1_60_X4_fillWays_79, (zk_99_zs1_60_X4_fillWays_85, zk_99_zs1_60_X4_fillWays_80)), (8, (0, 0)))
noncomputable def zk_99_zs1_60_X4_fillWays_86 : zT 1 := @Prod.mk (zT 0) (zT 0) (0, 6, 0x10000000401000000040100000004010000000401000000040100000004) zk_99_zs1_60_X4_fillWays_55
noncomputable def e_X4_fillWays_24_6 : zH 3 := (show zT 3 from (zk_99_zs1_60_X4_fillWays_79, (zk_99_zs1_60_X4_fillWays_86, zk_99_zs1_60_X4_fillWays_80)), (8, (0, 0)))
noncomputable abbrev es_X4_fillWays_24 : List (zEn 3) := [([zR 1, zI 0, zI 0, zI 4294967296], e_X4_fillWays_24_0), ([zR 1, zI 0, zI 1, zI 4294967296], e_X4_fillWays_24_1), ([zR 1, zI 0, zI 2, zI 4294967296], e_X4_fillWays_24_2), ([zR 1, zI 1, zI 0, zI 4294967296], e_X4_fillWays_24_3), ([zR 1, zI 2, zI 0, zI 4294967296], e_X4_fillWays_24_4), ([zR 1, zI 3, zI 0, zI 4294967296], e_X4_fillWays_24_5), ([zR 1, zI 4, zI 0, zI 4294967296], e_X4_fillWays_24_6)]
theorem we_X4_fillWays_24 : zgdR 0 0 (zU) (fun f => zfn 7 (b_X4_fillWaysa f)) es_X4_fillWays_24 = true := by decide +kernel
theorem ev_X4_fillWays_24 : zselfR 0 0 (zU) es_X4_fillWays_24 [zR 1, zI 0, zI 0, zI 4294967296] e_X4_fillWays_24_0 (zrk (zU) e_X4_fillWays_24_0) = true := by decide +kernel
noncomputable def g_X4_fillWays_24 {d : Nat} : List zV → zH d → zP d → Bool := zsmy [(0, 0), (1, 2), (1, 3), (1, 4), (1, 14), (1, 15), (1, 9), (1, 10)] [zR 1, zI 0, zI 0, zI 4294967296] e_X4_fillWays_24_0 (zU) e_X4_fillWays_24_0
theorem mg_X4_fillWays_24 {d : Nat} : zMet (d := d) X_X4_fillWays yX4_fillWays 9 g_X4_fillWays_24 := zMet_sm (mr_X4_fillWaysa es_X4_fillWays_24 we_X4_fillWays_24 8 (by decide)) ev_X4_fillWays_24
noncomputable def zk_99_zs1_60_X4_fillWays_87 : zT 2 := @Prod.mk (zT 1) (zT 1) ((20, 16, 0x6000000000501000000250000000000000000000000000000080000000007000000002400000000008000000007800000000600000000040000000003000000000200000000030000000006), (0, 3, 0x200000000020000000002)) ((0, 2, 0x30000000003), (0, 3, 0x400000000020000000000))
noncomputable def zk_99_zs1_60_X4_fillWays_88 : zT 1 := @Prod.mk (zT 0) (zT 0) (0, 216, zun 40 216 4294967299) (0, 36, zun 40 36 4294967296)
noncomputable def e_X4_fillWays_25_0 : zH 3 := (show zT 3 from (zk_99_zs1_60_X4_fillWays_87, (zk_99_zs1_60_X4_fillWays_56, zk_99_zs1_60_X4_fillWays_88)), (8, (0, 0)))
noncomputable def e_X4_fillWays_25_1 : zH 3 := (show zT 3 from (zk_99_zs1_60_X4_fillWays_87, (zk_99_zs1_60_X4_fillWays_69, zk_99_zs1_60_X4_fillWays_88)), (8, (0, 0)))
noncomputable def e_X4_fillWays_25_2 : zH 3 := (show zT 3 from (zk_99_zs1_60_X4_fillWays_87, (zk_99_zs1_60_X4_fillWays_70, zk_99_zs1_60_X4_fillWays_88)), (8, (0, 0)))
noncomputable def e_X4_fillWays_25_3 : zH 3 := (show zT 3 from (zk_99_zs1_60_X4_fillWays_87, (zk_99_zs1_60_X4_fillWays_71, zk_99_zs1_60_X4_fillWays_88)), (8, (0, 0)))
noncomputable def e_X4_fillWays_25_4 : zH 3 := (show zT 3 from (zk_99_zs1_60_X4_fillWays_87, (zk_99_zs1_60_X4_fillWays_72, zk_99_zs1_60_X4_fillWays_88)), (8, (0, 0)))
noncomputable def e_X4_fillWays_25_5 : zH 3 := (show zT 3 from (zk_99_zs1_60_X4_fillWays_87, (zk_99_zs1_60_X4_fillWays_73, zk_99_zs1_60_X4_fillWays_88)), (8, (0, 0)))
noncomputable def e_X4_fillWays_25_6 : zH 3 := (show zT 3 from (zk_99_zs1_60_X4_fillWays_87, (zk_99_zs1_60_X4_fillWays_74, zk_99_zs1_60_X4_fillWays_88)), (8, (0, 0)))
noncomputable abbrev es_X4_fillWays_25 : List (zEn 3) := [([zR 1, zI 0, zI 0, zI 4294967296], e_X4_fillWays_25_0), ([zR 1, zI 0, zI 1, zI 4294967296], e_X4_fillWays_25_1), ([zR 1, zI 1, zI 0, zI 4294967296], e_X4_fillWays_25_2), ([zR 1, zI 1, zI 1, zI 4294967296], e_X4_fillWays_25_3), ([zR 1, zI 2, zI 0, zI 4294967296], e_X4_fillWays_25_4), ([zR 1, zI 2, zI 1, zI 4294967296], e_X4_fillWays_25_5), ([zR 1, zI 3, zI 0, zI 4294967296], e_X4_fillWays_25_6)]
theorem we_X4_fillWays_25 : zgdR 0 0 (zU) (fun f => zfn 7 (b_X4_fillWaysa f)) es_X4_fillWays_25 = true := by decide +kernel
theorem ev_X4_fillWays_25 : zselfR 0 0 (zU) es_X4_fillWays_25 [zR 1, zI 0, zI 0, zI 4294967296] e_X4_fillWays_25_0 (zrk (zU) e_X4_fillWays_25_0) = true := by decide +kernel
noncomputable def g_X4_fillWays_25 {d : Nat} : List zV → zH d → zP d → Bool := zsmy [(0, 0), (1, 2), (1, 3), (1, 4), (1, 14), (1, 15), (1, 9), (1, 10)] [zR 1, zI 0, zI 0, zI 4294967296] e_X4_fillWays_25_0 (zU) e_X4_fillWays_25_0
theorem mg_X4_fillWays_25 {d : Nat} : zMet (d := d) X_X4_fillWays yX4_fillWays 9 g_X4_fillWays_25 := zMet_sm (mr_X4_fillWaysa es_X4_fillWays_25 we_X4_fillWays_25 8 (by decide)) ev_X4_fillWays_25
noncomputable def zk_99_zs1_60_X4_fillWays_89 : zT 2 := @Prod.mk (zT 1) (zT 1) ((20, 16, 0x6000000000501000000310000000000000000000000000000080000000007000000003000000000008000000007800000000600000000040000000003000000000200000000040000000006), (0, 4, 0x1000000000100000000020000000002)) ((0, 2, 0x20000000004), (0, 4, 0x5000000000400000000020000000000))
noncomputable def zk_99_zs1_60_X4_fillWays_90 : zT 1 := @Prod.mk (zT 0) (zT 0) (0, 288, zun 40 288 4294967300) (0, 48, zun 40 48 4294967296)
noncomputable def e_X4_fillWays_26_0 : zH 3 := (show zT 3 from (zk_99_zs1_60_X4_fillWays_89, (zk_99_zs1_60_X4_fillWays_56, zk_99_zs1_60_X4_fillWays_90)), (8, (0, 0)))
noncomputable def e_X4_fillWays_26_1 : zH 3 := (show zT 3 from (zk_99_zs1_60_X4_fillWays_89, (zk_99_zs1_60_X4_fillWays_81, zk_99_zs1_60_X4_fillWays_90)), (8, (0, 0)))
noncomputable def e_X4_fillWays_26_2 : zH 3 := (show zT 3 from (zk_99_zs1_60_X4_fillWays_89, (zk_99_zs1_60_X4_fillWays_82, zk_99_zs1_60_X4_fillWays_90)), (8, (0, 0)))
noncomputable def e_X4_fillWays_26_3 : zH 3 := (show zT 3 from (zk_99_zs1_60_X4_fillWays_89, (zk_99_zs1_60_X4_fillWays_83, zk_99_zs1_60_X4_fillWays_90)), (8, (0, 0)))
noncomputable def e_X4_fillWays_26_4 : zH 3 := (show zT 3 from (zk_99_zs1_60_X4_fillWays_89, (zk_99_zs1_60_X4_fillWays_84, zk_99_zs1_60_X4_fillWays_90)), (8, (0, 0)))
noncomputable def e_X4_fillWays_26_5 : zH 3 := (show zT 3 from (zk_99_zs1_60_X4_fillWays_89, (zk_99_zs1_60_X4_fillWays_85, zk_99_zs1_60_X4_fillWays_90)), (8, (0, 0)))
noncomputable def e_X4_fillWays_26_6 : zH 3 := (show zT 3 from (zk_99_zs1_60_X4_fillWays_89, (zk_99_zs1_60_X4_fillWays_86, zk_99_zs1_60_X4_fillWays_90)), (8, (0, 0)))
noncomputable abbrev es_X4_fillWays_26 : List (zEn 3) := [([zR 1, zI 0, zI 0, zI 4294967296], e_X4_fillWays_26_0), ([zR 1, zI 0, zI 1, zI 4294967296], e_X4_fillWays_26_1), ([zR 1, zI 1, zI 0, zI 4294967296], e_X4_fillWays_26_2), ([zR 1, zI 1, zI 1, zI 4294967296], e_X4_fillWays_26_3), ([zR 1, zI 2, zI 0, zI 4294967296], e_X4_fillWays_26_4), ([zR 1, zI 3, zI 0, zI 4294967296], e_X4_fillWays_26_5), ([zR 1, zI 4, zI 0, zI 4294967296], e_X4_fillWays_26_6)]
theorem we_X4_fillWays_26 : zgdR 0 0 (zU) (fun f => zfn 7 (b_X4_fillWaysa f)) es_X4_fillWays_26 = true := by decide +kernel
theorem ev_X4_fillWays_26 : zselfR 0 0 (zU) es_X4_fillWays_26 [zR 1, zI 0, zI 0, zI 4294967296] e_X4_fillWays_26_0 (zrk (zU) e_X4_fillWays_26_0) = true := by decide +kernel
noncomputable def g_X4_fillWays_26 {d : Nat} : List zV → zH d → zP d → Bool := zsmy [(0, 0), (1, 2), (1, 3), (1, 4), (1, 14), (1, 15), (1, 9), (1, 10)] [zR 1, zI 0, zI 0, zI 4294967296] e_X4_fillWays_26_0 (zU) e_X4_fillWays_26_0
theorem mg_X4_fillWays_26 {d : Nat} : zMet (d := d) X_X4_fillWays yX4_fillWays 9 g_X4_fillWays_26 := zMet_sm (mr_X4_fillWaysa es_X4_fillWays_26 we_X4_fillWays_26 8 (by decide)) ev_X4_fillWays_26
noncomputable def zk_99_zs1_60_X4_fillWays_91 : zT 2 := @Prod.mk (zT 1) (zT 1) ((20, 16, 0x6000000000501000000790000000000000000000000000000080000000007000000007800000000008000000007800000000600000000040000000003000000000200000000050000000006), (0, 5, 0x10000000001000000000100000000010000000002)) ((0, 2, 0x10000000005), (0, 5, 0x50000000004000000000300000000020000000000))
noncomputable def zk_99_zs1_60_X4_fillWays_92 : zT 1 := @Prod.mk (zT 0) (zT 0) (0, 720, zun 40 720 4294967301) (0, 120, zun 40 120 4294967296)
noncomputable def e_X4_fillWays_27_0 : zH 3 := (show zT 3 from (zk_99_zs1_60_X4_fillWays_91, (zk_99_zs1_60_X4_fillWays_56, zk_99_zs1_60_X4_fillWays_92)), (8, (0, 0)))
noncomputable def e_X4_fillWays_27_1 : zH 3 := (show zT 3 from (zk_99_zs1_60_X4_fillWays_91, (((0, 6, 0x10000000701000000070100000007010000000701000000070100000005), zk_99_zs1_60_X4_fillWays_55), zk_99_zs1_60_X4_fillWays_92)), (8, (0, 0)))
noncomputable def e_X4_fillWays_27_2 : zH 3 := (show zT 3 from (zk_99_zs1_60_X4_fillWays_91, (((0, 6, 0x10000000701000000070100000007010000000701000000050100000005), zk_99_zs1_60_X4_fillWays_55), zk_99_zs1_60_X4_fillWays_92)), (8, (0, 0)))
noncomputable def e_X4_fillWays_27_3 : zH 3 := (show zT 3 from (zk_99_zs1_60_X4_fillWays_91, (((0, 6, 0x10000000701000000070100000007010000000501000000050100000005), zk_99_zs1_60_X4_fillWays_55), zk_99_zs1_60_X4_fillWays_92)), (8, (0, 0)))
noncomputable def e_X4_fillWays_27_4 : zH 3 := (show zT 3 from (zk_99_zs1_60_X4_fillWays_91, (((0, 6, 0x10000000701000000070100000005010000000501000000050100000005), zk_99_zs1_60_X4_fillWays_55), zk_99_zs1_60_X4_fillWays_92)), (8, (0, 0)))
noncomputable def e_X4_fillWays_27_5 : zH 3 := (show zT 3 from (zk_99_zs1_60_X4_fillWays_91, (((0, 6, 0x10000000701000000050100000005010000000501000000050100000005), zk_99_zs1_60_X4_fillWays_55), zk_99_zs1_60_X4_fillWays_92)), (8, (0, 0)))
noncomputable def e_X4_fillWays_27_6 : zH 3 := (show zT 3 from (zk_99_zs1_60_X4_fillWays_91, (((0, 6, 0x10000000501000000050100000005010000000501000000050100000005), zk_99_zs1_60_X4_fillWays_55), zk_99_zs1_60_X4_fillWays_92)), (8, (0, 0)))
noncomputable abbrev es_X4_fillWays_27 : List (zEn 3) := [([zR 1, zI 0, zI 0, zI 4294967296], e_X4_fillWays_27_0), ([zR 1, zI 0, zI 1, zI 4294967296], e_X4_fillWays_27_1), ([zR 1, zI 1, zI 0, zI 4294967296], e_X4_fillWays_27_2), ([zR 1, zI 2, zI 0, zI 4294967296], e_X4_fillWays_27_3), ([zR 1, zI 3, zI 0, zI 4294967296], e_X4_fillWays_27_4), ([zR 1, zI 4, zI 0, zI 4294967296], e_X4_fillWays_27_5), ([zR 1, zI 5, zI 0, zI 4294967296], e_X4_fillWays_27_6)]
theorem we_X4_fillWays_27 : zgdR 0 0 (zU) (fun f => zfn 7 (b_X4_fillWaysa f)) es_X4_fillWays_27 = true := by decide +kernel
theorem ev_X4_fillWays_27 : zselfR 0 0 (zU) es_X4_fillWays_27 [zR 1, zI 0, zI 0, zI 4294967296] e_X4_fillWays_27_0 (zrk (zU) e_X4_fillWays_27_0) = true := by decide +kernel
noncomputable def g_X4_fillWays_27 {d : Nat} : List zV → zH d → zP d → Bool := zsmy [(0, 0), (1, 2), (1, 3), (1, 4), (1, 14), (1, 15), (1, 9), (1, 10)] [zR 1, zI 0, zI 0, zI 4294967296] e_X4_fillWays_27_0 (zU) e_X4_fillWays_27_0
theorem mg_X4_fillWays_27 {d : Nat} : zMet (d := d) X_X4_fillWays yX4_fillWays 9 g_X4_fillWays_27 := zMet_sm (mr_X4_fillWaysa es_X4_fillWays_27 we_X4_fillWays_27 8 (by decide)) ev_X4_fillWays_27
noncomputable def zk_99_zs1_60_X4_fillWays_93 : zT 2 := @Prod.mk (zT 1) (zT 1) ((20, 16, 0x6000000000501000002d1000000000000000000000000000008000000000700000002d000000000008000000007800000000600000000040000000003000000000200000000060000000006), zk_99_zs1_60_X4_fillWays_53) ((0, 1, 6), (0, 6, 0x500000000040000000003000000000200000000010000000000))
noncomputable def zk_99_zs1_60_X4_fillWays_94 : zT 1 := @Prod.mk (zT 0) (zT 0) (0, 4320, zun 40 4320 4294967302) (0, 720, zun 40 720 4294967296)
noncomputable def e_X4_fillWays_28_0 : zH 3 := (show zT 3 from (zk_99_zs1_60_X4_fillWays_93, (zk_99_zs1_60_X4_fillWays_56, zk_99_zs1_60_X4_fillWays_94)), (8, (0, 0)))
noncomputable def e_X4_fillWays_28_1 : zH 3 := (show zT 3 from (zk_99_zs1_60_X4_fillWays_93, (((0, 6, 0x10000000701000000070100000007010000000701000000070100000006), zk_99_zs1_60_X4_fillWays_55), zk_99_zs1_60_X4_fillWays_94)), (8, (0, 0)))
noncomputable def e_X4_fillWays_28_2 : zH 3 := (show zT 3 from (zk_99_zs1_60_X4_fillWays_93, (((0, 6, 0x10000000701000000070100000007010000000701000000060100000006), zk_99_zs1_60_X4_fillWays_55), zk_99_zs1_60_X4_fillWays_94)), (8, (0, 0)))
noncomputable def e_X4_fillWays_28_3 : zH 3 := (show zT 3 from (zk_99_zs1_60_X4_fillWays_93, (((0, 6, 0x10000000701000000070100000007010000000601000000060100000006), zk_99_zs1_60_X4_fillWays_55), zk_99_zs1_60_X4_fillWays_94)), (8, (0, 0)))
noncomputable def e_X4_fillWays_28_4 : zH 3 := (show zT 3 from (zk_99_zs1_60_X4_fillWays_93, (((0, 6, 0x10000000701000000070100000006010000000601000000060100000006), zk_99_zs1_60_X4_fillWays_55), zk_99_zs1_60_X4_fillWays_94)), (8, (0, 0)))
noncomputable def e_X4_fillWays_28_5 : zH 3 := (show zT 3 from (zk_99_zs1_60_X4_fillWays_93, (((0, 6, 0x10000000701000000060100000006010000000601000000060100000006), zk_99_zs1_60_X4_fillWays_55), zk_99_zs1_60_X4_fillWays_94)), (8, (0, 0)))
noncomputable def e_X4_fillWays_28_6 : zH 3 := (show zT 3 from (zk_99_zs1_60_X4_fillWays_93, (((0, 6, 0x10000000601000000060100000006010000000601000000060100000006), zk_99_zs1_60_X4_fillWays_55), zk_99_zs1_60_X4_fillWays_94)), (8, (0, 0)))
noncomputable abbrev es_X4_fillWays_28 : List (zEn 3) := [([zR 1, zI 0, zI 0, zI 4294967296], e_X4_fillWays_28_0), ([zR 1, zI 1, zI 0, zI 4294967296], e_X4_fillWays_28_1), ([zR 1, zI 2, zI 0, zI 4294967296], e_X4_fillWays_28_2), ([zR 1, zI 3, zI 0, zI 4294967296], e_X4_fillWays_28_3), ([zR 1, zI 4, zI 0, zI 4294967296], e_X4_fillWays_28_4), ([zR 1, zI 5, zI 0, zI 4294967296], e_X4_fillWays_28_5), ([zR 1, zI 6, zI 0, zI 4294967296], e_X4_fillWays_28_6)]
theorem we_X4_fillWays_28 : zgdR 0 0 (zU) (fun f => zfn 7 (b_X4_fillWaysa f)) es_X4_fillWays_28 = true := by decide +kernel
theorem ev_X4_fillWays_28 : zselfR 0 0 (zU) es_X4_fillWays_28 [zR 1, zI 0, zI 0, zI 4294967296] e_X4_fillWays_28_0 (zrk (zU) e_X4_fillWays_28_0) = true := by decide +kernel
noncomputable def g_X4_fillWays_28 {d : Nat} : List zV → zH d → zP d → Bool := zsmy [(0, 0), (1, 2), (1, 3), (1, 4), (1, 14), (1, 15), (1, 9), (1, 10)] [zR 1, zI 0, zI 0, zI 4294967296] e_X4_fillWays_28_0 (zU) e_X4_fillWays_28_0
theorem mg_X4_fillWays_28 {d : Nat} : zMet (d := d) X_X4_fillWays yX4_fillWays 9 g_X4_fillWays_28 := zMet_sm (mr_X4_fillWaysa es_X4_fillWays_28 we_X4_fillWays_28 8 (by decide)) ev_X4_fillWays_28
noncomputable def g_X4_fillWays {d : Nat} : List zV → zH d → zP d → Bool := (zor2 g_X4_fillWays_0 (zor2 g_X4_fillWays_1 (zor2 g_X4_fillWays_2 (zor2 g_X4_fillWays_3 (zor2 g_X4_fillWays_4 (zor2 g_X4_fillWays_5 (zor2 g_X4_fillWays_6 (zor2 g_X4_fillWays_7 (zor2 g_X4_fillWays_8 (zor2 g_X4_fillWays_9 (zor2 g_X4_fillWays_10 (zor2 g_X4_fillWays_11 (zor2 g_X4_fillWays_12 (zor2 g_X4_fillWays_13 (zor2 g_X4_fillWays_14 (zor2 g_X4_fillWays_15 (zor2 g_X4_fillWays_16 (zor2 g_X4_fillWays_17 (zor2 g_X4_fillWays_18 (zor2 g_X4_fillWays_19 (zor2 g_X4_fillWays_20 (zor2 g_X4_fillWays_21 (zor2 g_X4_fillWays_22 (zor2 g_X4_fillWays_23 (zor2 g_X4_fillWays_24 (zor2 g_X4_fillWays_25 (zor2 g_X4_fillWays_26 (zor2 g_X4_fillWays_27 (zor2 g_X4_fillWays_28 (fun _ _ _ => false))))))))))))))))))))))))))))))
theorem mg_X4_fillWays {d : Nat} : zMet (d := d) X_X4_fillWays yX4_fillWays 9 g_X4_fillWays := (zMet_or mg_X4_fillWays_0 (zMet_or mg_X4_fillWays_1 (zMet_or mg_X4_fillWays_2 (zMet_or mg_X4_fillWays_3 (zMet_or mg_X4_fillWays_4 (zMet_or mg_X4_fillWays_5 (zMet_or mg_X4_fillWays_6 (zMet_or mg_X4_fillWays_7 (zMet_or mg_X4_fillWays_8 (zMet_or mg_X4_fillWays_9 (zMet_or mg_X4_fillWays_10 (zMet_or mg_X4_fillWays_11 (zMet_or mg_X4_fillWays_12 (zMet_or mg_X4_fillWays_13 (zMet_or mg_X4_fillWays_14 (zMet_or mg_X4_fillWays_15 (zMet_or mg_X4_fillWays_16 (zMet_or mg_X4_fillWays_17 (zMet_or mg_X4_fillWays_18 (zMet_or mg_X4_fillWays_19 (zMet_or mg_X4_fillWays_20 (zMet_or mg_X4_fillWays_21 (zMet_or mg_X4_fillWays_22 (zMet_or mg_X4_fillWays_23 (zMet_or mg_X4_fillWays_24 (zMet_or mg_X4_fillWays_25 (zMet_or mg_X4_fillWays_26 (zMet_or mg_X4_fillWays_27 (zMet_or mg_X4_fillWays_28 zfalse)))))))))))))))))))))))))))))
end
