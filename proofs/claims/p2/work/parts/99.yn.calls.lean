/-! calls that make nothing, on both sides -/
theorem qC_kept {cA : Nat → ClassId} {D : va_G} {A : Nat → Prop} {H H1 : Heap} {own : Nat → Nat} {ax g : Nat} {w0 : va_W} (hfr : ∀ (d2 z2 : Nat) (h2 : zH d2) (w2 : va_W), z2 ≠ 1 → qB cA D A H own z2 h2 w2 → qB cA D A H1 own z2 h2 w2) (h : qC cA D A H own ax g w0) : qC cA D A H1 own ax g w0 := by
  obtain ⟨B0, hax, cur, hT, hS0⟩ := h
  exact ⟨hfr _ _ _ _ (by decide) B0, hax, cur, qT_kept ⟨fun _ _ => rfl, fun _ _ => rfl, rfl, rfl, rfl, rfl⟩ (fun d2 z2 h2 w2 hz B2 => hfr d2 z2 h2 w2 (by omega) B2) hT, qS_kept ⟨fun _ _ => rfl, fun _ _ => rfl, rfl, rfl, rfl, rfl⟩ (fun d2 z2 h2 w2 hz B2 => hfr d2 z2 h2 w2 (by omega) B2) hS0⟩
theorem ev_k11 (g : Nat) (hg : g < 24) : zget 10 (hCf g).1 11 = (22, 2, (zget 10 (hCf g).1 11).2.2) ∧ zwd 40 (zget 10 (hCf g).1 11).2.2 1 = zoc 11 1 ∧ 38 ≤ (hCf g).2.1 ∧ (hCf g).2.1 ≤ 1024 ∧ Nat.beq (zget 10 (hCf g).1 0).1 (16 + 8) = true := by
  have hk := ev_K g hg
  obtain ⟨k1, hk⟩ := zands_c hk
  obtain ⟨-, hk⟩ := zands_c hk
  obtain ⟨-, hk⟩ := zands_c hk
  obtain ⟨-, hk⟩ := zands_c hk
  obtain ⟨-, hk⟩ := zands_c hk
  obtain ⟨-, hk⟩ := zands_c hk
  obtain ⟨-, hk⟩ := zands_c hk
  obtain ⟨-, hk⟩ := zands_c hk
  obtain ⟨k10, hk⟩ := zands_c hk
  obtain ⟨k11, hk⟩ := zands_c hk
  obtain ⟨k12, hk⟩ := zands_c hk
  obtain ⟨k9, -⟩ := zands_c hk
  obtain ⟨s1, hs⟩ := zands_c (ev_S g hg)
  obtain ⟨s2, -⟩ := zands_c hs
  obtain ⟨-, hk2⟩ := zcnd_t (ev_J g hg)
  obtain ⟨j2, -⟩ := zcnd_t hk2
  exact ⟨zc3 k10 k11, Nat.eq_of_beq_eq_true k12, Nat.le_of_ble_eq_true k9, Nat.le_of_ble_eq_true j2, k1⟩
/-- the class's world, its tape's length told otherwise -/
noncomputable def hCt (g t : Nat) : zH 10 := (zset 10 (hCf g).1 11 (22, 2, zup 40 (zget 10 (hCf g).1 11).2.2 1 t), (hCf g).2)
noncomputable def hRt (g t : Nat) : zH 6 := (zset 6 (hRf g).1 0 (25, 63, zup 40 (zget 6 (hRf g).1 0).2.2 46 t), (hRf g).2)
set_option maxRecDepth 100000 in
theorem ev_St0 : zall 8 (fun g => qspl g (hCt g 0)) = true := by decide +kernel
set_option maxRecDepth 100000 in
theorem ev_St1 : zall 8 (fun g => zF (fun g => qspl g (hCt g 0)) (Nat.add 8 g)) = true := by decide +kernel
set_option maxRecDepth 100000 in
theorem ev_St2 : zall 8 (fun g => zF (fun g => qspl g (hCt g 0)) (Nat.add 16 g)) = true := by decide +kernel
theorem ev_St (g : Nat) (hg : g < 24) : qspl g (hCt g 0) = true := by
  by_cases c : g < 8
  · exact zall_t ev_St0 g c
  · by_cases c2 : g < 16
    · have := zall_t ev_St1 (g - 8) (by omega)
      rw [zF_eq] at this
      rw [show Nat.add 8 (g - 8) = g by show 8 + (g - 8) = g; omega] at this
      exact this
    · have := zall_t ev_St2 (g - 16) (by omega)
      rw [zF_eq] at this
      rw [show Nat.add 16 (g - 16) = g by show 16 + (g - 16) = g; omega] at this
      exact this
theorem ev_sR (g : Nat) (hg : g < 24) : zsubB (zrng 0 45) (hRf g) (hRf g) = true ∧ (hRf g).2.1 = 45 ∧ zget 6 (hRf g).1 0 = (25, 63, (zget 6 (hRf g).1 0).2.2) ∧ zwd 40 (zget 6 (hRf g).1 0).2.2 46 = zoc 0 46 ∧ zsubH (hRf g) hRw = true ∧ Nat.beq (zget 6 (hRf g).1 0).1 (16 + 9) = true ∧ (hRf g).2.2.1 = 0 ∧ (hRf g).2.2.2 = 0 ∧ (hCf g).2.2.1 = 0 ∧ (hCf g).2.2.2 = 0 := by
  obtain ⟨k1, hk⟩ := zands_c (zall_t ev_sR0 g hg)
  obtain ⟨k2, hk⟩ := zands_c hk
  obtain ⟨k3, hk⟩ := zands_c hk
  obtain ⟨k4, hk⟩ := zands_c hk
  obtain ⟨k5, hk⟩ := zands_c hk
  obtain ⟨k6, -⟩ := zands_c hk
  obtain ⟨r1, hr⟩ := zands_c (zall_t ev_r0 g hg)
  obtain ⟨r2, hr⟩ := zands_c hr
  obtain ⟨r3, hr⟩ := zands_c hr
  obtain ⟨r4, -⟩ := zands_c hr
  exact ⟨k1, Nat.eq_of_beq_eq_true k2, zc3 k3 k4, Nat.eq_of_beq_eq_true k5, k6, k3, Nat.eq_of_beq_eq_true r3, Nat.eq_of_beq_eq_true r4, Nat.eq_of_beq_eq_true r1, Nat.eq_of_beq_eq_true r2⟩
theorem hRt_0 (g : Nat) (hg : g < 24) : zsubB (zrng 0 45) (hRt g 0) (hRf g) = true := by
  obtain ⟨k1, k2, k3, k4, -⟩ := ev_sR g hg
  exact zsubB_up k1 (by decide) (by rw [k2]; decide) k3 (by decide) (zrng_at 45 0 0 (by decide)) k3 (by decide) k4 (by decide)
theorem q_ordC1 [G : zGh] {X Xc : zM} {yc : MethodName} {fr frc pc n : Nat} {f : List zV → zH 10 → zP 10 → Bool} {cA : Nat → ClassId} {D : va_G} {A : Nat → Prop} {MC MS : Nat} {p : Program} {l : Launch} {e : Env} {s : State} {m : MethodId} {args : Array Value} {below : List Frame} {meth : Method} {c : Code} {Q : State → Prop} {ls : Array Slot} {H : Heap} {locs : List Loc} {cells slots : Nat} {as' : List zV} {st av' : List Value} {w0 : va_W} {P : zP 10} {own : Nat → Nat} {ax g : Nat}
    (hg : g < 24) (hM : zMet Xc yc frc f) (run : zRun X Xc yc fr frc pc n 0 0 (qrc 8)) (Cx : zCx X cA D p s m args meth c A) (IC : qC cA D A H own ax g w0)
    (hk : f (zR 1 :: as') (hCf g) P = true) (hPo : ∀ r h, P r h = true → zsubH h (hCf g) = true)
    (hS : va_S A s.heap H locs) (hls : ls.size = X.2.2.1) (has : ∀ ad, zRepL ad as' av') (hcat : (st.map fun v => v.category).sum ≤ 8) (hn : av'.length + 1 = n) (hcb : cells ≤ MC) (hsb : slots ≤ MS)
    (kk : ∀ (w0' : va_W) (ad : zA) (r : zV) (h' : zH 10) (ov : Option Value) (H1 : Heap) (locs1 : List Loc), ((ov = none ∧ r = zU) ∨ ∃ x, ov = some x ∧ ∀ (_ : zGh), zRep ad r x) → P r h' = true → qC cA D A H1 own ax g w0' → qMis w0' = qMis w0 → zgw w0' 11 1 = zgw w0 11 1 → (∀ (d2 : Nat) (h2 : zH d2) (w2 : va_W), qB cA D A H own 1 h2 w2 → qB cA D A H1 own 1 h2 w2) → va_S A s.heap H1 locs1 → W p l e (zRm fr MC MS) s m args below meth c H1 locs1 cells slots Q (F0 m (pc + 3) ls (ov.toList ++ st))) :
    W p l e (zRm fr MC MS) s m args below meth c H locs cells slots Q (F0 m pc ls ((.ref ax :: av').reverse ++ st)) := by
  obtain ⟨c1, c2, c3, c4, c5⟩ := ev_k11 g hg
  obtain ⟨-, -, -, -, -, -, -, -, r1, r2⟩ := ev_sR g hg
  refine q_ordC (hin := hCf g) (hout := hCf g) hg hM run Cx IC (fun Ch cJ ws h _ => h) r1 r2 c5 hk hPo (ev_S g hg) (fun t _ => rfl) hS hls has hcat hn hcb hsb (fun w0' ws' cJ ad r h' ov H1 locs1 hov hP hq hm hHo hcJ hz hfr hs => ?_)
  obtain ⟨Ch, hHo⟩ := hHo
  obtain ⟨-, -, i, -, -, -, e1, -, e2⟩ := zgw_num hHo (by omega) c1 (j := 1) (by decide) (by decide) rfl
  exact kk w0' ad r h' ov H1 locs1 hov hP hq hm (hz.trans (e1.trans ((e2 (by rw [c2]; decide)).trans (by rw [c2]; exact hcJ)))) hfr hs
theorem q_txtC [G : zGh] {X Xc : zM} {yc : MethodName} {fr frc pc n : Nat} {f : List zV → zH 10 → zP 10 → Bool} {cA : Nat → ClassId} {D : va_G} {A : Nat → Prop} {MC MS : Nat} {p : Program} {l : Launch} {e : Env} {s : State} {m : MethodId} {args : Array Value} {below : List Frame} {meth : Method} {c : Code} {Q : State → Prop} {ls : Array Slot} {H : Heap} {locs : List Loc} {cells slots : Nat} {as' : List zV} {st av' : List Value} {w0 : va_W} {P : zP 10} {own : Nat → Nat} {ax g : Nat}
    (hg : g < 24) (hM : zMet Xc yc frc f) (run : zRun X Xc yc fr frc pc n 0 0 (qrc 8)) (Cx : zCx X cA D p s m args meth c A) (IC : qC cA D A H own ax g w0) (ht : zgw w0 11 1 ≤ 200)
    (hk : f (zR 1 :: as') (hCt g 4294967497) P = true) (hPo : ∀ r h, P r h = true → zsubH h (hCt g 0) = true)
    (hS : va_S A s.heap H locs) (hls : ls.size = X.2.2.1) (has : ∀ ad, zRepL ad as' av') (hcat : (st.map fun v => v.category).sum ≤ 8) (hn : av'.length + 1 = n) (hcb : cells ≤ MC) (hsb : slots ≤ MS)
    (kk : ∀ (w0' : va_W) (ad : zA) (r : zV) (h' : zH 10) (ov : Option Value) (H1 : Heap) (locs1 : List Loc), ((ov = none ∧ r = zU) ∨ ∃ x, ov = some x ∧ ∀ (_ : zGh), zRep ad r x) → P r h' = true → qC cA D A H1 own ax g w0' → qMis w0' = qMis w0 → zgw w0' 11 1 = 0 → (∀ (d2 : Nat) (h2 : zH d2) (w2 : va_W), qB cA D A H own 1 h2 w2 → qB cA D A H1 own 1 h2 w2) → va_S A s.heap H1 locs1 → W p l e (zRm fr MC MS) s m args below meth c H1 locs1 cells slots Q (F0 m (pc + 3) ls (ov.toList ++ st))) :
    W p l e (zRm fr MC MS) s m args below meth c H locs cells slots Q (F0 m pc ls ((.ref ax :: av').reverse ++ st)) := by
  obtain ⟨c1, c2, c3, c4, c5⟩ := ev_k11 g hg
  obtain ⟨-, -, -, -, -, -, -, -, r1, r2⟩ := ev_sR g hg
  have hne : ∀ v t : Nat, t < 1024 → t ≠ 11 → zget 10 (hCt g v).1 t = zget 10 (hCf g).1 t := fun v t h1 h2 => zget_set_ne 10 _ 11 t _ (by decide) h1 (fun q => h2 q.symm)
  refine q_ordC (hin := hCt g 4294967497) (hout := hCt g 0) hg hM run Cx IC (fun Ch cJ ws h hz => zHp_open h (by omega) c1 (by decide) (by decide) rfl (by decide) (fun i hi => ⟨fun z => absurd z (by decide), fun _ _ => by rw [hi, hz]; omega⟩)) r1 r2 (by rw [hne _ 0 (by decide) (by decide)]; exact c5) hk hPo (ev_St g hg) (fun t h => hne 0 t (by omega) (by omega)) hS hls has hcat hn hcb hsb (fun w0' ws' cJ ad r h' ov H1 locs1 hov hP hq hm hHo hcJ hz hfr hs => ?_)
  obtain ⟨Ch, hHo⟩ := hHo
  have g1 : zget 10 (hCt g 0).1 11 = (22, 2, zup 40 (zget 10 (hCf g).1 11).2.2 1 0) := zget_set_same 10 _ _ _ (by decide)
  obtain ⟨-, -, i, -, -, -, e1, e2, -⟩ := zgw_num hHo (show 11 < (hCf g).2.1 by omega) g1 (j := 1) (by decide) (by decide) rfl
  rw [zwd_up_same _ _ _ _ (by decide)] at e2
  exact kk w0' ad r h' ov H1 locs1 hov hP hq hm (hz.trans (e1.trans (e2.1 (by decide)))) hfr hs
theorem q_ordR1 [G : zGh] {X Xc : zM} {yc : MethodName} {fr frc pc n : Nat} {f : List zV → zH 6 → zP 6 → Bool} {cA : Nat → ClassId} {D : va_G} {A : Nat → Prop} {MC MS : Nat} {p : Program} {l : Launch} {e : Env} {s : State} {m : MethodId} {args : Array Value} {below : List Frame} {meth : Method} {c : Code} {Q : State → Prop} {ls : Array Slot} {H : Heap} {locs : List Loc} {cells slots : Nat} {as' : List zV} {st av' : List Value} {w : va_W} {P : zP 6} {own : Nat → Nat} {am g : Nat}
    (hg : g < 24) (hM : zMet Xc yc frc f) (run : zRun X Xc yc fr frc pc n 0 0 (qrc 9)) (Cx : zCx X cA D p s m args meth c A) (IR : qR cA D A H own am g w)
    (hk : f (zR 1 :: as') (hRf g) P = true) (hPo : ∀ r h, P r h = true → zsubH h (hRf g) = true)
    (hS : va_S A s.heap H locs) (hls : ls.size = X.2.2.1) (has : ∀ ad, zRepL ad as' av') (hcat : (st.map fun v => v.category).sum ≤ 8) (hn : av'.length + 1 = n) (hcb : cells ≤ MC) (hsb : slots ≤ MS)
    (kk : ∀ (w' : va_W) (ad : zA) (r : zV) (h' : zH 6) (ov : Option Value) (H1 : Heap) (locs1 : List Loc), ((ov = none ∧ r = zU) ∨ ∃ x, ov = some x ∧ ∀ (_ : zGh), zRep ad r x) → P r h' = true → qR cA D A H1 own am g w' → zgw w' 0 46 = zgw w 0 46 → (∀ (d2 z2 : Nat) (h2 : zH d2) (w2 : va_W), z2 ≠ 1 → qB cA D A H own z2 h2 w2 → qB cA D A H1 own z2 h2 w2) → va_S A s.heap H1 locs1 → W p l e (zRm fr MC MS) s m args below meth c H1 locs1 cells slots Q (F0 m (pc + 3) ls (ov.toList ++ st))) :
    W p l e (zRm fr MC MS) s m args below meth c H locs cells slots Q (F0 m pc ls ((.ref am :: av').reverse ++ st)) := by
  obtain ⟨B, hd⟩ := IR
  obtain ⟨k1, k2, k3, k4, k5, k6, r1, r2, -⟩ := ev_sR g hg
  refine q_one (hin := hRf g) (hout := hRf g) (hs := hRf g) (N := 45) hM run Cx B hd (fun Ch h => h) r1 r2 k6 hk hPo k2 k2 k1 hS hls has hcat hn hcb hsb (fun w' ad r h' ov H1 locs1 hov hP B' hd' hHo ha hfr hs => ?_)
  obtain ⟨Ch, hHo⟩ := hHo
  obtain ⟨-, -, i, -, -, -, e1, -, e2⟩ := zgw_num hHo (show 0 < (hRf g).2.1 by omega) k3 (j := 46) (by decide) (by decide) rfl
  exact kk w' ad r h' ov H1 locs1 hov hP ⟨B', hd'⟩ (e1.trans ((e2 (by rw [k4]; decide)).trans (by rw [k4]; exact zcg_gw (by decide)))) hfr hs
theorem q_txtR [G : zGh] {X Xc : zM} {yc : MethodName} {fr frc pc n : Nat} {f : List zV → zH 6 → zP 6 → Bool} {cA : Nat → ClassId} {D : va_G} {A : Nat → Prop} {MC MS : Nat} {p : Program} {l : Launch} {e : Env} {s : State} {m : MethodId} {args : Array Value} {below : List Frame} {meth : Method} {c : Code} {Q : State → Prop} {ls : Array Slot} {H : Heap} {locs : List Loc} {cells slots : Nat} {as' : List zV} {st av' : List Value} {w : va_W} {P : zP 6} {own : Nat → Nat} {am g : Nat}
    (hg : g < 24) (hM : zMet Xc yc frc f) (run : zRun X Xc yc fr frc pc n 0 0 (qrc 9)) (Cx : zCx X cA D p s m args meth c A) (IR : qR cA D A H own am g w) (ht : zgw w 0 46 ≤ 200)
    (hk : f (zR 1 :: as') (hRt g 4294967497) P = true) (hPo : ∀ r h, P r h = true → zsubH h (hRt g 0) = true)
    (hS : va_S A s.heap H locs) (hls : ls.size = X.2.2.1) (has : ∀ ad, zRepL ad as' av') (hcat : (st.map fun v => v.category).sum ≤ 8) (hn : av'.length + 1 = n) (hcb : cells ≤ MC) (hsb : slots ≤ MS)
    (kk : ∀ (w' : va_W) (ad : zA) (r : zV) (h' : zH 6) (ov : Option Value) (H1 : Heap) (locs1 : List Loc), ((ov = none ∧ r = zU) ∨ ∃ x, ov = some x ∧ ∀ (_ : zGh), zRep ad r x) → P r h' = true → qR cA D A H1 own am g w' → zgw w' 0 46 = 0 → (∀ (d2 z2 : Nat) (h2 : zH d2) (w2 : va_W), z2 ≠ 1 → qB cA D A H own z2 h2 w2 → qB cA D A H1 own z2 h2 w2) → va_S A s.heap H1 locs1 → W p l e (zRm fr MC MS) s m args below meth c H1 locs1 cells slots Q (F0 m (pc + 3) ls (ov.toList ++ st))) :
    W p l e (zRm fr MC MS) s m args below meth c H locs cells slots Q (F0 m pc ls ((.ref am :: av').reverse ++ st)) := by
  obtain ⟨B, hd⟩ := IR
  obtain ⟨k1, k2, k3, k4, k5, k6, r1, r2, -⟩ := ev_sR g hg
  obtain ⟨en, hw0⟩ := id hd
  have g0 : zget 6 (hRt g 4294967497).1 0 = (25, 63, zup 40 (zget 6 (hRf g).1 0).2.2 46 4294967497) := zget_set_same 6 _ _ _ (by decide)
  have g1 : zget 6 (hRt g 0).1 0 = (25, 63, zup 40 (zget 6 (hRf g).1 0).2.2 46 0) := zget_set_same 6 _ _ _ (by decide)
  refine q_one (hin := hRt g 4294967497) (hout := hRt g 0) (hs := hRf g) (N := 45) hM run Cx B hd (fun Ch h => zHp_open h (by omega) k3 (by decide) (by decide) rfl (by decide) (fun i hi => ⟨fun z => absurd z (by decide), fun _ _ => by rw [hi]; omega⟩)) r1 r2 (by rw [g0]; rfl) hk hPo k2 k2 (hRt_0 g hg) hS hls has hcat hn hcb hsb (fun w' ad r h' ov H1 locs1 hov hP B' hd' hHo ha hfr hs => ?_)
  obtain ⟨Ch, hHo⟩ := hHo
  obtain ⟨-, -, i, -, -, -, e1, e2, -⟩ := zgw_num hHo (show 0 < (hRf g).2.1 by omega) g1 (j := 46) (by decide) (by decide) rfl
  rw [zwd_up_same _ _ _ _ (by decide)] at e2
  exact kk w' ad r h' ov H1 locs1 hov hP ⟨B', hd'⟩ (e1.trans (e2.1 (by decide))) hfr hs
/-- group on the reference, from whatever group there was -/
theorem q_grpR [G : zGh] {X Xc : zM} {yc : MethodName} {fr frc pc n : Nat} {f : List zV → zH 6 → zP 6 → Bool} {cA : Nat → ClassId} {D : va_G} {A : Nat → Prop} {MC MS : Nat} {p : Program} {l : Launch} {e : Env} {s : State} {m : MethodId} {args : Array Value} {below : List Frame} {meth : Method} {c : Code} {Q : State → Prop} {ls : Array Slot} {H : Heap} {locs : List Loc} {cells slots : Nat} {as' : List zV} {st av' : List Value} {w : va_W} {own : Nat → Nat} {am g g' : Nat} {a : zV}
    (hg : g < 24) (hg' : g' < 24) (hM : zMet Xc yc frc f) (run : zRun X Xc yc fr frc pc n 0 0 (qrc 9)) (Cx : zCx X cA D p s m args meth c A) (IR : qR cA D A H own am g w)
    (hk : f (zR 1 :: as') hRw (fun r h => zands [zeqI r a, zsubH h (hRf g')]) = true) (hw : zands [Nat.beq hRw.2.2.1 0, Nat.beq hRw.2.2.2 0, Nat.beq (zget 6 hRw.1 0).1 (16 + 9)] = true)
    (hS : va_S A s.heap H locs) (hls : ls.size = X.2.2.1) (has : ∀ ad, zRepL ad as' av') (hcat : (st.map fun v => v.category).sum ≤ 8) (hn : av'.length + 1 = n) (hcb : cells ≤ MC) (hsb : slots ≤ MS)
    (kk : ∀ (w' : va_W) (ad : zA) (r : zV) (ov : Option Value) (H1 : Heap) (locs1 : List Loc), ((ov = none ∧ r = zU) ∨ ∃ x, ov = some x ∧ ∀ (_ : zGh), zRep ad r x) → zeqI r a = true → qR cA D A H1 own am g' w' → zgw w' 0 46 = zgw w 0 46 → (∀ (d2 z2 : Nat) (h2 : zH d2) (w2 : va_W), z2 ≠ 1 → qB cA D A H own z2 h2 w2 → qB cA D A H1 own z2 h2 w2) → va_S A s.heap H1 locs1 → W p l e (zRm fr MC MS) s m args below meth c H1 locs1 cells slots Q (F0 m (pc + 3) ls (ov.toList ++ st))) :
    W p l e (zRm fr MC MS) s m args below meth c H locs cells slots Q (F0 m pc ls ((.ref am :: av').reverse ++ st)) := by
  obtain ⟨B, hd⟩ := IR
  obtain ⟨k1, k2, k3, k4, k5, k6, r1, r2, -⟩ := ev_sR g hg
  obtain ⟨k1', k2', k3', k4', -⟩ := ev_sR g' hg'
  obtain ⟨v1, hw⟩ := zands_c hw
  obtain ⟨v2, hw⟩ := zands_c hw
  obtain ⟨v3, -⟩ := zands_c hw
  refine q_one (hin := hRw) (hout := hRf g') (hs := hRf g') (N := 45) hM run Cx B hd (fun Ch h => zsubH_ok k5 h) (Nat.eq_of_beq_eq_true v1) (Nat.eq_of_beq_eq_true v2) v3 hk (fun r h hP => (zands_c (zands_c hP).2).1) k2 k2' k1' hS hls has hcat hn hcb hsb (fun w' ad r h' ov H1 locs1 hov hP B' hd' hHo ha hfr hs => ?_)
  obtain ⟨Ch, hHo⟩ := hHo
  obtain ⟨-, -, i, -, -, -, e1, -, e2⟩ := zgw_num hHo (show 0 < (hRf g').2.1 by omega) k3' (j := 46) (by decide) (by decide) rfl
  exact kk w' ad r ov H1 locs1 hov (zands_c hP).1 ⟨B', hd'⟩ (e1.trans ((e2 (by rw [k4']; decide)).trans (by rw [k4']; exact zcg_gw (by decide)))) hfr hs
