/-! a call on a block by itself -/
abbrev qrc (ci : Nat) : va_W → List Value → Prop := fun ws As => ∃ (b : Nat) (As' : List Value) (q0 : Nat) (fs : List Value), As = .ref b :: As' ∧ ws[q0]? = some (b, .inr (ci, fs))
theorem zc3 {c : zC} {kd len : Nat} (h1 : Nat.beq c.1 kd = true) (h2 : Nat.beq c.2.1 len = true) : c = (kd, len, c.2.2) := by
  obtain ⟨a, b, x⟩ := c
  have e1 : a = kd := Nat.eq_of_beq_eq_true h1
  have e2 : b = len := Nat.eq_of_beq_eq_true h2
  subst e1
  subst e2
  rfl
theorem qrc_of {Ch : zCh} {d : Nat} {cA : Nat → ClassId} {h : zH d} {ws : va_W} {ci a : Nat} {av' : List Value} (hHp : @zHp Ch d cA h ws) (hd : qhd ws a) (hg : Nat.beq (zget d h.1 0).1 (16 + ci) = true) : qrc ci ws (.ref a :: av') := by
  obtain ⟨en, hw⟩ := hd
  have hc := hHp.2.2 0 _ hw
  have hc : @zCell Ch cA (zad cA ws) ((zget d h.1 0).1, (zget d h.1 0).2.1, (zget d h.1 0).2.2) en := hc
  obtain ⟨fs, e1, -, -⟩ := @zCell_obj Ch cA _ _ _ _ ci _ hc (Nat.eq_of_beq_eq_true hg)
  exact ⟨a, av', 0, fs, rfl, by rw [hw, e1]⟩
/-- the same addresses: an entry's is the one that was there -/
theorem zad_eq {cA : Nat → ClassId} {ws ws' : va_W} (ha : (zad cA ws').1 = (zad cA ws).1) {b : Nat} {x : Nat × va_E} (hx : ws'[b]? = some x) : ∃ e, ws[b]? = some (x.1, e) := by
  have h1 := zad_ix (cA := cA) hx
  rw [ha] at h1
  exact zad_at h1
theorem q_one [G : zGh] {X Xc : zM} {yc : MethodName} {fr frc pc n ci d z N : Nat} {f : List zV → zH d → zP d → Bool} {cA : Nat → ClassId} {D : va_G} {A : Nat → Prop} {MC MS : Nat} {p : Program} {l : Launch} {e : Env} {s : State} {m : MethodId} {args : Array Value} {below : List Frame} {meth : Method} {c : Code} {Q : State → Prop} {ls : Array Slot} {H : Heap} {locs : List Loc} {cells slots : Nat} {as' : List zV} {st av' : List Value} {hh hin hout hs : zH d} {w : va_W} {P : zP d} {own : Nat → Nat} {ax : Nat}
    (hM : zMet Xc yc frc f) (run : zRun X Xc yc fr frc pc n 0 0 (qrc ci)) (Cx : zCx X cA D p s m args meth c A)
    (B : qB cA D A H own z hh w) (hd : qhd w ax) (hop : ∀ Ch : zCh, @zHp Ch d (zcg cA w) hh w → @zHp Ch d (zcg cA w) hin w) (hr1 : hin.2.2.1 = 0) (hr2 : hin.2.2.2 = 0) (hci : Nat.beq (zget d hin.1 0).1 (16 + ci) = true)
    (hk : f (zR 1 :: as') hin P = true) (hPo : ∀ r h, P r h = true → zsubH h hout = true) (hN : hh.2.1 = N) (hNo : hout.2.1 = N) (hsp : zsubB (zrng 0 N) hout hs = true)
    (hS : va_S A s.heap H locs) (hls : ls.size = X.2.2.1) (has : ∀ ad, zRepL ad as' av') (hcat : (st.map fun v => v.category).sum ≤ 8) (hn : av'.length + 1 = n) (hcb : cells ≤ MC) (hsb : slots ≤ MS)
    (kk : ∀ (w' : va_W) (ad : zA) (r : zV) (h' : zH d) (ov : Option Value) (H1 : Heap) (locs1 : List Loc), ((ov = none ∧ r = zU) ∨ ∃ x, ov = some x ∧ ∀ (_ : zGh), zRep ad r x) → P r h' = true → qB cA D A H1 own z hs w' → qhd w' ax → (∃ Ch : zCh, @zHp Ch d (zcg cA w) hout w') → (zad (zcg cA w) w').1 = (zad (zcg cA w) w).1 → (∀ (d2 z2 : Nat) (h2 : zH d2) (w2 : va_W), z2 ≠ z → qB cA D A H own z2 h2 w2 → qB cA D A H1 own z2 h2 w2) → va_S A s.heap H1 locs1 → W p l e (zRm fr MC MS) s m args below meth c H1 locs1 cells slots Q (F0 m (pc + 3) ls (ov.toList ++ st))) :
    W p l e (zRm fr MC MS) s m args below meth c H locs cells slots Q (F0 m pc ls ((.ref ax :: av').reverse ++ st)) := by
  have B' := B
  obtain ⟨⟨Ch, hH⟩, hP, hD, hO⟩ := B'
  have hlo : ∀ i, i < 549755813889 → zcg cA w i = cA i := fun i hi => zcg_lo hi
  have hHi := hop Ch hH
  have hF := zfree hD hS Cx.2.2.2.2.2.2.1
  obtain ⟨en, hw0⟩ := hd
  refine pt_callF (h := hin) (ws := w) (P := P) (as := zR 1 :: as') (av := .ref ax :: av') hM run (zCx_to hlo Cx) hr1 hr2 hk hHi hP hD hS hls ⟨⟨some ax, rfl, Or.inr ⟨0, ax, rfl, zad_ix hw0, rfl⟩⟩, has _⟩ hcat (by rw [List.length_cons]; exact hn) (qrc_of hHi ⟨en, hw0⟩ hci) (by omega) (by omega) (fun Ch' r h' ws' ov H1 locs1 hov hPk hHp' hpre hP' hD' hS1 hsz hfr => ?_)
  have hHo := zsubH_ok (hPo r h' hPk) hHp'
  have hl : w.length = N := hH.1.trans hN
  have hl' : ws'.length = N := hHo.1.trans hNo
  have ha : (zad (zcg cA w) ws').1 = (zad (zcg cA w) w).1 := zPre_len hpre (by show (ws'.map _).length = (w.map _).length; rw [List.length_map, List.length_map, hl, hl'])
  have hBk : qB cA D A H1 own z hs (zsubw (zrng 0 N) ws') := q_bk hlo hsp hHo hP' (hD'.weaken (fun _ q _ hq => hF _ hq)) (fun p b x hb hx => by
    obtain ⟨e1, g1⟩ := zad_eq ha hx
    exact hO b (x.1, e1) g1)
  rw [zsubw_id hl'] at hBk
  have hd' : qhd ws' ax := by
    have h1 := zad_ix (cA := zcg cA w) hw0
    rw [← ha] at h1
    exact zad_at h1
  have := kk ws' (zad (zcg cA w) ws') r h' ov H1 locs1 hov hPk hBk hd' ⟨Ch', hHo⟩ ha (fun d2 z2 h2 w2 hz B2 => qB_kept hfr (fun i x hx => by rw [hO i x hx]; exact fun q => hz q.symm) (fun _ _ => rfl) B2) hS1
  exact this
