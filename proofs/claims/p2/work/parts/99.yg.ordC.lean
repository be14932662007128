/-! a call on the class's world that makes nothing -/
theorem zsubw_hd {cA : Nat → ClassId} {ws ws' : va_W} (ha : (zad cA ws').1 = (zad cA ws).1) {a l k b : Nat} {e : va_E} (hl : a + l ≤ ws'.length) (h0 : 0 < l) (hk : ws[a]? = some (b, e)) : qhd (zsubw (zrng a l) ws') b := by
  have h1 := zad_ix (cA := cA) hk
  rw [← ha] at h1
  obtain ⟨e', h2⟩ := zad_at h1
  exact ⟨e', by rw [zsubw_rng h0 hl, Nat.add_zero]; exact h2⟩
section JC
variable {cA : Nat → ClassId} {D : va_G} {A : Nat → Prop} {H : Heap} {own : Nat → Nat} {ax g : Nat} {w0 : va_W}
/-- the class's blocks put together -/
theorem q_openC (hg : g < 24) (IC : qC cA D A H own ax g w0) : ∃ (wT wS : va_W), qB cA D A H own (1 + qgN g) (hTf (qgN g)) wT ∧ qhd wT (zgw w0 1 (qgN g) - 1) ∧ qB cA D A H own (8 + g) (hSf g) wS ∧ qhd wS (zgw w0 2 (qgS g) - 1) ∧ (∃ Ch : zCh, @zHp Ch 10 (qcJ cA w0 wS) (hCf g) (w0 ++ wT ++ wS)) ∧ va_P D zcl (w0 ++ wT ++ wS) H ∧ va_D A (w0 ++ wT ++ wS) := by
  obtain ⟨B0, hax, cur, hT, hS⟩ := IC
  obtain ⟨b1, b2, b3⟩ := qg_b g hg
  obtain ⟨cT, wS, BS, hdS⟩ := hS g hg cur.1
  obtain ⟨wT, BT, hdT⟩ := hT (qgN g) b1 b2 cT
  refine ⟨wT, wS, BT, hdT, BS, hdS, ?_⟩
  obtain ⟨c1, c2, c3, c4, c5⟩ := cur
  obtain ⟨⟨C0, H0⟩, -⟩ := id B0
  obtain ⟨⟨C1, H1⟩, -⟩ := id BT
  obtain ⟨⟨C2, H2⟩, -⟩ := id BS
  have l0 : w0.length = 38 := H0.1.trans hcore_n
  have l1 : wT.length = (hTf (qgN g)).2.1 := H1.1
  have l2 : wS.length = (hSf g).2.1 := H2.1
  obtain ⟨eT, hT0⟩ := hdT
  obtain ⟨eS, hS0⟩ := hdS
  have aT : (zad cA (w0 ++ wT ++ wS)).1[38]? = some (zgw w0 1 (qgN g) - 1) := zad_ix (x := (zgw w0 1 (qgN g) - 1, eT)) (by
    have hlt := (List.getElem?_eq_some_iff.mp hT0).1
    rw [List.append_assoc, List.getElem?_append_right (by omega), List.getElem?_append_left (by omega), show 38 - w0.length = 0 by omega]
    exact hT0)
  have aS : (zad cA (w0 ++ wT ++ wS)).1[38 + (hTf (qgN g)).2.1]? = some (zgw w0 2 (qgS g) - 1) := zad_ix (x := (zgw w0 2 (qgS g) - 1, eS)) (by
    rw [List.getElem?_append_right (by rw [List.length_append]; omega), List.length_append, show 38 + (hTf (qgN g)).2.1 - (w0.length + wT.length) = 0 by omega]
    exact hS0)
  have lS : (hTf (qgN g)).2.1 ≤ 512 := H1.2.1
  refine q_join B0 BT BS (by omega) (by omega) (by omega) (ev_J g hg) (fun w v hm => ?_)
  have vT : (39 : Nat) < 549755813888 := by decide
  have vS : Nat.add 39 (hTf (qgN g)).2.1 < 549755813888 := by show 39 + _ < _; omega
  have eS1 : Nat.add 39 (hTf (qgN g)).2.1 = 38 + (hTf (qgN g)).2.1 + 1 := by show 39 + _ = _; omega
  unfold qE at hm
  rcases List.mem_cons.mp hm with hm | hm
  · cases hm
    exact q_ent (a := zgw w0 1 (qgN g) - 1) (by decide) (by rw [c2]; omega) aT rfl vT
  rcases List.mem_cons.mp hm with hm | hm
  · cases hm
    exact q_ent (a := zgw w0 2 (qgS g) - 1) (by decide) (by rw [c4]; omega) aS eS1 vS
  rcases List.mem_cons.mp hm with hm | hm
  · cases hm
    exact q_ent (a := zgw w0 1 (qgN g) - 1) (by omega) (by omega) aT rfl vT
  rcases List.mem_cons.mp hm with hm | hm
  · cases hm
    exact q_ent (a := zgw w0 2 (qgS g) - 1) (by omega) (by omega) aS eS1 vS
  rcases List.mem_cons.mp hm with hm | hm
  · cases hm
    exact q_ent (a := zgw w0 1 (qgN g) - 1) (by decide) (by rw [c3]; omega) aT rfl vT
  rcases List.mem_cons.mp hm with hm | hm
  · cases hm
    exact q_ent (a := zgw w0 2 (qgS g) - 1) (by decide) (by rw [c5]; omega) aS eS1 vS
  cases hm
end JC
theorem q_ordC [G : zGh] {X Xc : zM} {yc : MethodName} {fr frc pc n : Nat} {f : List zV → zH 10 → zP 10 → Bool} {cA : Nat → ClassId} {D : va_G} {A : Nat → Prop} {MC MS : Nat} {p : Program} {l : Launch} {e : Env} {s : State} {m : MethodId} {args : Array Value} {below : List Frame} {meth : Method} {c : Code} {Q : State → Prop} {ls : Array Slot} {H : Heap} {locs : List Loc} {cells slots : Nat} {as' : List zV} {st av' : List Value} {hin hout : zH 10} {w0 : va_W} {P : zP 10} {own : Nat → Nat} {ax g : Nat}
    (hg : g < 24) (hM : zMet Xc yc frc f) (run : zRun X Xc yc fr frc pc n 0 0 (qrc 8)) (Cx : zCx X cA D p s m args meth c A)
    (IC : qC cA D A H own ax g w0) (hop : ∀ (Ch : zCh) (cJ : Nat → ClassId) (ws : va_W), @zHp Ch 10 cJ (hCf g) ws → zgw ws 11 1 = zgw w0 11 1 → @zHp Ch 10 cJ hin ws) (hr1 : hin.2.2.1 = 0) (hr2 : hin.2.2.2 = 0) (hci : Nat.beq (zget 10 hin.1 0).1 (16 + 8) = true)
    (hk : f (zR 1 :: as') hin P = true) (hPo : ∀ r h, P r h = true → zsubH h hout = true) (hsp : qspl g hout = true) (hsm : ∀ t, t = 0 ∨ t = 1 ∨ t = 2 ∨ t = 13 → zget 10 hout.1 t = zget 10 (hCf g).1 t)
    (hS : va_S A s.heap H locs) (hls : ls.size = X.2.2.1) (has : ∀ ad, zRepL ad as' av') (hcat : (st.map fun v => v.category).sum ≤ 8) (hn : av'.length + 1 = n) (hcb : cells ≤ MC) (hsb : slots ≤ MS)
    (kk : ∀ (w0' ws' : va_W) (cJ : Nat → ClassId) (ad : zA) (r : zV) (h' : zH 10) (ov : Option Value) (H1 : Heap) (locs1 : List Loc), ((ov = none ∧ r = zU) ∨ ∃ x, ov = some x ∧ ∀ (_ : zGh), zRep ad r x) → P r h' = true → qC cA D A H1 own ax g w0' → qMis w0' = qMis w0 → (∃ Ch : zCh, @zHp Ch 10 cJ hout ws') → cJ (zoc 11 1) = zgw w0 11 1 → zgw w0' 11 1 = zgw ws' 11 1 → (∀ (d2 : Nat) (h2 : zH d2) (w2 : va_W), qB cA D A H own 1 h2 w2 → qB cA D A H1 own 1 h2 w2) → va_S A s.heap H1 locs1 → W p l e (zRm fr MC MS) s m args below meth c H1 locs1 cells slots Q (F0 m (pc + 3) ls (ov.toList ++ st))) :
    W p l e (zRm fr MC MS) s m args below meth c H locs cells slots Q (F0 m pc ls ((.ref ax :: av').reverse ++ st)) := by
  obtain ⟨wT, wS, BT, hdT, BS, hdS, ⟨Ch, hH⟩, hP, hD⟩ := q_openC hg IC
  obtain ⟨B0, hax, cur, hT, hS0⟩ := IC
  obtain ⟨b1, b2, b3⟩ := qg_b g hg
  obtain ⟨⟨C0, H0⟩, -, -, O0⟩ := id B0
  obtain ⟨⟨C1, H1⟩, -, -, O1⟩ := id BT
  obtain ⟨⟨C2, H2⟩, -, -, O2⟩ := id BS
  have l0 : w0.length = 38 := H0.1.trans hcore_n
  have l1 : wT.length = (hTf (qgN g)).2.1 := H1.1
  have l2 : wS.length = (hSf g).2.1 := H2.1
  have hlo : ∀ i, i < 549755813889 → qcJ cA w0 wS i = cA i := qcJ_lo
  have h11 : zgw (w0 ++ wT ++ wS) 11 1 = zgw w0 11 1 := by
    rw [List.append_assoc, zgw_app (by omega)]
  have hHi := hop Ch _ _ hH h11
  have hF := zfree hD hS Cx.2.2.2.2.2.2.1
  obtain ⟨en, hw0⟩ := hax
  have hws0 : (w0 ++ wT ++ wS)[0]? = some (ax, en) := by
    rw [List.append_assoc, List.getElem?_append_left (by omega)]
    exact hw0
  refine pt_callF (h := hin) (ws := w0 ++ wT ++ wS) (P := P) (as := zR 1 :: as') (av := .ref ax :: av') hM run (zCx_to hlo Cx) hr1 hr2 hk hHi hP hD hS hls ⟨⟨some ax, rfl, Or.inr ⟨0, ax, rfl, zad_ix hws0, rfl⟩⟩, has _⟩ hcat (by rw [List.length_cons]; exact hn) (qrc_of hHi ⟨en, hws0⟩ hci) (by omega) (by omega) (fun Ch' r h' ws' ov H1' locs1 hov hPk hHp' hpre hP' hD' hS1 hsz hfr => ?_)
  have hHo := zsubH_ok (hPo r h' hPk) hHp'
  obtain ⟨s1, hsp⟩ := zands_c hsp
  obtain ⟨s2, hsp⟩ := zands_c hsp
  obtain ⟨s3, hsp⟩ := zands_c hsp
  obtain ⟨s4, -⟩ := zands_c hsp
  have hl' : ws'.length = 38 + (hTf (qgN g)).2.1 + (hSf g).2.1 := hHo.1.trans (Nat.eq_of_beq_eq_true s1)
  have hl : (w0 ++ wT ++ wS).length = 38 + (hTf (qgN g)).2.1 + (hSf g).2.1 := by rw [List.length_append, List.length_append]; omega
  have ha : (zad (qcJ cA w0 wS) ws').1 = (zad (qcJ cA w0 wS) (w0 ++ wT ++ wS)).1 := zPre_len hpre (by show (ws'.map _).length = ((w0 ++ wT ++ wS).map _).length; rw [List.length_map, List.length_map, hl, hl'])
  have hDA := hD'.weaken (fun _ q _ hq => hF _ hq)
  have hsame := q_same hH hHo ha (ev_K g hg) (by rw [← hHo.1]; omega) hsm
  have hz0 : ∀ t j, t < 38 → zgw (zsubw (zrng 0 38) ws') t j = zgw ws' t j := fun t j ht => by
    rw [zgw_rng ht (by omega), Nat.zero_add]
  have hz1 : ∀ t j, t < 38 → zgw (w0 ++ wT ++ wS) t j = zgw w0 t j := fun t j ht => by
    rw [List.append_assoc, zgw_app (by omega)]
  have hsame0 : qSame w0 (zsubw (zrng 0 38) ws') := ⟨fun k hk => by rw [hz0 1 k (by decide), hsame.1 k hk, hz1 1 k (by decide)], fun j hj => by rw [hz0 2 j (by decide), hsame.2.1 j hj, hz1 2 j (by decide)], by rw [hz0 0 6 (by decide), hsame.2.2.1, hz1 0 6 (by decide)], by rw [hz0 0 7 (by decide), hsame.2.2.2.1, hz1 0 7 (by decide)], by rw [hz0 13 12 (by decide), hsame.2.2.2.2.1, hz1 13 12 (by decide)], by rw [hz0 13 13 (by decide), hsame.2.2.2.2.2, hz1 13 13 (by decide)]⟩
  have ow : ∀ (i : Nat) (x : Nat × va_E), (w0 ++ wT ++ wS)[i]? = some x → (i < 38 ∧ own x.1 = 0) ∨ (38 ≤ i ∧ i < 38 + (hTf (qgN g)).2.1 ∧ own x.1 = 1 + qgN g) ∨ (38 + (hTf (qgN g)).2.1 ≤ i ∧ own x.1 = 8 + g) := fun i x hx => by
    rcases q_mem hx with ⟨a1, a2⟩ | ⟨a1, a2⟩
    · rcases q_mem a2 with ⟨a3, a4⟩ | ⟨a3, a4⟩
      · exact Or.inl ⟨by omega, O0 _ x a4⟩
      · rw [List.length_append] at a1
        exact Or.inr (Or.inl ⟨by omega, by omega, O1 _ x a4⟩)
    · rw [List.length_append] at a1
      exact Or.inr (Or.inr ⟨by omega, O2 _ x a2⟩)
  have ow' : ∀ (i : Nat) (x : Nat × va_E), ws'[i]? = some x → (i < 38 ∧ own x.1 = 0) ∨ (38 ≤ i ∧ i < 38 + (hTf (qgN g)).2.1 ∧ own x.1 = 1 + qgN g) ∨ (38 + (hTf (qgN g)).2.1 ≤ i ∧ own x.1 = 8 + g) := fun i x hx => by
    obtain ⟨e1, g1⟩ := zad_eq ha hx
    exact ow i (x.1, e1) g1
  have hrg : ∀ (a l p b : Nat), (zrng a l)[p]? = some b → a ≤ b ∧ b < a + l := fun a l p b hb => by
    have hp : p < l := by rw [← zrng_len l a]; exact (List.getElem?_eq_some_iff.mp hb).1
    rw [zrng_at l a p hp] at hb
    cases hb
    omega
  have B0' : qB cA D A H1' own 0 hcore (zsubw (zrng 0 38) ws') := q_bk hlo s2 hHo hP' hDA (fun p b x hb hx => by
    have hb := hrg _ _ _ _ hb
    rcases ow' b x hx with q | q | q <;> omega)
  have BT' : qB cA D A H1' own (1 + qgN g) (hTf (qgN g)) (zsubw (zrng 38 (hTf (qgN g)).2.1) ws') := q_bk hlo s3 hHo hP' hDA (fun p b x hb hx => by
    have hb := hrg _ _ _ _ hb
    rcases ow' b x hx with q | q | q <;> omega)
  have BS' : qB cA D A H1' own (8 + g) (hSf g) (zsubw (zrng (Nat.add 38 (hTf (qgN g)).2.1) (hSf g).2.1) ws') := q_bk hlo s4 hHo hP' hDA (fun p b x hb hx => by
    have hb := hrg _ _ _ _ hb
    have e1 : Nat.add 38 (hTf (qgN g)).2.1 = 38 + (hTf (qgN g)).2.1 := rfl
    rcases ow' b x hx with q | q | q <;> omega)
  have hfrm : ∀ (d2 z2 : Nat) (h2 : zH d2) (w2 : va_W), z2 ≠ 0 → z2 ≠ 1 + qgN g → z2 ≠ 8 + g → qB cA D A H own z2 h2 w2 → qB cA D A H1' own z2 h2 w2 := fun d2 z2 h2 w2 n0 n1 n2 B2 => qB_kept hfr (fun i x hx => by rcases ow i x hx with q | q | q <;> omega) (fun _ _ => rfl) B2
  obtain ⟨eT, hT0⟩ := id hdT
  obtain ⟨eS, hS0'⟩ := id hdS
  have hwT : (w0 ++ wT ++ wS)[38]? = some (zgw w0 1 (qgN g) - 1, eT) := by
    have hlt := (List.getElem?_eq_some_iff.mp hT0).1
    rw [List.append_assoc, List.getElem?_append_right (by omega), List.getElem?_append_left (by omega), show 38 - w0.length = 0 by omega]
    exact hT0
  have hwS : (w0 ++ wT ++ wS)[38 + (hTf (qgN g)).2.1]? = some (zgw w0 2 (qgS g) - 1, eS) := by
    rw [List.getElem?_append_right (by rw [List.length_append]; omega), List.length_append, show 38 + (hTf (qgN g)).2.1 - (w0.length + wT.length) = 0 by omega]
    exact hS0'
  have pT : 0 < (hTf (qgN g)).2.1 := by rw [← l1]; exact Nat.lt_of_le_of_lt (Nat.zero_le _) (List.getElem?_eq_some_iff.mp hT0).1
  have pS : 0 < (hSf g).2.1 := by rw [← l2]; exact Nat.lt_of_le_of_lt (Nat.zero_le _) (List.getElem?_eq_some_iff.mp hS0').1
  have hd0' : qhd (zsubw (zrng 0 38) ws') ax := zsubw_hd (k := 0) ha (by omega) (by decide) hws0
  have hdT' : qhd (zsubw (zrng 38 (hTf (qgN g)).2.1) ws') (zgw w0 1 (qgN g) - 1) := zsubw_hd (k := 0) ha (by omega) pT hwT
  have hdS' : qhd (zsubw (zrng (Nat.add 38 (hTf (qgN g)).2.1) (hSf g).2.1) ws') (zgw w0 2 (qgS g) - 1) := zsubw_hd (k := 0) ha (by show 38 + _ + _ ≤ _; omega) pS hwS
  have hqT : qT cA D A H1' own (zsubw (zrng 0 38) ws') := fun k k1 k6 hne => by
    rw [hsame0.1 k (by omega)] at hne ⊢
    by_cases hkn : k = qgN g
    · subst hkn
      exact ⟨_, BT', hdT'⟩
    · obtain ⟨w, B, hd⟩ := hT k k1 k6 hne
      exact ⟨w, hfrm _ _ _ _ (by omega) (by omega) (by omega) B, hd⟩
  have hqS : qS cA D A H1' own (zsubw (zrng 0 38) ws') := fun g' hg' hne => by
    obtain ⟨u1, u2, u3⟩ := qg_b g' hg'
    rw [hsame0.2.1 _ u3] at hne ⊢
    rw [hsame0.1 _ (by omega)]
    obtain ⟨v1, w, B, hd⟩ := hS0 g' hg' hne
    refine ⟨v1, ?_⟩
    by_cases hgg : g' = g
    · subst hgg
      exact ⟨_, BS', hdS'⟩
    · exact ⟨w, hfrm _ _ _ _ (by omega) (by omega) (by omega) B, hd⟩
  exact kk _ ws' (qcJ cA w0 wS) _ r h' ov H1' locs1 hov hPk ⟨B0', hd0', qSame_cur hg hsame0 cur, hqT, hqS⟩ (qSame_mis hsame0) ⟨Ch', hHo⟩ (qcJ_oc (by decide) (by decide)) (hz0 11 1 (by decide)) (fun d2 h2 w2 B2 => hfrm d2 1 h2 w2 (by decide) (by omega) (by omega) B2) hS1
