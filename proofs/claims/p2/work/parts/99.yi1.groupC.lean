/-! group on the class: nothing made yet, the things made, both made -/
noncomputable def qh0 (φ : List Nat) : Nat := List.rec (motive := fun _ => Nat) 0 (fun x _ _ => x) φ
theorem qh0_t : ∀ {φ : List Nat}, Nat.ble 1 (zlen φ) = true → φ[0]? = some (qh0 φ)
  | [], h => by cases h
  | x :: φ, _ => rfl
theorem qsum_one {f f' : Nat → Nat} {g : Nat} : ∀ {n : Nat}, g < n → (∀ i, i < n → i ≠ g → f i = f' i) → f g = f' g + 1 → zsum n f = zsum n f' + 1
  | 0, h, _, _ => absurd h (Nat.not_lt_zero g)
  | n + 1, h, hi, hg => by
    show zsum n f + f n = zsum n f' + f' n + 1
    by_cases c : g = n
    · subst c
      have e : zsum g f = zsum g f' := zsum_c (fun i hl => hi i (by omega) (by omega))
      rw [e, hg]
      omega
    · have e := qsum_one (n := n) (by omega) (fun i hl hne => hi i (by omega) hne) hg
      rw [e, hi n (by omega) (fun z => c z.symm)]
      omega
/-- one block less is wanting -/
theorem qMis_one {w0 w0' : va_W} {g : Nat} (hg : g < 24) (h0 : zgw w0 2 (qgS g) = 0) (h1 : zgw w0' 2 (qgS g) ≠ 0) (ho : ∀ g', g' < 24 → g' ≠ g → zgw w0' 2 (qgS g') = zgw w0 2 (qgS g')) : qMis w0 = qMis w0' + 1 := by
  refine qsum_one hg (fun i hi hne => ?_) ?_
  · rw [ho i hi hne]
  · rw [h0]
    cases hb : Nat.beq (zgw w0' 2 (qgS g)) 0
    · rfl
    · exact absurd (Nat.eq_of_beq_eq_true hb) h1
theorem qMis_same {w0 w0' : va_W} {g : Nat} (hg : g < 24) (h0 : zgw w0 2 (qgS g) ≠ 0) (h1 : zgw w0' 2 (qgS g) ≠ 0) (ho : ∀ g', g' < 24 → g' ≠ g → zgw w0' 2 (qgS g') = zgw w0 2 (qgS g')) : qMis w0' = qMis w0 := by
  refine zsum_c (fun i hi => ?_)
  by_cases c : i = g
  · subst c
    cases hb : Nat.beq (zgw w0' 2 (qgS i)) 0
    · cases hb2 : Nat.beq (zgw w0 2 (qgS i)) 0
      · rfl
      · exact absurd (Nat.eq_of_beq_eq_true hb2) h0
    · exact absurd (Nat.eq_of_beq_eq_true hb) h1
  · rw [ho i hi c]
theorem qMis_pos {w0 : va_W} {g : Nat} (hg : g < 24) (h0 : zgw w0 2 (qgS g) = 0) : 1 ≤ qMis w0 := by
  have h8 := qsum_one (n := 24) (g := g) (f := fun i => cond (Nat.beq (zgw w0 2 (qgS i)) 0) 1 0) (f' := fun i => if i = g then 0 else cond (Nat.beq (zgw w0 2 (qgS i)) 0) 1 0) hg (fun i _ hne => by show _ = if i = g then 0 else _; rw [if_neg hne]) (by show cond (Nat.beq (zgw w0 2 (qgS g)) 0) 1 0 = (if g = g then 0 else _) + 1; rw [if_pos rfl, h0]; rfl)
  have h9 : qMis w0 = zsum 24 (fun i => cond (Nat.beq (zgw w0 2 (qgS i)) 0) 1 0) := rfl
  omega
noncomputable def qgA (g : Nat) : Nat := match qgN g with
  | 1 => 1
  | 2 => 2
  | 3 => 3
  | 4 => 5
  | 5 => 7
  | _ => 11
noncomputable def qevA (f : List zV → zH 10 → zP 10 → Bool) (as' : List zV) (g : Nat) : Bool := zands [zjoin [(zoc 1 (qgN g), 0), (zoc 2 (qgS g), 0)] hcore hE0 hE0 (hGaf g), Nat.beq (hGaf g).2.2.1 1000, Nat.beq (hGaf g).2.2.2 80000, Nat.beq (zget 10 (hGaf g).1 0).1 24, Nat.ble 1 (zlen (phT g)), Nat.ble 1 (zlen (phSa g)), zbd 38 (qh0 (phSa g)) (phT g), zbd (qh0 (phSa g)) 1000000 (phSa g), f (zR 1 :: as') (hGaf g) (fun r h => zands [zeqI r (zI (qgA g)), qGP g (phT g) (phSa g) (qh0 (phT g)) (qh0 (phSa g)) h])]
noncomputable def qevB (f : List zV → zH 10 → zP 10 → Bool) (as' : List zV) (g : Nat) : Bool := zands [zjoin [(zoc 1 (qgN g), 39), (zoc 2 (qgS g), 0)] hcore (hTf (qgN g)) hE0 (hGbf g), Nat.beq (hGbf g).2.2.1 1000, Nat.beq (hGbf g).2.2.2 80000, Nat.beq (zget 10 (hGbf g).1 0).1 24, Nat.ble 1 (zlen (phSb g)), zbd (Nat.add 38 (hTf (qgN g)).2.1) 1000000 (phSb g), f (zR 1 :: as') (hGbf g) (fun r h => zands [zeqI r (zI (qgA g)), qGP g (zrng 38 (hTf (qgN g)).2.1) (phSb g) 38 (qh0 (phSb g)) h])]
noncomputable def qevC (f : List zV → zH 10 → zP 10 → Bool) (as' : List zV) (g : Nat) : Bool := zands [zjoin [(zoc 1 (qgN g), 39), (zoc 2 (qgS g), Nat.add 39 (hTf (qgN g)).2.1)] hcore (hTf (qgN g)) (hSf g) (hGcf g), Nat.beq (hGcf g).2.2.1 0, Nat.beq (hGcf g).2.2.2 0, Nat.beq (zget 10 (hGcf g).1 0).1 24, f (zR 1 :: as') (hGcf g) (fun r h => zands [zeqI r (zI (qgA g)), qGP g (zrng 38 (hTf (qgN g)).2.1) (zrng (Nat.add 38 (hTf (qgN g)).2.1) (hSf g).2.1) 38 (Nat.add 38 (hTf (qgN g)).2.1) h])]
theorem q_groupC [G : zGh] {X Xc : zM} {yc : MethodName} {fr frc pc n : Nat} {f : List zV → zH 10 → zP 10 → Bool} {cA : Nat → ClassId} {D : va_G} {A : Nat → Prop} {MC MS : Nat} {p : Program} {l : Launch} {e : Env} {s : State} {m : MethodId} {args : Array Value} {below : List Frame} {meth : Method} {c : Code} {Q : State → Prop} {ls : Array Slot} {H : Heap} {locs : List Loc} {cells slots : Nat} {as' : List zV} {st av' : List Value} {w0 : va_W} {own : Nat → Nat} {ax g g0 : Nat}
    (hg : g < 24) (hM : zMet Xc yc frc f) (run : zRun X Xc yc fr frc pc n 1000 80000 (qrc 8)) (run0 : zRun X Xc yc fr frc pc n 0 0 (qrc 8)) (Cx : zCx X cA D p s m args meth c A)
    (IC : qC cA D A H own ax g0 w0) (ea : qevA f as' g = true) (eb : qevB f as' g = true) (ec : qevC f as' g = true)
    (hS : va_S A s.heap H locs) (hls : ls.size = X.2.2.1) (has : ∀ ad, zRepL ad as' av') (hcat : (st.map fun v => v.category).sum ≤ 8) (hn : av'.length + 1 = n) (hcb : cells + 1000 * qMis w0 ≤ MC) (hsb : slots + 80000 * qMis w0 ≤ MS)
    (kk : ∀ (w0' : va_W) (own1 : Nat → Nat) (ad : zA) (r : zV) (ov : Option Value) (H1 : Heap) (locs1 : List Loc) (cells1 slots1 : Nat), ((ov = none ∧ r = zU) ∨ ∃ x, ov = some x ∧ ∀ (_ : zGh), zRep ad r x) → zeqI r (zI (qgA g)) = true → qC cA D A H1 own1 ax g w0' → zgw w0' 11 1 = zgw w0 11 1 → (∀ (d2 : Nat) (h2 : zH d2) (w2 : va_W), qB cA D A H own 1 h2 w2 → qB cA D A H1 own1 1 h2 w2) → va_S A s.heap H1 locs1 → cells1 + 1000 * qMis w0' ≤ MC → slots1 + 80000 * qMis w0' ≤ MS → W p l e (zRm fr MC MS) s m args below meth c H1 locs1 cells1 slots1 Q (F0 m (pc + 3) ls (ov.toList ++ st))) :
    W p l e (zRm fr MC MS) s m args below meth c H locs cells slots Q (F0 m pc ls ((.ref ax :: av').reverse ++ st)) := by
  obtain ⟨B0, hax, cur, hT, hS0⟩ := IC
  obtain ⟨b1, b2, b3⟩ := qg_b g hg
  obtain ⟨⟨C0, H0⟩, -, -, O0⟩ := id B0
  have l0 : w0.length = 38 := H0.1.trans hcore_n
  by_cases cS : zgw w0 2 (qgS g) = 0
  · by_cases cT : zgw w0 1 (qgN g) = 0
    · obtain ⟨e1, ea⟩ := zands_c ea
      obtain ⟨e2, ea⟩ := zands_c ea
      obtain ⟨e3, ea⟩ := zands_c ea
      obtain ⟨e4, ea⟩ := zands_c ea
      obtain ⟨e5, ea⟩ := zands_c ea
      obtain ⟨e6, ea⟩ := zands_c ea
      obtain ⟨e7, ea⟩ := zands_c ea
      obtain ⟨e8, ea⟩ := zands_c ea
      obtain ⟨e9, -⟩ := zands_c ea
      have hJ := q_join (z1 := 100) (z2 := 101) B0 qB_nil qB_nil (by decide) (by decide) (by decide) e1 (fun w v hm => by
        rcases List.mem_cons.mp hm with hm | hm
        · cases hm
          exact q_ent0 (by omega) cT
        rcases List.mem_cons.mp hm with hm | hm
        · cases hm
          exact q_ent0 (by omega) cS
        cases hm)
      have hlen : (w0 ++ [] ++ []).length = 38 := by rw [List.append_nil, List.append_nil]; exact l0
      have t5 := qh0_t e5
      have t6 := qh0_t e6
      have u5 := zbd_t e7 0 _ t5
      have u6 := zbd_t e8 0 _ t6
      refine q_growC (φT := phT g) (φS := phSa g) (tr := qh0 (phT g)) (sr := qh0 (phSa g)) hg hM run Cx B0 hax hT hS0 hJ (Nat.eq_of_beq_eq_true e2) (Nat.eq_of_beq_eq_true e3) e4 e9 (fun i x hx => ?_) (fun p b hb => Or.inl ?_) (fun p b hb => Or.inl ?_) (fun p p' b hb hb' => ?_) t5 t6 (by omega) (by omega) hS hls has hcat hn ?_ ?_ (fun w0' own1 ad r ov H1 locs1 hov hra hq ho hl hr hs1 => ?_)
      · rw [List.append_nil, List.append_nil] at hx
        exact Or.inl ⟨by rw [← l0]; exact (List.getElem?_eq_some_iff.mp hx).1, O0 i x hx⟩
      · have := zbd_t e7 p b hb
        omega
      · have := zbd_t e8 p b hb
        omega
      · have h1 := zbd_t e7 p b hb
        have h2 := zbd_t e8 p' b hb'
        omega
      · have hm1 := qMis_pos hg cS
        omega
      · have hm1 := qMis_pos hg cS
        omega
      · have hm := qMis_one hg cS hq.2.2.1.1 ho
        exact kk w0' own1 ad r ov H1 locs1 _ _ hov hra hq hl hr hs1 (by omega) (by omega)
    · obtain ⟨wT, BT, hdT⟩ := hT (qgN g) b1 b2 cT
      obtain ⟨⟨C1, HT⟩, -, -, O1⟩ := id BT
      have l1 : wT.length = (hTf (qgN g)).2.1 := HT.1
      obtain ⟨e1, eb⟩ := zands_c eb
      obtain ⟨e2, eb⟩ := zands_c eb
      obtain ⟨e3, eb⟩ := zands_c eb
      obtain ⟨e4, eb⟩ := zands_c eb
      obtain ⟨e6, eb⟩ := zands_c eb
      obtain ⟨e8, eb⟩ := zands_c eb
      obtain ⟨e9, -⟩ := zands_c eb
      obtain ⟨eT, hT0⟩ := hdT
      have hlt := (List.getElem?_eq_some_iff.mp hT0).1
      have hwT : (w0 ++ wT ++ [])[38]? = some (zgw w0 1 (qgN g) - 1, eT) := by
        rw [List.append_nil, List.getElem?_append_right (by omega), show 38 - w0.length = 0 by omega]
        exact hT0
      have hJ := q_join (z2 := 101) B0 BT qB_nil (by omega) (by decide) (by omega) e1 (fun w v hm => by
        rcases List.mem_cons.mp hm with hm | hm
        · cases hm
          exact q_ent (a := zgw w0 1 (qgN g) - 1) (by omega) (by omega) (zad_ix hwT) rfl (by decide)
        rcases List.mem_cons.mp hm with hm | hm
        · cases hm
          exact q_ent0 (by omega) cS
        cases hm)
      have hlen : (w0 ++ wT ++ []).length = 38 + (hTf (qgN g)).2.1 := by rw [List.append_nil, List.length_append]; omega
      have t6 := qh0_t e6
      have u6 : Nat.add 38 (hTf (qgN g)).2.1 ≤ qh0 (phSb g) ∧ qh0 (phSb g) < 1000000 := zbd_t e8 0 _ t6
      have ea38 : Nat.add 38 (hTf (qgN g)).2.1 = 38 + (hTf (qgN g)).2.1 := rfl
      have hrg : ∀ (p b : Nat), (zrng 38 (hTf (qgN g)).2.1)[p]? = some b → 38 ≤ b ∧ b < 38 + (hTf (qgN g)).2.1 := fun p b hb => by
        have hp : p < (hTf (qgN g)).2.1 := by rw [← zrng_len (hTf (qgN g)).2.1 38]; exact (List.getElem?_eq_some_iff.mp hb).1
        rw [zrng_at _ _ p hp] at hb
        cases hb
        omega
      have hm1 := qMis_pos hg cS
      refine q_growC (φT := zrng 38 (hTf (qgN g)).2.1) (φS := phSb g) (tr := 38) (sr := qh0 (phSb g)) hg hM run Cx B0 hax hT hS0 hJ (Nat.eq_of_beq_eq_true e2) (Nat.eq_of_beq_eq_true e3) e4 e9 (fun i x hx => ?_) (fun p b hb => Or.inr ?_) (fun p b hb => Or.inl ?_) (fun p p' b hb hb' => ?_) (zrng_at _ _ 0 (by omega)) t6 (by decide) (by omega) hS hls has hcat hn (by omega) (by omega) (fun w0' own1 ad r ov H1 locs1 hov hra hq ho hl hr hs1 => ?_)
      · rw [List.append_nil] at hx
        rcases q_mem hx with ⟨a1, a2⟩ | ⟨a1, a2⟩
        · exact Or.inl ⟨by omega, O0 _ x a2⟩
        · exact Or.inr ⟨by omega, Or.inl (O1 _ x a2)⟩
      · have := hrg p b hb
        have hx : wT[b - 38]? = some wT[b - 38] := List.getElem?_eq_getElem (by omega)
        refine ⟨_, ?_, O1 _ _ hx⟩
        rw [List.append_nil, List.getElem?_append_right (by omega), l0]
        exact hx
      · have := zbd_t e8 p b hb
        omega
      · have h1 := hrg p b hb
        have h2 := zbd_t e8 p' b hb'
        omega
      · have hm := qMis_one hg cS hq.2.2.1.1 ho
        exact kk w0' own1 ad r ov H1 locs1 _ _ hov hra hq hl hr hs1 (by omega) (by omega)
  · obtain ⟨cT, wS, BS, hdS⟩ := hS0 g hg cS
    obtain ⟨wT, BT, hdT⟩ := hT (qgN g) b1 b2 cT
    obtain ⟨⟨C1, HT⟩, -, -, O1⟩ := id BT
    obtain ⟨⟨C2, HS⟩, -, -, O2⟩ := id BS
    have l1 : wT.length = (hTf (qgN g)).2.1 := HT.1
    have l2 : wS.length = (hSf g).2.1 := HS.1
    obtain ⟨e1, ec⟩ := zands_c ec
    obtain ⟨e2, ec⟩ := zands_c ec
    obtain ⟨e3, ec⟩ := zands_c ec
    obtain ⟨e4, ec⟩ := zands_c ec
    obtain ⟨e9, -⟩ := zands_c ec
    obtain ⟨eT, hT0⟩ := hdT
    obtain ⟨eS, hS00⟩ := hdS
    have hlt := (List.getElem?_eq_some_iff.mp hT0).1
    have hlt2 := (List.getElem?_eq_some_iff.mp hS00).1
    have hwT : (w0 ++ wT ++ wS)[38]? = some (zgw w0 1 (qgN g) - 1, eT) := by
      rw [List.append_assoc, List.getElem?_append_right (by omega), List.getElem?_append_left (by omega), show 38 - w0.length = 0 by omega]
      exact hT0
    have hwS : (w0 ++ wT ++ wS)[38 + (hTf (qgN g)).2.1]? = some (zgw w0 2 (qgS g) - 1, eS) := by
      rw [List.getElem?_append_right (by rw [List.length_append]; omega), List.length_append, show 38 + (hTf (qgN g)).2.1 - (w0.length + wT.length) = 0 by omega]
      exact hS00
    have lS : (hTf (qgN g)).2.1 ≤ 512 := HT.2.1
    have lS2 : (hSf g).2.1 ≤ 128 := HS.2.1
    have ea38 : Nat.add 38 (hTf (qgN g)).2.1 = 38 + (hTf (qgN g)).2.1 := rfl
    have ea39 : Nat.add 39 (hTf (qgN g)).2.1 = 39 + (hTf (qgN g)).2.1 := rfl
    have hJ := q_join B0 BT BS (by omega) (by omega) (by omega) e1 (fun w v hm => by
      rcases List.mem_cons.mp hm with hm | hm
      · cases hm
        exact q_ent (a := zgw w0 1 (qgN g) - 1) (by omega) (by omega) (zad_ix hwT) rfl (by decide)
      rcases List.mem_cons.mp hm with hm | hm
      · cases hm
        exact q_ent (a := zgw w0 2 (qgS g) - 1) (by omega) (by omega) (zad_ix hwS) (by omega) (by omega)
      cases hm)
    have hrg : ∀ (a l p b : Nat), (zrng a l)[p]? = some b → a ≤ b ∧ b < a + l := fun a l p b hb => by
      have hp : p < l := by rw [← zrng_len l a]; exact (List.getElem?_eq_some_iff.mp hb).1
      rw [zrng_at l a p hp] at hb
      cases hb
      omega
    refine q_growC (φT := zrng 38 (hTf (qgN g)).2.1) (φS := zrng (Nat.add 38 (hTf (qgN g)).2.1) (hSf g).2.1) (tr := 38) (sr := Nat.add 38 (hTf (qgN g)).2.1) hg hM run0 Cx B0 hax hT hS0 hJ (Nat.eq_of_beq_eq_true e2) (Nat.eq_of_beq_eq_true e3) e4 e9 (fun i x hx => ?_) (fun p b hb => Or.inr ?_) (fun p b hb => Or.inr ?_) (fun p p' b hb hb' => ?_) (zrng_at _ _ 0 (by omega)) (zrng_at _ _ 0 (by omega)) (by decide) (by omega) hS hls has hcat hn (by omega) (by omega) (fun w0' own1 ad r ov H1 locs1 hov hra hq ho hl hr hs1 => ?_)
    · rcases q_mem hx with ⟨a1, a2⟩ | ⟨a1, a2⟩
      · rcases q_mem a2 with ⟨a3, a4⟩ | ⟨a3, a4⟩
        · exact Or.inl ⟨by omega, O0 _ x a4⟩
        · exact Or.inr ⟨by omega, Or.inl (O1 _ x a4)⟩
      · rw [List.length_append] at a1
        exact Or.inr ⟨by omega, Or.inr (O2 _ x a2)⟩
    · have := hrg _ _ p b hb
      have hx : wT[b - 38]? = some wT[b - 38] := List.getElem?_eq_getElem (by omega)
      refine ⟨_, ?_, O1 _ _ hx⟩
      rw [List.append_assoc, List.getElem?_append_right (by omega), List.getElem?_append_left (by omega), l0]
      exact hx
    · have := hrg _ _ p b hb
      have hx : wS[b - (38 + (hTf (qgN g)).2.1)]? = some wS[b - (38 + (hTf (qgN g)).2.1)] := List.getElem?_eq_getElem (by omega)
      refine ⟨_, ?_, O2 _ _ hx⟩
      rw [List.getElem?_append_right (by rw [List.length_append]; omega), List.length_append, l0, l1]
      exact hx
    · have h1 := hrg _ _ p b hb
      have h2 := hrg _ _ p' b hb'
      omega
    · have hm := qMis_same hg cS hq.2.2.1.1 ho
      exact kk w0' own1 ad r ov H1 locs1 _ _ hov hra hq hl hr hs1 (by omega) (by omega)
