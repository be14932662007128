section
/-! a call on the class's world that may make blocks: group -/
noncomputable def zbd (a b : Nat) (φ : List Nat) : Bool := List.rec (motive := fun _ => Bool) true (fun x _ r => cond (Nat.ble a x) (cond (Nat.ble (Nat.succ x) b) r false) false) φ
theorem zbd_t {a b : Nat} : ∀ {φ : List Nat}, zbd a b φ = true → ∀ (p x : Nat), φ[p]? = some x → a ≤ x ∧ x < b
  | [], _, p, x, hx => by simp at hx
  | y :: φ, h, 0, x, hx => by
    have h : cond (Nat.ble a y) (cond (Nat.ble (Nat.succ y) b) (zbd a b φ) false) false = true := h
    obtain ⟨h1, h⟩ := zcnd_t h
    obtain ⟨h2, h⟩ := zcnd_t h
    have e : y = x := by simpa using hx
    subst e
    exact ⟨Nat.le_of_ble_eq_true h1, Nat.le_of_ble_eq_true h2⟩
  | y :: φ, h, p + 1, x, hx => by
    have h : cond (Nat.ble a y) (cond (Nat.ble (Nat.succ y) b) (zbd a b φ) false) false = true := h
    obtain ⟨h1, h⟩ := zcnd_t h
    obtain ⟨h2, h⟩ := zcnd_t h
    exact zbd_t h p x (by simpa using hx)
noncomputable def qwd (h : zH 10) (t j : Nat) : Nat := zwd 40 (zget 10 h.1 t).2.2 j
noncomputable def qchk (g tr sr : Nat) (h : zH 10) : Bool := zands [qkd h, Nat.beq (qwd h 0 6) (Nat.succ tr), Nat.beq (qwd h 0 7) (Nat.succ sr), Nat.beq (qwd h 13 12) (Nat.succ tr), Nat.beq (qwd h 13 13) (Nat.succ sr), Nat.beq (qwd h 1 (qgN g)) (Nat.succ tr), Nat.beq (qwd h 2 (qgS g)) (Nat.succ sr), zall 7 (fun k => cond (Nat.beq k (qgN g)) true (cond (Nat.beq k 0) true (Nat.beq (qwd h 1 k) (zoc 1 k)))), zall 24 (fun g' => cond (Nat.beq g' g) true (Nat.beq (qwd h 2 (qgS g')) (zoc 2 (qgS g'))))]
noncomputable def qGP (g : Nat) (φT φS : List Nat) (tr sr : Nat) (h : zH 10) : Bool := zands [zsubB (zrng 0 38) h hcore, zsubB φT h (hTf (qgN g)), zsubB φS h (hSf g), qchk g tr sr h]
theorem zrvl_oc {ad : zA} {t j : Nat} : zrvl ad (zoc t j) = ad.2 (zoc t j) := by
  unfold zrvl
  rw [if_neg (by rw [zoc_n]; omega)]
theorem zrvl_at {ad : zA} {k a : Nat} (h : ad.1[k]? = some a) (hk : k + 1 < 549755813888) : zrvl ad (Nat.succ k) = a + 1 := by
  unfold zrvl
  rw [if_pos hk]
  show (match ad.1[k]? with
    | some a => a + 1
    | none => 0) = a + 1
  rw [h]
theorem q_growC [G : zGh] {X Xc : zM} {yc : MethodName} {fr frc pc n mc ms : Nat} {f : List zV → zH 10 → zP 10 → Bool} {cA : Nat → ClassId} {D : va_G} {A : Nat → Prop} {MC MS : Nat} {p : Program} {l : Launch} {e : Env} {s : State} {m : MethodId} {args : Array Value} {below : List Frame} {meth : Method} {c : Code} {Q : State → Prop} {ls : Array Slot} {H : Heap} {locs : List Loc} {cells slots : Nat} {as' : List zV} {st av' : List Value} {HH : zH 10} {w0 w1 w2 : va_W} {own : Nat → Nat} {ax g tr sr : Nat} {φT φS : List Nat} {a : zV}
    (hg : g < 24) (hM : zMet Xc yc frc f) (run : zRun X Xc yc fr frc pc n mc ms (qrc 8)) (Cx : zCx X cA D p s m args meth c A)
    (B0 : qB cA D A H own 0 hcore w0) (hax : qhd w0 ax) (hT : qT cA D A H own w0) (hS0 : qS cA D A H own w0)
    (hJ : (∃ Ch : zCh, @zHp Ch 10 (qcJ cA w0 w2) HH (w0 ++ w1 ++ w2)) ∧ va_P D zcl (w0 ++ w1 ++ w2) H ∧ va_D A (w0 ++ w1 ++ w2)) (hr1 : HH.2.2.1 = mc) (hr2 : HH.2.2.2 = ms) (hci : Nat.beq (zget 10 HH.1 0).1 (16 + 8) = true)
    (hk : f (zR 1 :: as') HH (fun r h => zands [zeqI r a, qGP g φT φS tr sr h]) = true)
    (ow : ∀ (i : Nat) (x : Nat × va_E), (w0 ++ w1 ++ w2)[i]? = some x → (i < 38 ∧ own x.1 = 0) ∨ (38 ≤ i ∧ (own x.1 = 1 + qgN g ∨ own x.1 = 8 + g)))
    (hφT : ∀ (p b : Nat), φT[p]? = some b → (w0 ++ w1 ++ w2).length ≤ b ∨ ∃ x, (w0 ++ w1 ++ w2)[b]? = some x ∧ own x.1 = 1 + qgN g)
    (hφS : ∀ (p b : Nat), φS[p]? = some b → (w0 ++ w1 ++ w2).length ≤ b ∨ ∃ x, (w0 ++ w1 ++ w2)[b]? = some x ∧ own x.1 = 8 + g)
    (hdj : ∀ (p p' b : Nat), φT[p]? = some b → φS[p']? = some b → False) (hT0 : φT[0]? = some tr) (hS00 : φS[0]? = some sr) (htr : tr < 1000000) (hsr : sr < 1000000)
    (hS : va_S A s.heap H locs) (hls : ls.size = X.2.2.1) (has : ∀ ad, zRepL ad as' av') (hcat : (st.map fun v => v.category).sum ≤ 8) (hn : av'.length + 1 = n) (hcb : cells + mc ≤ MC) (hsb : slots + ms ≤ MS)
    (kk : ∀ (w0' : va_W) (own1 : Nat → Nat) (ad : zA) (r : zV) (ov : Option Value) (H1 : Heap) (locs1 : List Loc), ((ov = none ∧ r = zU) ∨ ∃ x, ov = some x ∧ ∀ (_ : zGh), zRep ad r x) → zeqI r a = true → qC cA D A H1 own1 ax g w0' → (∀ g', g' < 24 → g' ≠ g → zgw w0' 2 (qgS g') = zgw w0 2 (qgS g')) → zgw w0' 11 1 = zgw w0 11 1 → (∀ (d2 : Nat) (h2 : zH d2) (w2 : va_W), qB cA D A H own 1 h2 w2 → qB cA D A H1 own1 1 h2 w2) → va_S A s.heap H1 locs1 → W p l e (zRm fr MC MS) s m args below meth c H1 locs1 (cells + mc) (slots + ms) Q (F0 m (pc + 3) ls (ov.toList ++ st))) :
    W p l e (zRm fr MC MS) s m args below meth c H locs cells slots Q (F0 m pc ls ((.ref ax :: av').reverse ++ st)) := by
  classical
  obtain ⟨⟨Ch, hH⟩, hP, hD⟩ := hJ
  obtain ⟨b1, b2, b3⟩ := qg_b g hg
  obtain ⟨⟨C0, H0⟩, -, -, O0⟩ := id B0
  have l0 : w0.length = 38 := H0.1.trans hcore_n
  have hlo : ∀ i, i < 549755813889 → qcJ cA w0 w2 i = cA i := qcJ_lo
  have hF := zfree hD hS Cx.2.2.2.2.2.2.1
  obtain ⟨en, hw0⟩ := hax
  have hws0 : (w0 ++ w1 ++ w2)[0]? = some (ax, en) := by
    rw [List.append_assoc, List.getElem?_append_left (by omega)]
    exact hw0
  have hl38 : 38 ≤ (w0 ++ w1 ++ w2).length := by rw [List.length_append, List.length_append]; omega
  generalize hws : w0 ++ w1 ++ w2 = ws at *
  refine pt_callF (h := HH) (ws := ws) (P := fun r h => zands [zeqI r a, qGP g φT φS tr sr h]) (as := zR 1 :: as') (av := .ref ax :: av') hM run (zCx_to hlo Cx) hr1 hr2 hk hH hP hD hS hls ⟨⟨some ax, rfl, Or.inr ⟨0, ax, rfl, zad_ix hws0, rfl⟩⟩, has _⟩ hcat (by rw [List.length_cons]; exact hn) (qrc_of hH ⟨en, hws0⟩ hci) hcb hsb (fun Ch' r h' ws' ov H1' locs1 hov hPk hHo hpre hP' hD' hS1 hsz hfr => ?_)
  obtain ⟨hra, hPk⟩ := zands_c hPk
  obtain ⟨hPk, -⟩ := zands_c hPk
  obtain ⟨s2, hPk⟩ := zands_c hPk
  obtain ⟨s3, hPk⟩ := zands_c hPk
  obtain ⟨s4, hPk⟩ := zands_c hPk
  obtain ⟨hck, -⟩ := zands_c hPk
  obtain ⟨q0, hck⟩ := zands_c hck
  obtain ⟨q1, hck⟩ := zands_c hck
  obtain ⟨q2, hck⟩ := zands_c hck
  obtain ⟨q3, hck⟩ := zands_c hck
  obtain ⟨q4, hck⟩ := zands_c hck
  obtain ⟨q5, hck⟩ := zands_c hck
  obtain ⟨q6, hck⟩ := zands_c hck
  obtain ⟨q7, hck⟩ := zands_c hck
  obtain ⟨q8, -⟩ := zands_c hck
  obtain ⟨k1, hq0⟩ := zands_c q0
  obtain ⟨k2, hq0⟩ := zands_c hq0
  obtain ⟨k3, hq0⟩ := zands_c hq0
  obtain ⟨k4, hq0⟩ := zands_c hq0
  obtain ⟨k5, hq0⟩ := zands_c hq0
  obtain ⟨k6, hq0⟩ := zands_c hq0
  obtain ⟨k7, hq0⟩ := zands_c hq0
  obtain ⟨k8, hq0⟩ := zands_c hq0
  obtain ⟨k10, hq0⟩ := zands_c hq0
  obtain ⟨k11, hq0⟩ := zands_c hq0
  obtain ⟨k12, hq0⟩ := zands_c hq0
  obtain ⟨k9, -⟩ := zands_c hq0
  have hn38 : 38 ≤ h'.2.1 := Nat.le_of_ble_eq_true k9
  have hl' : ws'.length = h'.2.1 := hHo.1
  have c0 := zc3 k1 k2
  have c1 := zc3 k3 k4
  have c2 := zc3 k5 k6
  have c13 := zc3 k7 k8
  have c11 := zc3 k10 k11
  -- addresses
  have hpx : ∀ (b : Nat) (x : Nat × va_E), ws[b]? = some x → ∃ e, ws'[b]? = some (x.1, e) := fun b x hx => by
    have h1 := zad_ix (cA := qcJ cA w0 w2) hx
    obtain ⟨⟨t, ht⟩, -⟩ := hpre
    have hb : b < (zad (qcJ cA w0 w2) ws).1.length := (List.getElem?_eq_some_iff.mp h1).1
    rw [← List.getElem?_append_left (l₂ := t) hb, ← ht] at h1
    exact zad_at h1
  have hold : ∀ (b : Nat) (x : Nat × va_E), b < ws.length → ws'[b]? = some x → ∃ e, ws[b]? = some (x.1, e) := fun b x hb hx => by
    have e1 : ws[b]? = some ws[b] := List.getElem?_eq_getElem hb
    obtain ⟨e2, h2⟩ := hpx b _ e1
    rw [hx] at h2
    cases h2
    exact ⟨ws[b].2, e1⟩
  have hnew : ∀ (b : Nat) (x : Nat × va_E), ws.length ≤ b → ws'[b]? = some x → H.size ≤ x.1 := fun b x hb hx => by
    rcases hD'.2 b x hx with ⟨k, e1, hk1⟩ | z
    · obtain ⟨e2, h2⟩ := hpx k _ hk1
      have := hD'.1 k b _ x h2 hx rfl
      have hkl := (List.getElem?_eq_some_iff.mp hk1).1
      omega
    · exact z
  have hDA := hD'.weaken (fun _ q _ hq => hF _ hq)
  let own1 : Nat → Nat := fun q => if q < H.size then own q else if ∃ (p b : Nat) (x : Nat × va_E), φT[p]? = some b ∧ ws'[b]? = some x ∧ x.1 = q then 1 + qgN g else 8 + g
  have ho1 : ∀ q, q < H.size → own1 q = own q := fun q hq => if_pos hq
  have B0' : qB cA D A H1' own1 0 hcore (zsubw (zrng 0 38) ws') := q_bk hlo s2 hHo hP' hDA (fun p b x hb hx => by
    have hp : p < 38 := by rw [← zrng_len 38 0]; exact (List.getElem?_eq_some_iff.mp hb).1
    rw [zrng_at 38 0 p hp] at hb
    have eb : b = p := by cases hb; omega
    subst eb
    obtain ⟨e1, g1⟩ := hold b x (by omega) hx
    rw [ho1 _ (hP b _ g1).lt]
    rcases ow b _ g1 with z | z
    · exact z.2
    · omega)
  have BT' : qB cA D A H1' own1 (1 + qgN g) (hTf (qgN g)) (zsubw φT ws') := q_bk hlo s3 hHo hP' hDA (fun p b x hb hx => by
    rcases hφT p b hb with z | ⟨y, z1, z2⟩
    · have hx1 := hnew b x z hx
      show (if x.1 < H.size then own x.1 else if ∃ (p b : Nat) (y : Nat × va_E), φT[p]? = some b ∧ ws'[b]? = some y ∧ y.1 = x.1 then 1 + qgN g else 8 + g) = _
      rw [if_neg (by omega), if_pos ⟨p, b, x, hb, hx, rfl⟩]
    · obtain ⟨e2, h2⟩ := hpx b y z1
      rw [hx] at h2
      cases h2
      show own1 y.1 = _
      rw [ho1 _ (hP b _ z1).lt]
      exact z2)
  have BS' : qB cA D A H1' own1 (8 + g) (hSf g) (zsubw φS ws') := q_bk hlo s4 hHo hP' hDA (fun p b x hb hx => by
    rcases hφS p b hb with z | ⟨y, z1, z2⟩
    · have hx1 := hnew b x z hx
      show (if x.1 < H.size then own x.1 else if ∃ (p b : Nat) (y : Nat × va_E), φT[p]? = some b ∧ ws'[b]? = some y ∧ y.1 = x.1 then 1 + qgN g else 8 + g) = _
      rw [if_neg (by omega), if_neg (fun ⟨p2, b2, y, u1, u2, u3⟩ => by
        have eb := hDA.1 b2 b y x u2 hx u3
        subst eb
        exact hdj p2 p b2 u1 hb)]
    · obtain ⟨e2, h2⟩ := hpx b y z1
      rw [hx] at h2
      cases h2
      show own1 y.1 = _
      rw [ho1 _ (hP b _ z1).lt]
      exact z2)
  have hfrm : ∀ (d2 z2 : Nat) (h2 : zH d2) (w2 : va_W), z2 ≠ 0 → z2 ≠ 1 + qgN g → z2 ≠ 8 + g → qB cA D A H own z2 h2 w2 → qB cA D A H1' own1 z2 h2 w2 := fun d2 z2 h2 w2 n0 n1 n2 B2 => qB_kept hfr (fun i x hx => by rcases ow i x hx with q | ⟨-, q | q⟩ <;> omega) ho1 B2
  -- what the words say
  have hz0 : ∀ t j, t < 38 → zgw (zsubw (zrng 0 38) ws') t j = zgw ws' t j := fun t j ht => by
    rw [zgw_rng ht (by omega), Nat.zero_add]
  have hA : ∀ k, k < 7 → zgw (zsubw (zrng 0 38) ws') 1 k = zrvl (zad (qcJ cA w0 w2) ws') (qwd h' 1 k) := fun k hk => by
    rw [hz0 1 k (by decide)]
    exact zgw_arr hHo (by omega) c1 (by decide) (by decide) hk
  have hB : ∀ k, k < 56 → zgw (zsubw (zrng 0 38) ws') 2 k = zrvl (zad (qcJ cA w0 w2) ws') (qwd h' 2 k) := fun k hk => by
    rw [hz0 2 k (by decide)]
    exact zgw_arr hHo (by omega) c2 (by decide) (by decide) hk
  have h06 : zgw (zsubw (zrng 0 38) ws') 0 6 = zrvl (zad (qcJ cA w0 w2) ws') (qwd h' 0 6) := by
    rw [hz0 0 6 (by decide)]
    exact zgw_ref hHo (by omega) c0 (by decide) (by decide) (by decide)
  have h07 : zgw (zsubw (zrng 0 38) ws') 0 7 = zrvl (zad (qcJ cA w0 w2) ws') (qwd h' 0 7) := by
    rw [hz0 0 7 (by decide)]
    exact zgw_ref hHo (by omega) c0 (by decide) (by decide) (by decide)
  have h12 : zgw (zsubw (zrng 0 38) ws') 13 12 = zrvl (zad (qcJ cA w0 w2) ws') (qwd h' 13 12) := by
    rw [hz0 13 12 (by decide)]
    exact zgw_ref hHo (by omega) c13 (by decide) (by decide) (by decide)
  have h13 : zgw (zsubw (zrng 0 38) ws') 13 13 = zrvl (zad (qcJ cA w0 w2) ws') (qwd h' 13 13) := by
    rw [hz0 13 13 (by decide)]
    exact zgw_ref hHo (by omega) c13 (by decide) (by decide) (by decide)
  rw [Nat.eq_of_beq_eq_true q1] at h06
  rw [Nat.eq_of_beq_eq_true q2] at h07
  rw [Nat.eq_of_beq_eq_true q3] at h12
  rw [Nat.eq_of_beq_eq_true q4] at h13
  have h1n := hA (qgN g) (by omega)
  rw [Nat.eq_of_beq_eq_true q5] at h1n
  have h2s := hB (qgS g) b3
  rw [Nat.eq_of_beq_eq_true q6] at h2s
  have hoth1 : ∀ k, 1 ≤ k → k < 7 → k ≠ qgN g → zgw (zsubw (zrng 0 38) ws') 1 k = zgw w0 1 k := fun k hk1 hk7 hne => by
    have := zall_t q7 k hk7
    have e1 : Nat.beq k (qgN g) = false := by
      cases hb : Nat.beq k (qgN g)
      · rfl
      · exact absurd (Nat.eq_of_beq_eq_true hb) hne
    have e2 : Nat.beq k 0 = false := by
      cases hb : Nat.beq k 0
      · rfl
      · exact absurd (Nat.eq_of_beq_eq_true hb) (by omega)
    have this : cond (Nat.beq k (qgN g)) true (cond (Nat.beq k 0) true (Nat.beq (qwd h' 1 k) (zoc 1 k))) = true := this
    rw [e1, e2, cond_false, cond_false] at this
    rw [hA k hk7, Nat.eq_of_beq_eq_true this, zrvl_oc]
    exact qcJ_oc (by omega) (by omega)
  have hoth2 : ∀ g', g' < 24 → g' ≠ g → zgw (zsubw (zrng 0 38) ws') 2 (qgS g') = zgw w0 2 (qgS g') := fun g' hg' hne => by
    have := zall_t q8 g' hg'
    have e1 : Nat.beq g' g = false := by
      cases hb : Nat.beq g' g
      · rfl
      · exact absurd (Nat.eq_of_beq_eq_true hb) hne
    have this : cond (Nat.beq g' g) true (Nat.beq (qwd h' 2 (qgS g')) (zoc 2 (qgS g'))) = true := this
    rw [e1, cond_false] at this
    obtain ⟨u1, u2, u3⟩ := qg_b g' hg'
    rw [hB _ u3, Nat.eq_of_beq_eq_true this, zrvl_oc]
    exact qcJ_oc (by omega) (by omega)
  -- the new roots
  have hbT : ∃ x, ws'[tr]? = some x := by
    obtain ⟨-, z⟩ := zcnd_t s3
    obtain ⟨-, z⟩ := zcnd_t z
    obtain ⟨z, -⟩ := zcnd_t z
    have := (znd_t z).1 0 tr hT0
    exact ⟨_, List.getElem?_eq_getElem (by omega)⟩
  have hbS : ∃ x, ws'[sr]? = some x := by
    obtain ⟨-, z⟩ := zcnd_t s4
    obtain ⟨-, z⟩ := zcnd_t z
    obtain ⟨z, -⟩ := zcnd_t z
    have := (znd_t z).1 0 sr hS00
    exact ⟨_, List.getElem?_eq_getElem (by omega)⟩
  obtain ⟨xT, hxT⟩ := hbT
  obtain ⟨xS, hxS⟩ := hbS
  rw [zrvl_at (zad_ix hxT) (by omega)] at h06 h12 h1n
  rw [zrvl_at (zad_ix hxS) (by omega)] at h07 h13 h2s
  have hdT' : qhd (zsubw φT ws') xT.1 := ⟨xT.2, zsubw_at hT0 hxT⟩
  have hdS' : qhd (zsubw φS ws') xS.1 := ⟨xS.2, zsubw_at hS00 hxS⟩
  have hd0' : qhd (zsubw (zrng 0 38) ws') ax := by
    obtain ⟨e2, h2⟩ := hpx 0 _ hws0
    exact ⟨e2, by rw [zsubw_rng (by decide) (by omega), Nat.zero_add]; exact h2⟩
  have hqT : qT cA D A H1' own1 (zsubw (zrng 0 38) ws') := fun k k1 k6 hne => by
    by_cases hkn : k = qgN g
    · subst hkn
      exact ⟨_, BT', by rw [h1n]; exact hdT'⟩
    · rw [hoth1 k k1 (by omega) hkn] at hne ⊢
      obtain ⟨w, B, hd⟩ := hT k k1 k6 hne
      exact ⟨w, hfrm _ _ _ _ (by omega) (by omega) (by omega) B, hd⟩
  have hqS : qS cA D A H1' own1 (zsubw (zrng 0 38) ws') := fun g' hg' hne => by
    obtain ⟨u1, u2, u3⟩ := qg_b g' hg'
    by_cases hgg : g' = g
    · subst hgg
      exact ⟨by rw [h1n]; omega, _, BS', by rw [h2s]; exact hdS'⟩
    · rw [hoth2 g' hg' hgg] at hne ⊢
      obtain ⟨v1, w, B, hd⟩ := hS0 g' hg' hne
      refine ⟨?_, w, hfrm _ _ _ _ (by omega) (by omega) (by omega) B, hd⟩
      by_cases hnn : qgN g' = qgN g
      · rw [hnn, h1n]
        omega
      · rw [hoth1 _ u1 (by omega) hnn]
        exact v1
  have hlen : zgw (zsubw (zrng 0 38) ws') 11 1 = zgw w0 11 1 := by
    rw [hz0 11 1 (by decide)]
    obtain ⟨-, -, i, -, -, -, e1, -, e2⟩ := zgw_num hHo (by omega) c11 (j := 1) (by decide) (by decide) (by decide)
    have ew : zwd 40 (zget 10 h'.1 11).2.2 1 = zoc 11 1 := Nat.eq_of_beq_eq_true k12
    rw [e1, e2 (by rw [ew]; decide), ew]
    exact qcJ_oc (by decide) (by decide)
  exact kk _ own1 _ r ov H1' locs1 hov hra ⟨B0', hd0', ⟨by rw [h2s]; omega, by rw [h06, h1n], by rw [h12, h1n], by rw [h07, h2s], by rw [h13, h2s]⟩, hqT, hqS⟩ hoth2 hlen (fun d2 h2 w2 B2 => hfrm d2 1 h2 w2 (by decide) (by omega) (by omega) B2) hS1
end
section
/-! group on the class: its worlds, by program -/
noncomputable def zk_99_yi0_grpD_0 : zC := (24, 8, 0x80000000088000000007000000000e000000000c000000000b000000000400000000030000000002)
noncomputable def zk_99_yi0_grpD_1 : zT 1 := @Prod.mk (zT 0) (zT 0) zk_99_yi0_grpD_0 (6, 7, 0x8000000047800000004680000000458000000044800000004300000000000000000000)
noncomputable def zk_99_yi0_grpD_2 : zC := (4, 6, 0xa00000000090000000008000000000700000000060000000005)
noncomputable def zk_99_yi0_grpD_3 : zT 1 := @Prod.mk (zT 0) (zT 0) (7, 56, 0x80000000b8000000000080000000b6000000000080000000b480000000b30000000000000000000080000000b0000000000080000000ae000000000080000000ac80000000ab0000000000000000000080000000a8000000000080000000a6000000000080000000a480000000a30000000000000000000080000000a00000000000800000009e0000000000800000009c800000009b000000000000000000008000000098000000000080000000960000000000800000009480000000930000000000000000000080000000900000000000800000008e0000000000800000008c00000000000000000000000000000000000000000000000000000000000000000000000000000000000000000000000000000000000000) zk_99_yi0_grpD_2
noncomputable def zk_99_yi0_grpD_4 : zT 1 := @Prod.mk (zT 0) (zT 0) (2, 11, zun 72 11 18446744073709551616) (2, 11, zun 72 11 18446744073709551616)
noncomputable def zk_99_yi0_grpD_5 : zT 3 := @Prod.mk (zT 2) (zT 2) (zk_99_yi0_grpD_4, ((2, 11, zun 72 11 18446744073709551616), (22, 2, 0x80000002c2000000000d))) (((0, 200, zun 40 200 4294967296), (18, 15, 0x1000000c9800000034e800000034d0000000004000000000c010000000001000000c90000000026000000002500000000240000000023000000001d00000000170000000011000000000f)), ((17, 4, 0x100000010000000001001000000000100000000), (0, 15, zun 40 15 4294967296)))
noncomputable def zk_99_yi0_grpD_6 : zT 4 := @Prod.mk (zT 3) (zT 3) ((((4, 5, 0x160000000015000000001400000000130000000012), (2, 11, zun 72 11 18446744073709551616)), zk_99_yi0_grpD_4), (zk_99_yi0_grpD_4, ((4, 5, 0x1c000000001b000000001a00000000190000000018), (2, 11, zun 72 11 18446744073709551616)))) ((zk_99_yi0_grpD_4, zk_99_yi0_grpD_4), (((4, 5, 0x2200000000210000000020000000001f000000001e), (2, 11, zun 72 11 18446744073709551616)), zk_99_yi0_grpD_4))
noncomputable def zk_99_yi0_grpD_7 : zT 1 := @Prod.mk (zT 0) (zT 0) (0, 5, 0x1000000000100000000010000000001000000000100000000) (0, 5, 0x1000000000100000000010000000001000000000100000000)
noncomputable def zk_99_yi0_grpD_8 : zC := (0, 6, 0x10000000001000000000100000000010000000001000000000100000000)
noncomputable def zk_99_yi0_grpD_9 : zT 1 := @Prod.mk (zT 0) (zT 0) (0, 5, 0x1000000000100000000010000000001000000000100000000) zk_99_yi0_grpD_8
noncomputable def zk_99_yi0_grpD_10 : zT 5 := @Prod.mk (zT 4) (zT 4) (((zk_99_yi0_grpD_4, zk_99_yi0_grpD_7), (zk_99_yi0_grpD_9, zO1)), zO3) zO4
noncomputable def hGa_0 : zH 10 := (show zT 10 from (((((((((zk_99_yi0_grpD_1, zk_99_yi0_grpD_3), (zk_99_yi0_grpD_4, zk_99_yi0_grpD_4)), zk_99_yi0_grpD_5), zk_99_yi0_grpD_6), zk_99_yi0_grpD_10), zO6), zO7), zO8), zO9), (38, (1000, 80000)))
noncomputable def zk_99_yi0_grpD_11 : zT 1 := @Prod.mk (zT 0) (zT 0) (7, 56, 0x80000000b8000000000080000000b6000000000080000000b480000000b30000000000000000000080000000b0000000000080000000ae000000000080000000ac80000000ab0000000000000000000080000000a8000000000080000000a6000000000080000000a480000000a30000000000000000000080000000a00000000000800000009e0000000000800000009c800000009b000000000000000000008000000098000000000080000000960000000000800000009480000000930000000000000000000080000000900000000000800000008e00000000000000000000800000008b0000000000000000000000000000000000000000000000000000000000000000000000000000000000000000000000000000) zk_99_yi0_grpD_2
noncomputable def hGa_1 : zH 10 := (show zT 10 from (((((((((zk_99_yi0_grpD_1, zk_99_yi0_grpD_11), (zk_99_yi0_grpD_4, zk_99_yi0_grpD_4)), zk_99_yi0_grpD_5), zk_99_yi0_grpD_6), zk_99_yi0_grpD_10), zO6), zO7), zO8), zO9), (38, (1000, 80000)))
noncomputable def zk_99_yi0_grpD_12 : zT 1 := @Prod.mk (zT 0) (zT 0) (7, 56, 0x80000000b8000000000080000000b6000000000080000000b480000000b30000000000000000000080000000b0000000000080000000ae000000000080000000ac80000000ab0000000000000000000080000000a8000000000080000000a6000000000080000000a480000000a30000000000000000000080000000a00000000000800000009e0000000000800000009c800000009b00000000000000000000800000009800000000008000000096000000000080000000948000000093000000000000000000008000000090000000000000000000000000000000800000008c800000008b0000000000000000000000000000000000000000000000000000000000000000000000000000000000000000000000000000) zk_99_yi0_grpD_2
noncomputable def hGa_2 : zH 10 := (show zT 10 from (((((((((zk_99_yi0_grpD_1, zk_99_yi0_grpD_12), (zk_99_yi0_grpD_4, zk_99_yi0_grpD_4)), zk_99_yi0_grpD_5), zk_99_yi0_grpD_6), zk_99_yi0_grpD_10), zO6), zO7), zO8), zO9), (38, (1000, 80000)))
noncomputable def zk_99_yi0_grpD_13 : zT 1 := @Prod.mk (zT 0) (zT 0) (7, 56, 0x80000000b8000000000080000000b6000000000080000000b480000000b30000000000000000000080000000b0000000000080000000ae000000000080000000ac80000000ab0000000000000000000080000000a8000000000080000000a6000000000080000000a480000000a30000000000000000000080000000a00000000000800000009e0000000000800000009c800000009b000000000000000000008000000098000000000080000000960000000000800000009480000000930000000000000000000000000000000000000000800000008e0000000000800000008c800000008b0000000000000000000000000000000000000000000000000000000000000000000000000000000000000000000000000000) zk_99_yi0_grpD_2
noncomputable def hGa_3 : zH 10 := (show zT 10 from (((((((((zk_99_yi0_grpD_1, zk_99_yi0_grpD_13), (zk_99_yi0_grpD_4, zk_99_yi0_grpD_4)), zk_99_yi0_grpD_5), zk_99_yi0_grpD_6), zk_99_yi0_grpD_10), zO6), zO7), zO8), zO9), (38, (1000, 80000)))
noncomputable def zk_99_yi0_grpD_14 : zT 1 := @Prod.mk (zT 0) (zT 0) zk_99_yi0_grpD_0 (6, 7, 0x8000000047800000004680000000458000000044000000000080000000420000000000)
noncomputable def zk_99_yi0_grpD_15 : zT 1 := @Prod.mk (zT 0) (zT 0) (7, 56, 0x80000000b8000000000080000000b6000000000080000000b480000000b30000000000000000000080000000b0000000000080000000ae000000000080000000ac80000000ab0000000000000000000080000000a8000000000080000000a6000000000080000000a480000000a30000000000000000000080000000a00000000000800000009e0000000000800000009c800000009b000000000000000000008000000098000000000080000000960000000000800000009400000000000000000000000000000080000000900000000000800000008e0000000000800000008c800000008b0000000000000000000000000000000000000000000000000000000000000000000000000000000000000000000000000000) zk_99_yi0_grpD_2
noncomputable def hGa_4 : zH 10 := (show zT 10 from (((((((((zk_99_yi0_grpD_14, zk_99_yi0_grpD_15), (zk_99_yi0_grpD_4, zk_99_yi0_grpD_4)), zk_99_yi0_grpD_5), zk_99_yi0_grpD_6), zk_99_yi0_grpD_10), zO6), zO7), zO8), zO9), (38, (1000, 80000)))
noncomputable def zk_99_yi0_grpD_16 : zT 1 := @Prod.mk (zT 0) (zT 0) (7, 56, 0x80000000b8000000000080000000b6000000000080000000b480000000b30000000000000000000080000000b0000000000080000000ae000000000080000000ac80000000ab0000000000000000000080000000a8000000000080000000a6000000000080000000a480000000a30000000000000000000080000000a00000000000800000009e0000000000800000009c800000009b000000000000000000008000000098000000000080000000960000000000000000000080000000930000000000000000000080000000900000000000800000008e0000000000800000008c800000008b0000000000000000000000000000000000000000000000000000000000000000000000000000000000000000000000000000) zk_99_yi0_grpD_2
noncomputable def hGa_5 : zH 10 := (show zT 10 from (((((((((zk_99_yi0_grpD_14, zk_99_yi0_grpD_16), (zk_99_yi0_grpD_4, zk_99_yi0_grpD_4)), zk_99_yi0_grpD_5), zk_99_yi0_grpD_6), zk_99_yi0_grpD_10), zO6), zO7), zO8), zO9), (38, (1000, 80000)))
noncomputable def zk_99_yi0_grpD_17 : zT 1 := @Prod.mk (zT 0) (zT 0) (7, 56, 0x80000000b8000000000080000000b6000000000080000000b480000000b30000000000000000000080000000b0000000000080000000ae000000000080000000ac80000000ab0000000000000000000080000000a8000000000080000000a6000000000080000000a480000000a30000000000000000000080000000a00000000000800000009e0000000000800000009c800000009b000000000000000000008000000098000000000000000000000000000000800000009480000000930000000000000000000080000000900000000000800000008e0000000000800000008c800000008b0000000000000000000000000000000000000000000000000000000000000000000000000000000000000000000000000000) zk_99_yi0_grpD_2
noncomputable def hGa_6 : zH 10 := (show zT 10 from (((((((((zk_99_yi0_grpD_14, zk_99_yi0_grpD_17), (zk_99_yi0_grpD_4, zk_99_yi0_grpD_4)), zk_99_yi0_grpD_5), zk_99_yi0_grpD_6), zk_99_yi0_grpD_10), zO6), zO7), zO8), zO9), (38, (1000, 80000)))
noncomputable def zk_99_yi0_grpD_18 : zT 1 := @Prod.mk (zT 0) (zT 0) (7, 56, 0x80000000b8000000000080000000b6000000000080000000b480000000b30000000000000000000080000000b0000000000080000000ae000000000080000000ac80000000ab0000000000000000000080000000a8000000000080000000a6000000000080000000a480000000a30000000000000000000080000000a00000000000800000009e0000000000800000009c800000009b000000000000000000000000000000000000000080000000960000000000800000009480000000930000000000000000000080000000900000000000800000008e0000000000800000008c800000008b0000000000000000000000000000000000000000000000000000000000000000000000000000000000000000000000000000) zk_99_yi0_grpD_2
noncomputable def hGa_7 : zH 10 := (show zT 10 from (((((((((zk_99_yi0_grpD_14, zk_99_yi0_grpD_18), (zk_99_yi0_grpD_4, zk_99_yi0_grpD_4)), zk_99_yi0_grpD_5), zk_99_yi0_grpD_6), zk_99_yi0_grpD_10), zO6), zO7), zO8), zO9), (38, (1000, 80000)))
noncomputable def zk_99_yi0_grpD_19 : zT 1 := @Prod.mk (zT 0) (zT 0) zk_99_yi0_grpD_0 (6, 7, 0x8000000047800000004680000000450000000000800000004380000000420000000000)
noncomputable def zk_99_yi0_grpD_20 : zT 1 := @Prod.mk (zT 0) (zT 0) (7, 56, 0x80000000b8000000000080000000b6000000000080000000b480000000b30000000000000000000080000000b0000000000080000000ae000000000080000000ac80000000ab0000000000000000000080000000a8000000000080000000a6000000000080000000a480000000a30000000000000000000080000000a00000000000800000009e0000000000800000009c0000000000000000000000000000008000000098000000000080000000960000000000800000009480000000930000000000000000000080000000900000000000800000008e0000000000800000008c800000008b0000000000000000000000000000000000000000000000000000000000000000000000000000000000000000000000000000) zk_99_yi0_grpD_2
noncomputable def hGa_8 : zH 10 := (show zT 10 from (((((((((zk_99_yi0_grpD_19, zk_99_yi0_grpD_20), (zk_99_yi0_grpD_4, zk_99_yi0_grpD_4)), zk_99_yi0_grpD_5), zk_99_yi0_grpD_6), zk_99_yi0_grpD_10), zO6), zO7), zO8), zO9), (38, (1000, 80000)))
noncomputable def zk_99_yi0_grpD_21 : zT 1 := @Prod.mk (zT 0) (zT 0) (7, 56, 0x80000000b8000000000080000000b6000000000080000000b480000000b30000000000000000000080000000b0000000000080000000ae000000000080000000ac80000000ab0000000000000000000080000000a8000000000080000000a6000000000080000000a480000000a30000000000000000000080000000a00000000000800000009e00000000000000000000800000009b000000000000000000008000000098000000000080000000960000000000800000009480000000930000000000000000000080000000900000000000800000008e0000000000800000008c800000008b0000000000000000000000000000000000000000000000000000000000000000000000000000000000000000000000000000) zk_99_yi0_grpD_2
noncomputable def hGa_9 : zH 10 := (show zT 10 from (((((((((zk_99_yi0_grpD_19, zk_99_yi0_grpD_21), (zk_99_yi0_grpD_4, zk_99_yi0_grpD_4)), zk_99_yi0_grpD_5), zk_99_yi0_grpD_6), zk_99_yi0_grpD_10), zO6), zO7), zO8), zO9), (38, (1000, 80000)))
noncomputable def zk_99_yi0_grpD_22 : zT 1 := @Prod.mk (zT 0) (zT 0) (7, 56, 0x80000000b8000000000080000000b6000000000080000000b480000000b30000000000000000000080000000b0000000000080000000ae000000000080000000ac80000000ab0000000000000000000080000000a8000000000080000000a6000000000080000000a480000000a30000000000000000000080000000a0000000000000000000000000000000800000009c800000009b000000000000000000008000000098000000000080000000960000000000800000009480000000930000000000000000000080000000900000000000800000008e0000000000800000008c800000008b0000000000000000000000000000000000000000000000000000000000000000000000000000000000000000000000000000) zk_99_yi0_grpD_2
noncomputable def hGa_10 : zH 10 := (show zT 10 from (((((((((zk_99_yi0_grpD_19, zk_99_yi0_grpD_22), (zk_99_yi0_grpD_4, zk_99_yi0_grpD_4)), zk_99_yi0_grpD_5), zk_99_yi0_grpD_6), zk_99_yi0_grpD_10), zO6), zO7), zO8), zO9), (38, (1000, 80000)))
noncomputable def zk_99_yi0_grpD_23 : zT 1 := @Prod.mk (zT 0) (zT 0) (7, 56, 0x80000000b8000000000080000000b6000000000080000000b480000000b30000000000000000000080000000b0000000000080000000ae000000000080000000ac80000000ab0000000000000000000080000000a8000000000080000000a6000000000080000000a480000000a30000000000000000000000000000000000000000800000009e0000000000800000009c800000009b000000000000000000008000000098000000000080000000960000000000800000009480000000930000000000000000000080000000900000000000800000008e0000000000800000008c800000008b0000000000000000000000000000000000000000000000000000000000000000000000000000000000000000000000000000) zk_99_yi0_grpD_2
noncomputable def hGa_11 : zH 10 := (show zT 10 from (((((((((zk_99_yi0_grpD_19, zk_99_yi0_grpD_23), (zk_99_yi0_grpD_4, zk_99_yi0_grpD_4)), zk_99_yi0_grpD_5), zk_99_yi0_grpD_6), zk_99_yi0_grpD_10), zO6), zO7), zO8), zO9), (38, (1000, 80000)))
noncomputable def zk_99_yi0_grpD_24 : zT 1 := @Prod.mk (zT 0) (zT 0) zk_99_yi0_grpD_0 (6, 7, 0x8000000047800000004600000000008000000044800000004380000000420000000000)
noncomputable def zk_99_yi0_grpD_25 : zT 1 := @Prod.mk (zT 0) (zT 0) (7, 56, 0x80000000b8000000000080000000b6000000000080000000b480000000b30000000000000000000080000000b0000000000080000000ae000000000080000000ac80000000ab0000000000000000000080000000a8000000000080000000a6000000000080000000a400000000000000000000000000000080000000a00000000000800000009e0000000000800000009c800000009b000000000000000000008000000098000000000080000000960000000000800000009480000000930000000000000000000080000000900000000000800000008e0000000000800000008c800000008b0000000000000000000000000000000000000000000000000000000000000000000000000000000000000000000000000000) zk_99_yi0_grpD_2
noncomputable def hGa_12 : zH 10 := (show zT 10 from (((((((((zk_99_yi0_grpD_24, zk_99_yi0_grpD_25), (zk_99_yi0_grpD_4, zk_99_yi0_grpD_4)), zk_99_yi0_grpD_5), zk_99_yi0_grpD_6), zk_99_yi0_grpD_10), zO6), zO7), zO8), zO9), (38, (1000, 80000)))
noncomputable def zk_99_yi0_grpD_26 : zT 1 := @Prod.mk (zT 0) (zT 0) (7, 56, 0x80000000b8000000000080000000b6000000000080000000b480000000b30000000000000000000080000000b0000000000080000000ae000000000080000000ac80000000ab0000000000000000000080000000a8000000000080000000a60000000000000000000080000000a30000000000000000000080000000a00000000000800000009e0000000000800000009c800000009b000000000000000000008000000098000000000080000000960000000000800000009480000000930000000000000000000080000000900000000000800000008e0000000000800000008c800000008b0000000000000000000000000000000000000000000000000000000000000000000000000000000000000000000000000000) zk_99_yi0_grpD_2
noncomputable def hGa_13 : zH 10 := (show zT 10 from (((((((((zk_99_yi0_grpD_24, zk_99_yi0_grpD_26), (zk_99_yi0_grpD_4, zk_99_yi0_grpD_4)), zk_99_yi0_grpD_5), zk_99_yi0_grpD_6), zk_99_yi0_grpD_10), zO6), zO7), zO8), zO9), (38, (1000, 80000)))
noncomputable def zk_99_yi0_grpD_27 : zT 1 := @Prod.mk (zT 0) (zT 0) (7, 56, 0x80000000b8000000000080000000b6000000000080000000b480000000b30000000000000000000080000000b0000000000080000000ae000000000080000000ac80000000ab0000000000000000000080000000a800000000000000000000000000000080000000a480000000a30000000000000000000080000000a00000000000800000009e0000000000800000009c800000009b000000000000000000008000000098000000000080000000960000000000800000009480000000930000000000000000000080000000900000000000800000008e0000000000800000008c800000008b0000000000000000000000000000000000000000000000000000000000000000000000000000000000000000000000000000) zk_99_yi0_grpD_2
noncomputable def hGa_14 : zH 10 := (show zT 10 from (((((((((zk_99_yi0_grpD_24, zk_99_yi0_grpD_27), (zk_99_yi0_grpD_4, zk_99_yi0_grpD_4)), zk_99_yi0_grpD_5), zk_99_yi0_grpD_6), zk_99_yi0_grpD_10), zO6), zO7), zO8), zO9), (38, (1000, 80000)))
noncomputable def zk_99_yi0_grpD_28 : zT 1 := @Prod.mk (zT 0) (zT 0) (7, 56, 0x80000000b8000000000080000000b6000000000080000000b480000000b30000000000000000000080000000b0000000000080000000ae000000000080000000ac80000000ab000000000000000000000000000000000000000080000000a6000000000080000000a480000000a30000000000000000000080000000a00000000000800000009e0000000000800000009c800000009b000000000000000000008000000098000000000080000000960000000000800000009480000000930000000000000000000080000000900000000000800000008e0000000000800000008c800000008b0000000000000000000000000000000000000000000000000000000000000000000000000000000000000000000000000000) zk_99_yi0_grpD_2
noncomputable def hGa_15 : zH 10 := (show zT 10 from (((((((((zk_99_yi0_grpD_24, zk_99_yi0_grpD_28), (zk_99_yi0_grpD_4, zk_99_yi0_grpD_4)), zk_99_yi0_grpD_5), zk_99_yi0_grpD_6), zk_99_yi0_grpD_10), zO6), zO7), zO8), zO9), (38, (1000, 80000)))
noncomputable def zk_99_yi0_grpD_29 : zT 1 := @Prod.mk (zT 0) (zT 0) zk_99_yi0_grpD_0 (6, 7, 0x8000000047000000000080000000458000000044800000004380000000420000000000)
noncomputable def zk_99_yi0_grpD_30 : zT 1 := @Prod.mk (zT 0) (zT 0) (7, 56, 0x80000000b8000000000080000000b6000000000080000000b480000000b30000000000000000000080000000b0000000000080000000ae000000000080000000ac00000000000000000000000000000080000000a8000000000080000000a6000000000080000000a480000000a30000000000000000000080000000a00000000000800000009e0000000000800000009c800000009b000000000000000000008000000098000000000080000000960000000000800000009480000000930000000000000000000080000000900000000000800000008e0000000000800000008c800000008b0000000000000000000000000000000000000000000000000000000000000000000000000000000000000000000000000000) zk_99_yi0_grpD_2
noncomputable def hGa_16 : zH 10 := (show zT 10 from (((((((((zk_99_yi0_grpD_29, zk_99_yi0_grpD_30), (zk_99_yi0_grpD_4, zk_99_yi0_grpD_4)), zk_99_yi0_grpD_5), zk_99_yi0_grpD_6), zk_99_yi0_grpD_10), zO6), zO7), zO8), zO9), (38, (1000, 80000)))
noncomputable def zk_99_yi0_grpD_31 : zT 1 := @Prod.mk (zT 0) (zT 0) (7, 56, 0x80000000b8000000000080000000b6000000000080000000b480000000b30000000000000000000080000000b0000000000080000000ae0000000000000000000080000000ab0000000000000000000080000000a8000000000080000000a6000000000080000000a480000000a30000000000000000000080000000a00000000000800000009e0000000000800000009c800000009b000000000000000000008000000098000000000080000000960000000000800000009480000000930000000000000000000080000000900000000000800000008e0000000000800000008c800000008b0000000000000000000000000000000000000000000000000000000000000000000000000000000000000000000000000000) zk_99_yi0_grpD_2
noncomputable def hGa_17 : zH 10 := (show zT 10 from (((((((((zk_99_yi0_grpD_29, zk_99_yi0_grpD_31), (zk_99_yi0_grpD_4, zk_99_yi0_grpD_4)), zk_99_yi0_grpD_5), zk_99_yi0_grpD_6), zk_99_yi0_grpD_10), zO6), zO7), zO8), zO9), (38, (1000, 80000)))
noncomputable def zk_99_yi0_grpD_32 : zT 1 := @Prod.mk (zT 0) (zT 0) (7, 56, 0x80000000b8000000000080000000b6000000000080000000b480000000b30000000000000000000080000000b000000000000000000000000000000080000000ac80000000ab0000000000000000000080000000a8000000000080000000a6000000000080000000a480000000a30000000000000000000080000000a00000000000800000009e0000000000800000009c800000009b000000000000000000008000000098000000000080000000960000000000800000009480000000930000000000000000000080000000900000000000800000008e0000000000800000008c800000008b0000000000000000000000000000000000000000000000000000000000000000000000000000000000000000000000000000) zk_99_yi0_grpD_2
noncomputable def hGa_18 : zH 10 := (show zT 10 from (((((((((zk_99_yi0_grpD_29, zk_99_yi0_grpD_32), (zk_99_yi0_grpD_4, zk_99_yi0_grpD_4)), zk_99_yi0_grpD_5), zk_99_yi0_grpD_6), zk_99_yi0_grpD_10), zO6), zO7), zO8), zO9), (38, (1000, 80000)))
noncomputable def zk_99_yi0_grpD_33 : zT 1 := @Prod.mk (zT 0) (zT 0) (7, 56, 0x80000000b8000000000080000000b6000000000080000000b480000000b3000000000000000000000000000000000000000080000000ae000000000080000000ac80000000ab0000000000000000000080000000a8000000000080000000a6000000000080000000a480000000a30000000000000000000080000000a00000000000800000009e0000000000800000009c800000009b000000000000000000008000000098000000000080000000960000000000800000009480000000930000000000000000000080000000900000000000800000008e0000000000800000008c800000008b0000000000000000000000000000000000000000000000000000000000000000000000000000000000000000000000000000) zk_99_yi0_grpD_2
noncomputable def hGa_19 : zH 10 := (show zT 10 from (((((((((zk_99_yi0_grpD_29, zk_99_yi0_grpD_33), (zk_99_yi0_grpD_4, zk_99_yi0_grpD_4)), zk_99_yi0_grpD_5), zk_99_yi0_grpD_6), zk_99_yi0_grpD_10), zO6), zO7), zO8), zO9), (38, (1000, 80000)))
noncomputable def zk_99_yi0_grpD_34 : zT 1 := @Prod.mk (zT 0) (zT 0) zk_99_yi0_grpD_0 (6, 7, 0x800000004680000000458000000044800000004380000000420000000000)
noncomputable def zk_99_yi0_grpD_35 : zT 1 := @Prod.mk (zT 0) (zT 0) (7, 56, 0x80000000b8000000000080000000b6000000000080000000b400000000000000000000000000000080000000b0000000000080000000ae000000000080000000ac80000000ab0000000000000000000080000000a8000000000080000000a6000000000080000000a480000000a30000000000000000000080000000a00000000000800000009e0000000000800000009c800000009b000000000000000000008000000098000000000080000000960000000000800000009480000000930000000000000000000080000000900000000000800000008e0000000000800000008c800000008b0000000000000000000000000000000000000000000000000000000000000000000000000000000000000000000000000000) zk_99_yi0_grpD_2
noncomputable def hGa_20 : zH 10 := (show zT 10 from (((((((((zk_99_yi0_grpD_34, zk_99_yi0_grpD_35), (zk_99_yi0_grpD_4, zk_99_yi0_grpD_4)), zk_99_yi0_grpD_5), zk_99_yi0_grpD_6), zk_99_yi0_grpD_10), zO6), zO7), zO8), zO9), (38, (1000, 80000)))
noncomputable def zk_99_yi0_grpD_36 : zT 1 := @Prod.mk (zT 0) (zT 0) (7, 56, 0x80000000b8000000000080000000b60000000000000000000080000000b30000000000000000000080000000b0000000000080000000ae000000000080000000ac80000000ab0000000000000000000080000000a8000000000080000000a6000000000080000000a480000000a30000000000000000000080000000a00000000000800000009e0000000000800000009c800000009b000000000000000000008000000098000000000080000000960000000000800000009480000000930000000000000000000080000000900000000000800000008e0000000000800000008c800000008b0000000000000000000000000000000000000000000000000000000000000000000000000000000000000000000000000000) zk_99_yi0_grpD_2
noncomputable def hGa_21 : zH 10 := (show zT 10 from (((((((((zk_99_yi0_grpD_34, zk_99_yi0_grpD_36), (zk_99_yi0_grpD_4, zk_99_yi0_grpD_4)), zk_99_yi0_grpD_5), zk_99_yi0_grpD_6), zk_99_yi0_grpD_10), zO6), zO7), zO8), zO9), (38, (1000, 80000)))
noncomputable def zk_99_yi0_grpD_37 : zT 1 := @Prod.mk (zT 0) (zT 0) (7, 56, 0x80000000b800000000000000000000000000000080000000b480000000b30000000000000000000080000000b0000000000080000000ae000000000080000000ac80000000ab0000000000000000000080000000a8000000000080000000a6000000000080000000a480000000a30000000000000000000080000000a00000000000800000009e0000000000800000009c800000009b000000000000000000008000000098000000000080000000960000000000800000009480000000930000000000000000000080000000900000000000800000008e0000000000800000008c800000008b0000000000000000000000000000000000000000000000000000000000000000000000000000000000000000000000000000) zk_99_yi0_grpD_2
noncomputable def hGa_22 : zH 10 := (show zT 10 from (((((((((zk_99_yi0_grpD_34, zk_99_yi0_grpD_37), (zk_99_yi0_grpD_4, zk_99_yi0_grpD_4)), zk_99_yi0_grpD_5), zk_99_yi0_grpD_6), zk_99_yi0_grpD_10), zO6), zO7), zO8), zO9), (38, (1000, 80000)))
noncomputable def zk_99_yi0_grpD_38 : zT 1 := @Prod.mk (zT 0) (zT 0) (7, 56, 0x80000000b6000000000080000000b480000000b30000000000000000000080000000b0000000000080000000ae000000000080000000ac80000000ab0000000000000000000080000000a8000000000080000000a6000000000080000000a480000000a30000000000000000000080000000a00000000000800000009e0000000000800000009c800000009b000000000000000000008000000098000000000080000000960000000000800000009480000000930000000000000000000080000000900000000000800000008e0000000000800000008c800000008b0000000000000000000000000000000000000000000000000000000000000000000000000000000000000000000000000000) zk_99_yi0_grpD_2
noncomputable def hGa_23 : zH 10 := (show zT 10 from (((((((((zk_99_yi0_grpD_34, zk_99_yi0_grpD_38), (zk_99_yi0_grpD_4, zk_99_yi0_grpD_4)), zk_99_yi0_grpD_5), zk_99_yi0_grpD_6), zk_99_yi0_grpD_10), zO6), zO7), zO8), zO9), (38, (1000, 80000)))
noncomputable def hGaf : Nat → zH 10
  | 0 => hGa_0
  | 1 => hGa_1
  | 2 => hGa_2
  | 3 => hGa_3
  | 4 => hGa_4
  | 5 => hGa_5
  | 6 => hGa_6
  | 7 => hGa_7
  | 8 => hGa_8
  | 9 => hGa_9
  | 10 => hGa_10
  | 11 => hGa_11
  | 12 => hGa_12
  | 13 => hGa_13
  | 14 => hGa_14
  | 15 => hGa_15
  | 16 => hGa_16
  | 17 => hGa_17
  | 18 => hGa_18
  | 19 => hGa_19
  | 20 => hGa_20
  | 21 => hGa_21
  | 22 => hGa_22
  | _ => hGa_23
noncomputable def zk_99_yi0_grpD_39 : zT 1 := @Prod.mk (zT 0) (zT 0) zk_99_yi0_grpD_0 (6, 7, 0x8000000047800000004680000000458000000044800000004300000000270000000000)
noncomputable def zk_99_yi0_grpD_40 : zT 5 := @Prod.mk (zT 4) (zT 4) (((zk_99_yi0_grpD_4, zk_99_yi0_grpD_7), (zk_99_yi0_grpD_9, ((23, 14, 0x4500000000430000000041000000003f000000003d000000003c000000003b000000003a000000003900000000380000000028000000000100000000010000000001), (5, 1, 0x29)))), ((((20, 16, 0x2e000000002d0100000002000000003300000000340000000032000000003100000000010000000036000000002f0000000001000000002c000000002b000000002a00000000010000000001), (0, 1, 1)), ((0, 1, 1), (0, 1, 0))), (((0, 1, 0x100000007), (0, 2, 0x1000000000100000000)), ((3, 1, 0x30), (0, 1, 1))))) (((((0, 1, 0x100000001), (0, 1, 0x100000000)), ((0, 2, 0), (3, 1, 0x35))), (((0, 1, 0x100000001), (3, 1, 0x37)), ((0, 1, 0x100000000), (0, 1, 0)))), ((((0, 1, 1), (0, 1, 1)), ((0, 1, 1), (0, 1, 1))), (((3, 1, 0x3e), (0, 7, 0)), ((3, 1, 0x40), (0, 2, 0x10000000000)))))
noncomputable def zk_99_yi0_grpD_41 : zT 2 := @Prod.mk (zT 1) (zT 1) ((3, 1, 0x42), (0, 1, 0x100000000)) ((3, 1, 0x44), (0, 1, 0x100000000))
noncomputable def zk_99_yi0_grpD_42 : zT 6 := @Prod.mk (zT 5) (zT 5) (((zk_99_yi0_grpD_41, (((0, 1, 0x100000000), (0, 0, 0)), zO1)), zO3), zO4) zO5
noncomputable def hGb_0 : zH 10 := (show zT 10 from (((((((((zk_99_yi0_grpD_39, zk_99_yi0_grpD_3), (zk_99_yi0_grpD_4, zk_99_yi0_grpD_4)), zk_99_yi0_grpD_5), zk_99_yi0_grpD_6), zk_99_yi0_grpD_40), zk_99_yi0_grpD_42), zO7), zO8), zO9), (69, (1000, 80000)))
noncomputable def hGb_1 : zH 10 := (show zT 10 from (((((((((zk_99_yi0_grpD_39, zk_99_yi0_grpD_11), (zk_99_yi0_grpD_4, zk_99_yi0_grpD_4)), zk_99_yi0_grpD_5), zk_99_yi0_grpD_6), zk_99_yi0_grpD_40), zk_99_yi0_grpD_42), zO7), zO8), zO9), (69, (1000, 80000)))
noncomputable def hGb_2 : zH 10 := (show zT 10 from (((((((((zk_99_yi0_grpD_39, zk_99_yi0_grpD_12), (zk_99_yi0_grpD_4, zk_99_yi0_grpD_4)), zk_99_yi0_grpD_5), zk_99_yi0_grpD_6), zk_99_yi0_grpD_40), zk_99_yi0_grpD_42), zO7), zO8), zO9), (69, (1000, 80000)))
noncomputable def hGb_3 : zH 10 := (show zT 10 from (((((((((zk_99_yi0_grpD_39, zk_99_yi0_grpD_13), (zk_99_yi0_grpD_4, zk_99_yi0_grpD_4)), zk_99_yi0_grpD_5), zk_99_yi0_grpD_6), zk_99_yi0_grpD_40), zk_99_yi0_grpD_42), zO7), zO8), zO9), (69, (1000, 80000)))
noncomputable def zk_99_yi0_grpD_43 : zT 1 := @Prod.mk (zT 0) (zT 0) zk_99_yi0_grpD_0 (6, 7, 0x8000000047800000004680000000458000000044000000002780000000420000000000)
noncomputable def zk_99_yi0_grpD_44 : zT 5 := @Prod.mk (zT 4) (zT 4) (((zk_99_yi0_grpD_4, zk_99_yi0_grpD_7), (zk_99_yi0_grpD_9, ((23, 14, 0x5800000000550000000052000000004f000000004c000000004b000000004a0000000049000000004800000000470000000028000000000200000000020000000002), (5, 2, 0x380000000029)))), ((((20, 16, 0x2e000000002d0100000002000000003300000000340000000032000000003100000000010000000036000000002f0000000001000000002c000000002b000000002a00000000010000000002), (0, 1, 2)), ((0, 2, 0x10000000001), (0, 1, 0))), (((0, 2, 0x1000000070100000007), (0, 3, 0x10000000001000000000100000000)), ((3, 1, 0x30), (0, 2, 0x20000000001))))) (((((0, 2, 0x1000000010100000001), (0, 1, 0x100000000)), ((0, 3, 0x10000000000), (3, 1, 0x35))), (((0, 1, 0x100000001), (3, 1, 0x37)), ((0, 1, 0x100000000), (20, 16, 0x3d000000003c0100000003000000004200000000430000000041000000004000000000020000000045000000003e0000000001000000003b000000003a000000003900000000020000000002)))), ((((0, 2, 0x10000000001), (0, 1, 2)), ((0, 2, 0x10000000000), (0, 2, 0x1000000070100000007))), (((0, 3, 0x10000000001000000000100000000), (3, 1, 0x3f)), ((0, 2, 0x20000000001), (0, 4, 0x100000002010000000201000000020100000002)))))
noncomputable def zk_99_yi0_grpD_45 : zT 4 := @Prod.mk (zT 3) (zT 3) ((((0, 2, 0x1000000000100000000), (0, 3, 0x10000000000)), ((3, 1, 0x44), (0, 2, 0x1000000020100000002))), (((3, 1, 0x46), (0, 1, 0x100000000)), ((0, 2, 1), (0, 2, 0x10000000001)))) ((((0, 2, 0x10000000002), (0, 2, 0x100ffffffff)), ((0, 2, 0x20000000002), (3, 2, 0x4e000000004d))), (((0, 7, 0x1000000000000000000010000000000000000000100000000000000000000), (0, 7, 0x1000000000100000000010000000001000000000100000000010000000000)), ((3, 2, 0x510000000050), (0, 3, 0x100000000020000000000))))
noncomputable def zk_99_yi0_grpD_46 : zT 1 := @Prod.mk (zT 0) (zT 0) (0, 2, 0x1000000000100000000) (0, 2, 0x1000000000100000000)
noncomputable def zk_99_yi0_grpD_47 : zT 3 := @Prod.mk (zT 2) (zT 2) (((0, 3, 0x200000000010000000000), (3, 2, 0x540000000053)), zk_99_yi0_grpD_46) (((3, 2, 0x570000000056), (0, 2, 0x1000000000100000000)), zk_99_yi0_grpD_46)
noncomputable def hGb_4 : zH 10 := (show zT 10 from (((((((((zk_99_yi0_grpD_43, zk_99_yi0_grpD_15), (zk_99_yi0_grpD_4, zk_99_yi0_grpD_4)), zk_99_yi0_grpD_5), zk_99_yi0_grpD_6), zk_99_yi0_grpD_44), ((zk_99_yi0_grpD_45, (zk_99_yi0_grpD_47, zO3)), zO5)), zO7), zO8), zO9), (88, (1000, 80000)))
noncomputable def hGb_5 : zH 10 := (show zT 10 from (((((((((zk_99_yi0_grpD_43, zk_99_yi0_grpD_16), (zk_99_yi0_grpD_4, zk_99_yi0_grpD_4)), zk_99_yi0_grpD_5), zk_99_yi0_grpD_6), zk_99_yi0_grpD_44), ((zk_99_yi0_grpD_45, (zk_99_yi0_grpD_47, zO3)), zO5)), zO7), zO8), zO9), (88, (1000, 80000)))
noncomputable def hGb_6 : zH 10 := (show zT 10 from (((((((((zk_99_yi0_grpD_43, zk_99_yi0_grpD_17), (zk_99_yi0_grpD_4, zk_99_yi0_grpD_4)), zk_99_yi0_grpD_5), zk_99_yi0_grpD_6), zk_99_yi0_grpD_44), ((zk_99_yi0_grpD_45, (zk_99_yi0_grpD_47, zO3)), zO5)), zO7), zO8), zO9), (88, (1000, 80000)))
noncomputable def hGb_7 : zH 10 := (show zT 10 from (((((((((zk_99_yi0_grpD_43, zk_99_yi0_grpD_18), (zk_99_yi0_grpD_4, zk_99_yi0_grpD_4)), zk_99_yi0_grpD_5), zk_99_yi0_grpD_6), zk_99_yi0_grpD_44), ((zk_99_yi0_grpD_45, (zk_99_yi0_grpD_47, zO3)), zO5)), zO7), zO8), zO9), (88, (1000, 80000)))
noncomputable def zk_99_yi0_grpD_48 : zT 1 := @Prod.mk (zT 0) (zT 0) zk_99_yi0_grpD_0 (6, 7, 0x8000000047800000004680000000450000000027800000004380000000420000000000)
noncomputable def zk_99_yi0_grpD_49 : zT 5 := @Prod.mk (zT 4) (zT 4) (((zk_99_yi0_grpD_4, zk_99_yi0_grpD_7), (zk_99_yi0_grpD_9, ((23, 14, 0x6e000000006a00000000660000000062000000005e000000005d000000005c000000005b000000005a00000000590000000028000000000600000000030000000003), (5, 3, 0x4a00000000380000000029)))), ((((20, 16, 0x2e000000002d0100000002000000003300000000340000000032000000003100000000010000000036000000002f0000000001000000002c000000002b000000002a00000000010000000003), (0, 1, 3)), ((0, 3, 0x100000000010000000001), (0, 1, 0))), (((0, 3, 0x10000000701000000070100000007), (0, 4, 0x100000000010000000001000000000100000000)), ((3, 1, 0x30), (0, 3, 0x300000000020000000001))))) (((((0, 3, 0x10000000101000000010100000001), (0, 1, 0x100000000)), ((0, 4, 0x100000000010000000000), (3, 1, 0x35))), (((0, 1, 0x100000001), (3, 1, 0x37)), ((0, 1, 0x100000000), (20, 16, 0x3d000000003c0100000003000000004300000000440000000042000000004100000000020000000047000000003e0000000002000000003b000000003a000000003900000000020000000003)))), ((((0, 2, 0x10000000002), (0, 2, 0x10000000002)), ((0, 2, 0x20000000000), (0, 3, 0x10000000701000000070100000007))), (((0, 4, 0x100000000010000000001000000000100000000), (3, 2, 0x40000000003f)), ((0, 3, 0x300000000020000000001), (0, 3, 0x200000000030000000001)))))
noncomputable def zk_99_yi0_grpD_50 : zT 5 := @Prod.mk (zT 4) (zT 4) (((((0, 6, 0x10000000201000000020100000002010000000201000000020100000002), (0, 2, 0x1000000000100000000)), ((0, 4, 0x200000000010000000000), (3, 2, 0x460000000045))), (((0, 2, 0x1000000040100000004), (0, 2, 0x1000000040100000004)), ((3, 2, 0x490000000048), (0, 2, 0x1000000000100000000)))), ((((0, 2, 0x1000000000100000000), (20, 16, 0x4f000000004e010000000700000000540000000055000000005300000000520000000006000000005700000000500000000001000000004d000000004c000000004b00000000030000000003)), ((0, 3, 0x100000000010000000001), (0, 1, 3))), (((0, 3, 0x200000000010000000000), (0, 3, 0x10000000701000000070100000007)), ((0, 4, 0x100000000010000000001000000000100000000), (3, 1, 0x51))))) (((((0, 3, 0x300000000020000000001), (0, 18, zun 40 18 4294967299)), (zk_99_yi0_grpD_8, (0, 4, 0x300000000010000000000))), (((3, 1, 0x56), (0, 6, 0x10000000901000000090100000009010000000901000000090100000009)), ((3, 1, 0x58), (0, 1, 0x100000000)))), ((((0, 3, 0x10000000002), (0, 3, 0x100000000030000000002)), ((0, 3, 0x100000000020000000003), (0, 3, 0x100ffffffff0000000001))), (((0, 3, 0x600000000020000000003), (3, 3, 0x610000000060000000005f)), ((0, 7, 0x2000000000000000000000000000002000000000000000000000000000000), (0, 7, 0x2000000000100000000020000000001000000000200000000010000000000)))))
noncomputable def zk_99_yi0_grpD_51 : zT 1 := @Prod.mk (zT 0) (zT 0) (0, 3, 0x10000000001000000000100000000) (0, 3, 0x10000000001000000000100000000)
noncomputable def zk_99_yi0_grpD_52 : zT 3 := @Prod.mk (zT 2) (zT 2) (((0, 7, 0x2000000000200000000020000000002000000000200000000020000000000), (3, 3, 0x6500000000640000000063)), ((0, 4, 0x1000000000300000000020000000000), (0, 4, 0x3000000000100000000020000000000))) (((0, 4, 0x3000000000200000000010000000000), (3, 3, 0x6900000000680000000067)), zk_99_yi0_grpD_51)
noncomputable def zk_99_yi0_grpD_53 : zT 2 := @Prod.mk (zT 1) (zT 1) ((0, 3, 0x10000000001000000000100000000), (3, 3, 0x6d000000006c000000006b)) zk_99_yi0_grpD_51
noncomputable def zk_99_yi0_grpD_54 : zT 1 := @Prod.mk (zT 0) (zT 0) (0, 3, 0x10000000001000000000100000000) (0, 9, zun 40 9 4294967296)
noncomputable def zk_99_yi0_grpD_55 : zT 6 := @Prod.mk (zT 5) (zT 5) zk_99_yi0_grpD_50 ((zk_99_yi0_grpD_52, (zk_99_yi0_grpD_53, (zk_99_yi0_grpD_54, zO1))), zO4)
noncomputable def hGb_8 : zH 10 := (show zT 10 from (((((((((zk_99_yi0_grpD_48, zk_99_yi0_grpD_20), (zk_99_yi0_grpD_4, zk_99_yi0_grpD_4)), zk_99_yi0_grpD_5), zk_99_yi0_grpD_6), zk_99_yi0_grpD_49), zk_99_yi0_grpD_55), zO7), zO8), zO9), (110, (1000, 80000)))
noncomputable def hGb_9 : zH 10 := (show zT 10 from (((((((((zk_99_yi0_grpD_48, zk_99_yi0_grpD_21), (zk_99_yi0_grpD_4, zk_99_yi0_grpD_4)), zk_99_yi0_grpD_5), zk_99_yi0_grpD_6), zk_99_yi0_grpD_49), zk_99_yi0_grpD_55), zO7), zO8), zO9), (110, (1000, 80000)))
noncomputable def hGb_10 : zH 10 := (show zT 10 from (((((((((zk_99_yi0_grpD_48, zk_99_yi0_grpD_22), (zk_99_yi0_grpD_4, zk_99_yi0_grpD_4)), zk_99_yi0_grpD_5), zk_99_yi0_grpD_6), zk_99_yi0_grpD_49), zk_99_yi0_grpD_55), zO7), zO8), zO9), (110, (1000, 80000)))
noncomputable def hGb_11 : zH 10 := (show zT 10 from (((((((((zk_99_yi0_grpD_48, zk_99_yi0_grpD_23), (zk_99_yi0_grpD_4, zk_99_yi0_grpD_4)), zk_99_yi0_grpD_5), zk_99_yi0_grpD_6), zk_99_yi0_grpD_49), zk_99_yi0_grpD_55), zO7), zO8), zO9), (110, (1000, 80000)))
noncomputable def zk_99_yi0_grpD_56 : zT 1 := @Prod.mk (zT 0) (zT 0) zk_99_yi0_grpD_0 (6, 7, 0x8000000047800000004600000000278000000044800000004380000000420000000000)
noncomputable def zk_99_yi0_grpD_57 : zT 1 := @Prod.mk (zT 0) (zT 0) (0, 4, 0x100000007010000000701000000070100000007) (0, 5, 0x1000000000100000000010000000001000000000100000000)
noncomputable def zk_99_yi0_grpD_58 : zT 5 := @Prod.mk (zT 4) (zT 4) (((zk_99_yi0_grpD_4, zk_99_yi0_grpD_7), (zk_99_yi0_grpD_9, ((23, 14, 0xa0000000009a0000000094000000008e0000000088000000008700000000860000000085000000008400000000830000000028000000001800000000050000000004), (5, 5, 0x74000000005f000000004d00000000380000000029)))), ((((20, 16, 0x2e000000002d0100000002000000003300000000340000000032000000003100000000010000000036000000002f0000000001000000002c000000002b000000002a00000000010000000004), (0, 1, 4)), ((0, 4, 0x1000000000100000000010000000001), (0, 1, 0))), (zk_99_yi0_grpD_57, ((3, 1, 0x30), (0, 4, 0x4000000000300000000020000000001))))) (((((0, 4, 0x100000001010000000101000000010100000001), (0, 1, 0x100000000)), ((0, 5, 0x1000000000100000000010000000000), (3, 1, 0x35))), (((0, 1, 0x100000001), (3, 1, 0x37)), ((0, 1, 0x100000000), (20, 16, 0x3d000000003c0100000003000000004400000000450000000043000000004200000000020000000049000000003e0000000003000000003b000000003a000000003900000000020000000004)))), ((((0, 2, 0x10000000003), (0, 3, 0x100000000010000000002)), ((0, 2, 0x30000000000), (0, 4, 0x100000007010000000701000000070100000007))), (((0, 5, 0x1000000000100000000010000000001000000000100000000), (3, 3, 0x410000000040000000003f)), ((0, 4, 0x4000000000300000000020000000001), (0, 4, 0x3000000000400000000020000000001)))))
noncomputable def zk_99_yi0_grpD_59 : zC := (0, 6, 0x10000001b010000001b010000001b010000001b010000001b010000001b)
noncomputable def zk_99_yi0_grpD_60 : zT 6 := @Prod.mk (zT 5) (zT 5) ((((((0, 4, 0x2000000000400000000030000000001), (0, 8, zun 40 8 4294967298)), ((0, 2, 0x1000000000100000000), (0, 5, 0x4000000000200000000010000000000))), (((3, 3, 0x4800000000470000000046), (0, 2, 0x1000000080100000008)), ((0, 2, 0x1000000080100000008), (0, 2, 0x1000000080100000008)))), ((((3, 3, 0x4c000000004b000000004a), (0, 3, 0x10000000001000000000100000000)), zk_99_yi0_grpD_51), (((20, 16, 0x520000000051010000000500000000580000000059000000005700000000560000000004000000005c000000005300000000020000000050000000004f000000004e00000000020000000004), (0, 2, 0x20000000002)), ((0, 2, 0x20000000002), (0, 2, 0x20000000000))))), (((zk_99_yi0_grpD_57, ((3, 2, 0x550000000054), (0, 4, 0x4000000000300000000020000000001))), (((0, 4, 0x4000000000200000000030000000001), (0, 16, zun 40 16 4294967298)), ((0, 4, 0x100000000010000000001000000000100000000), (0, 5, 0x4000000000200000000010000000000)))), ((((3, 2, 0x5b000000005a), (0, 4, 0x100000008010000000801000000080100000008)), ((0, 4, 0x100000008010000000801000000080100000008), (3, 2, 0x5e000000005d))), (zk_99_yi0_grpD_46, ((20, 16, 0x6400000000630100000007000000006b000000006c000000006a0000000069000000000600000000700000000065000000000300000000620000000061000000006000000000030000000004), (0, 3, 0x100000000010000000002)))))) ((((((0, 2, 0x10000000003), (0, 3, 0x300000000020000000000)), zk_99_yi0_grpD_57), (((3, 3, 0x6800000000670000000066), (0, 4, 0x4000000000300000000020000000001)), ((0, 4, 0x4000000000200000000030000000001), (0, 4, 0x3000000000200000000040000000001)))), ((((0, 24, zun 40 24 4294967299), zk_99_yi0_grpD_8), ((0, 5, 0x9000000000300000000010000000000), (3, 3, 0x6f000000006e000000006d))), ((zk_99_yi0_grpD_59, zk_99_yi0_grpD_59), (zk_99_yi0_grpD_59, (3, 3, 0x7300000000720000000071))))), (((zk_99_yi0_grpD_51, ((0, 3, 0x10000000001000000000100000000), (20, 16, 0x7900000000780100000019000000007e000000007f000000007d000000007c00000000180000000081000000007a000000000100000000770000000076000000007500000000040000000004))), (((0, 4, 0x1000000000100000000010000000001), (0, 1, 4)), ((0, 4, 0x3000000000200000000010000000000), (0, 4, 0x100000007010000000701000000070100000007)))), ((((0, 5, 0x1000000000100000000010000000001000000000100000000), (3, 1, 0x7b)), ((0, 4, 0x4000000000300000000020000000001), (0, 96, zun 40 96 4294967300))), (((0, 24, zun 40 24 4294967296), (0, 5, 0x10000000000400000000010000000000)), ((3, 1, 0x80), (0, 24, zun 40 24 4294967360))))))
noncomputable def zk_99_yi0_grpD_61 : zT 5 := @Prod.mk (zT 4) (zT 4) (((((3, 1, 0x82), (0, 1, 0x100000000)), ((0, 5, 0x1000000000200000000030000000004), (0, 5, 0x10000000006000000000300000000080000000006))), (((0, 5, 0x10000000002000000000200000000030000000004), (0, 5, 0x100ffffffff0000000001000000000100ffffffff)), ((0, 5, 0x180000000004000000000800000000030000000004), (3, 5, 0x8d000000008c000000008b000000008a0000000089)))), ((((0, 7, 0x2000000000000000000040000000000000000000200000000000000000000), (0, 7, 0x4000000000100000000010000000004000000000100000000010000000000)), ((0, 7, 0x4000000000200000000040000000002000000000400000000020000000000), (0, 7, 0x4000000000300000000040000000003000000000400000000030000000000))), (((0, 7, 0x4000000000400000000040000000004000000000400000000040000000000), (3, 5, 0x93000000009200000000910000000090000000008f)), ((0, 5, 0x10000000004000000000300000000020000000000), (0, 5, 0x40000000001000000000300000000020000000000))))) (((((0, 5, 0x30000000004000000000100000000020000000000), (0, 5, 0x40000000003000000000100000000020000000000)), ((0, 5, 0x40000000003000000000200000000010000000000), (3, 5, 0x990000000098000000009700000000960000000095))), (zk_99_yi0_grpD_7, zk_99_yi0_grpD_7)), ((((0, 5, 0x1000000000100000000010000000001000000000100000000), (3, 5, 0x9f000000009e000000009d000000009c000000009b)), zk_99_yi0_grpD_7), (zk_99_yi0_grpD_7, ((0, 5, 0x1000000000100000000010000000001000000000100000000), (0, 64, zun 40 64 4294967296)))))
noncomputable def hGb_12 : zH 10 := (show zT 10 from (((((((((zk_99_yi0_grpD_56, zk_99_yi0_grpD_25), (zk_99_yi0_grpD_4, zk_99_yi0_grpD_4)), zk_99_yi0_grpD_5), zk_99_yi0_grpD_6), zk_99_yi0_grpD_58), zk_99_yi0_grpD_60), ((zk_99_yi0_grpD_61, zO5), zO6)), zO8), zO9), (160, (1000, 80000)))
noncomputable def hGb_13 : zH 10 := (show zT 10 from (((((((((zk_99_yi0_grpD_56, zk_99_yi0_grpD_26), (zk_99_yi0_grpD_4, zk_99_yi0_grpD_4)), zk_99_yi0_grpD_5), zk_99_yi0_grpD_6), zk_99_yi0_grpD_58), zk_99_yi0_grpD_60), ((zk_99_yi0_grpD_61, zO5), zO6)), zO8), zO9), (160, (1000, 80000)))
noncomputable def hGb_14 : zH 10 := (show zT 10 from (((((((((zk_99_yi0_grpD_56, zk_99_yi0_grpD_27), (zk_99_yi0_grpD_4, zk_99_yi0_grpD_4)), zk_99_yi0_grpD_5), zk_99_yi0_grpD_6), zk_99_yi0_grpD_58), zk_99_yi0_grpD_60), ((zk_99_yi0_grpD_61, zO5), zO6)), zO8), zO9), (160, (1000, 80000)))
noncomputable def hGb_15 : zH 10 := (show zT 10 from (((((((((zk_99_yi0_grpD_56, zk_99_yi0_grpD_28), (zk_99_yi0_grpD_4, zk_99_yi0_grpD_4)), zk_99_yi0_grpD_5), zk_99_yi0_grpD_6), zk_99_yi0_grpD_58), zk_99_yi0_grpD_60), ((zk_99_yi0_grpD_61, zO5), zO6)), zO8), zO9), (160, (1000, 80000)))
noncomputable def zk_99_yi0_grpD_62 : zT 1 := @Prod.mk (zT 0) (zT 0) zk_99_yi0_grpD_0 (6, 7, 0x8000000047000000002780000000458000000044800000004380000000420000000000)
noncomputable def zk_99_yi0_grpD_63 : zT 1 := @Prod.mk (zT 0) (zT 0) (0, 5, 0x1000000070100000007010000000701000000070100000007) zk_99_yi0_grpD_8
noncomputable def zk_99_yi0_grpD_64 : zT 5 := @Prod.mk (zT 4) (zT 4) (((zk_99_yi0_grpD_4, zk_99_yi0_grpD_7), (zk_99_yi0_grpD_9, ((23, 14, 0xf000000000e800000000e000000000d800000000d000000000cf00000000ce00000000cd00000000cc00000000cb0000000028000000007800000000070000000005), (5, 7, 0xbc00000000a40000000089000000006b000000005000000000380000000029)))), ((((20, 16, 0x2e000000002d0100000002000000003300000000340000000032000000003100000000010000000036000000002f0000000001000000002c000000002b000000002a00000000010000000005), (0, 1, 5)), ((0, 5, 0x10000000001000000000100000000010000000001), (0, 1, 0))), (zk_99_yi0_grpD_63, ((3, 1, 0x30), (0, 5, 0x50000000004000000000300000000020000000001))))) (((((0, 5, 0x1000000010100000001010000000101000000010100000001), (0, 1, 0x100000000)), ((0, 6, 0x10000000001000000000100000000010000000000), (3, 1, 0x35))), (((0, 1, 0x100000001), (3, 1, 0x37)), ((0, 1, 0x100000000), (20, 16, 0x3d000000003c010000000300000000450000000046000000004400000000430000000002000000004b000000003e0000000004000000003b000000003a000000003900000000020000000005)))), ((((0, 2, 0x10000000004), (0, 4, 0x1000000000100000000010000000002)), ((0, 2, 0x40000000000), (0, 5, 0x1000000070100000007010000000701000000070100000007))), ((zk_99_yi0_grpD_8, (3, 4, 0x4200000000410000000040000000003f)), ((0, 5, 0x50000000004000000000300000000020000000001), (0, 5, 0x40000000005000000000300000000020000000001)))))
noncomputable def zk_99_yi0_grpD_65 : zT 1 := @Prod.mk (zT 0) (zT 0) (0, 2, 0x1000000100100000010) (0, 2, 0x1000000100100000010)
noncomputable def zk_99_yi0_grpD_66 : zT 1 := @Prod.mk (zT 0) (zT 0) (0, 4, 0x100000000010000000001000000000100000000) (0, 4, 0x100000000010000000001000000000100000000)
noncomputable def zk_99_yi0_grpD_67 : zT 1 := @Prod.mk (zT 0) (zT 0) (0, 4, 0x100000010010000001001000000100100000010) (0, 4, 0x100000010010000001001000000100100000010)
noncomputable def zk_99_yi0_grpD_68 : zC := (0, 6, 0x10000005101000000510100000051010000005101000000510100000051)
noncomputable def zk_99_yi0_grpD_69 : zT 6 := @Prod.mk (zT 5) (zT 5) ((((((0, 5, 0x30000000005000000000400000000020000000001), (0, 5, 0x20000000005000000000400000000030000000001)), ((0, 10, zun 40 10 4294967298), (0, 2, 0x1000000000100000000))), (((0, 6, 0x80000000004000000000200000000010000000000), (3, 4, 0x4a000000004900000000480000000047)), zk_99_yi0_grpD_65)), ((zk_99_yi0_grpD_65, ((3, 4, 0x4f000000004e000000004d000000004c), (0, 4, 0x100000000010000000001000000000100000000))), (zk_99_yi0_grpD_66, ((0, 4, 0x100000000010000000001000000000100000000), (20, 16, 0x5500000000540100000005000000005e000000005f000000005d000000005c000000000400000000650000000056000000000500000000530000000052000000005100000000020000000005))))), (((((0, 2, 0x20000000003), (0, 3, 0x100000000020000000002)), ((0, 2, 0x30000000000), (0, 5, 0x1000000070100000007010000000701000000070100000007))), ((zk_99_yi0_grpD_8, (3, 5, 0x5b000000005a000000005900000000580000000057)), ((0, 5, 0x50000000004000000000300000000020000000001), (0, 5, 0x50000000003000000000400000000020000000001)))), ((((0, 5, 0x40000000003000000000500000000020000000001), (0, 5, 0x50000000002000000000400000000030000000001)), ((0, 5, 0x40000000002000000000500000000030000000001), (0, 20, zun 40 20 4294967298))), (((0, 4, 0x100000000010000000001000000000100000000), (0, 6, 0x80000000004000000000200000000010000000000)), ((3, 5, 0x640000000063000000006200000000610000000060), (0, 4, 0x100000010010000001001000000100100000010)))))) ((((zk_99_yi0_grpD_67, zk_99_yi0_grpD_67), (((3, 5, 0x6a0000000069000000006800000000670000000066), (0, 5, 0x1000000000100000000010000000001000000000100000000)), zk_99_yi0_grpD_7)), ((zk_99_yi0_grpD_7, ((20, 16, 0x70000000006f0100000007000000007a000000007b000000007900000000780000000006000000008200000000710000000006000000006e000000006d000000006c00000000030000000005), (0, 3, 0x100000000010000000003))), (((0, 3, 0x100000000010000000003), (0, 3, 0x400000000030000000000)), zk_99_yi0_grpD_63))), (((((3, 6, 0x7700000000760000000075000000007400000000730000000072), (0, 5, 0x50000000004000000000300000000020000000001)), ((0, 5, 0x50000000003000000000400000000020000000001), (0, 5, 0x40000000003000000000500000000020000000001))), (((0, 5, 0x50000000002000000000400000000030000000001), (0, 5, 0x40000000002000000000500000000030000000001)), ((0, 5, 0x30000000002000000000500000000040000000001), (0, 30, zun 40 30 4294967299)))), (((zk_99_yi0_grpD_8, (0, 6, 0x1b0000000009000000000300000000010000000000)), ((3, 6, 0x810000000080000000007f000000007e000000007d000000007c), zk_99_yi0_grpD_68)), ((zk_99_yi0_grpD_68, zk_99_yi0_grpD_68), (zk_99_yi0_grpD_68, zk_99_yi0_grpD_68)))))
noncomputable def zk_99_yi0_grpD_70 : zT 1 := @Prod.mk (zT 0) (zT 0) (0, 12, zun 40 12 4294967377) (0, 12, zun 40 12 4294967377)
noncomputable def zk_99_yi0_grpD_71 : zT 1 := @Prod.mk (zT 0) (zT 0) (0, 24, zun 40 24 4294967552) (0, 24, zun 40 24 4294967552)
noncomputable def zk_99_yi0_grpD_72 : zT 6 := @Prod.mk (zT 5) (zT 5) (((((zk_99_yi0_grpD_68, (3, 6, 0x8800000000870000000086000000008500000000840000000083)), (zk_99_yi0_grpD_8, zk_99_yi0_grpD_8)), ((zk_99_yi0_grpD_8, zk_99_yi0_grpD_8), (zk_99_yi0_grpD_8, zk_99_yi0_grpD_8))), ((((20, 16, 0x8e000000008d010000000d0000000097000000009800000000960000000095000000000c000000009e000000008f0000000005000000008c000000008b000000008a00000000030000000005), (0, 3, 0x100000000020000000002)), ((0, 2, 0x20000000003), (0, 3, 0x400000000020000000000))), (zk_99_yi0_grpD_63, ((3, 5, 0x940000000093000000009200000000910000000090), (0, 5, 0x50000000004000000000300000000020000000001))))), (((((0, 5, 0x40000000005000000000300000000020000000001), (0, 5, 0x50000000004000000000200000000030000000001)), ((0, 5, 0x40000000005000000000200000000030000000001), (0, 5, 0x30000000005000000000200000000040000000001))), (((0, 60, zun 40 60 4294967299), (0, 12, zun 40 12 4294967296)), ((0, 6, 0x1b0000000009000000000300000000010000000000), (3, 5, 0x9d000000009c000000009b000000009a0000000099)))), ((zk_99_yi0_grpD_70, zk_99_yi0_grpD_70), (((0, 12, zun 40 12 4294967377), (3, 5, 0xa300000000a200000000a100000000a0000000009f)), zk_99_yi0_grpD_7)))) ((((zk_99_yi0_grpD_7, ((0, 5, 0x1000000000100000000010000000001000000000100000000), (20, 16, 0xa900000000a8010000001900000000b100000000b200000000b000000000af000000001800000000b700000000aa000000000400000000a700000000a600000000a500000000040000000005))), (((0, 4, 0x1000000000100000000010000000002), (0, 2, 0x10000000004)), ((0, 4, 0x4000000000300000000020000000000), (0, 5, 0x1000000070100000007010000000701000000070100000007)))), (((zk_99_yi0_grpD_8, (3, 4, 0xae00000000ad00000000ac00000000ab)), ((0, 5, 0x50000000004000000000300000000020000000001), (0, 5, 0x50000000004000000000200000000030000000001))), (((0, 5, 0x50000000003000000000200000000040000000001), (0, 5, 0x40000000003000000000200000000050000000001)), ((0, 120, zun 40 120 4294967300), (0, 24, zun 40 24 4294967296))))), (((((0, 6, 0x400000000010000000000400000000010000000000), (3, 4, 0xb600000000b500000000b400000000b3)), zk_99_yi0_grpD_71), (zk_99_yi0_grpD_71, ((3, 4, 0xbb00000000ba00000000b900000000b8), (0, 4, 0x100000000010000000001000000000100000000)))), ((zk_99_yi0_grpD_66, ((0, 4, 0x100000000010000000001000000000100000000), (20, 16, 0xc100000000c0010000007900000000c600000000c700000000c500000000c4000000007800000000c900000000c2000000000100000000bf00000000be00000000bd00000000050000000005))), (((0, 5, 0x10000000001000000000100000000010000000001), (0, 1, 5)), ((0, 5, 0x40000000003000000000200000000010000000000), (0, 5, 0x1000000070100000007010000000701000000070100000007))))))
noncomputable def zk_99_yi0_grpD_73 : zC := (0, 6, 0x500000000040000000003000000000200000000010000000000)
noncomputable def zk_99_yi0_grpD_74 : zT 5 := @Prod.mk (zT 4) (zT 4) ((((zk_99_yi0_grpD_8, (3, 1, 0xc3)), ((0, 5, 0x50000000004000000000300000000020000000001), (0, 600, zun 40 600 4294967301))), (((0, 120, zun 40 120 4294967296), (0, 6, 0x7d0000000019000000000500000000010000000000)), ((3, 1, 0xc8), (0, 120, zun 40 120 4294967921)))), ((((3, 1, 0xca), (0, 1, 0x100000000)), ((0, 7, 0x100000000020000000003000000000400000000050000000006), (0, 7, 0x1000000000a000000000f00000000140000000014000000001e0000000018))), (((0, 7, 0x1000000000200000000020000000003000000000600000000040000000005), (0, 7, 0x100ffffffff0000000001000000000100ffffffff00ffffffff0000000001)), ((0, 7, 0x78000000000c00000000080000000006000000000600000000040000000005), (3, 7, 0xd700000000d600000000d500000000d400000000d300000000d200000000d1))))) (((((0, 7, 0x600000000000000000000000000000000000000000000000000), (0, 7, 0x4000000000100000000060000000001000000000400000000010000000000)), ((0, 7, 0x6000000000200000000030000000005000000000300000000020000000000), (0, 7, 0x6000000000300000000030000000006000000000300000000030000000000))), (((0, 7, 0x6000000000400000000060000000004000000000600000000040000000000), (0, 7, 0x6000000000500000000060000000005000000000600000000050000000000)), ((0, 7, 0x6000000000600000000060000000006000000000600000000060000000000), (3, 7, 0xdf00000000de00000000dd00000000dc00000000db00000000da00000000d9)))), ((((0, 6, 0x100000000050000000004000000000300000000020000000000), (0, 6, 0x500000000010000000004000000000300000000020000000000)), ((0, 6, 0x400000000050000000001000000000300000000020000000000), (0, 6, 0x500000000040000000001000000000300000000020000000000))), (((0, 6, 0x500000000030000000004000000000100000000020000000000), (0, 6, 0x500000000040000000003000000000100000000020000000000)), (zk_99_yi0_grpD_73, (3, 7, 0xe700000000e600000000e500000000e400000000e300000000e200000000e1)))))
noncomputable def zk_99_yi0_grpD_75 : zC := (0, 7, 0x100000000010000000001000000000100000000010000000001000000000100000000)
noncomputable def zk_99_yi0_grpD_76 : zT 2 := @Prod.mk (zT 1) (zT 1) (zk_99_yi0_grpD_75, zk_99_yi0_grpD_75) (zk_99_yi0_grpD_75, zk_99_yi0_grpD_75)
noncomputable def zk_99_yi0_grpD_77 : zT 4 := @Prod.mk (zT 3) (zT 3) (zk_99_yi0_grpD_76, ((zk_99_yi0_grpD_75, zk_99_yi0_grpD_75), (zk_99_yi0_grpD_75, (3, 7, 0xef00000000ee00000000ed00000000ec00000000eb00000000ea00000000e9)))) (zk_99_yi0_grpD_76, ((zk_99_yi0_grpD_75, zk_99_yi0_grpD_75), (zk_99_yi0_grpD_75, (0, 625, zun 40 625 4294967296))))
noncomputable def zk_99_yi0_grpD_78 : zT 7 := @Prod.mk (zT 6) (zT 6) zk_99_yi0_grpD_72 (zk_99_yi0_grpD_74, (zk_99_yi0_grpD_77, zO4))
noncomputable def hGb_16 : zH 10 := (show zT 10 from (((((((((zk_99_yi0_grpD_62, zk_99_yi0_grpD_30), (zk_99_yi0_grpD_4, zk_99_yi0_grpD_4)), zk_99_yi0_grpD_5), zk_99_yi0_grpD_6), zk_99_yi0_grpD_64), zk_99_yi0_grpD_69), zk_99_yi0_grpD_78), zO8), zO9), (240, (1000, 80000)))
noncomputable def hGb_17 : zH 10 := (show zT 10 from (((((((((zk_99_yi0_grpD_62, zk_99_yi0_grpD_31), (zk_99_yi0_grpD_4, zk_99_yi0_grpD_4)), zk_99_yi0_grpD_5), zk_99_yi0_grpD_6), zk_99_yi0_grpD_64), zk_99_yi0_grpD_69), zk_99_yi0_grpD_78), zO8), zO9), (240, (1000, 80000)))
noncomputable def hGb_18 : zH 10 := (show zT 10 from (((((((((zk_99_yi0_grpD_62, zk_99_yi0_grpD_32), (zk_99_yi0_grpD_4, zk_99_yi0_grpD_4)), zk_99_yi0_grpD_5), zk_99_yi0_grpD_6), zk_99_yi0_grpD_64), zk_99_yi0_grpD_69), zk_99_yi0_grpD_78), zO8), zO9), (240, (1000, 80000)))
noncomputable def hGb_19 : zH 10 := (show zT 10 from (((((((((zk_99_yi0_grpD_62, zk_99_yi0_grpD_33), (zk_99_yi0_grpD_4, zk_99_yi0_grpD_4)), zk_99_yi0_grpD_5), zk_99_yi0_grpD_6), zk_99_yi0_grpD_64), zk_99_yi0_grpD_69), zk_99_yi0_grpD_78), zO8), zO9), (240, (1000, 80000)))
noncomputable def zk_99_yi0_grpD_79 : zT 1 := @Prod.mk (zT 0) (zT 0) zk_99_yi0_grpD_0 (6, 7, 0x27800000004680000000458000000044800000004380000000420000000000)
noncomputable def zk_99_yi0_grpD_80 : zC := (0, 6, 0x100000000010000000001000000000100000000010000000001)
noncomputable def zk_99_yi0_grpD_81 : zC := (0, 6, 0x10000000701000000070100000007010000000701000000070100000007)
noncomputable def zk_99_yi0_grpD_82 : zC := (0, 6, 0x600000000050000000004000000000300000000020000000001)
noncomputable def zk_99_yi0_grpD_83 : zC := (0, 6, 0x500000000060000000004000000000300000000020000000001)
noncomputable def zk_99_yi0_grpD_84 : zT 5 := @Prod.mk (zT 4) (zT 4) (((zk_99_yi0_grpD_4, zk_99_yi0_grpD_7), (zk_99_yi0_grpD_9, ((23, 14, 0x1c600000001ba00000001ae00000001a2000000019600000001950000000194000000019300000001920000000191000000002800000002d0000000000b0000000006), (5, 11, 0x18200000001670000000140000000012500000000fb00000000bf00000000a4000000007a000000005300000000380000000029)))), ((((20, 16, 0x2e000000002d0100000002000000003300000000340000000032000000003100000000010000000036000000002f0000000001000000002c000000002b000000002a00000000010000000006), (0, 1, 6)), (zk_99_yi0_grpD_80, (0, 1, 0))), ((zk_99_yi0_grpD_81, zk_99_yi0_grpD_75), ((3, 1, 0x30), zk_99_yi0_grpD_82)))) (((((0, 6, 0x10000000101000000010100000001010000000101000000010100000001), (0, 1, 0x100000000)), ((0, 7, 0x100000000010000000001000000000100000000010000000000), (3, 1, 0x35))), (((0, 1, 0x100000001), (3, 1, 0x37)), ((0, 1, 0x100000000), (20, 16, 0x3d000000003c010000000300000000460000000047000000004500000000440000000002000000004d000000003e0000000005000000003b000000003a000000003900000000020000000006)))), ((((0, 2, 0x10000000005), (0, 5, 0x10000000001000000000100000000010000000002)), ((0, 2, 0x50000000000), zk_99_yi0_grpD_81)), ((zk_99_yi0_grpD_75, (3, 5, 0x43000000004200000000410000000040000000003f)), (zk_99_yi0_grpD_82, zk_99_yi0_grpD_83))))
noncomputable def zk_99_yi0_grpD_85 : zC := (0, 7, 0x1000000000080000000004000000000200000000010000000000)
noncomputable def zk_99_yi0_grpD_86 : zT 1 := @Prod.mk (zT 0) (zT 0) (0, 2, 0x1000000200100000020) (0, 2, 0x1000000200100000020)
noncomputable def zk_99_yi0_grpD_87 : zC := (0, 6, 0x600000000040000000005000000000300000000020000000001)
noncomputable def zk_99_yi0_grpD_88 : zC := (0, 6, 0x500000000040000000006000000000300000000020000000001)
noncomputable def zk_99_yi0_grpD_89 : zC := (0, 6, 0x600000000030000000005000000000400000000020000000001)
noncomputable def zk_99_yi0_grpD_90 : zC := (0, 6, 0x500000000030000000006000000000400000000020000000001)
noncomputable def zk_99_yi0_grpD_91 : zC := (0, 6, 0x400000000030000000006000000000500000000020000000001)
noncomputable def zk_99_yi0_grpD_92 : zC := (0, 6, 0x600000000020000000005000000000400000000030000000001)
noncomputable def zk_99_yi0_grpD_93 : zC := (0, 6, 0x500000000020000000006000000000400000000030000000001)
noncomputable def zk_99_yi0_grpD_94 : zC := (0, 6, 0x400000000020000000006000000000500000000030000000001)
noncomputable def zk_99_yi0_grpD_95 : zT 1 := @Prod.mk (zT 0) (zT 0) (0, 4, 0x100000020010000002001000000200100000020) (0, 4, 0x100000020010000002001000000200100000020)
noncomputable def zk_99_yi0_grpD_96 : zT 2 := @Prod.mk (zT 1) (zT 1) ((0, 9, zun 40 9 4294967296), (0, 9, zun 40 9 4294967296)) ((0, 9, zun 40 9 4294967296), (0, 9, zun 40 9 4294967296))
noncomputable def zk_99_yi0_grpD_97 : zT 6 := @Prod.mk (zT 5) (zT 5) ((((((0, 6, 0x400000000060000000005000000000300000000020000000001), (0, 6, 0x300000000060000000005000000000400000000020000000001)), ((0, 6, 0x200000000060000000005000000000400000000030000000001), (0, 12, zun 40 12 4294967298))), (((0, 2, 0x1000000000100000000), zk_99_yi0_grpD_85), ((3, 5, 0x4c000000004b000000004a00000000490000000048), (0, 2, 0x1000000200100000020)))), ((zk_99_yi0_grpD_86, zk_99_yi0_grpD_86), (((3, 5, 0x5200000000510000000050000000004f000000004e), (0, 5, 0x1000000000100000000010000000001000000000100000000)), zk_99_yi0_grpD_7))), (((zk_99_yi0_grpD_7, ((20, 16, 0x58000000005701000000050000000065000000006600000000640000000063000000000400000000700000000059000000000900000000560000000055000000005400000000020000000006), (0, 2, 0x20000000004))), (((0, 4, 0x1000000000100000000020000000002), (0, 2, 0x40000000000)), (zk_99_yi0_grpD_81, zk_99_yi0_grpD_75))), ((((3, 9, 0x6200000000610000000060000000005f000000005e000000005d000000005c000000005b000000005a), zk_99_yi0_grpD_82), (zk_99_yi0_grpD_87, zk_99_yi0_grpD_88)), ((zk_99_yi0_grpD_89, zk_99_yi0_grpD_90), (zk_99_yi0_grpD_91, zk_99_yi0_grpD_92))))) (((((zk_99_yi0_grpD_93, zk_99_yi0_grpD_94), ((0, 24, zun 40 24 4294967298), (0, 4, 0x100000000010000000001000000000100000000))), ((zk_99_yi0_grpD_85, (3, 9, 0x6f000000006e000000006d000000006c000000006b000000006a000000006900000000680000000067)), zk_99_yi0_grpD_95)), ((zk_99_yi0_grpD_95, zk_99_yi0_grpD_95), (zk_99_yi0_grpD_95, ((0, 4, 0x100000020010000002001000000200100000020), (3, 9, 0x7900000000780000000077000000007600000000750000000074000000007300000000720000000071))))), ((zk_99_yi0_grpD_96, zk_99_yi0_grpD_96), ((((0, 9, zun 40 9 4294967296), (20, 16, 0x7f000000007e0100000007000000008d000000008e000000008c000000008b000000000600000000990000000080000000000a000000007d000000007c000000007b00000000030000000006)), ((0, 3, 0x100000000010000000004), (0, 4, 0x1000000000100000000010000000003))), (((0, 3, 0x500000000040000000000), zk_99_yi0_grpD_81), (zk_99_yi0_grpD_75, (3, 10, 0x8a000000008900000000880000000087000000008600000000850000000084000000008300000000820000000081))))))
noncomputable def zk_99_yi0_grpD_98 : zC := (0, 7, 0x51000000001b0000000009000000000300000000010000000000)
noncomputable def zk_99_yi0_grpD_99 : zC := (0, 6, 0x1000000f301000000f301000000f301000000f301000000f301000000f3)
noncomputable def zk_99_yi0_grpD_100 : zT 2 := @Prod.mk (zT 1) (zT 1) (zk_99_yi0_grpD_99, zk_99_yi0_grpD_99) (zk_99_yi0_grpD_99, zk_99_yi0_grpD_99)
noncomputable def zk_99_yi0_grpD_101 : zT 1 := @Prod.mk (zT 0) (zT 0) (0, 10, zun 40 10 4294967296) (0, 10, zun 40 10 4294967296)
noncomputable def zk_99_yi0_grpD_102 : zC := (0, 6, 0x600000000050000000003000000000400000000020000000001)
noncomputable def zk_99_yi0_grpD_103 : zC := (0, 6, 0x600000000040000000003000000000500000000020000000001)
noncomputable def zk_99_yi0_grpD_104 : zC := (0, 6, 0x600000000050000000002000000000400000000030000000001)
noncomputable def zk_99_yi0_grpD_105 : zC := (0, 6, 0x600000000040000000002000000000500000000030000000001)
noncomputable def zk_99_yi0_grpD_106 : zC := (0, 6, 0x500000000040000000003000000000600000000020000000001)
noncomputable def zk_99_yi0_grpD_107 : zC := (0, 6, 0x500000000040000000002000000000600000000030000000001)
noncomputable def zk_99_yi0_grpD_108 : zT 1 := @Prod.mk (zT 0) (zT 0) (0, 12, zun 40 12 4294967539) (0, 12, zun 40 12 4294967539)
noncomputable def zk_99_yi0_grpD_109 : zT 1 := @Prod.mk (zT 0) (zT 0) (0, 16, zun 40 16 4294967296) (0, 16, zun 40 16 4294967296)
noncomputable def zk_99_yi0_grpD_110 : zT 7 := @Prod.mk (zT 6) (zT 6) ((((((zk_99_yi0_grpD_82, zk_99_yi0_grpD_87), (zk_99_yi0_grpD_88, zk_99_yi0_grpD_89)), ((zk_99_yi0_grpD_90, zk_99_yi0_grpD_91), (zk_99_yi0_grpD_92, zk_99_yi0_grpD_93))), (((zk_99_yi0_grpD_94, (0, 6, 0x300000000020000000006000000000500000000040000000001)), ((0, 36, zun 40 36 4294967299), zk_99_yi0_grpD_8)), ((zk_99_yi0_grpD_98, (3, 10, 0x9800000000970000000096000000009500000000940000000093000000009200000000910000000090000000008f)), (zk_99_yi0_grpD_99, zk_99_yi0_grpD_99)))), ((zk_99_yi0_grpD_100, zk_99_yi0_grpD_100), ((((3, 10, 0xa300000000a200000000a100000000a0000000009f000000009e000000009d000000009c000000009b000000009a), (0, 10, zun 40 10 4294967296)), zk_99_yi0_grpD_101), (zk_99_yi0_grpD_101, zk_99_yi0_grpD_101)))), ((((zk_99_yi0_grpD_101, ((0, 10, zun 40 10 4294967296), (20, 16, 0xa900000000a8010000000900000000b200000000b300000000b100000000b0000000000800000000b900000000aa000000000500000000a700000000a600000000a500000000020000000006))), (((0, 2, 0x30000000003), (0, 3, 0x200000000020000000002)), ((0, 2, 0x30000000000), zk_99_yi0_grpD_81))), (((zk_99_yi0_grpD_75, (3, 5, 0xaf00000000ae00000000ad00000000ac00000000ab)), (zk_99_yi0_grpD_82, zk_99_yi0_grpD_102)), ((zk_99_yi0_grpD_103, zk_99_yi0_grpD_104), (zk_99_yi0_grpD_105, (0, 48, zun 40 48 4294967298))))), (((((0, 8, zun 40 8 4294967296), zk_99_yi0_grpD_85), ((3, 5, 0xb800000000b700000000b600000000b500000000b4), (0, 8, zun 40 8 4294967328))), (((0, 8, zun 40 8 4294967328), (0, 8, zun 40 8 4294967328)), ((0, 8, zun 40 8 4294967328), (0, 8, zun 40 8 4294967328)))), ((((3, 5, 0xbe00000000bd00000000bc00000000bb00000000ba), (0, 5, 0x1000000000100000000010000000001000000000100000000)), zk_99_yi0_grpD_7), (zk_99_yi0_grpD_7, ((20, 16, 0xc400000000c3010000000d00000000d800000000d900000000d700000000d6000000000c00000000ea00000000c5000000001000000000c200000000c100000000c000000000030000000006), (0, 3, 0x100000000020000000003))))))) (((((((0, 3, 0x100000000020000000003), (0, 3, 0x500000000030000000000)), (zk_99_yi0_grpD_81, zk_99_yi0_grpD_75)), (((3, 16, 0xd500000000d400000000d300000000d200000000d100000000d000000000cf00000000ce00000000cd00000000cc00000000cb00000000ca00000000c900000000c800000000c700000000c6), zk_99_yi0_grpD_82), (zk_99_yi0_grpD_83, zk_99_yi0_grpD_102))), ((((0, 6, 0x500000000060000000003000000000400000000020000000001), zk_99_yi0_grpD_103), ((0, 6, 0x400000000060000000003000000000500000000020000000001), zk_99_yi0_grpD_106)), (((0, 6, 0x400000000050000000003000000000600000000020000000001), zk_99_yi0_grpD_104), ((0, 6, 0x500000000060000000002000000000400000000030000000001), zk_99_yi0_grpD_105)))), (((((0, 6, 0x400000000060000000002000000000500000000030000000001), zk_99_yi0_grpD_107), ((0, 6, 0x400000000050000000002000000000600000000030000000001), (0, 6, 0x300000000060000000002000000000500000000040000000001))), (((0, 6, 0x300000000050000000002000000000600000000040000000001), (0, 72, zun 40 72 4294967299)), ((0, 12, zun 40 12 4294967296), zk_99_yi0_grpD_98))), ((((3, 16, 0xe900000000e800000000e700000000e600000000e500000000e400000000e300000000e200000000e100000000e000000000df00000000de00000000dd00000000dc00000000db00000000da), (0, 12, zun 40 12 4294967539)), zk_99_yi0_grpD_108), (zk_99_yi0_grpD_108, zk_99_yi0_grpD_108)))), ((((zk_99_yi0_grpD_108, zk_99_yi0_grpD_108), (zk_99_yi0_grpD_108, zk_99_yi0_grpD_108)), ((((0, 12, zun 40 12 4294967539), (3, 16, 0xfa00000000f900000000f800000000f700000000f600000000f500000000f400000000f300000000f200000000f100000000f000000000ef00000000ee00000000ed00000000ec00000000eb)), zk_99_yi0_grpD_109), (zk_99_yi0_grpD_109, zk_99_yi0_grpD_109))), (((zk_99_yi0_grpD_109, zk_99_yi0_grpD_109), (zk_99_yi0_grpD_109, zk_99_yi0_grpD_109)), ((zk_99_yi0_grpD_109, ((20, 16, 0x10000000000ff0100000019000000010e000000010f000000010d000000010c0000000018000000011a0000000101000000000a00000000fe00000000fd00000000fc00000000040000000006), (0, 4, 0x1000000000100000000010000000003))), (((0, 3, 0x100000000010000000004), (0, 4, 0x5000000000400000000030000000000)), (zk_99_yi0_grpD_81, zk_99_yi0_grpD_75))))))
noncomputable def zk_99_yi0_grpD_111 : zC := (0, 7, 0x10000000000400000000010000000000400000000010000000000)
noncomputable def zk_99_yi0_grpD_112 : zT 1 := @Prod.mk (zT 0) (zT 0) (0, 24, zun 40 24 4294968320) (0, 24, zun 40 24 4294968320)
noncomputable def zk_99_yi0_grpD_113 : zC := (0, 6, 0x600000000050000000004000000000200000000030000000001)
noncomputable def zk_99_yi0_grpD_114 : zC := (0, 6, 0x600000000040000000005000000000200000000030000000001)
noncomputable def zk_99_yi0_grpD_115 : zC := (0, 6, 0x600000000030000000005000000000200000000040000000001)
noncomputable def zk_99_yi0_grpD_116 : zT 1 := @Prod.mk (zT 0) (zT 0) (0, 36, zun 40 36 4294967539) (0, 36, zun 40 36 4294967539)
noncomputable def zk_99_yi0_grpD_117 : zT 1 := @Prod.mk (zT 0) (zT 0) (0, 48, zun 40 48 4294968320) (0, 48, zun 40 48 4294968320)
noncomputable def zk_99_yi0_grpD_118 : zT 1 := @Prod.mk (zT 0) (zT 0) (0, 120, zun 40 120 4294970421) (0, 120, zun 40 120 4294970421)
noncomputable def zk_99_yi0_grpD_119 : zT 7 := @Prod.mk (zT 6) (zT 6) (((((((3, 10, 0x10b000000010a00000001090000000108000000010700000001060000000105000000010400000001030000000102), zk_99_yi0_grpD_82), (zk_99_yi0_grpD_102, zk_99_yi0_grpD_103)), ((zk_99_yi0_grpD_106, zk_99_yi0_grpD_104), (zk_99_yi0_grpD_105, zk_99_yi0_grpD_107))), ((((0, 6, 0x600000000030000000002000000000500000000040000000001), (0, 6, 0x500000000030000000002000000000600000000040000000001)), ((0, 6, 0x400000000030000000002000000000600000000050000000001), (0, 144, zun 40 144 4294967300))), (((0, 24, zun 40 24 4294967296), zk_99_yi0_grpD_111), ((3, 10, 0x119000000011800000001170000000116000000011500000001140000000113000000011200000001110000000110), (0, 24, zun 40 24 4294968320))))), (((zk_99_yi0_grpD_112, zk_99_yi0_grpD_112), (zk_99_yi0_grpD_112, zk_99_yi0_grpD_112)), ((((0, 24, zun 40 24 4294968320), (3, 10, 0x1240000000123000000012200000001210000000120000000011f000000011e000000011d000000011c000000011b)), zk_99_yi0_grpD_101), (zk_99_yi0_grpD_101, zk_99_yi0_grpD_101)))), ((((zk_99_yi0_grpD_101, zk_99_yi0_grpD_101), (((20, 16, 0x12a0000000129010000002500000001330000000134000000013200000001310000000024000000013a000000012b000000000500000001280000000127000000012600000000030000000006), (0, 3, 0x200000000020000000002)), ((0, 2, 0x30000000003), (0, 3, 0x400000000020000000000)))), (((zk_99_yi0_grpD_81, zk_99_yi0_grpD_75), ((3, 5, 0x130000000012f000000012e000000012d000000012c), zk_99_yi0_grpD_82)), ((zk_99_yi0_grpD_87, zk_99_yi0_grpD_113), (zk_99_yi0_grpD_114, zk_99_yi0_grpD_115)))), (((((0, 216, zun 40 216 4294967299), (0, 36, zun 40 36 4294967296)), (zk_99_yi0_grpD_98, (3, 5, 0x1390000000138000000013700000001360000000135))), (zk_99_yi0_grpD_116, zk_99_yi0_grpD_116)), ((((0, 36, zun 40 36 4294967539), (3, 5, 0x13f000000013e000000013d000000013c000000013b)), zk_99_yi0_grpD_7), (zk_99_yi0_grpD_7, ((0, 5, 0x1000000000100000000010000000001000000000100000000), (20, 16, 0x1450000000144010000003100000001520000000153000000015100000001500000000030000000015d0000000146000000000900000001430000000142000000014100000000040000000006))))))) (((((((0, 4, 0x1000000000100000000020000000002), (0, 2, 0x20000000004)), ((0, 4, 0x5000000000400000000020000000000), zk_99_yi0_grpD_81)), ((zk_99_yi0_grpD_75, (3, 9, 0x14f000000014e000000014d000000014c000000014b000000014a000000014900000001480000000147)), (zk_99_yi0_grpD_82, zk_99_yi0_grpD_87))), (((zk_99_yi0_grpD_88, zk_99_yi0_grpD_113), (zk_99_yi0_grpD_114, (0, 6, 0x500000000040000000006000000000200000000030000000001))), ((zk_99_yi0_grpD_115, (0, 6, 0x500000000030000000006000000000200000000040000000001)), ((0, 6, 0x400000000030000000006000000000200000000050000000001), (0, 288, zun 40 288 4294967300))))), (((((0, 48, zun 40 48 4294967296), zk_99_yi0_grpD_111), ((3, 9, 0x15c000000015b000000015a000000015900000001580000000157000000015600000001550000000154), (0, 48, zun 40 48 4294968320))), (zk_99_yi0_grpD_117, zk_99_yi0_grpD_117)), ((zk_99_yi0_grpD_117, zk_99_yi0_grpD_117), (((3, 9, 0x166000000016500000001640000000163000000016200000001610000000160000000015f000000015e), (0, 9, zun 40 9 4294967296)), ((0, 9, zun 40 9 4294967296), (0, 9, zun 40 9 4294967296)))))), (((zk_99_yi0_grpD_96, (((0, 9, zun 40 9 4294967296), (0, 9, zun 40 9 4294967296)), ((20, 16, 0x16c000000016b010000007900000001750000000176000000017400000001730000000078000000017c000000016d0000000005000000016a0000000169000000016800000000050000000006), (0, 5, 0x10000000001000000000100000000010000000002)))), ((((0, 2, 0x10000000005), (0, 5, 0x50000000004000000000300000000020000000000)), (zk_99_yi0_grpD_81, zk_99_yi0_grpD_75)), (((3, 5, 0x17200000001710000000170000000016f000000016e), zk_99_yi0_grpD_82), (zk_99_yi0_grpD_113, (0, 6, 0x600000000050000000003000000000200000000040000000001))))), (((((0, 6, 0x600000000040000000003000000000200000000050000000001), (0, 6, 0x500000000040000000003000000000200000000060000000001)), ((0, 720, zun 40 720 4294967301), (0, 120, zun 40 120 4294967296))), (((0, 7, 0x271000000007d0000000019000000000500000000010000000000), (3, 5, 0x17b000000017a000000017900000001780000000177)), zk_99_yi0_grpD_118)), ((zk_99_yi0_grpD_118, ((0, 120, zun 40 120 4294970421), (3, 5, 0x1810000000180000000017f000000017e000000017d))), (zk_99_yi0_grpD_7, zk_99_yi0_grpD_7)))))
noncomputable def zk_99_yi0_grpD_120 : zC := (0, 7, 0x6000000000500000000040000000003000000000200000000010000000000)
noncomputable def zk_99_yi0_grpD_121 : zT 1 := @Prod.mk (zT 0) (zT 0) (0, 11, zun 40 11 4294967296) (0, 11, zun 40 11 4294967296)
noncomputable def zk_99_yi0_grpD_122 : zT 3 := @Prod.mk (zT 2) (zT 2) (zk_99_yi0_grpD_121, zk_99_yi0_grpD_121) (zk_99_yi0_grpD_121, zk_99_yi0_grpD_121)
noncomputable def zk_99_yi0_grpD_123 : zT 6 := @Prod.mk (zT 5) (zT 5) ((((((0, 5, 0x1000000000100000000010000000001000000000100000000), (20, 16, 0x187000000018601000002d1000000018c000000018d000000018b000000018a00000002d0000000018f0000000188000000000100000001850000000184000000018300000000060000000006)), (zk_99_yi0_grpD_80, (0, 1, 6))), ((zk_99_yi0_grpD_73, zk_99_yi0_grpD_81), (zk_99_yi0_grpD_75, (3, 1, 0x189)))), (((zk_99_yi0_grpD_82, (0, 4320, zun 40 4320 4294967302)), ((0, 720, zun 40 720 4294967296), (0, 7, 0x51000000000d80000000024000000000600000000010000000000))), (((3, 1, 0x18e), (0, 720, zun 40 720 4294975072)), ((3, 1, 0x190), (0, 1, 0x100000000))))), (((((0, 11, 0x100000000020000000004000000000300000000050000000007000000000600000000080000000009000000000a), (0, 11, 0x1000000000f000000002d000000000f000000002800000000780000000028000000005a000000005a00000000900000000078)), ((0, 11, 0x10000000002000000000200000000020000000003000000000600000000030000000004000000000400000000050000000006), (0, 11, 0x100ffffffff000000000100ffffffff000000000100ffffffff000000000100ffffffff0000000001000000000100ffffffff))), (((0, 11, 0x2d00000000030000000001000000000300000000012000000000600000000120000000008000000000800000000050000000006), (3, 11, 0x1a100000001a0000000019f000000019e000000019d000000019c000000019b000000019a000000019900000001980000000197)), ((0, 7, 0xa000000000000000000040000000007000000000400000000000000000000), (0, 7, 0x1000000000a00000000010000000001000000000100000000010000000000)))), ((((0, 7, 0x80000000002000000000a0000000002000000000800000000020000000000), (0, 7, 0x80000000003000000000a0000000003000000000800000000030000000000)), ((0, 7, 0xa00000000040000000004000000000a000000000400000000040000000000), (0, 7, 0xa000000000500000000060000000009000000000600000000050000000000))), (((0, 7, 0xa00000000060000000006000000000a000000000600000000060000000000), (0, 7, 0xa0000000007000000000a0000000007000000000a00000000070000000000)), ((0, 7, 0xa0000000008000000000a0000000008000000000a00000000080000000000), (0, 7, 0xa0000000009000000000a0000000009000000000a00000000090000000000)))))) ((((((0, 7, 0xa000000000a000000000a000000000a000000000a000000000a0000000000), (3, 11, 0x1ad00000001ac00000001ab00000001aa00000001a900000001a800000001a700000001a600000001a500000001a400000001a3)), ((0, 7, 0x1000000000600000000050000000004000000000300000000020000000000), (0, 7, 0x6000000000100000000050000000004000000000300000000020000000000))), (((0, 7, 0x5000000000600000000010000000004000000000300000000020000000000), (0, 7, 0x6000000000500000000010000000004000000000300000000020000000000)), ((0, 7, 0x4000000000600000000050000000001000000000300000000020000000000), (0, 7, 0x6000000000400000000050000000001000000000300000000020000000000)))), ((((0, 7, 0x6000000000500000000040000000001000000000300000000020000000000), (0, 7, 0x5000000000600000000030000000004000000000100000000020000000000)), ((0, 7, 0x6000000000500000000030000000004000000000100000000020000000000), (0, 7, 0x6000000000500000000040000000003000000000100000000020000000000))), ((zk_99_yi0_grpD_120, (3, 11, 0x1b900000001b800000001b700000001b600000001b500000001b400000001b300000001b200000001b100000001b000000001af)), zk_99_yi0_grpD_121))), (zk_99_yi0_grpD_122, ((((0, 11, zun 40 11 4294967296), (3, 11, 0x1c500000001c400000001c300000001c200000001c100000001c000000001bf00000001be00000001bd00000001bc00000001bb)), zk_99_yi0_grpD_121), (zk_99_yi0_grpD_121, zk_99_yi0_grpD_121))))
noncomputable def zk_99_yi0_grpD_124 : zT 1 := @Prod.mk (zT 0) (zT 0) (0, 11, zun 40 11 4294967296) (0, 7776, zun 40 7776 4294967296)
noncomputable def zk_99_yi0_grpD_125 : zT 8 := @Prod.mk (zT 7) (zT 7) zk_99_yi0_grpD_119 (zk_99_yi0_grpD_123, (((((zk_99_yi0_grpD_121, zk_99_yi0_grpD_121), (zk_99_yi0_grpD_124, zO1)), zO3), zO4), zO5))
noncomputable def hGb_20 : zH 10 := (show zT 10 from (((((((((zk_99_yi0_grpD_79, zk_99_yi0_grpD_35), (zk_99_yi0_grpD_4, zk_99_yi0_grpD_4)), zk_99_yi0_grpD_5), zk_99_yi0_grpD_6), zk_99_yi0_grpD_84), zk_99_yi0_grpD_97), zk_99_yi0_grpD_110), zk_99_yi0_grpD_125), zO9), (454, (1000, 80000)))
noncomputable def hGb_21 : zH 10 := (show zT 10 from (((((((((zk_99_yi0_grpD_79, zk_99_yi0_grpD_36), (zk_99_yi0_grpD_4, zk_99_yi0_grpD_4)), zk_99_yi0_grpD_5), zk_99_yi0_grpD_6), zk_99_yi0_grpD_84), zk_99_yi0_grpD_97), zk_99_yi0_grpD_110), zk_99_yi0_grpD_125), zO9), (454, (1000, 80000)))
noncomputable def hGb_22 : zH 10 := (show zT 10 from (((((((((zk_99_yi0_grpD_79, zk_99_yi0_grpD_37), (zk_99_yi0_grpD_4, zk_99_yi0_grpD_4)), zk_99_yi0_grpD_5), zk_99_yi0_grpD_6), zk_99_yi0_grpD_84), zk_99_yi0_grpD_97), zk_99_yi0_grpD_110), zk_99_yi0_grpD_125), zO9), (454, (1000, 80000)))
noncomputable def hGb_23 : zH 10 := (show zT 10 from (((((((((zk_99_yi0_grpD_79, zk_99_yi0_grpD_38), (zk_99_yi0_grpD_4, zk_99_yi0_grpD_4)), zk_99_yi0_grpD_5), zk_99_yi0_grpD_6), zk_99_yi0_grpD_84), zk_99_yi0_grpD_97), zk_99_yi0_grpD_110), zk_99_yi0_grpD_125), zO9), (454, (1000, 80000)))
noncomputable def hGbf : Nat → zH 10
  | 0 => hGb_0
  | 1 => hGb_1
  | 2 => hGb_2
  | 3 => hGb_3
  | 4 => hGb_4
  | 5 => hGb_5
  | 6 => hGb_6
  | 7 => hGb_7
  | 8 => hGb_8
  | 9 => hGb_9
  | 10 => hGb_10
  | 11 => hGb_11
  | 12 => hGb_12
  | 13 => hGb_13
  | 14 => hGb_14
  | 15 => hGb_15
  | 16 => hGb_16
  | 17 => hGb_17
  | 18 => hGb_18
  | 19 => hGb_19
  | 20 => hGb_20
  | 21 => hGb_21
  | 22 => hGb_22
  | _ => hGb_23
noncomputable def zk_99_yi0_grpD_126 : zT 3 := @Prod.mk (zT 2) (zT 2) (((0, 1, 0x100000002), (3, 1, 0x4b)), ((0, 1, 0x100000000), (3, 1, 0x4d))) (((0, 1, 0x100000000), (3, 1, 0x4f)), ((0, 1, 0x100000000), (3, 1, 0x51)))
noncomputable def zk_99_yi0_grpD_127 : zT 4 := @Prod.mk (zT 3) (zT 3) ((((0, 1, 0x100000000), (16, 8, 0x5a0000000059000000005800000000570000000001000000005600000000540000000053)), ((0, 1, 0), (3, 1, 0x55))), (((0, 1, 1), (0, 1, 0)), ((0, 1, 0), (0, 1, 1)))) ((((0, 1, 1), (0, 1, 0)), ((0, 1, 0x100000000), (0, 0, 0))), zO2)
noncomputable def hGc_0 : zH 10 := (show zT 10 from (((((((((zk_99_yi0_grpD_39, ((7, 56, 0x80000000b8000000000080000000b6000000000080000000b480000000b30000000000000000000080000000b0000000000080000000ae000000000080000000ac80000000ab0000000000000000000080000000a8000000000080000000a6000000000080000000a480000000a30000000000000000000080000000a00000000000800000009e0000000000800000009c800000009b000000000000000000008000000098000000000080000000960000000000800000009480000000930000000000000000000080000000900000000000800000008e0000000000800000008c00000000460000000000000000000000000000000000000000000000000000000000000000000000000000000000000000000000000000), zk_99_yi0_grpD_2)), (zk_99_yi0_grpD_4, zk_99_yi0_grpD_4)), zk_99_yi0_grpD_5), zk_99_yi0_grpD_6), zk_99_yi0_grpD_40), ((((zk_99_yi0_grpD_41, (((0, 1, 0x100000000), (21, 12, 0x5b00000000520000000050000000004e000000004c000000004a000000004900000000480000000001000000004700000000028000000001)), ((0, 1, 0), (1, 1, 1)))), zk_99_yi0_grpD_126), zk_99_yi0_grpD_127), zO5)), zO7), zO8), zO9), (91, (0, 0)))
noncomputable def hGc_1 : zH 10 := (show zT 10 from (((((((((zk_99_yi0_grpD_39, ((7, 56, 0x80000000b8000000000080000000b6000000000080000000b480000000b30000000000000000000080000000b0000000000080000000ae000000000080000000ac80000000ab0000000000000000000080000000a8000000000080000000a6000000000080000000a480000000a30000000000000000000080000000a00000000000800000009e0000000000800000009c800000009b000000000000000000008000000098000000000080000000960000000000800000009480000000930000000000000000000080000000900000000000800000008e00000000000000000046800000008b0000000000000000000000000000000000000000000000000000000000000000000000000000000000000000000000000000), zk_99_yi0_grpD_2)), (zk_99_yi0_grpD_4, zk_99_yi0_grpD_4)), zk_99_yi0_grpD_5), zk_99_yi0_grpD_6), zk_99_yi0_grpD_40), ((((zk_99_yi0_grpD_41, (((0, 1, 0x100000000), (21, 12, 0x5b00000000520000000050000000004e000000004c000000004a000000004900000000480000000001000000004700000000038000000001)), ((0, 1, 0), (1, 1, 1)))), zk_99_yi0_grpD_126), zk_99_yi0_grpD_127), zO5)), zO7), zO8), zO9), (91, (0, 0)))
noncomputable def hGc_2 : zH 10 := (show zT 10 from (((((((((zk_99_yi0_grpD_39, ((7, 56, 0x80000000b8000000000080000000b6000000000080000000b480000000b30000000000000000000080000000b0000000000080000000ae000000000080000000ac80000000ab0000000000000000000080000000a8000000000080000000a6000000000080000000a480000000a30000000000000000000080000000a00000000000800000009e0000000000800000009c800000009b00000000000000000000800000009800000000008000000096000000000080000000948000000093000000000000000000008000000090000000000000000000460000000000800000008c800000008b0000000000000000000000000000000000000000000000000000000000000000000000000000000000000000000000000000), zk_99_yi0_grpD_2)), (zk_99_yi0_grpD_4, zk_99_yi0_grpD_4)), zk_99_yi0_grpD_5), zk_99_yi0_grpD_6), zk_99_yi0_grpD_40), ((((zk_99_yi0_grpD_41, (((0, 1, 0x100000000), (21, 12, 0x5b00000000520000000050000000004e000000004c000000004a000000004900000000480000000001000000004700000000058000000001)), ((0, 1, 0), (1, 1, 1)))), zk_99_yi0_grpD_126), zk_99_yi0_grpD_127), zO5)), zO7), zO8), zO9), (91, (0, 0)))
noncomputable def hGc_3 : zH 10 := (show zT 10 from (((((((((zk_99_yi0_grpD_39, ((7, 56, 0x80000000b8000000000080000000b6000000000080000000b480000000b30000000000000000000080000000b0000000000080000000ae000000000080000000ac80000000ab0000000000000000000080000000a8000000000080000000a6000000000080000000a480000000a30000000000000000000080000000a00000000000800000009e0000000000800000009c800000009b000000000000000000008000000098000000000080000000960000000000800000009480000000930000000000000000000000000000460000000000800000008e0000000000800000008c800000008b0000000000000000000000000000000000000000000000000000000000000000000000000000000000000000000000000000), zk_99_yi0_grpD_2)), (zk_99_yi0_grpD_4, zk_99_yi0_grpD_4)), zk_99_yi0_grpD_5), zk_99_yi0_grpD_6), zk_99_yi0_grpD_40), ((((zk_99_yi0_grpD_41, (((0, 1, 0x100000000), (21, 12, 0x5b00000000520000000050000000004e000000004c000000004a000000004900000000480000000001000000004700000000078000000001)), ((0, 1, 0), (1, 1, 1)))), zk_99_yi0_grpD_126), zk_99_yi0_grpD_127), zO5)), zO7), zO8), zO9), (91, (0, 0)))
noncomputable def zk_99_yi0_grpD_128 : zT 2 := @Prod.mk (zT 1) (zT 1) ((3, 2, 0x5f000000005e), (0, 2, 0x1000000000100000000)) ((0, 2, 0x1000000000100000000), (3, 2, 0x620000000061))
noncomputable def zk_99_yi0_grpD_129 : zT 3 := @Prod.mk (zT 2) (zT 2) (zk_99_yi0_grpD_46, ((3, 2, 0x650000000064), (0, 2, 0x1000000000100000000))) (((0, 2, 0x1000000000100000000), (3, 2, 0x680000000067)), zk_99_yi0_grpD_46)
noncomputable def hGc_4 : zH 10 := (show zT 10 from (((((((((zk_99_yi0_grpD_43, ((7, 56, 0x80000000b8000000000080000000b6000000000080000000b480000000b30000000000000000000080000000b0000000000080000000ae000000000080000000ac80000000ab0000000000000000000080000000a8000000000080000000a6000000000080000000a480000000a30000000000000000000080000000a00000000000800000009e0000000000800000009c800000009b000000000000000000008000000098000000000080000000960000000000800000009400000000590000000000000000000080000000900000000000800000008e0000000000800000008c800000008b0000000000000000000000000000000000000000000000000000000000000000000000000000000000000000000000000000), zk_99_yi0_grpD_2)), (zk_99_yi0_grpD_4, zk_99_yi0_grpD_4)), zk_99_yi0_grpD_5), zk_99_yi0_grpD_6), zk_99_yi0_grpD_44), ((zk_99_yi0_grpD_45, (zk_99_yi0_grpD_47, ((((21, 12, 0x730000000069000000006600000000630000000060000000005d000000005c000000005b0000000001000000005a00000000028000000001), (0, 2, 0xffffffff0000000000)), ((1, 2, 0x10000000000), (0, 2, 0x1000000020100000002))), zk_99_yi0_grpD_128))), ((zk_99_yi0_grpD_129, ((((16, 8, 0x7200000000710000000070000000006f0000000001000000006e000000006b000000006a), (0, 2, 0x10000000001)), ((3, 2, 0x6d000000006c), (0, 2, 0))), (((0, 2, 0), (0, 2, 0)), ((0, 2, 0), (0, 2, 2))))), (((((0, 2, 1), (0, 2, 1)), ((0, 1, 0x100000000), (0, 0, 0))), zO2), zO3)))), zO7), zO8), zO9), (115, (0, 0)))
noncomputable def zk_99_yi0_grpD_130 : zT 5 := @Prod.mk (zT 4) (zT 4) (zk_99_yi0_grpD_129, ((((16, 8, 0x7200000000710000000070000000006f0000000002000000006e000000006b000000006a), (0, 2, 0)), ((3, 2, 0x6d000000006c), (0, 2, 2))), (((0, 2, 0x10000000001), (0, 2, 0x10000000000)), ((0, 2, 0x10000000000), (0, 2, 0x10000000001))))) (((((0, 2, 0x10000000001), (0, 2, 0)), ((0, 2, 0x1000000000100000000), (0, 0, 0))), zO2), zO3)
noncomputable def hGc_5 : zH 10 := (show zT 10 from (((((((((zk_99_yi0_grpD_43, ((7, 56, 0x80000000b8000000000080000000b6000000000080000000b480000000b30000000000000000000080000000b0000000000080000000ae000000000080000000ac80000000ab0000000000000000000080000000a8000000000080000000a6000000000080000000a480000000a30000000000000000000080000000a00000000000800000009e0000000000800000009c800000009b000000000000000000008000000098000000000080000000960000000000000000005980000000930000000000000000000080000000900000000000800000008e0000000000800000008c800000008b0000000000000000000000000000000000000000000000000000000000000000000000000000000000000000000000000000), zk_99_yi0_grpD_2)), (zk_99_yi0_grpD_4, zk_99_yi0_grpD_4)), zk_99_yi0_grpD_5), zk_99_yi0_grpD_6), zk_99_yi0_grpD_44), ((zk_99_yi0_grpD_45, (zk_99_yi0_grpD_47, ((((21, 12, 0x730000000069000000006600000000630000000060000000005d000000005c000000005b0000000002000000005a00000000038000000001), (0, 2, 0x10000000000)), ((1, 2, 0x10000000001), (0, 2, 0x1000000020100000002))), zk_99_yi0_grpD_128))), zk_99_yi0_grpD_130)), zO7), zO8), zO9), (115, (0, 0)))
noncomputable def hGc_6 : zH 10 := (show zT 10 from (((((((((zk_99_yi0_grpD_43, ((7, 56, 0x80000000b8000000000080000000b6000000000080000000b480000000b30000000000000000000080000000b0000000000080000000ae000000000080000000ac80000000ab0000000000000000000080000000a8000000000080000000a6000000000080000000a480000000a30000000000000000000080000000a00000000000800000009e0000000000800000009c800000009b000000000000000000008000000098000000000000000000590000000000800000009480000000930000000000000000000080000000900000000000800000008e0000000000800000008c800000008b0000000000000000000000000000000000000000000000000000000000000000000000000000000000000000000000000000), zk_99_yi0_grpD_2)), (zk_99_yi0_grpD_4, zk_99_yi0_grpD_4)), zk_99_yi0_grpD_5), zk_99_yi0_grpD_6), zk_99_yi0_grpD_44), ((zk_99_yi0_grpD_45, (zk_99_yi0_grpD_47, ((((21, 12, 0x730000000069000000006600000000630000000060000000005d000000005c000000005b0000000002000000005a00000000058000000001), (0, 2, 0x10000000000)), ((1, 2, 0x10000000001), (0, 2, 0x1000000020100000002))), zk_99_yi0_grpD_128))), zk_99_yi0_grpD_130)), zO7), zO8), zO9), (115, (0, 0)))
noncomputable def hGc_7 : zH 10 := (show zT 10 from (((((((((zk_99_yi0_grpD_43, ((7, 56, 0x80000000b8000000000080000000b6000000000080000000b480000000b30000000000000000000080000000b0000000000080000000ae000000000080000000ac80000000ab0000000000000000000080000000a8000000000080000000a6000000000080000000a480000000a30000000000000000000080000000a00000000000800000009e0000000000800000009c800000009b000000000000000000000000000059000000000080000000960000000000800000009480000000930000000000000000000080000000900000000000800000008e0000000000800000008c800000008b0000000000000000000000000000000000000000000000000000000000000000000000000000000000000000000000000000), zk_99_yi0_grpD_2)), (zk_99_yi0_grpD_4, zk_99_yi0_grpD_4)), zk_99_yi0_grpD_5), zk_99_yi0_grpD_6), zk_99_yi0_grpD_44), ((zk_99_yi0_grpD_45, (zk_99_yi0_grpD_47, ((((21, 12, 0x730000000069000000006600000000630000000060000000005d000000005c000000005b0000000002000000005a00000000078000000001), (0, 2, 0x10000000000)), ((1, 2, 0x10000000001), (0, 2, 0x1000000020100000002))), zk_99_yi0_grpD_128))), zk_99_yi0_grpD_130)), zO7), zO8), zO9), (115, (0, 0)))
noncomputable def zk_99_yi0_grpD_131 : zT 1 := @Prod.mk (zT 0) (zT 0) (3, 3, 0x7600000000750000000074) (0, 3, 0x10000000001000000000100000000)
noncomputable def zk_99_yi0_grpD_132 : zT 2 := @Prod.mk (zT 1) (zT 1) zk_99_yi0_grpD_51 ((3, 3, 0x7a00000000790000000078), (0, 3, 0x10000000001000000000100000000))
noncomputable def zk_99_yi0_grpD_133 : zT 3 := @Prod.mk (zT 2) (zT 2) (zk_99_yi0_grpD_51, ((3, 3, 0x7e000000007d000000007c), (0, 3, 0x10000000001000000000100000000))) (zk_99_yi0_grpD_51, ((3, 3, 0x8200000000810000000080), (0, 3, 0x10000000001000000000100000000)))
noncomputable def hGc_8 : zH 10 := (show zT 10 from (((((((((zk_99_yi0_grpD_48, ((7, 56, 0x80000000b8000000000080000000b6000000000080000000b480000000b30000000000000000000080000000b0000000000080000000ae000000000080000000ac80000000ab0000000000000000000080000000a8000000000080000000a6000000000080000000a480000000a30000000000000000000080000000a00000000000800000009e0000000000800000009c000000006f000000000000000000008000000098000000000080000000960000000000800000009480000000930000000000000000000080000000900000000000800000008e0000000000800000008c800000008b0000000000000000000000000000000000000000000000000000000000000000000000000000000000000000000000000000), zk_99_yi0_grpD_2)), (zk_99_yi0_grpD_4, zk_99_yi0_grpD_4)), zk_99_yi0_grpD_5), zk_99_yi0_grpD_6), zk_99_yi0_grpD_49), (zk_99_yi0_grpD_50, ((zk_99_yi0_grpD_52, (zk_99_yi0_grpD_53, (zk_99_yi0_grpD_54, ((21, 12, 0x8e0000000083000000007f000000007b00000000770000000073000000007200000000710000000002000000007000000000028000000001), (0, 3, 0xffffffff00000000010000000000))))), (((((1, 3, 0x100000000000000000001), (0, 3, 0x10000000201000000030100000002)), zk_99_yi0_grpD_131), zk_99_yi0_grpD_132), zk_99_yi0_grpD_133)))), ((((((zk_99_yi0_grpD_51, ((16, 8, 0x8d000000008c000000008b000000008a0000000002000000008900000000850000000084), (0, 3, 0x100000000000000000001))), (((3, 3, 0x8800000000870000000086), (0, 3, 1)), ((0, 3, 0x10000000002), (0, 3, 1)))), ((((0, 3, 0x10000000000), (0, 3, 0x10000000000)), ((0, 3, 0x10000000002), (0, 3, 0x10000000001))), (((0, 3, 1), (0, 2, 0x1000000000100000000)), zO1))), zO4), zO5), zO6)), zO8), zO9), (142, (0, 0)))
noncomputable def hGc_9 : zH 10 := (show zT 10 from (((((((((zk_99_yi0_grpD_48, ((7, 56, 0x80000000b8000000000080000000b6000000000080000000b480000000b30000000000000000000080000000b0000000000080000000ae000000000080000000ac80000000ab0000000000000000000080000000a8000000000080000000a6000000000080000000a480000000a30000000000000000000080000000a00000000000800000009e0000000000000000006f800000009b000000000000000000008000000098000000000080000000960000000000800000009480000000930000000000000000000080000000900000000000800000008e0000000000800000008c800000008b0000000000000000000000000000000000000000000000000000000000000000000000000000000000000000000000000000), zk_99_yi0_grpD_2)), (zk_99_yi0_grpD_4, zk_99_yi0_grpD_4)), zk_99_yi0_grpD_5), zk_99_yi0_grpD_6), zk_99_yi0_grpD_49), (zk_99_yi0_grpD_50, ((zk_99_yi0_grpD_52, (zk_99_yi0_grpD_53, (zk_99_yi0_grpD_54, ((21, 12, 0x8e0000000083000000007f000000007b00000000770000000073000000007200000000710000000002000000007000000000038000000001), (0, 3, 0xffffffff00000000010000000000))))), (((((1, 3, 0x100000000010000000000), (0, 3, 0x10000000201000000030100000002)), zk_99_yi0_grpD_131), zk_99_yi0_grpD_132), zk_99_yi0_grpD_133)))), ((((((zk_99_yi0_grpD_51, ((16, 8, 0x8d000000008c000000008b000000008a0000000001000000008900000000850000000084), (0, 3, 0x100000000010000000001))), (((3, 3, 0x8800000000870000000086), (0, 3, 0)), ((0, 3, 0), (0, 3, 0)))), ((((0, 3, 0), (0, 3, 0)), ((0, 3, 3), (0, 3, 2))), (((0, 3, 1), (0, 1, 0x100000000)), zO1))), zO4), zO5), zO6)), zO8), zO9), (142, (0, 0)))
noncomputable def zk_99_yi0_grpD_134 : zT 4 := @Prod.mk (zT 3) (zT 3) ((((1, 3, 0x100000000010000000001), (0, 3, 0x10000000201000000030100000002)), zk_99_yi0_grpD_131), zk_99_yi0_grpD_132) zk_99_yi0_grpD_133
noncomputable def zk_99_yi0_grpD_135 : zT 7 := @Prod.mk (zT 6) (zT 6) (((((zk_99_yi0_grpD_51, ((16, 8, 0x8d000000008c000000008b000000008a0000000003000000008900000000850000000084), (0, 3, 0))), (((3, 3, 0x8800000000870000000086), (0, 3, 3)), ((0, 3, 0x10000000002), (0, 3, 0x100000000010000000001)))), ((((0, 3, 0x200000000010000000000), (0, 3, 0x200000000010000000000)), ((0, 3, 0x100000000010000000001), (0, 3, 0x100000000010000000001))), (((0, 3, 0), (0, 3, 0x10000000001000000000100000000)), zO1))), zO4), zO5) zO6
noncomputable def hGc_10 : zH 10 := (show zT 10 from (((((((((zk_99_yi0_grpD_48, ((7, 56, 0x80000000b8000000000080000000b6000000000080000000b480000000b30000000000000000000080000000b0000000000080000000ae000000000080000000ac80000000ab0000000000000000000080000000a8000000000080000000a6000000000080000000a480000000a30000000000000000000080000000a00000000000000000006f0000000000800000009c800000009b000000000000000000008000000098000000000080000000960000000000800000009480000000930000000000000000000080000000900000000000800000008e0000000000800000008c800000008b0000000000000000000000000000000000000000000000000000000000000000000000000000000000000000000000000000), zk_99_yi0_grpD_2)), (zk_99_yi0_grpD_4, zk_99_yi0_grpD_4)), zk_99_yi0_grpD_5), zk_99_yi0_grpD_6), zk_99_yi0_grpD_49), (zk_99_yi0_grpD_50, ((zk_99_yi0_grpD_52, (zk_99_yi0_grpD_53, (zk_99_yi0_grpD_54, ((21, 12, 0x8e0000000083000000007f000000007b00000000770000000073000000007200000000710000000003000000007000000000058000000001), (0, 3, 0x200000000010000000000))))), zk_99_yi0_grpD_134))), zk_99_yi0_grpD_135), zO8), zO9), (142, (0, 0)))
noncomputable def hGc_11 : zH 10 := (show zT 10 from (((((((((zk_99_yi0_grpD_48, ((7, 56, 0x80000000b8000000000080000000b6000000000080000000b480000000b30000000000000000000080000000b0000000000080000000ae000000000080000000ac80000000ab0000000000000000000080000000a8000000000080000000a6000000000080000000a480000000a300000000000000000000000000006f0000000000800000009e0000000000800000009c800000009b000000000000000000008000000098000000000080000000960000000000800000009480000000930000000000000000000080000000900000000000800000008e0000000000800000008c800000008b0000000000000000000000000000000000000000000000000000000000000000000000000000000000000000000000000000), zk_99_yi0_grpD_2)), (zk_99_yi0_grpD_4, zk_99_yi0_grpD_4)), zk_99_yi0_grpD_5), zk_99_yi0_grpD_6), zk_99_yi0_grpD_49), (zk_99_yi0_grpD_50, ((zk_99_yi0_grpD_52, (zk_99_yi0_grpD_53, (zk_99_yi0_grpD_54, ((21, 12, 0x8e0000000083000000007f000000007b00000000770000000073000000007200000000710000000003000000007000000000078000000001), (0, 3, 0x200000000010000000000))))), zk_99_yi0_grpD_134))), zk_99_yi0_grpD_135), zO8), zO9), (142, (0, 0)))
noncomputable def zk_99_yi0_grpD_136 : zT 2 := @Prod.mk (zT 1) (zT 1) ((3, 5, 0xaa00000000a900000000a800000000a700000000a6), (0, 5, 0x1000000000100000000010000000001000000000100000000)) zk_99_yi0_grpD_7
noncomputable def zk_99_yi0_grpD_137 : zT 3 := @Prod.mk (zT 2) (zT 2) (zk_99_yi0_grpD_7, ((3, 5, 0xb000000000af00000000ae00000000ad00000000ac), (0, 5, 0x1000000000100000000010000000001000000000100000000))) (zk_99_yi0_grpD_7, zk_99_yi0_grpD_7)
noncomputable def zk_99_yi0_grpD_138 : zT 3 := @Prod.mk (zT 2) (zT 2) (((3, 5, 0xb600000000b500000000b400000000b300000000b2), (0, 5, 0x1000000000100000000010000000001000000000100000000)), zk_99_yi0_grpD_7) (zk_99_yi0_grpD_7, ((3, 5, 0xbc00000000bb00000000ba00000000b900000000b8), (0, 5, 0x1000000000100000000010000000001000000000100000000)))
noncomputable def hGc_12 : zH 10 := (show zT 10 from (((((((((zk_99_yi0_grpD_56, ((7, 56, 0x80000000b8000000000080000000b6000000000080000000b480000000b30000000000000000000080000000b0000000000080000000ae000000000080000000ac80000000ab0000000000000000000080000000a8000000000080000000a6000000000080000000a400000000a10000000000000000000080000000a00000000000800000009e0000000000800000009c800000009b000000000000000000008000000098000000000080000000960000000000800000009480000000930000000000000000000080000000900000000000800000008e0000000000800000008c800000008b0000000000000000000000000000000000000000000000000000000000000000000000000000000000000000000000000000), zk_99_yi0_grpD_2)), (zk_99_yi0_grpD_4, zk_99_yi0_grpD_4)), zk_99_yi0_grpD_5), zk_99_yi0_grpD_6), zk_99_yi0_grpD_58), zk_99_yi0_grpD_60), ((zk_99_yi0_grpD_61, ((((((21, 12, 0xca00000000bd00000000b700000000b100000000ab00000000a500000000a400000000a3000000000200000000a200000000028000000001), (0, 5, 0xffffffff00ffffffff00ffffffff00000000010000000000)), ((1, 5, 0x10000000000000000000000000000010000000000), (0, 5, 0x1000000020100000004010000000301000000040100000002))), zk_99_yi0_grpD_136), zk_99_yi0_grpD_137), (zk_99_yi0_grpD_138, ((zk_99_yi0_grpD_7, zk_99_yi0_grpD_7), (((16, 8, 0xc900000000c800000000c700000000c6000000000100000000c500000000bf00000000be), (0, 5, 0x20000000002000000000200000000020000000002)), ((3, 5, 0xc400000000c300000000c200000000c100000000c0), (0, 4, 0))))))), (((((((0, 4, 0), (0, 4, 0)), ((0, 4, 0), (0, 4, 0))), (((0, 5, 0), (0, 5, 0)), ((0, 5, 5), (0, 5, 2)))), ((((0, 5, 3), (0, 1, 0x100000000)), zO1), zO2)), zO4), zO5))), zO8), zO9), (202, (0, 0)))
noncomputable def hGc_13 : zH 10 := (show zT 10 from (((((((((zk_99_yi0_grpD_56, ((7, 56, 0x80000000b8000000000080000000b6000000000080000000b480000000b30000000000000000000080000000b0000000000080000000ae000000000080000000ac80000000ab0000000000000000000080000000a8000000000080000000a6000000000000000000a180000000a30000000000000000000080000000a00000000000800000009e0000000000800000009c800000009b000000000000000000008000000098000000000080000000960000000000800000009480000000930000000000000000000080000000900000000000800000008e0000000000800000008c800000008b0000000000000000000000000000000000000000000000000000000000000000000000000000000000000000000000000000), zk_99_yi0_grpD_2)), (zk_99_yi0_grpD_4, zk_99_yi0_grpD_4)), zk_99_yi0_grpD_5), zk_99_yi0_grpD_6), zk_99_yi0_grpD_58), zk_99_yi0_grpD_60), ((zk_99_yi0_grpD_61, ((((((21, 12, 0xca00000000bd00000000b700000000b100000000ab00000000a500000000a400000000a3000000000400000000a200000000038000000001), (0, 5, 0xffffffff0000000003000000000200000000010000000000)), ((1, 5, 0x10000000001000000000100000000000000000001), (0, 5, 0x1000000020100000004010000000301000000040100000002))), zk_99_yi0_grpD_136), zk_99_yi0_grpD_137), (zk_99_yi0_grpD_138, ((zk_99_yi0_grpD_7, zk_99_yi0_grpD_7), (((16, 8, 0xc900000000c800000000c700000000c6000000000300000000c500000000bf00000000be), (0, 5, 0x10000000000000000000100000000000000000001)), ((3, 5, 0xc400000000c300000000c200000000c100000000c0), (0, 4, 1))))))), (((((((0, 4, 0x10000000003), (0, 4, 1)), ((0, 4, 0x100000000010000000002), (0, 4, 1))), (((0, 5, 0x2000000000000000000010000000000), (0, 5, 0x300000000010000000000)), ((0, 5, 0x100000000010000000003), (0, 5, 0x100000000010000000002)))), ((((0, 5, 1), (0, 3, 0x10000000001000000000100000000)), zO1), zO2)), zO4), zO5))), zO8), zO9), (202, (0, 0)))
noncomputable def zk_99_yi0_grpD_139 : zT 1 := @Prod.mk (zT 0) (zT 0) (1, 5, 0x10000000001000000000100000000010000000001) (0, 5, 0x1000000020100000004010000000301000000040100000002)
noncomputable def zk_99_yi0_grpD_140 : zT 4 := @Prod.mk (zT 3) (zT 3) zk_99_yi0_grpD_138 ((zk_99_yi0_grpD_7, zk_99_yi0_grpD_7), (((16, 8, 0xc900000000c800000000c700000000c6000000000500000000c500000000bf00000000be), (0, 5, 0)), ((3, 5, 0xc400000000c300000000c200000000c100000000c0), (0, 4, 4))))
noncomputable def zk_99_yi0_grpD_141 : zT 6 := @Prod.mk (zT 5) (zT 5) ((((((0, 4, 0x10000000003), (0, 4, 0x20000000002)), ((0, 4, 0x100000000010000000002), (0, 4, 0x1000000000100000000010000000001))), (((0, 5, 0x40000000003000000000200000000010000000000), (0, 5, 0x40000000003000000000200000000010000000000)), ((0, 5, 0x10000000001000000000100000000010000000001), (0, 5, 0x10000000001000000000100000000010000000001)))), ((((0, 5, 0), (0, 5, 0x1000000000100000000010000000001000000000100000000)), zO1), zO2)), zO4) zO5
noncomputable def hGc_14 : zH 10 := (show zT 10 from (((((((((zk_99_yi0_grpD_56, ((7, 56, 0x80000000b8000000000080000000b6000000000080000000b480000000b30000000000000000000080000000b0000000000080000000ae000000000080000000ac80000000ab0000000000000000000080000000a8000000000000000000a1000000000080000000a480000000a30000000000000000000080000000a00000000000800000009e0000000000800000009c800000009b000000000000000000008000000098000000000080000000960000000000800000009480000000930000000000000000000080000000900000000000800000008e0000000000800000008c800000008b0000000000000000000000000000000000000000000000000000000000000000000000000000000000000000000000000000), zk_99_yi0_grpD_2)), (zk_99_yi0_grpD_4, zk_99_yi0_grpD_4)), zk_99_yi0_grpD_5), zk_99_yi0_grpD_6), zk_99_yi0_grpD_58), zk_99_yi0_grpD_60), ((zk_99_yi0_grpD_61, ((((((21, 12, 0xca00000000bd00000000b700000000b100000000ab00000000a500000000a400000000a3000000000500000000a200000000058000000001), (0, 5, 0x40000000003000000000200000000010000000000)), zk_99_yi0_grpD_139), zk_99_yi0_grpD_136), zk_99_yi0_grpD_137), zk_99_yi0_grpD_140)), zk_99_yi0_grpD_141)), zO8), zO9), (202, (0, 0)))
noncomputable def hGc_15 : zH 10 := (show zT 10 from (((((((((zk_99_yi0_grpD_56, ((7, 56, 0x80000000b8000000000080000000b6000000000080000000b480000000b30000000000000000000080000000b0000000000080000000ae000000000080000000ac80000000ab0000000000000000000000000000a1000000000080000000a6000000000080000000a480000000a30000000000000000000080000000a00000000000800000009e0000000000800000009c800000009b000000000000000000008000000098000000000080000000960000000000800000009480000000930000000000000000000080000000900000000000800000008e0000000000800000008c800000008b0000000000000000000000000000000000000000000000000000000000000000000000000000000000000000000000000000), zk_99_yi0_grpD_2)), (zk_99_yi0_grpD_4, zk_99_yi0_grpD_4)), zk_99_yi0_grpD_5), zk_99_yi0_grpD_6), zk_99_yi0_grpD_58), zk_99_yi0_grpD_60), ((zk_99_yi0_grpD_61, ((((((21, 12, 0xca00000000bd00000000b700000000b100000000ab00000000a500000000a400000000a3000000000500000000a200000000078000000001), (0, 5, 0x40000000003000000000200000000010000000000)), zk_99_yi0_grpD_139), zk_99_yi0_grpD_136), zk_99_yi0_grpD_137), zk_99_yi0_grpD_140)), zk_99_yi0_grpD_141)), zO8), zO9), (202, (0, 0)))
noncomputable def zk_99_yi0_grpD_142 : zC := (0, 7, 0x100000002010000000501000000060100000007010000000601000000050100000002)
noncomputable def zk_99_yi0_grpD_143 : zT 2 := @Prod.mk (zT 1) (zT 1) ((3, 7, 0xfc00000000fb00000000fa00000000f900000000f800000000f700000000f6), zk_99_yi0_grpD_75) (zk_99_yi0_grpD_75, zk_99_yi0_grpD_75)
noncomputable def zk_99_yi0_grpD_144 : zT 3 := @Prod.mk (zT 2) (zT 2) zk_99_yi0_grpD_76 (((3, 7, 0x104000000010300000001020000000101000000010000000000ff00000000fe), zk_99_yi0_grpD_75), (zk_99_yi0_grpD_75, zk_99_yi0_grpD_75))
noncomputable def zk_99_yi0_grpD_145 : zT 4 := @Prod.mk (zT 3) (zT 3) (zk_99_yi0_grpD_76, (((3, 7, 0x10c000000010b000000010a0000000109000000010800000001070000000106), zk_99_yi0_grpD_75), (zk_99_yi0_grpD_75, zk_99_yi0_grpD_75))) (zk_99_yi0_grpD_76, (((3, 7, 0x1140000000113000000011200000001110000000110000000010f000000010e), zk_99_yi0_grpD_75), (zk_99_yi0_grpD_75, zk_99_yi0_grpD_75)))
noncomputable def zk_99_yi0_grpD_146 : zC := (3, 7, 0x11e000000011d000000011c000000011b000000011a00000001190000000118)
noncomputable def hGc_16 : zH 10 := (show zT 10 from (((((((((zk_99_yi0_grpD_62, ((7, 56, 0x80000000b8000000000080000000b6000000000080000000b480000000b30000000000000000000080000000b0000000000080000000ae000000000080000000ac00000000f10000000000000000000080000000a8000000000080000000a6000000000080000000a480000000a30000000000000000000080000000a00000000000800000009e0000000000800000009c800000009b000000000000000000008000000098000000000080000000960000000000800000009480000000930000000000000000000080000000900000000000800000008e0000000000800000008c800000008b0000000000000000000000000000000000000000000000000000000000000000000000000000000000000000000000000000), zk_99_yi0_grpD_2)), (zk_99_yi0_grpD_4, zk_99_yi0_grpD_4)), zk_99_yi0_grpD_5), zk_99_yi0_grpD_6), zk_99_yi0_grpD_64), zk_99_yi0_grpD_69), (zk_99_yi0_grpD_72, (zk_99_yi0_grpD_74, (zk_99_yi0_grpD_77, (((((21, 12, 0x1240000000115000000010d000000010500000000fd00000000f500000000f400000000f3000000000300000000f200000000028000000001), (0, 7, 0xffffffff00ffffffff00ffffffff00ffffffff000000000200000000010000000000)), ((1, 7, 0x1000000000000000000000000000001000000000000000000000000000001), zk_99_yi0_grpD_142)), zk_99_yi0_grpD_143), zk_99_yi0_grpD_144))))), ((((zk_99_yi0_grpD_145, ((zk_99_yi0_grpD_76, (((16, 8, 0x1230000000122000000012100000001200000000002000000011f00000001170000000116), (0, 7, 0x2000000000100000000020000000002000000000200000000010000000002)), (zk_99_yi0_grpD_146, (0, 5, 1)))), ((((0, 5, 0x10000000002), (0, 5, 1)), ((0, 5, 1), (0, 5, 1))), (((0, 5, 0x10000000002), (0, 5, 1)), ((0, 7, 0x100000000000000000000000000000000000000010000000000), (0, 7, 0x10000000000)))))), ((((((0, 7, 0x20000000005), (0, 7, 0x10000000002)), ((0, 7, 0x10000000003), (0, 2, 0x1000000000100000000))), zO2), zO3), zO4)), zO6), zO7)), zO9), (292, (0, 0)))
noncomputable def zk_99_yi0_grpD_147 : zC := (16, 8, 0x1230000000122000000012100000001200000000003000000011f00000001170000000116)
noncomputable def hGc_17 : zH 10 := (show zT 10 from (((((((((zk_99_yi0_grpD_62, ((7, 56, 0x80000000b8000000000080000000b6000000000080000000b480000000b30000000000000000000080000000b0000000000080000000ae000000000000000000f180000000ab0000000000000000000080000000a8000000000080000000a6000000000080000000a480000000a30000000000000000000080000000a00000000000800000009e0000000000800000009c800000009b000000000000000000008000000098000000000080000000960000000000800000009480000000930000000000000000000080000000900000000000800000008e0000000000800000008c800000008b0000000000000000000000000000000000000000000000000000000000000000000000000000000000000000000000000000), zk_99_yi0_grpD_2)), (zk_99_yi0_grpD_4, zk_99_yi0_grpD_4)), zk_99_yi0_grpD_5), zk_99_yi0_grpD_6), zk_99_yi0_grpD_64), zk_99_yi0_grpD_69), (zk_99_yi0_grpD_72, (zk_99_yi0_grpD_74, (zk_99_yi0_grpD_77, (((((21, 12, 0x1240000000115000000010d000000010500000000fd00000000f500000000f400000000f3000000000500000000f200000000038000000001), (0, 7, 0xffffffff00ffffffff00000000040000000003000000000200000000010000000000)), ((1, 7, 0x1000000000100000000010000000000000000000000000000010000000001), zk_99_yi0_grpD_142)), zk_99_yi0_grpD_143), zk_99_yi0_grpD_144))))), ((((zk_99_yi0_grpD_145, ((zk_99_yi0_grpD_76, ((zk_99_yi0_grpD_147, (0, 7, 0x1000000000100000000010000000000000000000100000000010000000001)), (zk_99_yi0_grpD_146, (0, 5, 2)))), ((((0, 5, 0x10000000001), (0, 5, 0x10000000001)), ((0, 5, 0x100000000010000000003), (0, 5, 2))), (((0, 5, 2), (0, 5, 0x10000000001)), ((0, 7, 0x1000000000000000000000000000002000000000100000000010000000000), (0, 7, 0x300000000010000000000)))))), ((((((0, 7, 0x100000000030000000003), (0, 7, 0x100000000020000000002)), ((0, 7, 0x10000000001), (0, 3, 0x10000000001000000000100000000))), zO2), zO3), zO4)), zO6), zO7)), zO9), (292, (0, 0)))
noncomputable def hGc_18 : zH 10 := (show zT 10 from (((((((((zk_99_yi0_grpD_62, ((7, 56, 0x80000000b8000000000080000000b6000000000080000000b480000000b30000000000000000000080000000b0000000000000000000f1000000000080000000ac80000000ab0000000000000000000080000000a8000000000080000000a6000000000080000000a480000000a30000000000000000000080000000a00000000000800000009e0000000000800000009c800000009b000000000000000000008000000098000000000080000000960000000000800000009480000000930000000000000000000080000000900000000000800000008e0000000000800000008c800000008b0000000000000000000000000000000000000000000000000000000000000000000000000000000000000000000000000000), zk_99_yi0_grpD_2)), (zk_99_yi0_grpD_4, zk_99_yi0_grpD_4)), zk_99_yi0_grpD_5), zk_99_yi0_grpD_6), zk_99_yi0_grpD_64), zk_99_yi0_grpD_69), (zk_99_yi0_grpD_72, (zk_99_yi0_grpD_74, (zk_99_yi0_grpD_77, (((((21, 12, 0x1240000000115000000010d000000010500000000fd00000000f500000000f400000000f3000000000600000000f200000000058000000001), (0, 7, 0xffffffff000000000500000000040000000003000000000200000000010000000000)), ((1, 7, 0x1000000000100000000010000000001000000000100000000010000000000), zk_99_yi0_grpD_142)), zk_99_yi0_grpD_143), zk_99_yi0_grpD_144))))), ((((zk_99_yi0_grpD_145, ((zk_99_yi0_grpD_76, ((zk_99_yi0_grpD_147, (0, 7, 0x1000000000100000000000000000001000000000000000000010000000001)), (zk_99_yi0_grpD_146, (0, 5, 0)))), ((((0, 5, 0), (0, 5, 0x20000000003)), ((0, 5, 0), (0, 5, 0x100000000020000000002))), (((0, 5, 0), (0, 5, 0)), ((0, 7, 0x20000000000000000000100000000000000000000), (0, 7, 0x400000000020000000000)))))), ((((((0, 7, 0x100000000010000000005), (0, 7, 0x100000000010000000004)), ((0, 7, 1), (0, 3, 0x10000000001000000000100000000))), zO2), zO3), zO4)), zO6), zO7)), zO9), (292, (0, 0)))
noncomputable def zk_99_yi0_grpD_148 : zC := (0, 7, 0x1000000000100000000010000000001000000000100000000010000000001)
noncomputable def hGc_19 : zH 10 := (show zT 10 from (((((((((zk_99_yi0_grpD_62, ((7, 56, 0x80000000b8000000000080000000b6000000000080000000b480000000b30000000000000000000000000000f1000000000080000000ae000000000080000000ac80000000ab0000000000000000000080000000a8000000000080000000a6000000000080000000a480000000a30000000000000000000080000000a00000000000800000009e0000000000800000009c800000009b000000000000000000008000000098000000000080000000960000000000800000009480000000930000000000000000000080000000900000000000800000008e0000000000800000008c800000008b0000000000000000000000000000000000000000000000000000000000000000000000000000000000000000000000000000), zk_99_yi0_grpD_2)), (zk_99_yi0_grpD_4, zk_99_yi0_grpD_4)), zk_99_yi0_grpD_5), zk_99_yi0_grpD_6), zk_99_yi0_grpD_64), zk_99_yi0_grpD_69), (zk_99_yi0_grpD_72, (zk_99_yi0_grpD_74, (zk_99_yi0_grpD_77, (((((21, 12, 0x1240000000115000000010d000000010500000000fd00000000f500000000f400000000f3000000000700000000f200000000078000000001), zk_99_yi0_grpD_120), ((1, 7, 0x1000000000100000000010000000001000000000100000000010000000001), zk_99_yi0_grpD_142)), zk_99_yi0_grpD_143), zk_99_yi0_grpD_144))))), ((((zk_99_yi0_grpD_145, ((zk_99_yi0_grpD_76, (((16, 8, 0x1230000000122000000012100000001200000000007000000011f00000001170000000116), (0, 7, 0)), (zk_99_yi0_grpD_146, (0, 5, 5)))), ((((0, 5, 0x10000000004), (0, 5, 0x20000000003)), ((0, 5, 0x100000000010000000003), (0, 5, 0x100000000020000000002))), (((0, 5, 0x1000000000100000000010000000002), (0, 5, 0x10000000001000000000100000000010000000001)), (zk_99_yi0_grpD_120, zk_99_yi0_grpD_120))))), (((((zk_99_yi0_grpD_148, zk_99_yi0_grpD_148), ((0, 7, 0), zk_99_yi0_grpD_75)), zO2), zO3), zO4)), zO6), zO7)), zO9), (292, (0, 0)))
noncomputable def zk_99_yi0_grpD_149 : zC := (0, 11, 0x1000000020100000006010000000a0100000006010000000b01000000110100000006010000000b010000000a01000000060100000002)
noncomputable def zk_99_yi0_grpD_150 : zT 1 := @Prod.mk (zT 0) (zT 0) (3, 11, 0x1d600000001d500000001d400000001d300000001d200000001d100000001d000000001cf00000001ce00000001cd00000001cc) (0, 11, zun 40 11 4294967296)
noncomputable def zk_99_yi0_grpD_151 : zT 4 := @Prod.mk (zT 3) (zT 3) ((zk_99_yi0_grpD_121, zk_99_yi0_grpD_121), (zk_99_yi0_grpD_121, ((3, 11, 0x1e200000001e100000001e000000001df00000001de00000001dd00000001dc00000001db00000001da00000001d900000001d8), (0, 11, zun 40 11 4294967296)))) zk_99_yi0_grpD_122
noncomputable def zk_99_yi0_grpD_152 : zT 4 := @Prod.mk (zT 3) (zT 3) ((zk_99_yi0_grpD_121, ((3, 11, 0x1ee00000001ed00000001ec00000001eb00000001ea00000001e900000001e800000001e700000001e600000001e500000001e4), (0, 11, zun 40 11 4294967296))), (zk_99_yi0_grpD_121, zk_99_yi0_grpD_121)) ((zk_99_yi0_grpD_121, zk_99_yi0_grpD_121), (zk_99_yi0_grpD_121, ((3, 11, 0x1fa00000001f900000001f800000001f700000001f600000001f500000001f400000001f300000001f200000001f100000001f0), (0, 11, zun 40 11 4294967296))))
noncomputable def zk_99_yi0_grpD_153 : zC := (3, 11, 0x2080000000207000000020600000002050000000204000000020300000002020000000201000000020000000001ff00000001fe)
noncomputable def hGc_20 : zH 10 := (show zT 10 from (((((((((zk_99_yi0_grpD_79, ((7, 56, 0x80000000b8000000000080000000b6000000000080000000b400000001c70000000000000000000080000000b0000000000080000000ae000000000080000000ac80000000ab0000000000000000000080000000a8000000000080000000a6000000000080000000a480000000a30000000000000000000080000000a00000000000800000009e0000000000800000009c800000009b000000000000000000008000000098000000000080000000960000000000800000009480000000930000000000000000000080000000900000000000800000008e0000000000800000008c800000008b0000000000000000000000000000000000000000000000000000000000000000000000000000000000000000000000000000), zk_99_yi0_grpD_2)), (zk_99_yi0_grpD_4, zk_99_yi0_grpD_4)), zk_99_yi0_grpD_5), zk_99_yi0_grpD_6), zk_99_yi0_grpD_84), zk_99_yi0_grpD_97), zk_99_yi0_grpD_110), (zk_99_yi0_grpD_119, (zk_99_yi0_grpD_123, (((((zk_99_yi0_grpD_121, zk_99_yi0_grpD_121), (zk_99_yi0_grpD_124, ((21, 12, 0x20e00000001fb00000001ef00000001e300000001d700000001cb00000001ca00000001c9000000000400000001c800000000028000000001), (0, 11, 0xffffffff00ffffffff00ffffffff00ffffffff00ffffffff000000000300ffffffff00ffffffff000000000200000000010000000000)))), ((((1, 11, 0x10000000000000000000000000000000000000001000000000000000000010000000000000000000000000000010000000000), zk_99_yi0_grpD_149), zk_99_yi0_grpD_150), (zk_99_yi0_grpD_121, zk_99_yi0_grpD_121))), zk_99_yi0_grpD_151), (zk_99_yi0_grpD_152, (zk_99_yi0_grpD_122, ((zk_99_yi0_grpD_121, ((16, 8, 0x20d000000020c000000020b000000020a0000000002000000020900000001fd00000001fc), (0, 11, 0x30000000003000000000300000000030000000003000000000000000000030000000003000000000300000000030000000003))), ((zk_99_yi0_grpD_153, (0, 6, 0)), ((0, 6, 0), (0, 6, 0)))))))))), ((((((((((0, 6, 0), (0, 6, 0)), ((0, 6, 0x100000000020000000003), (0, 6, 0))), (((0, 6, 0), (0, 6, 0)), ((0, 6, 0), (0, 6, 0)))), ((((0, 11, 0x100000000000000000000000000000000000000000000000000), (0, 11, 0x50000000000)), ((0, 11, 0x1000000000a), (0, 11, 0x10000000003))), (((0, 11, 4), (0, 2, 0x1000000000100000000)), zO1))), zO4), zO5), zO6), zO7), zO8)), (526, (0, 0)))
noncomputable def hGc_21 : zH 10 := (show zT 10 from (((((((((zk_99_yi0_grpD_79, ((7, 56, 0x80000000b8000000000080000000b6000000000000000001c780000000b30000000000000000000080000000b0000000000080000000ae000000000080000000ac80000000ab0000000000000000000080000000a8000000000080000000a6000000000080000000a480000000a30000000000000000000080000000a00000000000800000009e0000000000800000009c800000009b000000000000000000008000000098000000000080000000960000000000800000009480000000930000000000000000000080000000900000000000800000008e0000000000800000008c800000008b0000000000000000000000000000000000000000000000000000000000000000000000000000000000000000000000000000), zk_99_yi0_grpD_2)), (zk_99_yi0_grpD_4, zk_99_yi0_grpD_4)), zk_99_yi0_grpD_5), zk_99_yi0_grpD_6), zk_99_yi0_grpD_84), zk_99_yi0_grpD_97), zk_99_yi0_grpD_110), (zk_99_yi0_grpD_119, (zk_99_yi0_grpD_123, (((((zk_99_yi0_grpD_121, zk_99_yi0_grpD_121), (zk_99_yi0_grpD_124, ((21, 12, 0x20e00000001fb00000001ef00000001e300000001d700000001cb00000001ca00000001c9000000000700000001c800000000038000000001), (0, 11, 0xffffffff00ffffffff000000000600ffffffff00ffffffff000000000500000000040000000003000000000200000000010000000000)))), ((((1, 11, 0x10000000001000000000100000000010000000000000000000000000000000000000001000000000100000000010000000000), zk_99_yi0_grpD_149), zk_99_yi0_grpD_150), (zk_99_yi0_grpD_121, zk_99_yi0_grpD_121))), zk_99_yi0_grpD_151), (zk_99_yi0_grpD_152, (zk_99_yi0_grpD_122, ((zk_99_yi0_grpD_121, ((16, 8, 0x20d000000020c000000020b000000020a0000000003000000020900000001fd00000001fc), (0, 11, 0x20000000002000000000000000000020000000002000000000200000000020000000002000000000000000000020000000002))), ((zk_99_yi0_grpD_153, (0, 6, 0)), ((0, 6, 0), (0, 6, 0x20000000004)))))))))), ((((((((((0, 6, 0), (0, 6, 0)), ((0, 6, 0), (0, 6, 0))), (((0, 6, 0), (0, 6, 0x1000000000100000000020000000002)), ((0, 6, 0), (0, 6, 0)))), ((((0, 11, 0x200000000000000000000000000000000000000000000000000000000000100000000000000000000), (0, 11, 0x800000000020000000000)), ((0, 11, 0x100000000010000000009), (0, 11, 0x100000000010000000005))), (((0, 11, 2), (0, 3, 0x10000000001000000000100000000)), zO1))), zO4), zO5), zO6), zO7), zO8)), (526, (0, 0)))
noncomputable def hGc_22 : zH 10 := (show zT 10 from (((((((((zk_99_yi0_grpD_79, ((7, 56, 0x80000000b8000000000000000001c7000000000080000000b480000000b30000000000000000000080000000b0000000000080000000ae000000000080000000ac80000000ab0000000000000000000080000000a8000000000080000000a6000000000080000000a480000000a30000000000000000000080000000a00000000000800000009e0000000000800000009c800000009b000000000000000000008000000098000000000080000000960000000000800000009480000000930000000000000000000080000000900000000000800000008e0000000000800000008c800000008b0000000000000000000000000000000000000000000000000000000000000000000000000000000000000000000000000000), zk_99_yi0_grpD_2)), (zk_99_yi0_grpD_4, zk_99_yi0_grpD_4)), zk_99_yi0_grpD_5), zk_99_yi0_grpD_6), zk_99_yi0_grpD_84), zk_99_yi0_grpD_97), zk_99_yi0_grpD_110), (zk_99_yi0_grpD_119, (zk_99_yi0_grpD_123, (((((zk_99_yi0_grpD_121, zk_99_yi0_grpD_121), (zk_99_yi0_grpD_124, ((21, 12, 0x20e00000001fb00000001ef00000001e300000001d700000001cb00000001ca00000001c9000000000a00000001c800000000058000000001), (0, 11, 0xffffffff0000000009000000000800000000070000000006000000000500000000040000000003000000000200000000010000000000)))), ((((1, 11, 0x10000000001000000000100000000010000000001000000000100000000010000000001000000000100000000000000000001), zk_99_yi0_grpD_149), zk_99_yi0_grpD_150), (zk_99_yi0_grpD_121, zk_99_yi0_grpD_121))), zk_99_yi0_grpD_151), (zk_99_yi0_grpD_152, (zk_99_yi0_grpD_122, ((zk_99_yi0_grpD_121, ((16, 8, 0x20d000000020c000000020b000000020a0000000007000000020900000001fd00000001fc), (0, 11, 0x10000000000000000000100000000000000000000000000000100000000000000000000000000000100000000000000000001))), ((zk_99_yi0_grpD_153, (0, 6, 1)), ((0, 6, 0x10000000005), (0, 6, 1)))))))))), ((((((((((0, 6, 0x100000000010000000004), (0, 6, 0x30000000003)), ((0, 6, 1), (0, 6, 0x1000000000100000000010000000003))), (((0, 6, 0x200000000020000000002), (0, 6, 1)), ((0, 6, 0x10000000001000000000100000000010000000002), (0, 6, 1)))), ((((0, 11, 0x6000000000000000000050000000004000000000000000000030000000002000000000000000000010000000000), (0, 11, 0x9000000000700000000060000000004000000000300000000010000000000)), ((0, 11, 0x1000000000100000000010000000001000000000100000000010000000005), (0, 11, 0x1000000000100000000010000000001000000000100000000010000000004))), (((0, 11, 1), zk_99_yi0_grpD_75), zO1))), zO4), zO5), zO6), zO7), zO8)), (526, (0, 0)))
noncomputable def zk_99_yi0_grpD_154 : zC := (0, 11, 0xa0000000009000000000800000000070000000006000000000500000000040000000003000000000200000000010000000000)
noncomputable def hGc_23 : zH 10 := (show zT 10 from (((((((((zk_99_yi0_grpD_79, ((7, 56, 0x1c7000000000080000000b6000000000080000000b480000000b30000000000000000000080000000b0000000000080000000ae000000000080000000ac80000000ab0000000000000000000080000000a8000000000080000000a6000000000080000000a480000000a30000000000000000000080000000a00000000000800000009e0000000000800000009c800000009b000000000000000000008000000098000000000080000000960000000000800000009480000000930000000000000000000080000000900000000000800000008e0000000000800000008c800000008b0000000000000000000000000000000000000000000000000000000000000000000000000000000000000000000000000000), zk_99_yi0_grpD_2)), (zk_99_yi0_grpD_4, zk_99_yi0_grpD_4)), zk_99_yi0_grpD_5), zk_99_yi0_grpD_6), zk_99_yi0_grpD_84), zk_99_yi0_grpD_97), zk_99_yi0_grpD_110), (zk_99_yi0_grpD_119, (zk_99_yi0_grpD_123, (((((zk_99_yi0_grpD_121, zk_99_yi0_grpD_121), (zk_99_yi0_grpD_124, ((21, 12, 0x20e00000001fb00000001ef00000001e300000001d700000001cb00000001ca00000001c9000000000b00000001c800000000078000000001), zk_99_yi0_grpD_154))), ((((1, 11, zun 40 11 1), zk_99_yi0_grpD_149), zk_99_yi0_grpD_150), (zk_99_yi0_grpD_121, zk_99_yi0_grpD_121))), zk_99_yi0_grpD_151), (zk_99_yi0_grpD_152, (zk_99_yi0_grpD_122, ((zk_99_yi0_grpD_121, ((16, 8, 0x20d000000020c000000020b000000020a000000000b000000020900000001fd00000001fc), (0, 11, 0))), ((zk_99_yi0_grpD_153, (0, 6, 6)), ((0, 6, 0x10000000005), (0, 6, 0x20000000004)))))))))), ((((((((((0, 6, 0x100000000010000000004), (0, 6, 0x30000000003)), ((0, 6, 0x100000000020000000003), (0, 6, 0x1000000000100000000010000000003))), (((0, 6, 0x200000000020000000002), (0, 6, 0x1000000000100000000020000000002)), ((0, 6, 0x10000000001000000000100000000010000000002), zk_99_yi0_grpD_80))), (((zk_99_yi0_grpD_154, zk_99_yi0_grpD_154), ((0, 11, zun 40 11 1), (0, 11, zun 40 11 1))), (((0, 11, 0), (0, 11, zun 40 11 4294967296)), zO1))), zO4), zO5), zO6), zO7), zO8)), (526, (0, 0)))
noncomputable def hGcf : Nat → zH 10
  | 0 => hGc_0
  | 1 => hGc_1
  | 2 => hGc_2
  | 3 => hGc_3
  | 4 => hGc_4
  | 5 => hGc_5
  | 6 => hGc_6
  | 7 => hGc_7
  | 8 => hGc_8
  | 9 => hGc_9
  | 10 => hGc_10
  | 11 => hGc_11
  | 12 => hGc_12
  | 13 => hGc_13
  | 14 => hGc_14
  | 15 => hGc_15
  | 16 => hGc_16
  | 17 => hGc_17
  | 18 => hGc_18
  | 19 => hGc_19
  | 20 => hGc_20
  | 21 => hGc_21
  | 22 => hGc_22
  | _ => hGc_23
noncomputable def phT_0 : List Nat := [38, 39, 41, 42, 43, 44, 45, 46, 47, 48, 49, 50, 51, 52, 53, 54, 55, 56, 57, 58, 59, 60, 61, 62, 63, 64, 65, 66, 67, 68, 71]
noncomputable def phT_1 : List Nat := [38, 39, 41, 42, 43, 44, 45, 46, 47, 48, 49, 50, 51, 52, 53, 54, 55, 56, 57, 58, 59, 60, 61, 62, 63, 64, 65, 66, 67, 68, 71]
noncomputable def phT_2 : List Nat := [38, 39, 41, 42, 43, 44, 45, 46, 47, 48, 49, 50, 51, 52, 53, 54, 55, 56, 57, 58, 59, 60, 61, 62, 63, 64, 65, 66, 67, 68, 71]
noncomputable def phT_3 : List Nat := [38, 39, 41, 42, 43, 44, 45, 46, 47, 48, 49, 50, 51, 52, 53, 54, 55, 56, 57, 58, 59, 60, 61, 62, 63, 64, 65, 66, 67, 68, 71]
noncomputable def phT_4 : List Nat := [38, 39, 41, 42, 43, 44, 45, 46, 47, 48, 49, 50, 51, 52, 53, 54, 55, 56, 57, 58, 59, 60, 61, 62, 63, 64, 65, 66, 67, 68, 69, 70, 71, 72, 73, 74, 75, 76, 77, 78, 79, 80, 81, 82, 83, 84, 85, 86, 87, 91]
noncomputable def phT_5 : List Nat := [38, 39, 41, 42, 43, 44, 45, 46, 47, 48, 49, 50, 51, 52, 53, 54, 55, 56, 57, 58, 59, 60, 61, 62, 63, 64, 65, 66, 67, 68, 69, 70, 71, 72, 73, 74, 75, 76, 77, 78, 79, 80, 81, 82, 83, 84, 85, 86, 87, 91]
noncomputable def phT_6 : List Nat := [38, 39, 41, 42, 43, 44, 45, 46, 47, 48, 49, 50, 51, 52, 53, 54, 55, 56, 57, 58, 59, 60, 61, 62, 63, 64, 65, 66, 67, 68, 69, 70, 71, 72, 73, 74, 75, 76, 77, 78, 79, 80, 81, 82, 83, 84, 85, 86, 87, 91]
noncomputable def phT_7 : List Nat := [38, 39, 41, 42, 43, 44, 45, 46, 47, 48, 49, 50, 51, 52, 53, 54, 55, 56, 57, 58, 59, 60, 61, 62, 63, 64, 65, 66, 67, 68, 69, 70, 71, 72, 73, 74, 75, 76, 77, 78, 79, 80, 81, 82, 83, 84, 85, 86, 87, 91]
noncomputable def phT_8 : List Nat := [38, 39, 41, 42, 43, 44, 45, 46, 47, 48, 49, 50, 51, 52, 53, 54, 55, 56, 57, 58, 59, 60, 61, 62, 63, 64, 65, 66, 67, 68, 69, 70, 71, 72, 73, 74, 75, 76, 77, 78, 79, 80, 81, 82, 83, 84, 85, 86, 87, 88, 89, 90, 91, 92, 93, 94, 95, 96, 97, 98, 99, 100, 101, 102, 103, 104, 105, 106, 107, 108, 109, 114]
noncomputable def phT_9 : List Nat := [38, 39, 41, 42, 43, 44, 45, 46, 47, 48, 49, 50, 51, 52, 53, 54, 55, 56, 57, 58, 59, 60, 61, 62, 63, 64, 65, 66, 67, 68, 69, 70, 71, 72, 73, 74, 75, 76, 77, 78, 79, 80, 81, 82, 83, 84, 85, 86, 87, 88, 89, 90, 91, 92, 93, 94, 95, 96, 97, 98, 99, 100, 101, 102, 103, 104, 105, 106, 107, 108, 109, 114]
noncomputable def phT_10 : List Nat := [38, 39, 41, 42, 43, 44, 45, 46, 47, 48, 49, 50, 51, 52, 53, 54, 55, 56, 57, 58, 59, 60, 61, 62, 63, 64, 65, 66, 67, 68, 69, 70, 71, 72, 73, 74, 75, 76, 77, 78, 79, 80, 81, 82, 83, 84, 85, 86, 87, 88, 89, 90, 91, 92, 93, 94, 95, 96, 97, 98, 99, 100, 101, 102, 103, 104, 105, 106, 107, 108, 109, 114]
noncomputable def phT_11 : List Nat := [38, 39, 41, 42, 43, 44, 45, 46, 47, 48, 49, 50, 51, 52, 53, 54, 55, 56, 57, 58, 59, 60, 61, 62, 63, 64, 65, 66, 67, 68, 69, 70, 71, 72, 73, 74, 75, 76, 77, 78, 79, 80, 81, 82, 83, 84, 85, 86, 87, 88, 89, 90, 91, 92, 93, 94, 95, 96, 97, 98, 99, 100, 101, 102, 103, 104, 105, 106, 107, 108, 109, 114]
noncomputable def phT_12 : List Nat := [38, 39, 41, 42, 43, 44, 45, 46, 47, 48, 49, 50, 51, 52, 53, 54, 55, 56, 57, 58, 59, 60, 61, 62, 63, 64, 65, 66, 67, 68, 69, 70, 71, 72, 73, 74, 75, 76, 77, 78, 79, 80, 81, 82, 83, 84, 85, 86, 87, 88, 89, 90, 91, 92, 93, 94, 95, 96, 97, 98, 99, 100, 101, 102, 103, 104, 105, 106, 107, 108, 109, 110, 111, 112, 113, 114, 115, 116, 117, 118, 119, 120, 121, 122, 123, 124, 125, 126, 127, 128, 129, 130, 131, 132, 133, 134, 135, 136, 137, 138, 139, 140, 141, 142, 143, 144, 145, 146, 147, 148, 149, 150, 151, 152, 153, 154, 155, 156, 157, 158, 159, 166]
noncomputable def phT_13 : List Nat := [38, 39, 41, 42, 43, 44, 45, 46, 47, 48, 49, 50, 51, 52, 53, 54, 55, 56, 57, 58, 59, 60, 61, 62, 63, 64, 65, 66, 67, 68, 69, 70, 71, 72, 73, 74, 75, 76, 77, 78, 79, 80, 81, 82, 83, 84, 85, 86, 87, 88, 89, 90, 91, 92, 93, 94, 95, 96, 97, 98, 99, 100, 101, 102, 103, 104, 105, 106, 107, 108, 109, 110, 111, 112, 113, 114, 115, 116, 117, 118, 119, 120, 121, 122, 123, 124, 125, 126, 127, 128, 129, 130, 131, 132, 133, 134, 135, 136, 137, 138, 139, 140, 141, 142, 143, 144, 145, 146, 147, 148, 149, 150, 151, 152, 153, 154, 155, 156, 157, 158, 159, 166]
noncomputable def phT_14 : List Nat := [38, 39, 41, 42, 43, 44, 45, 46, 47, 48, 49, 50, 51, 52, 53, 54, 55, 56, 57, 58, 59, 60, 61, 62, 63, 64, 65, 66, 67, 68, 69, 70, 71, 72, 73, 74, 75, 76, 77, 78, 79, 80, 81, 82, 83, 84, 85, 86, 87, 88, 89, 90, 91, 92, 93, 94, 95, 96, 97, 98, 99, 100, 101, 102, 103, 104, 105, 106, 107, 108, 109, 110, 111, 112, 113, 114, 115, 116, 117, 118, 119, 120, 121, 122, 123, 124, 125, 126, 127, 128, 129, 130, 131, 132, 133, 134, 135, 136, 137, 138, 139, 140, 141, 142, 143, 144, 145, 146, 147, 148, 149, 150, 151, 152, 153, 154, 155, 156, 157, 158, 159, 166]
noncomputable def phT_15 : List Nat := [38, 39, 41, 42, 43, 44, 45, 46, 47, 48, 49, 50, 51, 52, 53, 54, 55, 56, 57, 58, 59, 60, 61, 62, 63, 64, 65, 66, 67, 68, 69, 70, 71, 72, 73, 74, 75, 76, 77, 78, 79, 80, 81, 82, 83, 84, 85, 86, 87, 88, 89, 90, 91, 92, 93, 94, 95, 96, 97, 98, 99, 100, 101, 102, 103, 104, 105, 106, 107, 108, 109, 110, 111, 112, 113, 114, 115, 116, 117, 118, 119, 120, 121, 122, 123, 124, 125, 126, 127, 128, 129, 130, 131, 132, 133, 134, 135, 136, 137, 138, 139, 140, 141, 142, 143, 144, 145, 146, 147, 148, 149, 150, 151, 152, 153, 154, 155, 156, 157, 158, 159, 166]
noncomputable def phT_16 : List Nat := [38, 39, 41, 42, 43, 44, 45, 46, 47, 48, 49, 50, 51, 52, 53, 54, 55, 56, 57, 58, 59, 60, 61, 62, 63, 64, 65, 66, 67, 68, 69, 70, 71, 72, 73, 74, 75, 76, 77, 78, 79, 80, 81, 82, 83, 84, 85, 86, 87, 88, 89, 90, 91, 92, 93, 94, 95, 96, 97, 98, 99, 100, 101, 102, 103, 104, 105, 106, 107, 108, 109, 110, 111, 112, 113, 114, 115, 116, 117, 118, 119, 120, 121, 122, 123, 124, 125, 126, 127, 128, 129, 130, 131, 132, 133, 134, 135, 136, 137, 138, 139, 140, 141, 142, 143, 144, 145, 146, 147, 148, 149, 150, 151, 152, 153, 154, 155, 156, 157, 158, 159, 160, 161, 162, 163, 164, 165, 166, 167, 168, 169, 170, 171, 172, 173, 174, 175, 176, 177, 178, 179, 180, 181, 182, 183, 184, 185, 186, 187, 188, 189, 190, 191, 192, 193, 194, 195, 196, 197, 198, 199, 200, 201, 202, 203, 204, 205, 206, 207, 208, 209, 210, 211, 212, 213, 214, 215, 216, 217, 218, 219, 220, 221, 222, 223, 224, 225, 226, 227, 228, 229, 230, 231, 232, 233, 234, 235, 236, 237, 238, 239, 248]
noncomputable def phT_17 : List Nat := [38, 39, 41, 42, 43, 44, 45, 46, 47, 48, 49, 50, 51, 52, 53, 54, 55, 56, 57, 58, 59, 60, 61, 62, 63, 64, 65, 66, 67, 68, 69, 70, 71, 72, 73, 74, 75, 76, 77, 78, 79, 80, 81, 82, 83, 84, 85, 86, 87, 88, 89, 90, 91, 92, 93, 94, 95, 96, 97, 98, 99, 100, 101, 102, 103, 104, 105, 106, 107, 108, 109, 110, 111, 112, 113, 114, 115, 116, 117, 118, 119, 120, 121, 122, 123, 124, 125, 126, 127, 128, 129, 130, 131, 132, 133, 134, 135, 136, 137, 138, 139, 140, 141, 142, 143, 144, 145, 146, 147, 148, 149, 150, 151, 152, 153, 154, 155, 156, 157, 158, 159, 160, 161, 162, 163, 164, 165, 166, 167, 168, 169, 170, 171, 172, 173, 174, 175, 176, 177, 178, 179, 180, 181, 182, 183, 184, 185, 186, 187, 188, 189, 190, 191, 192, 193, 194, 195, 196, 197, 198, 199, 200, 201, 202, 203, 204, 205, 206, 207, 208, 209, 210, 211, 212, 213, 214, 215, 216, 217, 218, 219, 220, 221, 222, 223, 224, 225, 226, 227, 228, 229, 230, 231, 232, 233, 234, 235, 236, 237, 238, 239, 248]
noncomputable def phT_18 : List Nat := [38, 39, 41, 42, 43, 44, 45, 46, 47, 48, 49, 50, 51, 52, 53, 54, 55, 56, 57, 58, 59, 60, 61, 62, 63, 64, 65, 66, 67, 68, 69, 70, 71, 72, 73, 74, 75, 76, 77, 78, 79, 80, 81, 82, 83, 84, 85, 86, 87, 88, 89, 90, 91, 92, 93, 94, 95, 96, 97, 98, 99, 100, 101, 102, 103, 104, 105, 106, 107, 108, 109, 110, 111, 112, 113, 114, 115, 116, 117, 118, 119, 120, 121, 122, 123, 124, 125, 126, 127, 128, 129, 130, 131, 132, 133, 134, 135, 136, 137, 138, 139, 140, 141, 142, 143, 144, 145, 146, 147, 148, 149, 150, 151, 152, 153, 154, 155, 156, 157, 158, 159, 160, 161, 162, 163, 164, 165, 166, 167, 168, 169, 170, 171, 172, 173, 174, 175, 176, 177, 178, 179, 180, 181, 182, 183, 184, 185, 186, 187, 188, 189, 190, 191, 192, 193, 194, 195, 196, 197, 198, 199, 200, 201, 202, 203, 204, 205, 206, 207, 208, 209, 210, 211, 212, 213, 214, 215, 216, 217, 218, 219, 220, 221, 222, 223, 224, 225, 226, 227, 228, 229, 230, 231, 232, 233, 234, 235, 236, 237, 238, 239, 248]
noncomputable def phT_19 : List Nat := [38, 39, 41, 42, 43, 44, 45, 46, 47, 48, 49, 50, 51, 52, 53, 54, 55, 56, 57, 58, 59, 60, 61, 62, 63, 64, 65, 66, 67, 68, 69, 70, 71, 72, 73, 74, 75, 76, 77, 78, 79, 80, 81, 82, 83, 84, 85, 86, 87, 88, 89, 90, 91, 92, 93, 94, 95, 96, 97, 98, 99, 100, 101, 102, 103, 104, 105, 106, 107, 108, 109, 110, 111, 112, 113, 114, 115, 116, 117, 118, 119, 120, 121, 122, 123, 124, 125, 126, 127, 128, 129, 130, 131, 132, 133, 134, 135, 136, 137, 138, 139, 140, 141, 142, 143, 144, 145, 146, 147, 148, 149, 150, 151, 152, 153, 154, 155, 156, 157, 158, 159, 160, 161, 162, 163, 164, 165, 166, 167, 168, 169, 170, 171, 172, 173, 174, 175, 176, 177, 178, 179, 180, 181, 182, 183, 184, 185, 186, 187, 188, 189, 190, 191, 192, 193, 194, 195, 196, 197, 198, 199, 200, 201, 202, 203, 204, 205, 206, 207, 208, 209, 210, 211, 212, 213, 214, 215, 216, 217, 218, 219, 220, 221, 222, 223, 224, 225, 226, 227, 228, 229, 230, 231, 232, 233, 234, 235, 236, 237, 238, 239, 248]
noncomputable def phT_20 : List Nat := [38, 39, 41, 42, 43, 44, 45, 46, 47, 48, 49, 50, 51, 52, 53, 54, 55, 56, 57, 58, 59, 60, 61, 62, 63, 64, 65, 66, 67, 68, 69, 70, 71, 72, 73, 74, 75, 76, 77, 78, 79, 80, 81, 82, 83, 84, 85, 86, 87, 88, 89, 90, 91, 92, 93, 94, 95, 96, 97, 98, 99, 100, 101, 102, 103, 104, 105, 106, 107, 108, 109, 110, 111, 112, 113, 114, 115, 116, 117, 118, 119, 120, 121, 122, 123, 124, 125, 126, 127, 128, 129, 130, 131, 132, 133, 134, 135, 136, 137, 138, 139, 140, 141, 142, 143, 144, 145, 146, 147, 148, 149, 150, 151, 152, 153, 154, 155, 156, 157, 158, 159, 160, 161, 162, 163, 164, 165, 166, 167, 168, 169, 170, 171, 172, 173, 174, 175, 176, 177, 178, 179, 180, 181, 182, 183, 184, 185, 186, 187, 188, 189, 190, 191, 192, 193, 194, 195, 196, 197, 198, 199, 200, 201, 202, 203, 204, 205, 206, 207, 208, 209, 210, 211, 212, 213, 214, 215, 216, 217, 218, 219, 220, 221, 222, 223, 224, 225, 226, 227, 228, 229, 230, 231, 232, 233, 234, 235, 236, 237, 238, 239, 240, 241, 242, 243, 244, 245, 246, 247, 248, 249, 250, 251, 252, 253, 254, 255, 256, 257, 258, 259, 260, 261, 262, 263, 264, 265, 266, 267, 268, 269, 270, 271, 272, 273, 274, 275, 276, 277, 278, 279, 280, 281, 282, 283, 284, 285, 286, 287, 288, 289, 290, 291, 292, 293, 294, 295, 296, 297, 298, 299, 300, 301, 302, 303, 304, 305, 306, 307, 308, 309, 310, 311, 312, 313, 314, 315, 316, 317, 318, 319, 320, 321, 322, 323, 324, 325, 326, 327, 328, 329, 330, 331, 332, 333, 334, 335, 336, 337, 338, 339, 340, 341, 342, 343, 344, 345, 346, 347, 348, 349, 350, 351, 352, 353, 354, 355, 356, 357, 358, 359, 360, 361, 362, 363, 364, 365, 366, 367, 368, 369, 370, 371, 372, 373, 374, 375, 376, 377, 378, 379, 380, 381, 382, 383, 384, 385, 386, 387, 388, 389, 390, 391, 392, 393, 394, 395, 396, 397, 398, 399, 400, 401, 402, 403, 404, 405, 406, 407, 408, 409, 410, 411, 412, 413, 414, 415, 416, 417, 418, 419, 420, 421, 422, 423, 424, 425, 426, 427, 428, 429, 430, 431, 432, 433, 434, 435, 436, 437, 438, 439, 440, 441, 442, 443, 444, 445, 446, 447, 448, 449, 450, 451, 452, 453, 466]
noncomputable def phT_21 : List Nat := [38, 39, 41, 42, 43, 44, 45, 46, 47, 48, 49, 50, 51, 52, 53, 54, 55, 56, 57, 58, 59, 60, 61, 62, 63, 64, 65, 66, 67, 68, 69, 70, 71, 72, 73, 74, 75, 76, 77, 78, 79, 80, 81, 82, 83, 84, 85, 86, 87, 88, 89, 90, 91, 92, 93, 94, 95, 96, 97, 98, 99, 100, 101, 102, 103, 104, 105, 106, 107, 108, 109, 110, 111, 112, 113, 114, 115, 116, 117, 118, 119, 120, 121, 122, 123, 124, 125, 126, 127, 128, 129, 130, 131, 132, 133, 134, 135, 136, 137, 138, 139, 140, 141, 142, 143, 144, 145, 146, 147, 148, 149, 150, 151, 152, 153, 154, 155, 156, 157, 158, 159, 160, 161, 162, 163, 164, 165, 166, 167, 168, 169, 170, 171, 172, 173, 174, 175, 176, 177, 178, 179, 180, 181, 182, 183, 184, 185, 186, 187, 188, 189, 190, 191, 192, 193, 194, 195, 196, 197, 198, 199, 200, 201, 202, 203, 204, 205, 206, 207, 208, 209, 210, 211, 212, 213, 214, 215, 216, 217, 218, 219, 220, 221, 222, 223, 224, 225, 226, 227, 228, 229, 230, 231, 232, 233, 234, 235, 236, 237, 238, 239, 240, 241, 242, 243, 244, 245, 246, 247, 248, 249, 250, 251, 252, 253, 254, 255, 256, 257, 258, 259, 260, 261, 262, 263, 264, 265, 266, 267, 268, 269, 270, 271, 272, 273, 274, 275, 276, 277, 278, 279, 280, 281, 282, 283, 284, 285, 286, 287, 288, 289, 290, 291, 292, 293, 294, 295, 296, 297, 298, 299, 300, 301, 302, 303, 304, 305, 306, 307, 308, 309, 310, 311, 312, 313, 314, 315, 316, 317, 318, 319, 320, 321, 322, 323, 324, 325, 326, 327, 328, 329, 330, 331, 332, 333, 334, 335, 336, 337, 338, 339, 340, 341, 342, 343, 344, 345, 346, 347, 348, 349, 350, 351, 352, 353, 354, 355, 356, 357, 358, 359, 360, 361, 362, 363, 364, 365, 366, 367, 368, 369, 370, 371, 372, 373, 374, 375, 376, 377, 378, 379, 380, 381, 382, 383, 384, 385, 386, 387, 388, 389, 390, 391, 392, 393, 394, 395, 396, 397, 398, 399, 400, 401, 402, 403, 404, 405, 406, 407, 408, 409, 410, 411, 412, 413, 414, 415, 416, 417, 418, 419, 420, 421, 422, 423, 424, 425, 426, 427, 428, 429, 430, 431, 432, 433, 434, 435, 436, 437, 438, 439, 440, 441, 442, 443, 444, 445, 446, 447, 448, 449, 450, 451, 452, 453, 466]
noncomputable def phT_22 : List Nat := [38, 39, 41, 42, 43, 44, 45, 46, 47, 48, 49, 50, 51, 52, 53, 54, 55, 56, 57, 58, 59, 60, 61, 62, 63, 64, 65, 66, 67, 68, 69, 70, 71, 72, 73, 74, 75, 76, 77, 78, 79, 80, 81, 82, 83, 84, 85, 86, 87, 88, 89, 90, 91, 92, 93, 94, 95, 96, 97, 98, 99, 100, 101, 102, 103, 104, 105, 106, 107, 108, 109, 110, 111, 112, 113, 114, 115, 116, 117, 118, 119, 120, 121, 122, 123, 124, 125, 126, 127, 128, 129, 130, 131, 132, 133, 134, 135, 136, 137, 138, 139, 140, 141, 142, 143, 144, 145, 146, 147, 148, 149, 150, 151, 152, 153, 154, 155, 156, 157, 158, 159, 160, 161, 162, 163, 164, 165, 166, 167, 168, 169, 170, 171, 172, 173, 174, 175, 176, 177, 178, 179, 180, 181, 182, 183, 184, 185, 186, 187, 188, 189, 190, 191, 192, 193, 194, 195, 196, 197, 198, 199, 200, 201, 202, 203, 204, 205, 206, 207, 208, 209, 210, 211, 212, 213, 214, 215, 216, 217, 218, 219, 220, 221, 222, 223, 224, 225, 226, 227, 228, 229, 230, 231, 232, 233, 234, 235, 236, 237, 238, 239, 240, 241, 242, 243, 244, 245, 246, 247, 248, 249, 250, 251, 252, 253, 254, 255, 256, 257, 258, 259, 260, 261, 262, 263, 264, 265, 266, 267, 268, 269, 270, 271, 272, 273, 274, 275, 276, 277, 278, 279, 280, 281, 282, 283, 284, 285, 286, 287, 288, 289, 290, 291, 292, 293, 294, 295, 296, 297, 298, 299, 300, 301, 302, 303, 304, 305, 306, 307, 308, 309, 310, 311, 312, 313, 314, 315, 316, 317, 318, 319, 320, 321, 322, 323, 324, 325, 326, 327, 328, 329, 330, 331, 332, 333, 334, 335, 336, 337, 338, 339, 340, 341, 342, 343, 344, 345, 346, 347, 348, 349, 350, 351, 352, 353, 354, 355, 356, 357, 358, 359, 360, 361, 362, 363, 364, 365, 366, 367, 368, 369, 370, 371, 372, 373, 374, 375, 376, 377, 378, 379, 380, 381, 382, 383, 384, 385, 386, 387, 388, 389, 390, 391, 392, 393, 394, 395, 396, 397, 398, 399, 400, 401, 402, 403, 404, 405, 406, 407, 408, 409, 410, 411, 412, 413, 414, 415, 416, 417, 418, 419, 420, 421, 422, 423, 424, 425, 426, 427, 428, 429, 430, 431, 432, 433, 434, 435, 436, 437, 438, 439, 440, 441, 442, 443, 444, 445, 446, 447, 448, 449, 450, 451, 452, 453, 466]
noncomputable def phT_23 : List Nat := [38, 39, 41, 42, 43, 44, 45, 46, 47, 48, 49, 50, 51, 52, 53, 54, 55, 56, 57, 58, 59, 60, 61, 62, 63, 64, 65, 66, 67, 68, 69, 70, 71, 72, 73, 74, 75, 76, 77, 78, 79, 80, 81, 82, 83, 84, 85, 86, 87, 88, 89, 90, 91, 92, 93, 94, 95, 96, 97, 98, 99, 100, 101, 102, 103, 104, 105, 106, 107, 108, 109, 110, 111, 112, 113, 114, 115, 116, 117, 118, 119, 120, 121, 122, 123, 124, 125, 126, 127, 128, 129, 130, 131, 132, 133, 134, 135, 136, 137, 138, 139, 140, 141, 142, 143, 144, 145, 146, 147, 148, 149, 150, 151, 152, 153, 154, 155, 156, 157, 158, 159, 160, 161, 162, 163, 164, 165, 166, 167, 168, 169, 170, 171, 172, 173, 174, 175, 176, 177, 178, 179, 180, 181, 182, 183, 184, 185, 186, 187, 188, 189, 190, 191, 192, 193, 194, 195, 196, 197, 198, 199, 200, 201, 202, 203, 204, 205, 206, 207, 208, 209, 210, 211, 212, 213, 214, 215, 216, 217, 218, 219, 220, 221, 222, 223, 224, 225, 226, 227, 228, 229, 230, 231, 232, 233, 234, 235, 236, 237, 238, 239, 240, 241, 242, 243, 244, 245, 246, 247, 248, 249, 250, 251, 252, 253, 254, 255, 256, 257, 258, 259, 260, 261, 262, 263, 264, 265, 266, 267, 268, 269, 270, 271, 272, 273, 274, 275, 276, 277, 278, 279, 280, 281, 282, 283, 284, 285, 286, 287, 288, 289, 290, 291, 292, 293, 294, 295, 296, 297, 298, 299, 300, 301, 302, 303, 304, 305, 306, 307, 308, 309, 310, 311, 312, 313, 314, 315, 316, 317, 318, 319, 320, 321, 322, 323, 324, 325, 326, 327, 328, 329, 330, 331, 332, 333, 334, 335, 336, 337, 338, 339, 340, 341, 342, 343, 344, 345, 346, 347, 348, 349, 350, 351, 352, 353, 354, 355, 356, 357, 358, 359, 360, 361, 362, 363, 364, 365, 366, 367, 368, 369, 370, 371, 372, 373, 374, 375, 376, 377, 378, 379, 380, 381, 382, 383, 384, 385, 386, 387, 388, 389, 390, 391, 392, 393, 394, 395, 396, 397, 398, 399, 400, 401, 402, 403, 404, 405, 406, 407, 408, 409, 410, 411, 412, 413, 414, 415, 416, 417, 418, 419, 420, 421, 422, 423, 424, 425, 426, 427, 428, 429, 430, 431, 432, 433, 434, 435, 436, 437, 438, 439, 440, 441, 442, 443, 444, 445, 446, 447, 448, 449, 450, 451, 452, 453, 466]
noncomputable def phT : Nat → List Nat
  | 0 => phT_0
  | 1 => phT_1
  | 2 => phT_2
  | 3 => phT_3
  | 4 => phT_4
  | 5 => phT_5
  | 6 => phT_6
  | 7 => phT_7
  | 8 => phT_8
  | 9 => phT_9
  | 10 => phT_10
  | 11 => phT_11
  | 12 => phT_12
  | 13 => phT_13
  | 14 => phT_14
  | 15 => phT_15
  | 16 => phT_16
  | 17 => phT_17
  | 18 => phT_18
  | 19 => phT_19
  | 20 => phT_20
  | 21 => phT_21
  | 22 => phT_22
  | _ => phT_23
noncomputable def phSa_0 : List Nat := [72, 73, 74, 75, 76, 77, 84, 85, 89, 90, 91, 92, 93, 94, 95, 96, 97, 98, 99, 100, 101, 103]
noncomputable def phSa_1 : List Nat := [72, 73, 74, 75, 76, 77, 84, 85, 89, 90, 91, 92, 93, 94, 95, 96, 97, 98, 99, 100, 101, 103]
noncomputable def phSa_2 : List Nat := [72, 73, 74, 75, 76, 77, 84, 85, 89, 90, 91, 92, 93, 94, 95, 96, 97, 98, 99, 100, 101, 103]
noncomputable def phSa_3 : List Nat := [72, 73, 74, 75, 76, 77, 84, 85, 89, 90, 91, 92, 93, 94, 95, 96, 97, 98, 99, 100, 101, 103]
noncomputable def phSa_4 : List Nat := [92, 93, 94, 95, 96, 97, 98, 105, 106, 107, 112, 113, 114, 115, 116, 117, 118, 119, 120, 121, 122, 123, 124, 125, 126, 127, 129]
noncomputable def phSa_5 : List Nat := [92, 93, 94, 95, 96, 97, 98, 105, 106, 107, 112, 113, 114, 115, 116, 117, 118, 119, 120, 121, 122, 123, 124, 125, 126, 127, 129]
noncomputable def phSa_6 : List Nat := [92, 93, 94, 95, 96, 97, 98, 105, 106, 107, 112, 113, 114, 115, 116, 117, 118, 119, 120, 121, 122, 123, 124, 125, 126, 127, 129]
noncomputable def phSa_7 : List Nat := [92, 93, 94, 95, 96, 97, 98, 105, 106, 107, 112, 113, 114, 115, 116, 117, 118, 119, 120, 121, 122, 123, 124, 125, 126, 127, 129]
noncomputable def phSa_8 : List Nat := [115, 116, 117, 118, 119, 120, 121, 122, 131, 132, 133, 134, 140, 141, 142, 143, 144, 145, 146, 147, 148, 149, 150, 151, 152, 153, 154, 155, 156, 157, 158, 160]
noncomputable def phSa_9 : List Nat := [115, 116, 117, 118, 119, 120, 121, 122, 131, 132, 133, 134, 140, 141, 142, 143, 144, 145, 146, 147, 148, 149, 150, 151, 152, 153, 154, 155, 156, 157, 158, 160]
noncomputable def phSa_10 : List Nat := [115, 116, 117, 118, 119, 120, 121, 122, 131, 132, 133, 134, 140, 141, 142, 143, 144, 145, 146, 147, 148, 149, 150, 151, 152, 153, 154, 155, 156, 157, 158, 160]
noncomputable def phSa_11 : List Nat := [115, 116, 117, 118, 119, 120, 121, 122, 131, 132, 133, 134, 140, 141, 142, 143, 144, 145, 146, 147, 148, 149, 150, 151, 152, 153, 154, 155, 156, 157, 158, 160]
noncomputable def phSa_12 : List Nat := [167, 168, 169, 170, 171, 172, 173, 174, 175, 176, 187, 188, 189, 190, 191, 192, 200, 201, 202, 203, 204, 205, 206, 207, 208, 209, 210, 211, 212, 213, 214, 215, 216, 217, 218, 219, 220, 221, 222, 223, 224, 226]
noncomputable def phSa_13 : List Nat := [167, 168, 169, 170, 171, 172, 173, 174, 175, 176, 187, 188, 189, 190, 191, 192, 200, 201, 202, 203, 204, 205, 206, 207, 208, 209, 210, 211, 212, 213, 214, 215, 216, 217, 218, 219, 220, 221, 222, 223, 224, 226]
noncomputable def phSa_14 : List Nat := [167, 168, 169, 170, 171, 172, 173, 174, 175, 176, 187, 188, 189, 190, 191, 192, 200, 201, 202, 203, 204, 205, 206, 207, 208, 209, 210, 211, 212, 213, 214, 215, 216, 217, 218, 219, 220, 221, 222, 223, 224, 226]
noncomputable def phSa_15 : List Nat := [167, 168, 169, 170, 171, 172, 173, 174, 175, 176, 187, 188, 189, 190, 191, 192, 200, 201, 202, 203, 204, 205, 206, 207, 208, 209, 210, 211, 212, 213, 214, 215, 216, 217, 218, 219, 220, 221, 222, 223, 224, 226]
noncomputable def phSa_16 : List Nat := [249, 250, 251, 252, 253, 254, 255, 256, 257, 258, 259, 260, 277, 278, 279, 280, 281, 282, 283, 284, 294, 295, 296, 297, 298, 299, 300, 301, 302, 303, 304, 305, 306, 307, 308, 309, 310, 311, 312, 313, 314, 315, 316, 317, 318, 319, 320, 321, 322, 323, 324, 326]
noncomputable def phSa_17 : List Nat := [249, 250, 251, 252, 253, 254, 255, 256, 257, 258, 259, 260, 277, 278, 279, 280, 281, 282, 283, 284, 294, 295, 296, 297, 298, 299, 300, 301, 302, 303, 304, 305, 306, 307, 308, 309, 310, 311, 312, 313, 314, 315, 316, 317, 318, 319, 320, 321, 322, 323, 324, 326]
noncomputable def phSa_18 : List Nat := [249, 250, 251, 252, 253, 254, 255, 256, 257, 258, 259, 260, 277, 278, 279, 280, 281, 282, 283, 284, 294, 295, 296, 297, 298, 299, 300, 301, 302, 303, 304, 305, 306, 307, 308, 309, 310, 311, 312, 313, 314, 315, 316, 317, 318, 319, 320, 321, 322, 323, 324, 326]
noncomputable def phSa_19 : List Nat := [249, 250, 251, 252, 253, 254, 255, 256, 257, 258, 259, 260, 277, 278, 279, 280, 281, 282, 283, 284, 294, 295, 296, 297, 298, 299, 300, 301, 302, 303, 304, 305, 306, 307, 308, 309, 310, 311, 312, 313, 314, 315, 316, 317, 318, 319, 320, 321, 322, 323, 324, 326]
noncomputable def phSa_20 : List Nat := [467, 468, 469, 470, 471, 472, 473, 474, 475, 476, 477, 478, 479, 480, 481, 482, 519, 520, 521, 522, 523, 524, 525, 526, 527, 528, 529, 530, 544, 545, 546, 547, 548, 549, 550, 551, 552, 553, 554, 555, 556, 557, 558, 559, 560, 561, 562, 563, 564, 565, 566, 567, 568, 569, 570, 571, 572, 573, 574, 575, 576, 577, 578, 579, 580, 581, 582, 583, 584, 585, 586, 588]
noncomputable def phSa_21 : List Nat := [467, 468, 469, 470, 471, 472, 473, 474, 475, 476, 477, 478, 479, 480, 481, 482, 519, 520, 521, 522, 523, 524, 525, 526, 527, 528, 529, 530, 544, 545, 546, 547, 548, 549, 550, 551, 552, 553, 554, 555, 556, 557, 558, 559, 560, 561, 562, 563, 564, 565, 566, 567, 568, 569, 570, 571, 572, 573, 574, 575, 576, 577, 578, 579, 580, 581, 582, 583, 584, 585, 586, 588]
noncomputable def phSa_22 : List Nat := [467, 468, 469, 470, 471, 472, 473, 474, 475, 476, 477, 478, 479, 480, 481, 482, 519, 520, 521, 522, 523, 524, 525, 526, 527, 528, 529, 530, 544, 545, 546, 547, 548, 549, 550, 551, 552, 553, 554, 555, 556, 557, 558, 559, 560, 561, 562, 563, 564, 565, 566, 567, 568, 569, 570, 571, 572, 573, 574, 575, 576, 577, 578, 579, 580, 581, 582, 583, 584, 585, 586, 588]
noncomputable def phSa_23 : List Nat := [467, 468, 469, 470, 471, 472, 473, 474, 475, 476, 477, 478, 479, 480, 481, 482, 519, 520, 521, 522, 523, 524, 525, 526, 527, 528, 529, 530, 544, 545, 546, 547, 548, 549, 550, 551, 552, 553, 554, 555, 556, 557, 558, 559, 560, 561, 562, 563, 564, 565, 566, 567, 568, 569, 570, 571, 572, 573, 574, 575, 576, 577, 578, 579, 580, 581, 582, 583, 584, 585, 586, 588]
noncomputable def phSa : Nat → List Nat
  | 0 => phSa_0
  | 1 => phSa_1
  | 2 => phSa_2
  | 3 => phSa_3
  | 4 => phSa_4
  | 5 => phSa_5
  | 6 => phSa_6
  | 7 => phSa_7
  | 8 => phSa_8
  | 9 => phSa_9
  | 10 => phSa_10
  | 11 => phSa_11
  | 12 => phSa_12
  | 13 => phSa_13
  | 14 => phSa_14
  | 15 => phSa_15
  | 16 => phSa_16
  | 17 => phSa_17
  | 18 => phSa_18
  | 19 => phSa_19
  | 20 => phSa_20
  | 21 => phSa_21
  | 22 => phSa_22
  | _ => phSa_23
noncomputable def phSb_0 : List Nat := [69, 70, 71, 72, 73, 74, 81, 82, 86, 87, 88, 89, 90, 91, 92, 93, 94, 95, 96, 97, 98, 100]
noncomputable def phSb_1 : List Nat := [69, 70, 71, 72, 73, 74, 81, 82, 86, 87, 88, 89, 90, 91, 92, 93, 94, 95, 96, 97, 98, 100]
noncomputable def phSb_2 : List Nat := [69, 70, 71, 72, 73, 74, 81, 82, 86, 87, 88, 89, 90, 91, 92, 93, 94, 95, 96, 97, 98, 100]
noncomputable def phSb_3 : List Nat := [69, 70, 71, 72, 73, 74, 81, 82, 86, 87, 88, 89, 90, 91, 92, 93, 94, 95, 96, 97, 98, 100]
noncomputable def phSb_4 : List Nat := [88, 89, 90, 91, 92, 93, 94, 101, 102, 103, 108, 109, 110, 111, 112, 113, 114, 115, 116, 117, 118, 119, 120, 121, 122, 123, 125]
noncomputable def phSb_5 : List Nat := [88, 89, 90, 91, 92, 93, 94, 101, 102, 103, 108, 109, 110, 111, 112, 113, 114, 115, 116, 117, 118, 119, 120, 121, 122, 123, 125]
noncomputable def phSb_6 : List Nat := [88, 89, 90, 91, 92, 93, 94, 101, 102, 103, 108, 109, 110, 111, 112, 113, 114, 115, 116, 117, 118, 119, 120, 121, 122, 123, 125]
noncomputable def phSb_7 : List Nat := [88, 89, 90, 91, 92, 93, 94, 101, 102, 103, 108, 109, 110, 111, 112, 113, 114, 115, 116, 117, 118, 119, 120, 121, 122, 123, 125]
noncomputable def phSb_8 : List Nat := [110, 111, 112, 113, 114, 115, 116, 117, 126, 127, 128, 129, 135, 136, 137, 138, 139, 140, 141, 142, 143, 144, 145, 146, 147, 148, 149, 150, 151, 152, 153, 155]
noncomputable def phSb_9 : List Nat := [110, 111, 112, 113, 114, 115, 116, 117, 126, 127, 128, 129, 135, 136, 137, 138, 139, 140, 141, 142, 143, 144, 145, 146, 147, 148, 149, 150, 151, 152, 153, 155]
noncomputable def phSb_10 : List Nat := [110, 111, 112, 113, 114, 115, 116, 117, 126, 127, 128, 129, 135, 136, 137, 138, 139, 140, 141, 142, 143, 144, 145, 146, 147, 148, 149, 150, 151, 152, 153, 155]
noncomputable def phSb_11 : List Nat := [110, 111, 112, 113, 114, 115, 116, 117, 126, 127, 128, 129, 135, 136, 137, 138, 139, 140, 141, 142, 143, 144, 145, 146, 147, 148, 149, 150, 151, 152, 153, 155]
noncomputable def phSb_12 : List Nat := [160, 161, 162, 163, 164, 165, 166, 167, 168, 169, 180, 181, 182, 183, 184, 185, 193, 194, 195, 196, 197, 198, 199, 200, 201, 202, 203, 204, 205, 206, 207, 208, 209, 210, 211, 212, 213, 214, 215, 216, 217, 219]
noncomputable def phSb_13 : List Nat := [160, 161, 162, 163, 164, 165, 166, 167, 168, 169, 180, 181, 182, 183, 184, 185, 193, 194, 195, 196, 197, 198, 199, 200, 201, 202, 203, 204, 205, 206, 207, 208, 209, 210, 211, 212, 213, 214, 215, 216, 217, 219]
noncomputable def phSb_14 : List Nat := [160, 161, 162, 163, 164, 165, 166, 167, 168, 169, 180, 181, 182, 183, 184, 185, 193, 194, 195, 196, 197, 198, 199, 200, 201, 202, 203, 204, 205, 206, 207, 208, 209, 210, 211, 212, 213, 214, 215, 216, 217, 219]
noncomputable def phSb_15 : List Nat := [160, 161, 162, 163, 164, 165, 166, 167, 168, 169, 180, 181, 182, 183, 184, 185, 193, 194, 195, 196, 197, 198, 199, 200, 201, 202, 203, 204, 205, 206, 207, 208, 209, 210, 211, 212, 213, 214, 215, 216, 217, 219]
noncomputable def phSb_16 : List Nat := [240, 241, 242, 243, 244, 245, 246, 247, 248, 249, 250, 251, 268, 269, 270, 271, 272, 273, 274, 275, 285, 286, 287, 288, 289, 290, 291, 292, 293, 294, 295, 296, 297, 298, 299, 300, 301, 302, 303, 304, 305, 306, 307, 308, 309, 310, 311, 312, 313, 314, 315, 317]
noncomputable def phSb_17 : List Nat := [240, 241, 242, 243, 244, 245, 246, 247, 248, 249, 250, 251, 268, 269, 270, 271, 272, 273, 274, 275, 285, 286, 287, 288, 289, 290, 291, 292, 293, 294, 295, 296, 297, 298, 299, 300, 301, 302, 303, 304, 305, 306, 307, 308, 309, 310, 311, 312, 313, 314, 315, 317]
noncomputable def phSb_18 : List Nat := [240, 241, 242, 243, 244, 245, 246, 247, 248, 249, 250, 251, 268, 269, 270, 271, 272, 273, 274, 275, 285, 286, 287, 288, 289, 290, 291, 292, 293, 294, 295, 296, 297, 298, 299, 300, 301, 302, 303, 304, 305, 306, 307, 308, 309, 310, 311, 312, 313, 314, 315, 317]
noncomputable def phSb_19 : List Nat := [240, 241, 242, 243, 244, 245, 246, 247, 248, 249, 250, 251, 268, 269, 270, 271, 272, 273, 274, 275, 285, 286, 287, 288, 289, 290, 291, 292, 293, 294, 295, 296, 297, 298, 299, 300, 301, 302, 303, 304, 305, 306, 307, 308, 309, 310, 311, 312, 313, 314, 315, 317]
noncomputable def phSb_20 : List Nat := [454, 455, 456, 457, 458, 459, 460, 461, 462, 463, 464, 465, 466, 467, 468, 469, 506, 507, 508, 509, 510, 511, 512, 513, 514, 515, 516, 517, 531, 532, 533, 534, 535, 536, 537, 538, 539, 540, 541, 542, 543, 544, 545, 546, 547, 548, 549, 550, 551, 552, 553, 554, 555, 556, 557, 558, 559, 560, 561, 562, 563, 564, 565, 566, 567, 568, 569, 570, 571, 572, 573, 575]
noncomputable def phSb_21 : List Nat := [454, 455, 456, 457, 458, 459, 460, 461, 462, 463, 464, 465, 466, 467, 468, 469, 506, 507, 508, 509, 510, 511, 512, 513, 514, 515, 516, 517, 531, 532, 533, 534, 535, 536, 537, 538, 539, 540, 541, 542, 543, 544, 545, 546, 547, 548, 549, 550, 551, 552, 553, 554, 555, 556, 557, 558, 559, 560, 561, 562, 563, 564, 565, 566, 567, 568, 569, 570, 571, 572, 573, 575]
noncomputable def phSb_22 : List Nat := [454, 455, 456, 457, 458, 459, 460, 461, 462, 463, 464, 465, 466, 467, 468, 469, 506, 507, 508, 509, 510, 511, 512, 513, 514, 515, 516, 517, 531, 532, 533, 534, 535, 536, 537, 538, 539, 540, 541, 542, 543, 544, 545, 546, 547, 548, 549, 550, 551, 552, 553, 554, 555, 556, 557, 558, 559, 560, 561, 562, 563, 564, 565, 566, 567, 568, 569, 570, 571, 572, 573, 575]
noncomputable def phSb_23 : List Nat := [454, 455, 456, 457, 458, 459, 460, 461, 462, 463, 464, 465, 466, 467, 468, 469, 506, 507, 508, 509, 510, 511, 512, 513, 514, 515, 516, 517, 531, 532, 533, 534, 535, 536, 537, 538, 539, 540, 541, 542, 543, 544, 545, 546, 547, 548, 549, 550, 551, 552, 553, 554, 555, 556, 557, 558, 559, 560, 561, 562, 563, 564, 565, 566, 567, 568, 569, 570, 571, 572, 573, 575]
noncomputable def phSb : Nat → List Nat
  | 0 => phSb_0
  | 1 => phSb_1
  | 2 => phSb_2
  | 3 => phSb_3
  | 4 => phSb_4
  | 5 => phSb_5
  | 6 => phSb_6
  | 7 => phSb_7
  | 8 => phSb_8
  | 9 => phSb_9
  | 10 => phSb_10
  | 11 => phSb_11
  | 12 => phSb_12
  | 13 => phSb_13
  | 14 => phSb_14
  | 15 => phSb_15
  | 16 => phSb_16
  | 17 => phSb_17
  | 18 => phSb_18
  | 19 => phSb_19
  | 20 => phSb_20
  | 21 => phSb_21
  | 22 => phSb_22
  | _ => phSb_23
end
section
/-! group on the class: nothing made yet, the things made, both made -/
noncomputable def qh0 (φ : List Nat) : Nat := List.rec (motive := fun _ => Nat) 0 (fun x _ _ => x) φ
theorem qh0_t : ∀ {φ : List Nat}, Nat.ble 1 (zlen φ) = true → φ[0]? = some (qh0 φ)
  | [], h => by cases h
  | x :: φ, _ => rfl
theorem qsum_one {f f' : Nat → Nat} {g : Nat} : ∀ {n : Nat}, g < n → (∀ i, i < n → i ≠ g → f i = f' i) → f g = f' g + 1 → zsum n f = zsum n f' + 1
  | 0, h, _, _ => absurd h (Nat.not_lt_zero g)
  | n + 1, h, hi, hg => by
    show zsum n f + f n = zsum n f' + f' n + 1
    by_cases c : g = n
    · subst c
      have e : zsum g f = zsum g f' := zsum_c (fun i hl => hi i (by omega) (by omega))
      rw [e, hg]
      omega
    · have e := qsum_one (n := n) (by omega) (fun i hl hne => hi i (by omega) hne) hg
      rw [e, hi n (by omega) (fun z => c z.symm)]
      omega
/-- one block less is wanting -/
theorem qMis_one {w0 w0' : va_W} {g : Nat} (hg : g < 24) (h0 : zgw w0 2 (qgS g) = 0) (h1 : zgw w0' 2 (qgS g) ≠ 0) (ho : ∀ g', g' < 24 → g' ≠ g → zgw w0' 2 (qgS g') = zgw w0 2 (qgS g')) : qMis w0 = qMis w0' + 1 := by
  refine qsum_one hg (fun i hi hne => ?_) ?_
  · rw [ho i hi hne]
  · rw [h0]
    cases hb : Nat.beq (zgw w0' 2 (qgS g)) 0
    · rfl
    · exact absurd (Nat.eq_of_beq_eq_true hb) h1
theorem qMis_same {w0 w0' : va_W} {g : Nat} (hg : g < 24) (h0 : zgw w0 2 (qgS g) ≠ 0) (h1 : zgw w0' 2 (qgS g) ≠ 0) (ho : ∀ g', g' < 24 → g' ≠ g → zgw w0' 2 (qgS g') = zgw w0 2 (qgS g')) : qMis w0' = qMis w0 := by
  refine zsum_c (fun i hi => ?_)
  by_cases c : i = g
  · subst c
    cases hb : Nat.beq (zgw w0' 2 (qgS i)) 0
    · cases hb2 : Nat.beq (zgw w0 2 (qgS i)) 0
      · rfl
      · exact absurd (Nat.eq_of_beq_eq_true hb2) h0
    · exact absurd (Nat.eq_of_beq_eq_true hb) h1
  · rw [ho i hi c]
theorem qMis_pos {w0 : va_W} {g : Nat} (hg : g < 24) (h0 : zgw w0 2 (qgS g) = 0) : 1 ≤ qMis w0 := by
  have h8 := qsum_one (n := 24) (g := g) (f := fun i => cond (Nat.beq (zgw w0 2 (qgS i)) 0) 1 0) (f' := fun i => if i = g then 0 else cond (Nat.beq (zgw w0 2 (qgS i)) 0) 1 0) hg (fun i _ hne => by show _ = if i = g then 0 else _; rw [if_neg hne]) (by show cond (Nat.beq (zgw w0 2 (qgS g)) 0) 1 0 = (if g = g then 0 else _) + 1; rw [if_pos rfl, h0]; rfl)
  have h9 : qMis w0 = zsum 24 (fun i => cond (Nat.beq (zgw w0 2 (qgS i)) 0) 1 0) := rfl
  omega
noncomputable def qgA (g : Nat) : Nat := match qgN g with
  | 1 => 1
  | 2 => 2
  | 3 => 3
  | 4 => 5
  | 5 => 7
  | _ => 11
noncomputable def qevA (f : List zV → zH 10 → zP 10 → Bool) (as' : List zV) (g : Nat) : Bool := zands [zjoin [(zoc 1 (qgN g), 0), (zoc 2 (qgS g), 0)] hcore hE0 hE0 (hGaf g), Nat.beq (hGaf g).2.2.1 1000, Nat.beq (hGaf g).2.2.2 80000, Nat.beq (zget 10 (hGaf g).1 0).1 24, Nat.ble 1 (zlen (phT g)), Nat.ble 1 (zlen (phSa g)), zbd 38 (qh0 (phSa g)) (phT g), zbd (qh0 (phSa g)) 1000000 (phSa g), f (zR 1 :: as') (hGaf g) (fun r h => zands [zeqI r (zI (qgA g)), qGP g (phT g) (phSa g) (qh0 (phT g)) (qh0 (phSa g)) h])]
noncomputable def qevB (f : List zV → zH 10 → zP 10 → Bool) (as' : List zV) (g : Nat) : Bool := zands [zjoin [(zoc 1 (qgN g), 39), (zoc 2 (qgS g), 0)] hcore (hTf (qgN g)) hE0 (hGbf g), Nat.beq (hGbf g).2.2.1 1000, Nat.beq (hGbf g).2.2.2 80000, Nat.beq (zget 10 (hGbf g).1 0).1 24, Nat.ble 1 (zlen (phSb g)), zbd (Nat.add 38 (hTf (qgN g)).2.1) 1000000 (phSb g), f (zR 1 :: as') (hGbf g) (fun r h => zands [zeqI r (zI (qgA g)), qGP g (zrng 38 (hTf (qgN g)).2.1) (phSb g) 38 (qh0 (phSb g)) h])]
noncomputable def qevC (f : List zV → zH 10 → zP 10 → Bool) (as' : List zV) (g : Nat) : Bool := zands [zjoin [(zoc 1 (qgN g), 39), (zoc 2 (qgS g), Nat.add 39 (hTf (qgN g)).2.1)] hcore (hTf (qgN g)) (hSf g) (hGcf g), Nat.beq (hGcf g).2.2.1 0, Nat.beq (hGcf g).2.2.2 0, Nat.beq (zget 10 (hGcf g).1 0).1 24, f (zR 1 :: as') (hGcf g) (fun r h => zands [zeqI r (zI (qgA g)), qGP g (zrng 38 (hTf (qgN g)).2.1) (zrng (Nat.add 38 (hTf (qgN g)).2.1) (hSf g).2.1) 38 (Nat.add 38 (hTf (qgN g)).2.1) h])]
theorem q_groupC [G : zGh] {X Xc : zM} {yc : MethodName} {fr frc pc n : Nat} {f : List zV → zH 10 → zP 10 → Bool} {cA : Nat → ClassId} {D : va_G} {A : Nat → Prop} {MC MS : Nat} {p : Program} {l : Launch} {e : Env} {s : State} {m : MethodId} {args : Array Value} {below : List Frame} {meth : Method} {c : Code} {Q : State → Prop} {ls : Array Slot} {H : Heap} {locs : List Loc} {cells slots : Nat} {as' : List zV} {st av' : List Value} {w0 : va_W} {own : Nat → Nat} {ax g g0 : Nat}
    (hg : g < 24) (hM : zMet Xc yc frc f) (run : zRun X Xc yc fr frc pc n 1000 80000 (qrc 8)) (run0 : zRun X Xc yc fr frc pc n 0 0 (qrc 8)) (Cx : zCx X cA D p s m args meth c A)
    (IC : qC cA D A H own ax g0 w0) (ea : qevA f as' g = true) (eb : qevB f as' g = true) (ec : qevC f as' g = true)
    (hS : va_S A s.heap H locs) (hls : ls.size = X.2.2.1) (has : ∀ ad, zRepL ad as' av') (hcat : (st.map fun v => v.category).sum ≤ 8) (hn : av'.length + 1 = n) (hcb : cells + 1000 * qMis w0 ≤ MC) (hsb : slots + 80000 * qMis w0 ≤ MS)
    (kk : ∀ (w0' : va_W) (own1 : Nat → Nat) (ad : zA) (r : zV) (ov : Option Value) (H1 : Heap) (locs1 : List Loc) (cells1 slots1 : Nat), ((ov = none ∧ r = zU) ∨ ∃ x, ov = some x ∧ ∀ (_ : zGh), zRep ad r x) → zeqI r (zI (qgA g)) = true → qC cA D A H1 own1 ax g w0' → zgw w0' 11 1 = zgw w0 11 1 → (∀ (d2 : Nat) (h2 : zH d2) (w2 : va_W), qB cA D A H own 1 h2 w2 → qB cA D A H1 own1 1 h2 w2) → va_S A s.heap H1 locs1 → cells1 + 1000 * qMis w0' ≤ MC → slots1 + 80000 * qMis w0' ≤ MS → W p l e (zRm fr MC MS) s m args below meth c H1 locs1 cells1 slots1 Q (F0 m (pc + 3) ls (ov.toList ++ st))) :
    W p l e (zRm fr MC MS) s m args below meth c H locs cells slots Q (F0 m pc ls ((.ref ax :: av').reverse ++ st)) := by
  obtain ⟨B0, hax, cur, hT, hS0⟩ := IC
  obtain ⟨b1, b2, b3⟩ := qg_b g hg
  obtain ⟨⟨C0, H0⟩, -, -, O0⟩ := id B0
  have l0 : w0.length = 38 := H0.1.trans hcore_n
  by_cases cS : zgw w0 2 (qgS g) = 0
  · by_cases cT : zgw w0 1 (qgN g) = 0
    · obtain ⟨e1, ea⟩ := zands_c ea
      obtain ⟨e2, ea⟩ := zands_c ea
      obtain ⟨e3, ea⟩ := zands_c ea
      obtain ⟨e4, ea⟩ := zands_c ea
      obtain ⟨e5, ea⟩ := zands_c ea
      obtain ⟨e6, ea⟩ := zands_c ea
      obtain ⟨e7, ea⟩ := zands_c ea
      obtain ⟨e8, ea⟩ := zands_c ea
      obtain ⟨e9, -⟩ := zands_c ea
      have hJ := q_join (z1 := 100) (z2 := 101) B0 qB_nil qB_nil (by decide) (by decide) (by decide) e1 (fun w v hm => by
        rcases List.mem_cons.mp hm with hm | hm
        · cases hm
          exact q_ent0 (by omega) cT
        rcases List.mem_cons.mp hm with hm | hm
        · cases hm
          exact q_ent0 (by omega) cS
        cases hm)
      have hlen : (w0 ++ [] ++ []).length = 38 := by rw [List.append_nil, List.append_nil]; exact l0
      have t5 := qh0_t e5
      have t6 := qh0_t e6
      have u5 := zbd_t e7 0 _ t5
      have u6 := zbd_t e8 0 _ t6
      refine q_growC (φT := phT g) (φS := phSa g) (tr := qh0 (phT g)) (sr := qh0 (phSa g)) hg hM run Cx B0 hax hT hS0 hJ (Nat.eq_of_beq_eq_true e2) (Nat.eq_of_beq_eq_true e3) e4 e9 (fun i x hx => ?_) (fun p b hb => Or.inl ?_) (fun p b hb => Or.inl ?_) (fun p p' b hb hb' => ?_) t5 t6 (by omega) (by omega) hS hls has hcat hn ?_ ?_ (fun w0' own1 ad r ov H1 locs1 hov hra hq ho hl hr hs1 => ?_)
      · rw [List.append_nil, List.append_nil] at hx
        exact Or.inl ⟨by rw [← l0]; exact (List.getElem?_eq_some_iff.mp hx).1, O0 i x hx⟩
      · have := zbd_t e7 p b hb
        omega
      · have := zbd_t e8 p b hb
        omega
      · have h1 := zbd_t e7 p b hb
        have h2 := zbd_t e8 p' b hb'
        omega
      · have hm1 := qMis_pos hg cS
        omega
      · have hm1 := qMis_pos hg cS
        omega
      · have hm := qMis_one hg cS hq.2.2.1.1 ho
        exact kk w0' own1 ad r ov H1 locs1 _ _ hov hra hq hl hr hs1 (by omega) (by omega)
    · obtain ⟨wT, BT, hdT⟩ := hT (qgN g) b1 b2 cT
      obtain ⟨⟨C1, HT⟩, -, -, O1⟩ := id BT
      have l1 : wT.length = (hTf (qgN g)).2.1 := HT.1
      obtain ⟨e1, eb⟩ := zands_c eb
      obtain ⟨e2, eb⟩ := zands_c eb
      obtain ⟨e3, eb⟩ := zands_c eb
      obtain ⟨e4, eb⟩ := zands_c eb
      obtain ⟨e6, eb⟩ := zands_c eb
      obtain ⟨e8, eb⟩ := zands_c eb
      obtain ⟨e9, -⟩ := zands_c eb
      obtain ⟨eT, hT0⟩ := hdT
      have hlt := (List.getElem?_eq_some_iff.mp hT0).1
      have hwT : (w0 ++ wT ++ [])[38]? = some (zgw w0 1 (qgN g) - 1, eT) := by
        rw [List.append_nil, List.getElem?_append_right (by omega), show 38 - w0.length = 0 by omega]
        exact hT0
      have hJ := q_join (z2 := 101) B0 BT qB_nil (by omega) (by decide) (by omega) e1 (fun w v hm => by
        rcases List.mem_cons.mp hm with hm | hm
        · cases hm
          exact q_ent (a := zgw w0 1 (qgN g) - 1) (by omega) (by omega) (zad_ix hwT) rfl (by decide)
        rcases List.mem_cons.mp hm with hm | hm
        · cases hm
          exact q_ent0 (by omega) cS
        cases hm)
      have hlen : (w0 ++ wT ++ []).length = 38 + (hTf (qgN g)).2.1 := by rw [List.append_nil, List.length_append]; omega
      have t6 := qh0_t e6
      have u6 : Nat.add 38 (hTf (qgN g)).2.1 ≤ qh0 (phSb g) ∧ qh0 (phSb g) < 1000000 := zbd_t e8 0 _ t6
      have ea38 : Nat.add 38 (hTf (qgN g)).2.1 = 38 + (hTf (qgN g)).2.1 := rfl
      have hrg : ∀ (p b : Nat), (zrng 38 (hTf (qgN g)).2.1)[p]? = some b → 38 ≤ b ∧ b < 38 + (hTf (qgN g)).2.1 := fun p b hb => by
        have hp : p < (hTf (qgN g)).2.1 := by rw [← zrng_len (hTf (qgN g)).2.1 38]; exact (List.getElem?_eq_some_iff.mp hb).1
        rw [zrng_at _ _ p hp] at hb
        cases hb
        omega
      have hm1 := qMis_pos hg cS
      refine q_growC (φT := zrng 38 (hTf (qgN g)).2.1) (φS := phSb g) (tr := 38) (sr := qh0 (phSb g)) hg hM run Cx B0 hax hT hS0 hJ (Nat.eq_of_beq_eq_true e2) (Nat.eq_of_beq_eq_true e3) e4 e9 (fun i x hx => ?_) (fun p b hb => Or.inr ?_) (fun p b hb => Or.inl ?_) (fun p p' b hb hb' => ?_) (zrng_at _ _ 0 (by omega)) t6 (by decide) (by omega) hS hls has hcat hn (by omega) (by omega) (fun w0' own1 ad r ov H1 locs1 hov hra hq ho hl hr hs1 => ?_)
      · rw [List.append_nil] at hx
        rcases q_mem hx with ⟨a1, a2⟩ | ⟨a1, a2⟩
        · exact Or.inl ⟨by omega, O0 _ x a2⟩
        · exact Or.inr ⟨by omega, Or.inl (O1 _ x a2)⟩
      · have := hrg p b hb
        have hx : wT[b - 38]? = some wT[b - 38] := List.getElem?_eq_getElem (by omega)
        refine ⟨_, ?_, O1 _ _ hx⟩
        rw [List.append_nil, List.getElem?_append_right (by omega), l0]
        exact hx
      · have := zbd_t e8 p b hb
        omega
      · have h1 := hrg p b hb
        have h2 := zbd_t e8 p' b hb'
        omega
      · have hm := qMis_one hg cS hq.2.2.1.1 ho
        exact kk w0' own1 ad r ov H1 locs1 _ _ hov hra hq hl hr hs1 (by omega) (by omega)
  · obtain ⟨cT, wS, BS, hdS⟩ := hS0 g hg cS
    obtain ⟨wT, BT, hdT⟩ := hT (qgN g) b1 b2 cT
    obtain ⟨⟨C1, HT⟩, -, -, O1⟩ := id BT
    obtain ⟨⟨C2, HS⟩, -, -, O2⟩ := id BS
    have l1 : wT.length = (hTf (qgN g)).2.1 := HT.1
    have l2 : wS.length = (hSf g).2.1 := HS.1
    obtain ⟨e1, ec⟩ := zands_c ec
    obtain ⟨e2, ec⟩ := zands_c ec
    obtain ⟨e3, ec⟩ := zands_c ec
    obtain ⟨e4, ec⟩ := zands_c ec
    obtain ⟨e9, -⟩ := zands_c ec
    obtain ⟨eT, hT0⟩ := hdT
    obtain ⟨eS, hS00⟩ := hdS
    have hlt := (List.getElem?_eq_some_iff.mp hT0).1
    have hlt2 := (List.getElem?_eq_some_iff.mp hS00).1
    have hwT : (w0 ++ wT ++ wS)[38]? = some (zgw w0 1 (qgN g) - 1, eT) := by
      rw [List.append_assoc, List.getElem?_append_right (by omega), List.getElem?_append_left (by omega), show 38 - w0.length = 0 by omega]
      exact hT0
    have hwS : (w0 ++ wT ++ wS)[38 + (hTf (qgN g)).2.1]? = some (zgw w0 2 (qgS g) - 1, eS) := by
      rw [List.getElem?_append_right (by rw [List.length_append]; omega), List.length_append, show 38 + (hTf (qgN g)).2.1 - (w0.length + wT.length) = 0 by omega]
      exact hS00
    have lS : (hTf (qgN g)).2.1 ≤ 512 := HT.2.1
    have lS2 : (hSf g).2.1 ≤ 128 := HS.2.1
    have ea38 : Nat.add 38 (hTf (qgN g)).2.1 = 38 + (hTf (qgN g)).2.1 := rfl
    have ea39 : Nat.add 39 (hTf (qgN g)).2.1 = 39 + (hTf (qgN g)).2.1 := rfl
    have hJ := q_join B0 BT BS (by omega) (by omega) (by omega) e1 (fun w v hm => by
      rcases List.mem_cons.mp hm with hm | hm
      · cases hm
        exact q_ent (a := zgw w0 1 (qgN g) - 1) (by omega) (by omega) (zad_ix hwT) rfl (by decide)
      rcases List.mem_cons.mp hm with hm | hm
      · cases hm
        exact q_ent (a := zgw w0 2 (qgS g) - 1) (by omega) (by omega) (zad_ix hwS) (by omega) (by omega)
      cases hm)
    have hrg : ∀ (a l p b : Nat), (zrng a l)[p]? = some b → a ≤ b ∧ b < a + l := fun a l p b hb => by
      have hp : p < l := by rw [← zrng_len l a]; exact (List.getElem?_eq_some_iff.mp hb).1
      rw [zrng_at l a p hp] at hb
      cases hb
      omega
    refine q_growC (φT := zrng 38 (hTf (qgN g)).2.1) (φS := zrng (Nat.add 38 (hTf (qgN g)).2.1) (hSf g).2.1) (tr := 38) (sr := Nat.add 38 (hTf (qgN g)).2.1) hg hM run0 Cx B0 hax hT hS0 hJ (Nat.eq_of_beq_eq_true e2) (Nat.eq_of_beq_eq_true e3) e4 e9 (fun i x hx => ?_) (fun p b hb => Or.inr ?_) (fun p b hb => Or.inr ?_) (fun p p' b hb hb' => ?_) (zrng_at _ _ 0 (by omega)) (zrng_at _ _ 0 (by omega)) (by decide) (by omega) hS hls has hcat hn (by omega) (by omega) (fun w0' own1 ad r ov H1 locs1 hov hra hq ho hl hr hs1 => ?_)
    · rcases q_mem hx with ⟨a1, a2⟩ | ⟨a1, a2⟩
      · rcases q_mem a2 with ⟨a3, a4⟩ | ⟨a3, a4⟩
        · exact Or.inl ⟨by omega, O0 _ x a4⟩
        · exact Or.inr ⟨by omega, Or.inl (O1 _ x a4)⟩
      · rw [List.length_append] at a1
        exact Or.inr ⟨by omega, Or.inr (O2 _ x a2)⟩
    · have := hrg _ _ p b hb
      have hx : wT[b - 38]? = some wT[b - 38] := List.getElem?_eq_getElem (by omega)
      refine ⟨_, ?_, O1 _ _ hx⟩
      rw [List.append_assoc, List.getElem?_append_right (by omega), List.getElem?_append_left (by omega), l0]
      exact hx
    · have := hrg _ _ p b hb
      have hx : wS[b - (38 + (hTf (qgN g)).2.1)]? = some wS[b - (38 + (hTf (qgN g)).2.1)] := List.getElem?_eq_getElem (by omega)
      refine ⟨_, ?_, O2 _ _ hx⟩
      rw [List.getElem?_append_right (by rw [List.length_append]; omega), List.length_append, l0, l1]
      exact hx
    · have h1 := hrg _ _ p b hb
      have h2 := hrg _ _ p' b hb'
      omega
    · have hm := qMis_same hg cS hq.2.2.1.1 ho
      exact kk w0' own1 ad r ov H1 locs1 _ _ hov hra hq hl hr hs1 (by omega) (by omega)
end
section
/-! a call on a part of a block; the rest of it stays -/
noncomputable def zuw (φ : List Nat) (k i : Nat) (isR : Bool) (x x0 j : Nat) : Bool := cond (Nat.beq (zwd 40 x0 j) (zoc i j)) (Nat.ble j 63) (cond (Nat.beq (zwd 40 x j) (zoc k j)) (cond (Nat.ble j 63) (Nat.ble (zwd 40 x0 j) 274877906943) false) (cond isR (Nat.rec (motive := fun _ => Bool) (Nat.beq (zwd 40 x0 j) 0) (fun p _ => ztab φ p (fun b => cond (Nat.beq (zwd 40 x0 j) (Nat.succ b)) (Nat.ble (zwd 40 x0 j) 549755813887) false)) (zwd 40 x j)) false))
noncomputable def zut (φ : List Nat) (k i : Nat) (c c0 : zC) : Bool := Prod.rec (motive := fun _ => Bool) (fun kd v => Prod.rec (motive := fun _ => Bool) (fun len x => Prod.rec (motive := fun _ => Bool) (fun kd0 v0 => Prod.rec (motive := fun _ => Bool) (fun len0 x0 => cond (Nat.beq kd kd0) (cond (Nat.beq len len0) (cond (Nat.ble kd 2) (Nat.beq x x0) (cond (Nat.ble 16 kd) (zall (zN (Nat.sub kd 16)) (fun j => zuw φ k i (zisR (zfty (Nat.sub kd 16) j)) x x0 j)) false)) false) false) v0) c0) v) c
noncomputable def zutL {d ds : Nat} (φ : List Nat) (T : zT d) (hs : zH ds) (l : List Nat) (t : Nat) : Bool := List.rec (motive := fun _ => Nat → Bool) (fun _ => true) (fun b _ r t => cond (zut φ t b (zget ds hs.1 t) (zget d T b)) (r (Nat.succ t)) false) l t
theorem zutL_t {d ds : Nat} {φ : List Nat} {T : zT d} {hs : zH ds} : ∀ (l : List Nat) (t : Nat), zutL φ T hs l t = true → ∀ (u b : Nat), l[u]? = some b → zut φ (t + u) b (zget ds hs.1 (t + u)) (zget d T b) = true
  | [], _, _, u, b, hu => by simp at hu
  | b0 :: l, t, h, 0, b, hu => by
    have h : cond (zut φ t b0 (zget ds hs.1 t) (zget d T b0)) (zutL φ T hs l (Nat.succ t)) false = true := h
    have e : b0 = b := by simpa using hu
    subst e
    exact (zcnd_t h).1
  | b0 :: l, t, h, u + 1, b, hu => by
    have h : cond (zut φ t b0 (zget ds hs.1 t) (zget d T b0)) (zutL φ T hs l (Nat.succ t)) false = true := h
    have := zutL_t l (t + 1) (zcnd_t h).2 u b (by simpa using hu)
    rw [show t + 1 + u = t + (u + 1) by omega] at this
    exact this
noncomputable def zslf {d : Nat} (hh : zH d) (φ : List Nat) : Bool := zall hh.2.1 (fun i => cond (zmmb i φ) true (zjC (fun w => cond (Nat.ble (zoc i 0) w) (Nat.ble w (zoc i 63)) false) 0 [] (zget d hh.1 i) (zget d hh.1 i)))
theorem zmmb_memS {b : Nat} : ∀ {l : List Nat}, zmmbS b l = true → ∃ k : Nat, l[k]? = some b
  | [], h => by cases h
  | c :: l, h => by
    have h : cond (Nat.beq b c) true (zmmbS b l) = true := h
    cases hb : Nat.beq b c
    · rw [hb, cond_false] at h
      obtain ⟨k, hk⟩ := zmmb_memS h
      exact ⟨k + 1, by simpa using hk⟩
    · exact ⟨0, by rw [Nat.eq_of_beq_eq_true hb]; rfl⟩
/-- a world with some of its cells anew -/
theorem zmmb_mem {b : Nat} {l : List Nat} (h : zmmb b l = true) : ∃ k : Nat, l[k]? = some b := zmmb_memS (by rw [← zmmb_eq]; exact h)
noncomputable def zpu (φ : List Nat) (ws' w : va_W) : va_W := w.mapIdx (fun i q => @dite _ (∃ k : Nat, φ[k]? = some i) (Classical.propDecidable _) (fun h => (ws'[Classical.choose h]?).getD q) (fun _ => q))
theorem zpu_len {φ : List Nat} {ws' w : va_W} : (zpu φ ws' w).length = w.length := List.length_mapIdx
theorem zpu_in {φ : List Nat} {ws' w : va_W} {k i : Nat} {x : Nat × va_E} (hn : ∀ p p' b : Nat, φ[p]? = some b → φ[p']? = some b → p = p') (hk : φ[k]? = some i) (hx : ws'[k]? = some x) (hi : i < w.length) : (zpu φ ws' w)[i]? = some x := by
  have hex : ∃ k : Nat, φ[k]? = some i := ⟨k, hk⟩
  have hc : Classical.choose hex = k := hn _ _ _ (Classical.choose_spec hex) hk
  unfold zpu
  rw [List.getElem?_mapIdx, List.getElem?_eq_getElem hi, Option.map_some, dif_pos hex, hc, hx]
  rfl
theorem zpu_out {φ : List Nat} {ws' w : va_W} {i : Nat} (hn : ¬ ∃ k : Nat, φ[k]? = some i) : (zpu φ ws' w)[i]? = w[i]? := by
  unfold zpu
  rw [List.getElem?_mapIdx]
  cases w[i]? with
  | none => rfl
  | some q => rw [Option.map_some, dif_neg hn]
section SUBQ
variable {φ : List Nat} {adB adS adN : zA} {k i j x x0 : Nat}
theorem zuw_R {r r0 : Option Nat} (hS : j ≤ 63 → adS.2 (zoc k j) = zcv (va_rf r0)) (hN : j ≤ 63 → adN.2 (zoc i j) = zcv (va_rf r)) (hBN : adN.1 = adB.1) (hφ : ∀ p b a : Nat, φ[p]? = some b → adS.1[p]? = some a → adN.1[b]? = some a) (hφl : ∀ p b : Nat, φ[p]? = some b → p < 1000000) (h : zuw φ k i true x x0 j = true) (hn : zRw adS (zwd 40 x j) r) (ho : zRw adB (zwd 40 x0 j) r0) : zRw adN (zwd 40 x0 j) r := by
  unfold zuw at h
  cases h1 : Nat.beq (zwd 40 x0 j) (zoc i j)
  · rw [h1, cond_false] at h
    cases h2 : Nat.beq (zwd 40 x j) (zoc k j)
    · rw [h2, cond_false, cond_true] at h
      generalize zwd 40 x j = wx at h hn
      cases wx with
      | zero =>
        have e : zwd 40 x0 j = 0 := Nat.eq_of_beq_eq_true h
        rw [e]
        rcases hn with ⟨-, ⟨-, z⟩ | ⟨q, a, z, -⟩⟩ | ⟨z, -⟩
        · exact Or.inl ⟨by decide, Or.inl ⟨rfl, z⟩⟩
        · cases z
        · exact absurd z (by decide)
      | succ p =>
        have h : ztab φ p (fun b => cond (Nat.beq (zwd 40 x0 j) (Nat.succ b)) (Nat.ble (zwd 40 x0 j) 549755813887) false) = true := h
        obtain ⟨b, hb, h⟩ := ztab_t φ p h
        obtain ⟨g1, g2⟩ := zcnd_t h
        have e := Nat.eq_of_beq_eq_true g1
        have g2 := Nat.le_of_ble_eq_true g2
        have hpl := hφl p b hb
        rcases hn with ⟨-, ⟨z, -⟩ | ⟨q, a, z1, z2, z3⟩⟩ | ⟨z, -⟩
        · cases z
        · have eq : p = q := by omega
          subst eq
          exact Or.inl ⟨by omega, Or.inr ⟨b, a, e, hφ p b a hb z2, z3⟩⟩
        · omega
    · rw [h2, cond_true] at h
      obtain ⟨g1, g2⟩ := zcnd_t h
      have g1 := Nat.le_of_ble_eq_true g1
      have g2 := Nat.le_of_ble_eq_true g2
      have ex := Nat.eq_of_beq_eq_true h2
      rw [ex] at hn
      have er : r = r0 := by
        rcases hn with ⟨z, -⟩ | ⟨-, z⟩
        · rw [zoc_n] at z
          omega
        · rw [z]
          exact zop_cv (zoc_20 k j) (hS g1)
      rw [er]
      rcases ho with ⟨z1, z2⟩ | ⟨z, -⟩
      · refine Or.inl ⟨z1, ?_⟩
        unfold zRf at z2 ⊢
        rw [hBN]
        exact z2
      · omega
  · rw [h1, cond_true] at h
    have hj := Nat.le_of_ble_eq_true h
    rw [Nat.eq_of_beq_eq_true h1]
    exact Or.inr ⟨by rw [zoc_n]; omega, (zop_cv (zoc_20 i j) (hN hj)).symm⟩
theorem zuw_I {C0 C1 C2 : zCh} {v v0 : Value} (hS : j ≤ 63 → adS.2 (zoc k j) = zcv v0) (hN : j ≤ 63 → adN.2 (zoc i j) = zcv v) (h : zuw φ k i false x x0 j = true) (hn : @zRepC C1 adS (zI (zwd 40 x j)) v) (ho : @zRepC C0 adB (zI (zwd 40 x0 j)) v0) : @zRepC C2 adN (zI (zwd 40 x0 j)) v := by
  unfold zuw at h
  obtain ⟨iv, rfl, n1, n2, n3⟩ := hn
  cases h1 : Nat.beq (zwd 40 x0 j) (zoc i j)
  · rw [h1, cond_false] at h
    cases h2 : Nat.beq (zwd 40 x j) (zoc k j)
    · rw [h2, cond_false, cond_false] at h
      cases h
    · rw [h2, cond_true] at h
      obtain ⟨g1, g2⟩ := zcnd_t h
      have g1 := Nat.le_of_ble_eq_true g1
      have g2 := Nat.le_of_ble_eq_true g2
      have ex := Nat.eq_of_beq_eq_true h2
      obtain ⟨i0, rfl, o1, o2, o3⟩ := ho
      rw [ex] at n2
      have e : zi iv = zi i0 := (n2 (by rw [zoc_n]; omega)).trans (hS g1)
      have e := zi_inj e
      subst e
      exact ⟨iv, rfl, ⟨o1.1, fun z => absurd z (by omega)⟩, fun z => absurd z (by omega), fun z => absurd z (by omega)⟩
  · rw [h1, cond_true] at h
    have hj := Nat.le_of_ble_eq_true h
    rw [Nat.eq_of_beq_eq_true h1]
    exact ⟨iv, rfl, ⟨⟨fun z => absurd z (by rw [zoc_n]; omega), fun _ z => absurd z (by rw [zoc_n]; omega)⟩, fun z => absurd z (by rw [zoc_n]; omega)⟩, fun _ => (hN hj).symm, fun _ z => absurd z (by rw [zoc_n]; omega)⟩
theorem zut_ok {C0 C1 C2 : zCh} {cB cS cN : Nat → ClassId} {c c0 : zC} {eo en : va_E} (hty : ∀ q, q < 3 → cN q = cS q) (hS : ∀ j, j ≤ 63 → adS.2 (zoc k j) = zgv eo j) (hN : ∀ j, j ≤ 63 → adN.2 (zoc i j) = zgv en j) (hBN : adN.1 = adB.1) (hφ : ∀ p b a : Nat, φ[p]? = some b → adS.1[p]? = some a → adN.1[b]? = some a) (hφl : ∀ p b : Nat, φ[p]? = some b → p < 1000000) (h : zut φ k i c c0 = true) (hn : @zCell C1 cS adS c en) (ho : @zCell C0 cB adB c0 eo) : @zCell C2 cN adN c0 en := by
  obtain ⟨kd, len, x⟩ := c
  obtain ⟨kd0, len0, x0⟩ := c0
  have h : cond (Nat.beq kd kd0) (cond (Nat.beq len len0) (cond (Nat.ble kd 2) (Nat.beq x x0) (cond (Nat.ble 16 kd) (zall (zN (Nat.sub kd 16)) (fun j => zuw φ k i (zisR (zfty (Nat.sub kd 16) j)) x x0 j)) false)) false) false = true := h
  obtain ⟨h1, hA⟩ := zcnd_t h
  obtain ⟨h2, hB⟩ := zcnd_t hA
  have e1 := Nat.eq_of_beq_eq_true h1
  have e2 := Nat.eq_of_beq_eq_true h2
  clear h hA h1 h2
  subst e1
  subst e2
  cases k2 : Nat.ble kd 2
  · rw [k2, cond_false] at hB
    obtain ⟨k16, hB⟩ := zcnd_t hB
    have q16 := Nat.le_of_ble_eq_true k16
    obtain ⟨fs, rfl, hl, hf⟩ := @zCell_obj C1 cS adS kd len x (kd - 16) _ hn (by omega)
    obtain ⟨fs0, rfl, hl0, hf0⟩ := @zCell_obj C0 cB adB kd len x0 (kd - 16) _ ho (by omega)
    have key := @zCell_ok C2 cN adN (kd - 16) len x0 fs hl (fun j v hv => by
      have hj : j < zN (kd - 16) := by rw [← hl]; exact (List.getElem?_eq_some_iff.mp hv).1
      obtain ⟨v0, ej⟩ : ∃ v0, fs0[j]? = some v0 := ⟨_, List.getElem?_eq_getElem (by omega)⟩
      have hwj : zuw φ k i (zisR (zfty (kd - 16) j)) x x0 j = true := zall_t hB j hj
      have hn1 := hf j v hv
      have ho1 := hf0 j v0 ej
      have hSj : j ≤ 63 → adS.2 (zoc k j) = zcv v0 := fun hj => by
        rw [hS j hj]
        show (match fs0[j]? with
          | some v => zcv v
          | none => 0) = _
        rw [ej]
      have hNj : j ≤ 63 → adN.2 (zoc i j) = zcv v := fun hj => by
        rw [hN j hj]
        show (match fs[j]? with
          | some v => zcv v
          | none => 0) = _
        rw [hv]
      unfold zFl at hn1 ho1 ⊢
      cases hz : zisR (zfty (kd - 16) j)
      · rw [hz] at hwj
        rw [hz, cond_false] at hn1 ho1
        rw [cond_false]
        exact zuw_I hSj hNj hwj hn1 ho1
      · rw [hz] at hwj
        rw [hz, cond_true] at hn1 ho1
        rw [cond_true]
        obtain ⟨r, rfl, hr⟩ := hn1
        obtain ⟨r0, rfl, hr0⟩ := ho1
        exact ⟨r, rfl, zuw_R hSj hNj hBN hφ hφl hwj hr hr0⟩)
    rw [show 16 + (kd - 16) = kd by omega] at key
    exact key
  · rw [k2, cond_true] at hB
    rw [← Nat.eq_of_beq_eq_true hB]
    exact zCell_lo (Nat.le_of_ble_eq_true k2) hn hty
end SUBQ
section PUT
variable {cA : Nat → ClassId} {D : va_G} {A : Nat → Prop} {H H1 : Heap} {own : Nat → Nat} {z d ds : Nat} {hh : zH d} {hb hs0 : zH ds} {w ws' : va_W} {φ : List Nat}
theorem q_put {Ch' : zCh} (B : qB cA D A H own z hh w) (hsp : zsubB φ hh hs0 = true) (hself : zslf hh φ = true) (hHo : @zHp Ch' ds (zcg cA (zsubw φ w)) hb ws') (ha : (zad (zcg cA (zsubw φ w)) ws').1 = (zad (zcg cA (zsubw φ w)) (zsubw φ w)).1) (hup : zutL φ hh.1 hb φ 0 = true) (hP' : va_P D zcl ws' H1) (hfr : ∀ q, q < H.size → ¬ va_A (zsubw φ w) H.size q → H1[q]? = H[q]?) : qB cA D A H1 own z hh (zpu φ ws' w) ∧ (∀ k i : Nat, φ[k]? = some i → (zpu φ ws' w)[i]? = ws'[k]?) ∧ ∀ (i : Nat) (x : Nat × va_E), w[i]? = some x → ∃ e, (zpu φ ws' w)[i]? = some (x.1, e) := by
  obtain ⟨⟨C0, hH⟩, hP, hD, hO⟩ := B
  have hS2 := (zHp_sub hsp hH).2
  obtain ⟨c0, hk1⟩ := zcnd_t hsp
  obtain ⟨c1, hk2⟩ := zcnd_t hk1
  obtain ⟨c2, hk3⟩ := zcnd_t hk2
  obtain ⟨-, c4⟩ := zcnd_t hk3
  have c1 := Nat.eq_of_beq_eq_true c1
  rw [zlen_eq] at c1
  have c4 : hh.2.1 + hs0.2.1 ≤ 1000000 := Nat.le_of_ble_eq_true c4
  obtain ⟨n1, n2⟩ := znd_t c2
  have hwl : w.length = hh.2.1 := hH.1
  have hnw : ∀ k i : Nat, φ[k]? = some i → ∃ (a : Nat) (eo en : va_E), w[i]? = some (a, eo) ∧ (zsubw φ w)[k]? = some (a, eo) ∧ ws'[k]? = some (a, en) ∧ (zpu φ ws' w)[i]? = some (a, en) := by
    intro k i hk
    have hi := n1 k i hk
    obtain ⟨⟨a, eo⟩, g1⟩ : ∃ q, w[i]? = some q := ⟨_, List.getElem?_eq_getElem (by omega)⟩
    have g2 := zsubw_at hk g1
    have h1 := zad_ix (cA := zcg cA (zsubw φ w)) g2
    rw [← ha] at h1
    obtain ⟨en, g3⟩ := zad_at h1
    exact ⟨a, eo, en, g1, g2, g3, zpu_in n2 hk g3 (by omega)⟩
  have hback : ∀ (i : Nat) (x : Nat × va_E), (zpu φ ws' w)[i]? = some x → ∃ e, w[i]? = some (x.1, e) := fun i x hx => by
    rcases Classical.em (∃ k : Nat, φ[k]? = some i) with ⟨k, hk⟩ | hn
    · obtain ⟨a, eo, en, g1, g2, g3, g4⟩ := hnw k i hk
      rw [g4] at hx
      cases hx
      exact ⟨eo, g1⟩
    · rw [zpu_out hn] at hx
      exact ⟨x.2, hx⟩
  have hforth : ∀ (i : Nat) (x : Nat × va_E), w[i]? = some x → ∃ e, (zpu φ ws' w)[i]? = some (x.1, e) := fun i x hx => by
    rcases Classical.em (∃ k : Nat, φ[k]? = some i) with ⟨k, hk⟩ | hn
    · obtain ⟨a, eo, en, g1, g2, g3, g4⟩ := hnw k i hk
      rw [g1] at hx
      cases hx
      exact ⟨en, g4⟩
    · exact ⟨x.2, by rw [zpu_out hn]; exact hx⟩
  have hadr : (zad (zcg cA (zpu φ ws' w)) (zpu φ ws' w)).1 = (zad (zcg cA w) w).1 := by
    refine List.ext_getElem? (fun i => ?_)
    show ((zpu φ ws' w).map (fun q => q.1))[i]? = (w.map (fun q => q.1))[i]?
    rw [List.getElem?_map, List.getElem?_map]
    rcases Classical.em (∃ k : Nat, φ[k]? = some i) with ⟨k, hk⟩ | hn
    · obtain ⟨a, eo, en, g1, g2, g3, g4⟩ := hnw k i hk
      rw [g1, g4, Option.map_some, Option.map_some]
    · rw [zpu_out hn]
  refine ⟨⟨⟨C0, by rw [zpu_len]; exact hwl, hH.2.1, fun i q hi => ?_⟩, fun i q hi => ?_, ⟨fun i j p q hi hj e => ?_, fun i q hi => ?_⟩, fun i x hx => ?_⟩, fun k i hk => ?_, hforth⟩
  · rcases Classical.em (∃ k : Nat, φ[k]? = some i) with ⟨k, hk⟩ | hn
    · obtain ⟨a, eo, en, g1, g2, g3, g4⟩ := hnw k i hk
      have hm := zutL_t φ 0 hup k i hk
      rw [Nat.zero_add] at hm
      have ei := hi
      rw [g4] at ei
      cases ei
      refine zut_ok (adB := zad (zcg cA w) w) (adS := zad (zcg cA (zsubw φ w)) ws') (fun q hq => (zcg_lo (by omega)).trans (zcg_lo (by omega)).symm) (fun j hj => zcg_oc (by omega) g2) (fun j hj => zcg_oc (by omega) g4) hadr (fun p b a' hp hpa => ?_) (fun p b hp => by have := (List.getElem?_eq_some_iff.mp hp).1; omega) hm (hHo.2.2 k _ g3) (hH.2.2 i _ g1)
      obtain ⟨a2, eo2, en2, u1, u2, u3, u4⟩ := hnw p b hp
      have v1 := zad_ix (cA := zcg cA (zsubw φ w)) u3
      rw [hpa] at v1
      cases v1
      exact zad_ix u4
    · have hi2 := hi
      rw [zpu_out hn] at hi2
      have hil := (List.getElem?_eq_some_iff.mp hi2).1
      have hs : cond (zmmb i φ) true (zjC (fun w => cond (Nat.ble (zoc i 0) w) (Nat.ble w (zoc i 63)) false) 0 [] (zget d hh.1 i) (zget d hh.1 i)) = true := zall_t hself i (by omega)
      have hnm : zmmb i φ = false := by
        cases hb : zmmb i φ
        · rfl
        · exact absurd (zmmb_mem hb) hn
      rw [hnm, cond_false] at hs
      refine zjC_ok (fun q hq => (zcg_lo (by omega)).trans (zcg_lo (by omega)).symm) (fun p a hp => ?_) (fun wd hw => ?_) (fun w v h => by cases h) ?_ hs (hH.2.2 i q hi2)
      · rw [Nat.add_zero, hadr]
        exact hp
      · obtain ⟨a1, a2⟩ := zcnd_t hw
        have a1 := Nat.le_of_ble_eq_true a1
        have a2 := Nat.le_of_ble_eq_true a2
        rw [zoc_n] at a1 a2
        unfold zcg
        rw [if_neg (by omega), if_neg (by omega), show (wd - 549755813889) / 64 = i by omega, zpu_out hn]
      · show cond (Nat.ble (zoc i 0) 549755813888) _ false = false
        rw [zble_n (by rw [zoc_n]; omega)]
        rfl
  · rcases Classical.em (∃ k : Nat, φ[k]? = some i) with ⟨k, hk⟩ | hn
    · obtain ⟨a, eo, en, g1, g2, g3, g4⟩ := hnw k i hk
      rw [g4] at hi
      cases hi
      exact hP' k _ g3
    · rw [zpu_out hn] at hi
      have hlt := (hP i q hi).lt
      refine (hP i q hi).kept (hfr q.1 hlt ?_)
      rintro (⟨k', e, hk'⟩ | z)
      · obtain ⟨b, f, g⟩ := hS2 k' _ hk'
        have eb := hD.1 i b q _ hi g rfl
        subst eb
        exact hn ⟨k', f⟩
      · omega
  · obtain ⟨e1, g1⟩ := hback i p hi
    obtain ⟨e2, g2⟩ := hback j q hj
    exact hD.1 i j _ _ g1 g2 e
  · obtain ⟨e1, g1⟩ := hback i q hi
    exact hD.2 i (q.1, e1) g1
  · obtain ⟨e1, g1⟩ := hback i x hx
    exact hO i (x.1, e1) g1
  · obtain ⟨a, eo, en, g1, g2, g3, g4⟩ := hnw k i hk
    rw [g3, g4]
end PUT
theorem q_sub [G : zGh] {X Xc : zM} {yc : MethodName} {fr frc pc n ci d ds z : Nat} {f : List zV → zH ds → zP ds → Bool} {cA : Nat → ClassId} {D : va_G} {A : Nat → Prop} {MC MS : Nat} {p : Program} {l : Launch} {e : Env} {s : State} {m : MethodId} {args : Array Value} {below : List Frame} {meth : Method} {c : Code} {Q : State → Prop} {ls : Array Slot} {H : Heap} {locs : List Loc} {cells slots : Nat} {as' : List zV} {st av' : List Value} {hh : zH d} {hs0 hin hout hb : zH ds} {w : va_W} {P : zP ds} {own : Nat → Nat} {ax : Nat} {φ : List Nat}
    (hM : zMet Xc yc frc f) (run : zRun X Xc yc fr frc pc n 0 0 (qrc ci)) (Cx : zCx X cA D p s m args meth c A)
    (B : qB cA D A H own z hh w) (hd : qhd w ax) (h0 : φ[0]? = some 0) (hsp : zsubB φ hh hs0 = true) (hself : zslf hh φ = true)
    (hop : ∀ Ch : zCh, @zHp Ch ds (zcg cA (zsubw φ w)) hs0 (zsubw φ w) → @zHp Ch ds (zcg cA (zsubw φ w)) hin (zsubw φ w)) (hr1 : hin.2.2.1 = 0) (hr2 : hin.2.2.2 = 0) (hci : Nat.beq (zget ds hin.1 0).1 (16 + ci) = true)
    (hk : f (zR 1 :: as') hin P = true) (hPo : ∀ r h, P r h = true → zsubH h hout = true) (hNo : hout.2.1 = hs0.2.1) (hob : zsubH hout hb = true) (hup : zutL φ hh.1 hb φ 0 = true)
    (hS : va_S A s.heap H locs) (hls : ls.size = X.2.2.1) (has : ∀ ad, zRepL ad as' av') (hcat : (st.map fun v => v.category).sum ≤ 8) (hn : av'.length + 1 = n) (hcb : cells ≤ MC) (hsb : slots ≤ MS)
    (kk : ∀ (w' ws' : va_W) (ad : zA) (r : zV) (h' : zH ds) (ov : Option Value) (H1 : Heap) (locs1 : List Loc), ((ov = none ∧ r = zU) ∨ ∃ x, ov = some x ∧ ∀ (_ : zGh), zRep ad r x) → P r h' = true → qB cA D A H1 own z hh w' → qhd w' ax → (∀ i : Nat, (¬ ∃ k : Nat, φ[k]? = some i) → w'[i]? = w[i]?) → (∀ k i : Nat, φ[k]? = some i → w'[i]? = ws'[k]?) → (∃ Ch : zCh, @zHp Ch ds (zcg cA (zsubw φ w)) hout ws') → (∀ (d2 z2 : Nat) (h2 : zH d2) (w2 : va_W), z2 ≠ z → qB cA D A H own z2 h2 w2 → qB cA D A H1 own z2 h2 w2) → va_S A s.heap H1 locs1 → W p l e (zRm fr MC MS) s m args below meth c H1 locs1 cells slots Q (F0 m (pc + 3) ls (ov.toList ++ st))) :
    W p l e (zRm fr MC MS) s m args below meth c H locs cells slots Q (F0 m pc ls ((.ref ax :: av').reverse ++ st)) := by
  obtain ⟨⟨Ch, hH⟩, hP, hD, hO⟩ := id B
  obtain ⟨hS1, hS2⟩ := zHp_sub hsp hH
  rw [zcg_eq (fun i hi => zcg_lo hi)] at hS1
  have hlo : ∀ i, i < 549755813889 → zcg cA (zsubw φ w) i = cA i := fun i hi => zcg_lo hi
  have hHi := hop Ch hS1
  have hF := zfree hD hS Cx.2.2.2.2.2.2.1
  obtain ⟨-, hk1⟩ := zcnd_t hsp
  obtain ⟨-, hk2⟩ := zcnd_t hk1
  obtain ⟨c2, -⟩ := zcnd_t hk2
  obtain ⟨n1, n2⟩ := znd_t c2
  have hPs : va_P D zcl (zsubw φ w) H := fun k q hq => by
    obtain ⟨b, -, g⟩ := hS2 k q hq
    exact hP b q g
  have hDs : va_D A (zsubw φ w) := ⟨fun i j p q hi hj e => by
    obtain ⟨b1, f1, g1⟩ := hS2 i p hi
    obtain ⟨b2, f2, g2⟩ := hS2 j q hj
    have eb := hD.1 b1 b2 p q g1 g2 e
    subst eb
    exact n2 i j b1 f1 f2, fun k q hq => by
    obtain ⟨b, -, g⟩ := hS2 k q hq
    exact hD.2 b q g⟩
  have hFs := zfree hDs hS Cx.2.2.2.2.2.2.1
  obtain ⟨en, hw0⟩ := hd
  have hws0 : (zsubw φ w)[0]? = some (ax, en) := zsubw_at h0 hw0
  refine pt_callF (h := hin) (ws := zsubw φ w) (P := P) (as := zR 1 :: as') (av := .ref ax :: av') hM run (zCx_to hlo Cx) hr1 hr2 hk hHi hPs hDs hS hls ⟨⟨some ax, rfl, Or.inr ⟨0, ax, rfl, zad_ix hws0, rfl⟩⟩, has _⟩ hcat (by rw [List.length_cons]; exact hn) (qrc_of hHi ⟨en, hws0⟩ hci) (by omega) (by omega) (fun Ch' r h' ws' ov H1 locs1 hov hPk hHp' hpre hP' hD' hS1' hsz hfr => ?_)
  have hHo := zsubH_ok (hPo r h' hPk) hHp'
  have hHb := zsubH_ok hob hHo
  have hl : (zsubw φ w).length = hs0.2.1 := hS1.1
  have hl' : ws'.length = hs0.2.1 := hHo.1.trans hNo
  have ha : (zad (zcg cA (zsubw φ w)) ws').1 = (zad (zcg cA (zsubw φ w)) (zsubw φ w)).1 := zPre_len hpre (by show (ws'.map _).length = ((zsubw φ w).map _).length; rw [List.length_map, List.length_map, hl, hl'])
  obtain ⟨q1, q2, q3⟩ := q_put B hsp hself hHb ha hup hP' hfr
  exact kk _ ws' (zad (zcg cA (zsubw φ w)) ws') r h' ov H1 locs1 hov hPk q1 (q3 0 _ hw0) (fun i hn => zpu_out hn) q2 ⟨Ch', hHo⟩ (fun d2 z2 h2 w2 hz B2 => qB_kept hfr (fun i x hx => by
    obtain ⟨b, -, g⟩ := hS2 i x hx
    rw [hO b x g]
    exact fun q => hz q.symm) (fun _ _ => rfl) B2) hS1'
end
section
/-! the tape alone: small worlds, by program -/
noncomputable def zk_99_yk_tapeD_0 : zC := (24, 8, 0x80000000088000000007800000000600000000028000000004800000000380000000028000000001)
noncomputable def hs0C : zH 2 := (show zT 2 from ((zk_99_yk_tapeD_0, (22, 2, 0x80000000420000000003)), ((0, 200, zun 40 200 4294967296), (0, 0, 0))), (3, (0, 0)))
noncomputable def hs0R : zH 1 := (show zT 1 from ((25, 63, 0x800000003f800000003e800000003d800000003c800000003b800000003a8000000039800000003880000000378000000036800000003580000000348000000033800000003280000000318000000030800000002f0000000002800000002d800000002c800000002b800000002a8000000029800000002880000000278000000026800000002580000000248000000023800000002280000000218000000020800000001f800000001e800000001d800000001c800000001b800000001a8000000019800000001880000000178000000016800000001580000000148000000013800000001280000000118000000010800000000f800000000e800000000d800000000c800000000b800000000a800000000980000000088000000007800000000680000000058000000004800000000380000000028000000001), (0, 200, zun 40 200 4294967296)), (2, (0, 0)))
noncomputable def hbC : zH 2 := (show zT 2 from ((zk_99_yk_tapeD_0, (22, 2, 0x1000000000000000003)), ((0, 200, zun 40 200 4294967296), (0, 0, 0))), (3, (0, 0)))
noncomputable def hbR : zH 1 := (show zT 1 from ((25, 63, 0x800000003f800000003e800000003d800000003c800000003b800000003a800000003980000000388000000037800000003680000000358000000034800000003380000000328000000031800000003001000000000000000002800000002d800000002c800000002b800000002a8000000029800000002880000000278000000026800000002580000000248000000023800000002280000000218000000020800000001f800000001e800000001d800000001c800000001b800000001a8000000019800000001880000000178000000016800000001580000000148000000013800000001280000000118000000010800000000f800000000e800000000d800000000c800000000b800000000a800000000980000000088000000007800000000680000000058000000004800000000380000000028000000001), (0, 200, zun 40 200 4294967296)), (2, (0, 0)))
end
section
/-! the tape's length on both sides -/
noncomputable def hTC (t : Nat) : zH 2 := (zset 2 hs0C.1 1 (22, 2, zup 40 (zget 2 hs0C.1 1).2.2 1 t), hs0C.2)
noncomputable def hTR (t : Nat) : zH 1 := (zset 1 hs0R.1 0 (25, 63, zup 40 (zget 1 hs0R.1 0).2.2 46 t), hs0R.2)
theorem ev_tC : zands [zsubB [0, 11, 12] hcore hs0C, zslf hcore [0, 11, 12], zutL [0, 11, 12] hcore.1 hbC [0, 11, 12] 0, zutL [0, 11, 12] hcore.1 hs0C [0, 11, 12] 0, zsubH hs0C hbC] = true := by decide +kernel
theorem ev_tR : zall 24 (fun g => zands [zsubB [0, 37] (hRf g) hs0R, zslf (hRf g) [0, 37], zutL [0, 37] (hRf g).1 hbR [0, 37] 0, zutL [0, 37] (hRf g).1 hs0R [0, 37] 0]) = true := by decide +kernel
theorem ev_tT : zall 201 (fun t => zands [zsubH (hTC t) hbC, zsubH (hTR t) hbR]) = true := by decide +kernel
theorem ev_tk : zands [Nat.beq (zget 2 hs0C.1 0).1 24, Nat.beq (zget 2 hs0C.1 0).2.1 8, Nat.beq (zget 2 hs0C.1 1).1 22, Nat.beq (zget 2 hs0C.1 1).2.1 2, Nat.beq (zwd 40 (zget 2 hs0C.1 0).2.2 6) (zoc 0 6), Nat.beq (zwd 40 (zget 2 hs0C.1 0).2.2 7) (zoc 0 7), Nat.beq (zwd 40 (zget 2 hs0C.1 1).2.2 1) (zoc 1 1), Nat.beq (zget 1 hs0R.1 0).1 25, Nat.beq (zget 1 hs0R.1 0).2.1 63, Nat.beq (zwd 40 (zget 1 hs0R.1 0).2.2 46) (zoc 0 46)] = true := by decide +kernel
theorem ev_tk2 : zands [Nat.beq (zget 1 hs0R.1 0).1 (16 + 9), Nat.beq hs0R.2.1 2, Nat.beq hs0C.2.1 3] = true := by decide +kernel
theorem zgw_sub {φ : List Nat} {ws : va_W} {k i j : Nat} (hk : φ[k]? = some i) (hi : i < ws.length) : zgw (zsubw φ ws) k j = zgw ws i j := by
  have e : ws[i]? = some ws[i] := List.getElem?_eq_getElem hi
  rw [zgw_e e, zgw_e (zsubw_at hk e)]
theorem zgw_of {w w' : va_W} {i k j : Nat} (h : w'[i]? = w[k]?) : zgw w' i j = zgw w k j := by
  unfold zgw
  rw [h]
/-- one number of an object told otherwise: not below a least one, at most 200 -/
theorem zHp_openT {Ch : zCh} {d : Nat} {cA : Nat → ClassId} {h : zH d} {w : va_W} {t kd len x j m : Nat} (hH : @zHp Ch d cA h w) (ht : t < h.2.1) (hc : zget d h.1 t = (kd, len, x)) (h16 : 16 ≤ kd) (hj : j < zN (kd - 16)) (hr : zisR (zfty (kd - 16) j) = false) (h1 : m ≤ zgw w t j) (h2 : zgw w t j ≤ 200) : @zHp Ch d cA (zset d h.1 t (kd, len, zup 40 x j (Nat.add 274877906946 m)), h.2) w := by
  obtain ⟨q, e, hq⟩ := zHp_at hH ht hc
  refine zHp_cell hH e ?_
  have hg : zgw w t j = zgv q.2 j := zgw_e e
  have ev : Nat.add 274877906946 m = 274877906946 + m := rfl
  obtain ⟨qa, qe⟩ := q
  obtain ⟨fs, he, hl, hf⟩ := @zCell_obj Ch cA _ kd len x (kd - 16) _ hq (by omega)
  have he : qe = .inr (kd - 16, fs) := he
  subst he
  have key := @zCell_ok Ch cA (zad cA w) (kd - 16) len (zup 40 x j (Nat.add 274877906946 m)) fs hl (fun k u hu => by
    by_cases c1 : k = j
    · subst c1
      rw [zwd_up_same _ _ _ _ (by omega)]
      have hz := hf k u hu
      unfold zFl at hz ⊢
      rw [hr, cond_false] at hz ⊢
      obtain ⟨i, e1, e2, e3, e4⟩ := hz
      have hgi : zgw w t k = zi i := by
        rw [hg]
        show (match fs[k]? with
          | some v => zcv v
          | none => 0) = _
        rw [hu, e1]
        rfl
      have hlt := zi_lt i
      rw [ev]
      exact ⟨i, e1, ⟨⟨fun z => absurd z (by omega), fun _ _ => by omega⟩, fun z => absurd z (by omega)⟩, fun z => absurd z (by omega), fun _ _ => ⟨by omega, fun z => absurd z (by omega), fun z => absurd z (by omega), fun _ => by omega⟩⟩
    · rw [zwd_up_ne _ _ _ _ _ (by omega) (fun z => c1 z.symm)]
      exact hf k u hu)
  rw [show 16 + (kd - 16) = kd by omega] at key
  exact key
section TAPE
variable {Ch : zCh} {cA : Nat → ClassId} {t : Nat} {ws : va_W}
theorem hTC_op (hH : @zHp Ch 2 cA hs0C ws) (h : zgw ws 1 1 = t) (ht : t ≤ 200) : @zHp Ch 2 cA (hTC t) ws := by
  obtain ⟨-, k⟩ := zands_c ev_tk
  obtain ⟨-, k⟩ := zands_c k
  obtain ⟨k3, k⟩ := zands_c k
  obtain ⟨k4, k⟩ := zands_c k
  exact zHp_open hH (by decide) (zc3 k3 k4) (by decide) (by decide) rfl (by omega) (fun i hi => ⟨fun _ => hi.trans h, fun z => absurd z (by omega)⟩)
theorem hTR_op (hH : @zHp Ch 1 cA hs0R ws) (h : zgw ws 0 46 = t) (ht : t ≤ 200) : @zHp Ch 1 cA (hTR t) ws := by
  obtain ⟨-, k⟩ := zands_c ev_tk
  obtain ⟨-, k⟩ := zands_c k
  obtain ⟨-, k⟩ := zands_c k
  obtain ⟨-, k⟩ := zands_c k
  obtain ⟨-, k⟩ := zands_c k
  obtain ⟨-, k⟩ := zands_c k
  obtain ⟨-, k⟩ := zands_c k
  obtain ⟨k3, k⟩ := zands_c k
  obtain ⟨k4, k⟩ := zands_c k
  exact zHp_open hH (by decide) (zc3 k3 k4) (by decide) (by decide) rfl (by omega) (fun i hi => ⟨fun _ => hi.trans h, fun z => absurd z (by omega)⟩)
theorem hTC_opT {m : Nat} (hH : @zHp Ch 2 cA hs0C ws) (h : zgw ws 1 1 = t) (hm : m ≤ t) (ht : t ≤ 200) : @zHp Ch 2 cA (hTC (Nat.add 274877906946 m)) ws := by
  obtain ⟨-, k⟩ := zands_c ev_tk
  obtain ⟨-, k⟩ := zands_c k
  obtain ⟨k3, k⟩ := zands_c k
  obtain ⟨k4, k⟩ := zands_c k
  exact zHp_openT hH (by decide) (zc3 k3 k4) (by decide) (by decide) rfl (by omega) (by omega)
theorem hTR_opT {m : Nat} (hH : @zHp Ch 1 cA hs0R ws) (h : zgw ws 0 46 = t) (hm : m ≤ t) (ht : t ≤ 200) : @zHp Ch 1 cA (hTR (Nat.add 274877906946 m)) ws := by
  obtain ⟨-, k⟩ := zands_c ev_tk
  obtain ⟨-, k⟩ := zands_c k
  obtain ⟨-, k⟩ := zands_c k
  obtain ⟨-, k⟩ := zands_c k
  obtain ⟨-, k⟩ := zands_c k
  obtain ⟨-, k⟩ := zands_c k
  obtain ⟨-, k⟩ := zands_c k
  obtain ⟨k3, k⟩ := zands_c k
  obtain ⟨k4, k⟩ := zands_c k
  exact zHp_openT hH (by decide) (zc3 k3 k4) (by decide) (by decide) rfl (by omega) (by omega)
theorem hTC_cl (hH : @zHp Ch 2 cA (hTC t) ws) (ht : t ≤ 200) : zgw ws 1 1 = t ∧ zgw ws 0 6 = cA (zoc 0 6) ∧ zgw ws 0 7 = cA (zoc 0 7) := by
  obtain ⟨k1, k⟩ := zands_c ev_tk
  obtain ⟨k2, k⟩ := zands_c k
  obtain ⟨k3, k⟩ := zands_c k
  obtain ⟨k4, k⟩ := zands_c k
  obtain ⟨k5, k⟩ := zands_c k
  obtain ⟨k6, k⟩ := zands_c k
  have g1 : zget 2 (hTC t).1 1 = (22, 2, zup 40 (zget 2 hs0C.1 1).2.2 1 t) := zget_set_same 2 _ _ _ (by decide)
  have g0 : zget 2 (hTC t).1 0 = (24, 8, (zget 2 hs0C.1 0).2.2) := (zget_set_ne 2 _ 1 0 _ (by decide) (by decide) (by decide)).trans (zc3 k1 k2)
  refine ⟨?_, ?_, ?_⟩
  · obtain ⟨-, -, i, -, -, -, e1, e2, -⟩ := zgw_num hH (show 1 < 3 by decide) g1 (j := 1) (by decide) (by decide) rfl
    rw [e1]
    rw [zwd_up_same _ _ _ _ (by omega)] at e2
    exact e2.1 (by omega)
  · rw [zgw_ref hH (show 0 < 3 by decide) g0 (j := 6) (by decide) (by decide) rfl, Nat.eq_of_beq_eq_true k5, zrvl_oc]
  · rw [zgw_ref hH (show 0 < 3 by decide) g0 (j := 7) (by decide) (by decide) rfl, Nat.eq_of_beq_eq_true k6, zrvl_oc]
theorem hTR_cl (hH : @zHp Ch 1 cA (hTR t) ws) (ht : t ≤ 200) : zgw ws 0 46 = t := by
  have g1 : zget 1 (hTR t).1 0 = (25, 63, zup 40 (zget 1 hs0R.1 0).2.2 46 t) := zget_set_same 1 _ _ _ (by decide)
  obtain ⟨-, -, i, -, -, -, e1, e2, -⟩ := zgw_num hH (show 0 < 2 by decide) g1 (j := 46) (by decide) (by decide) rfl
  rw [e1]
  rw [zwd_up_same _ _ _ _ (by omega)] at e2
  exact e2.1 (by omega)
end TAPE
theorem q_no {φ : List Nat} {i : Nat} (h : zmmb i φ = false) : ¬ ∃ k : Nat, φ[k]? = some i := fun ⟨k, hk⟩ => zmmb_f h (List.mem_of_getElem? hk)
theorem q_subC [G : zGh] {X Xc : zM} {yc : MethodName} {fr frc pc n : Nat} {f : List zV → zH 2 → zP 2 → Bool} {cA : Nat → ClassId} {D : va_G} {A : Nat → Prop} {MC MS : Nat} {p : Program} {l : Launch} {e : Env} {s : State} {m : MethodId} {args : Array Value} {below : List Frame} {meth : Method} {c : Code} {Q : State → Prop} {ls : Array Slot} {H : Heap} {locs : List Loc} {cells slots : Nat} {as' : List zV} {st av' : List Value} {w0 : va_W} {own : Nat → Nat} {ax g v t' : Nat} {a : zV}
    (hg : g < 24) (hM : zMet Xc yc frc f) (run : zRun X Xc yc fr frc pc n 0 0 (qrc 8)) (Cx : zCx X cA D p s m args meth c A)
    (IC : qC cA D A H own ax g w0) (hop : ∀ (Ch : zCh) (cB : Nat → ClassId) (ws : va_W), @zHp Ch 2 cB hs0C ws → zgw ws 1 1 = zgw w0 11 1 → @zHp Ch 2 cB (hTC v) ws) (htl' : t' ≤ 200) (hk : f (zR 1 :: as') (hTC v) (fun r h => zands [zeqI r a, zsubH h (hTC t')]) = true)
    (hS : va_S A s.heap H locs) (hls : ls.size = X.2.2.1) (has : ∀ ad, zRepL ad as' av') (hcat : (st.map fun v => v.category).sum ≤ 8) (hn : av'.length + 1 = n) (hcb : cells ≤ MC) (hsb : slots ≤ MS)
    (kk : ∀ (w0' : va_W) (ad : zA) (r : zV) (ov : Option Value) (H1 : Heap) (locs1 : List Loc), ((ov = none ∧ r = zU) ∨ ∃ x, ov = some x ∧ ∀ (_ : zGh), zRep ad r x) → zeqI r a = true → qC cA D A H1 own ax g w0' → qMis w0' = qMis w0 → zgw w0' 11 1 = t' → (∀ (d2 : Nat) (h2 : zH d2) (w2 : va_W), qB cA D A H own 1 h2 w2 → qB cA D A H1 own 1 h2 w2) → va_S A s.heap H1 locs1 → W p l e (zRm fr MC MS) s m args below meth c H1 locs1 cells slots Q (F0 m (pc + 3) ls (ov.toList ++ st))) :
    W p l e (zRm fr MC MS) s m args below meth c H locs cells slots Q (F0 m pc ls ((.ref ax :: av').reverse ++ st)) := by
  obtain ⟨B0, hax, cur, hT, hS0⟩ := IC
  obtain ⟨e1, e0⟩ := zands_c ev_tC
  obtain ⟨e2, e0⟩ := zands_c e0
  obtain ⟨e3, -⟩ := zands_c e0
  obtain ⟨e4, -⟩ := zands_c (zall_t ev_tT t' (by omega))
  have l0 : w0.length = 38 := by
    obtain ⟨⟨C0, H0⟩, -⟩ := id B0
    exact H0.1.trans hcore_n
  refine q_sub (hh := hcore) (hs0 := hs0C) (hin := hTC v) (hout := hTC t') (hb := hbC) (φ := [0, 11, 12]) hM run Cx B0 hax rfl e1 e2 (fun Ch h0 => hop Ch _ _ h0 (zgw_sub (k := 1) rfl (by omega))) rfl rfl rfl hk (fun r h hP => (zands_c (zands_c hP).2).1) rfl e4 e3 hS hls has hcat hn hcb hsb (fun w' ws' ad r h' ov H1 locs1 hov hP B' hd' ho hi hHo hfr hS1 => ?_)
  obtain ⟨Ch', hHo⟩ := hHo
  obtain ⟨z1, z2, z3⟩ := hTC_cl hHo htl'
  have hsame : qSame w0 w' := ⟨fun k hk => zgw_of (ho 1 (q_no rfl)), fun j hj => zgw_of (ho 2 (q_no rfl)), ?_, ?_, zgw_of (ho 13 (q_no rfl)), zgw_of (ho 13 (q_no rfl))⟩
  · exact kk w' ad r ov H1 locs1 hov (zands_c hP).1 ⟨B', hd', qSame_cur hg hsame cur, qT_kept hsame (fun d2 z2 h2 w2 hz B2 => hfr d2 z2 h2 w2 (by omega) B2) hT, qS_kept hsame (fun d2 z2 h2 w2 hz B2 => hfr d2 z2 h2 w2 (by omega) B2) hS0⟩ (qSame_mis hsame) ((zgw_of (hi 1 11 rfl)).trans z1) (fun d2 h2 w2 B2 => hfr d2 1 h2 w2 (by decide) B2) hS1
  · rw [zgw_of (hi 0 0 rfl), z2, zcg_gw (by decide), zgw_sub (k := 0) rfl (by omega)]
  · rw [zgw_of (hi 0 0 rfl), z3, zcg_gw (by decide), zgw_sub (k := 0) rfl (by omega)]
theorem q_subR [G : zGh] {X Xc : zM} {yc : MethodName} {fr frc pc n : Nat} {f : List zV → zH 1 → zP 1 → Bool} {cA : Nat → ClassId} {D : va_G} {A : Nat → Prop} {MC MS : Nat} {p : Program} {l : Launch} {e : Env} {s : State} {m : MethodId} {args : Array Value} {below : List Frame} {meth : Method} {c : Code} {Q : State → Prop} {ls : Array Slot} {H : Heap} {locs : List Loc} {cells slots : Nat} {as' : List zV} {st av' : List Value} {w : va_W} {own : Nat → Nat} {am g v t' : Nat} {a : zV}
    (hg : g < 24) (hM : zMet Xc yc frc f) (run : zRun X Xc yc fr frc pc n 0 0 (qrc 9)) (Cx : zCx X cA D p s m args meth c A)
    (IR : qR cA D A H own am g w) (hop : ∀ (Ch : zCh) (cB : Nat → ClassId) (ws : va_W), @zHp Ch 1 cB hs0R ws → zgw ws 0 46 = zgw w 0 46 → @zHp Ch 1 cB (hTR v) ws) (htl' : t' ≤ 200) (hk : f (zR 1 :: as') (hTR v) (fun r h => zands [zeqI r a, zsubH h (hTR t')]) = true)
    (hS : va_S A s.heap H locs) (hls : ls.size = X.2.2.1) (has : ∀ ad, zRepL ad as' av') (hcat : (st.map fun v => v.category).sum ≤ 8) (hn : av'.length + 1 = n) (hcb : cells ≤ MC) (hsb : slots ≤ MS)
    (kk : ∀ (w' : va_W) (ad : zA) (r : zV) (ov : Option Value) (H1 : Heap) (locs1 : List Loc), ((ov = none ∧ r = zU) ∨ ∃ x, ov = some x ∧ ∀ (_ : zGh), zRep ad r x) → zeqI r a = true → qR cA D A H1 own am g w' → zgw w' 0 46 = t' → (∀ (d2 z2 : Nat) (h2 : zH d2) (w2 : va_W), z2 ≠ 1 → qB cA D A H own z2 h2 w2 → qB cA D A H1 own z2 h2 w2) → va_S A s.heap H1 locs1 → W p l e (zRm fr MC MS) s m args below meth c H1 locs1 cells slots Q (F0 m (pc + 3) ls (ov.toList ++ st))) :
    W p l e (zRm fr MC MS) s m args below meth c H locs cells slots Q (F0 m pc ls ((.ref am :: av').reverse ++ st)) := by
  obtain ⟨B0, hax⟩ := IR
  obtain ⟨e1, e0⟩ := zands_c (zall_t ev_tR g hg)
  obtain ⟨e2, e0⟩ := zands_c e0
  obtain ⟨e3, -⟩ := zands_c e0
  obtain ⟨-, e4⟩ := zands_c (zall_t ev_tT t' (by omega))
  obtain ⟨e4, -⟩ := zands_c e4
  have l0 : 0 < w.length := by
    obtain ⟨en, h⟩ := hax
    exact Nat.lt_of_le_of_lt (Nat.zero_le _) (List.getElem?_eq_some_iff.mp h).1
  refine q_sub (hh := hRf g) (hs0 := hs0R) (hin := hTR v) (hout := hTR t') (hb := hbR) (φ := [0, 37]) hM run Cx B0 hax rfl e1 e2 (fun Ch h0 => hop Ch _ _ h0 (zgw_sub (k := 0) rfl l0)) rfl rfl rfl hk (fun r h hP => (zands_c (zands_c hP).2).1) rfl e4 e3 hS hls has hcat hn hcb hsb (fun w' ws' ad r h' ov H1 locs1 hov hP B' hd' ho hi hHo hfr hS1 => ?_)
  obtain ⟨Ch', hHo⟩ := hHo
  exact kk w' ad r ov H1 locs1 hov (zands_c hP).1 ⟨B', hd'⟩ ((zgw_of (hi 0 0 rfl)).trans (hTR_cl hHo htl')) hfr hS1
/-! feed and end at every length -/
noncomputable def qfA (t : Nat) : Nat := cond (Nat.ble t 180) (Nat.add t 20) 4294967295
noncomputable def qfT (t : Nat) : Nat := cond (Nat.ble t 180) (Nat.add t 20) t
theorem qfT_le {t : Nat} (h : t ≤ 200) : qfT t ≤ 200 := by
  unfold qfT
  cases hb : Nat.ble t 180
  · exact h
  · have := Nat.le_of_ble_eq_true hb
    show t + 20 ≤ 200
    omega
noncomputable def qfF {d : Nat} (f : List zV → zH d → zP d → Bool) (hT : Nat → zH d) (t : Nat) : Bool := f [zR 1, zI 4294967296, zI 4294967296, zI 4294967296, zI 4294967296, zI 4294967296] (hT t) (fun r h => zands [zeqI r (zI (qfA t)), zsubH h (hT (qfT t))])
/-- end: a number at most the length (m); a greater one, one below 0 (t the length) -/
noncomputable def qeL {d : Nat} (f : List zV → zH d → zP d → Bool) (hT : Nat → zH d) (m : Nat) : Bool := f [zR 1, zI m] (hT (Nat.add 274877906946 (Nat.succ m))) (fun r h => zands [zeqI r (zI 1), zsubH h (hT m)])
noncomputable def qeG {d : Nat} (f : List zV → zH d → zP d → Bool) (hT : Nat → zH d) (t : Nat) : Bool := zands [zF (fun c => f [zR 1, zI c] (hT t) (fun r h => zands [zeqI r (zI 0), zsubH h (hT t)])) (Nat.add 6442450944 (Nat.mul 1099511627776 (Nat.succ t))), f [zR 1, zI 2361183241439117574144] (hT t) (fun r h => zands [zeqI r (zI 0), zsubH h (hT t)]), f [zR 1, zI t] (hT t) (fun r h => zands [zeqI r (zI 1), zsubH h (hT t)])]
theorem qeG_t {d : Nat} {f : List zV → zH d → zP d → Bool} {hT : Nat → zH d} {t : Nat} (ht : t ≤ 200) (h : qeG f hT t = true) (i : Int32) (hi : t < zi i) : ∃ c, (∀ (_ : zGh), zIs c i) ∧ f [zR 1, zI c] (hT t) (fun r h => zands [zeqI r (zI 0), zsubH h (hT t)]) = true := by
  obtain ⟨h2, h⟩ := zands_c h
  obtain ⟨h3, h⟩ := zands_c h
  rw [zF_eq] at h2
  have hlt := zi_lt i
  by_cases c : zi i < 2147483648
  · refine ⟨_, fun G => ?_, h2⟩
    have := zrg_ok (lo := t + 1) (hi := 2147483648) (i := i) (by omega) c
    unfold zrg at this
    rw [zble_n (by show t + 1 + 1 < 2147483648; omega), cond_false] at this
    exact this
  · exact ⟨_, fun G => (by
      have := zrg_ok (lo := 2147483648) (hi := 4294967296) (i := i) (by omega) hlt
      exact this), h3⟩
theorem qeG_e {d : Nat} {f : List zV → zH d → zP d → Bool} {hT : Nat → zH d} {t : Nat} (h : qeG f hT t = true) : f [zR 1, zI t] (hT t) (fun r h => zands [zeqI r (zI 1), zsubH h (hT t)]) = true := (zands_c (zands_c (zands_c h).2).2).1
end
section
/-! end, by program -/
theorem gfT_X8_85 [zGh] {d : Nat} {X : zM} {fr : Nat} {P : zP d} {pc : Nat} {k : zK d} (h1 : X.1 = RX8) (dg : decode X.2.1 pc = .ok (.getfield 85, 3)) (hs : zSim X fr P (pc + 3) k) : zSim X fr P pc (xgfT 22 1 k) := sm_getfieldT (ci := 6) (n := 1) (C := RX6) (T := TX6) (N := 2) rfl rfl inz6 rfl (by decide) rfl (by rw [h1]; exact wd_38) rfl dg hs
theorem gfT_X9_347 [zGh] {d : Nat} {X : zM} {fr : Nat} {P : zP d} {pc : Nat} {k : zK d} (h1 : X.1 = RX9) (dg : decode X.2.1 pc = .ok (.getfield 347, 3)) (hs : zSim X fr P (pc + 3) k) : zSim X fr P pc (xgfT 25 46 k) := sm_getfieldT (ci := 9) (n := 46) (C := RX9) (T := TX9) (N := 63) rfl rfl inz9 rfl (by decide) rfl (by rw [h1]; exact wd_1064) rfl dg hs
noncomputable def bX8_endt_15 {d : Nat} (P : zP d) : zK d := (xpI 0 (xzret P))
set_option maxRecDepth 100000 in
set_option maxHeartbeats 4000000 in
theorem sbX8_endt_15 {d : Nat} [zGh] (P : zP d) : zSim X_X8_end 1 P 15 (bX8_endt_15 P) := by
  unfold bX8_endt_15
  refine sm_iconst (pc := 15) dX8_end_15 zc_i_0 ?_
  exact sm_zreturn (pc := 16) dX8_end_16 rfl
noncomputable def b_X8_endt {d : Nat} (P : zP d) : zK d := (xild 1 (xjoin (bX8_endt_15 P) (fun j15 => (xif0S tgeR rlGe rhS rlS rhLt (xild 1 (xaldV 0 (xgfR 24 4 (xgfT 22 1 (xcmpS tleR rlS rhLe rlGt rhS (xaldV 0 (xgfR 24 4 (xild 1 (xpfI 22 1 (xpI 1 (xzret P)))))) j15))))) j15))))
set_option maxRecDepth 100000 in
set_option maxHeartbeats 4000000 in
theorem s_X8_endt {d : Nat} [zGh] (P : zP d) : zSim X_X8_end 1 P 0 (b_X8_endt P) := by
  unfold b_X8_endt
  refine sm_iload_n (pc := 0) (n := 1) dX8_end_0 rfl ?_
  refine sm_joinJ (pc := 1) (pc' := 15) (j := 1) (fun G0 hG0 => @sbX8_endt_15 d G0 P) (fun j15 hj15 => ?_)
  refine sm_ifS_lt (pc := 1) (tgt := 15) dX8_end_1 (by decide) ?_ ?_
  · skip
    exact hj15.use
  · skip
    refine sm_iload_n (pc := 4) (n := 1) dX8_end_4 rfl ?_
    refine sm_aloadV_n (pc := 5) (n := 0) dX8_end_5 rfl ?_
    refine gf_X8_33 (pc := 6) rfl dX8_end_6 ?_
    refine gfT_X8_85 (pc := 9) rfl dX8_end_9 ?_
    refine sm_icmpS_le (pc := 12) (tgt := 17) dX8_end_12 (by decide) ?_ ?_
    · skip
      refine sm_aloadV_n (pc := 17) (n := 0) dX8_end_17 rfl ?_
      refine gf_X8_33 (pc := 18) rfl dX8_end_18 ?_
      refine sm_iload_n (pc := 21) (n := 1) dX8_end_21 rfl ?_
      refine pf_X8_85 (pc := 22) rfl dX8_end_22 ?_
      refine sm_iconst (pc := 25) dX8_end_25 zc_i_1 ?_
      exact sm_zreturn (pc := 26) dX8_end_26 rfl
    · skip
      exact hj15.use
noncomputable def f_X8_endt {d : Nat} : List zV → zH d → zP d → Bool := zfn 2 (b_X8_endt )
theorem m_X8_endt {d : Nat} : zMet (d := d) X_X8_end yX8_end 1 (f_X8_endt ) := zmet_mk (X := X_X8_end) (by decide) rfl rfl (fun P => s_X8_endt P)

noncomputable def b_X9_endt {d : Nat} (P : zP d) : zK d := (xild 1 (xi2lR (xpL 0 (xaldV 0 (xgfT 25 46 (xi2lR (xcS 3 0 0 (zstr f_X9_isIna) (xif0S teqR rlEq rhEq rlNe rhNe (xpI 0 (xzret P)) (xaldV 0 (xild 1 (xpfI 25 46 (xpI 1 (xzret P)))))))))))))
set_option maxRecDepth 100000 in
set_option maxHeartbeats 4000000 in
theorem s_X9_endt {d : Nat} [zGh] (P : zP d) : zSim X_X9_end 2 P 0 (b_X9_endt P) := by
  unfold b_X9_endt
  refine sm_iload_n (pc := 0) (n := 1) dX9_end_0 rfl ?_
  refine sm_i2lR (pc := 1) dX9_end_1 ?_
  refine sm_lconst (pc := 2) dX9_end_2 zc_l_0 ?_
  refine sm_aloadV_n (pc := 3) (n := 0) dX9_end_3 rfl ?_
  refine gfT_X9_347 (pc := 4) rfl dX9_end_4 ?_
  refine sm_i2lR (pc := 7) dX9_end_7 ?_
  refine sm_cS (pc := 8) (n := 3) (mc := 0) (ms := 0) (zMet_str m_X9_isIna) (cr_X9_283 (X := X_X9_end) (fr := 2) (frc := 1) (pc := 8) (mc := 0) (ms := 0) rfl (by decide) dX9_end_8) ?_
  refine sm_ifS_ne (pc := 11) (tgt := 16) dX9_end_11 (by decide) ?_ ?_
  · skip
    refine sm_aloadV_n (pc := 16) (n := 0) dX9_end_16 rfl ?_
    refine sm_iload_n (pc := 17) (n := 1) dX9_end_17 rfl ?_
    refine pf_X9_347 (pc := 18) rfl dX9_end_18 ?_
    refine sm_iconst (pc := 21) dX9_end_21 zc_i_1 ?_
    exact sm_zreturn (pc := 22) dX9_end_22 rfl
  · skip
    refine sm_iconst (pc := 14) dX9_end_14 zc_i_0 ?_
    exact sm_zreturn (pc := 15) dX9_end_15 rfl
noncomputable def f_X9_endt {d : Nat} : List zV → zH d → zP d → Bool := zfn 2 (b_X9_endt )
theorem m_X9_endt {d : Nat} : zMet (d := d) X_X9_end yX9_end 2 (f_X9_endt ) := zmet_mk (X := X_X9_end) (by decide) rfl rfl (fun P => s_X9_endt P)
end
