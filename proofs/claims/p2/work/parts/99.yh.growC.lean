/-! a call on the class's world that may make blocks: group -/
noncomputable def zbd (a b : Nat) (φ : List Nat) : Bool := List.rec (motive := fun _ => Bool) true (fun x _ r => cond (Nat.ble a x) (cond (Nat.ble (Nat.succ x) b) r false) false) φ
theorem zbd_t {a b : Nat} : ∀ {φ : List Nat}, zbd a b φ = true → ∀ (p x : Nat), φ[p]? = some x → a ≤ x ∧ x < b
  | [], _, p, x, hx => by simp at hx
  | y :: φ, h, 0, x, hx => by
    have h : cond (Nat.ble a y) (cond (Nat.ble (Nat.succ y) b) (zbd a b φ) false) false = true := h
    obtain ⟨h1, h⟩ := zcnd_t h
    obtain ⟨h2, h⟩ := zcnd_t h
    have e : y = x := by simpa using hx
    subst e
    exact ⟨Nat.le_of_ble_eq_true h1, Nat.le_of_ble_eq_true h2⟩
  | y :: φ, h, p + 1, x, hx => by
    have h : cond (Nat.ble a y) (cond (Nat.ble (Nat.succ y) b) (zbd a b φ) false) false = true := h
    obtain ⟨h1, h⟩ := zcnd_t h
    obtain ⟨h2, h⟩ := zcnd_t h
    exact zbd_t h p x (by simpa using hx)
noncomputable def qwd (h : zH 10) (t j : Nat) : Nat := zwd 40 (zget 10 h.1 t).2.2 j
noncomputable def qchk (g tr sr : Nat) (h : zH 10) : Bool := zands [qkd h, Nat.beq (qwd h 0 6) (Nat.succ tr), Nat.beq (qwd h 0 7) (Nat.succ sr), Nat.beq (qwd h 13 12) (Nat.succ tr), Nat.beq (qwd h 13 13) (Nat.succ sr), Nat.beq (qwd h 1 (qgN g)) (Nat.succ tr), Nat.beq (qwd h 2 (qgS g)) (Nat.succ sr), zall 7 (fun k => cond (Nat.beq k (qgN g)) true (cond (Nat.beq k 0) true (Nat.beq (qwd h 1 k) (zoc 1 k)))), zall 24 (fun g' => cond (Nat.beq g' g) true (Nat.beq (qwd h 2 (qgS g')) (zoc 2 (qgS g'))))]
noncomputable def qGP (g : Nat) (φT φS : List Nat) (tr sr : Nat) (h : zH 10) : Bool := zands [zsubB (zrng 0 38) h hcore, zsubB φT h (hTf (qgN g)), zsubB φS h (hSf g), qchk g tr sr h]
theorem zrvl_oc {ad : zA} {t j : Nat} : zrvl ad (zoc t j) = ad.2 (zoc t j) := by
  unfold zrvl
  rw [if_neg (by rw [zoc_n]; omega)]
theorem zrvl_at {ad : zA} {k a : Nat} (h : ad.1[k]? = some a) (hk : k + 1 < 549755813888) : zrvl ad (Nat.succ k) = a + 1 := by
  unfold zrvl
  rw [if_pos hk]
  show (match ad.1[k]? with
    | some a => a + 1
    | none => 0) = a + 1
  rw [h]
theorem q_growC [G : zGh] {X Xc : zM} {yc : MethodName} {fr frc pc n mc ms : Nat} {f : List zV → zH 10 → zP 10 → Bool} {cA : Nat → ClassId} {D : va_G} {A : Nat → Prop} {MC MS : Nat} {p : Program} {l : Launch} {e : Env} {s : State} {m : MethodId} {args : Array Value} {below : List Frame} {meth : Method} {c : Code} {Q : State → Prop} {ls : Array Slot} {H : Heap} {locs : List Loc} {cells slots : Nat} {as' : List zV} {st av' : List Value} {HH : zH 10} {w0 w1 w2 : va_W} {own : Nat → Nat} {ax g tr sr : Nat} {φT φS : List Nat} {a : zV}
    (hg : g < 24) (hM : zMet Xc yc frc f) (run : zRun X Xc yc fr frc pc n mc ms (qrc 8)) (Cx : zCx X cA D p s m args meth c A)
    (B0 : qB cA D A H own 0 hcore w0) (hax : qhd w0 ax) (hT : qT cA D A H own w0) (hS0 : qS cA D A H own w0)
    (hJ : (∃ Ch : zCh, @zHp Ch 10 (qcJ cA w0 w2) HH (w0 ++ w1 ++ w2)) ∧ va_P D zcl (w0 ++ w1 ++ w2) H ∧ va_D A (w0 ++ w1 ++ w2)) (hr1 : HH.2.2.1 = mc) (hr2 : HH.2.2.2 = ms) (hci : Nat.beq (zget 10 HH.1 0).1 (16 + 8) = true)
    (hk : f (zR 1 :: as') HH (fun r h => zands [zeqI r a, qGP g φT φS tr sr h]) = true)
    (ow : ∀ (i : Nat) (x : Nat × va_E), (w0 ++ w1 ++ w2)[i]? = some x → (i < 38 ∧ own x.1 = 0) ∨ (38 ≤ i ∧ (own x.1 = 1 + qgN g ∨ own x.1 = 8 + g)))
    (hφT : ∀ (p b : Nat), φT[p]? = some b → (w0 ++ w1 ++ w2).length ≤ b ∨ ∃ x, (w0 ++ w1 ++ w2)[b]? = some x ∧ own x.1 = 1 + qgN g)
    (hφS : ∀ (p b : Nat), φS[p]? = some b → (w0 ++ w1 ++ w2).length ≤ b ∨ ∃ x, (w0 ++ w1 ++ w2)[b]? = some x ∧ own x.1 = 8 + g)
    (hdj : ∀ (p p' b : Nat), φT[p]? = some b → φS[p']? = some b → False) (hT0 : φT[0]? = some tr) (hS00 : φS[0]? = some sr) (htr : tr < 1000000) (hsr : sr < 1000000)
    (hS : va_S A s.heap H locs) (hls : ls.size = X.2.2.1) (has : ∀ ad, zRepL ad as' av') (hcat : (st.map fun v => v.category).sum ≤ 8) (hn : av'.length + 1 = n) (hcb : cells + mc ≤ MC) (hsb : slots + ms ≤ MS)
    (kk : ∀ (w0' : va_W) (own1 : Nat → Nat) (ad : zA) (r : zV) (ov : Option Value) (H1 : Heap) (locs1 : List Loc), ((ov = none ∧ r = zU) ∨ ∃ x, ov = some x ∧ ∀ (_ : zGh), zRep ad r x) → zeqI r a = true → qC cA D A H1 own1 ax g w0' → (∀ g', g' < 24 → g' ≠ g → zgw w0' 2 (qgS g') = zgw w0 2 (qgS g')) → zgw w0' 11 1 = zgw w0 11 1 → (∀ (d2 : Nat) (h2 : zH d2) (w2 : va_W), qB cA D A H own 1 h2 w2 → qB cA D A H1 own1 1 h2 w2) → va_S A s.heap H1 locs1 → W p l e (zRm fr MC MS) s m args below meth c H1 locs1 (cells + mc) (slots + ms) Q (F0 m (pc + 3) ls (ov.toList ++ st))) :
    W p l e (zRm fr MC MS) s m args below meth c H locs cells slots Q (F0 m pc ls ((.ref ax :: av').reverse ++ st)) := by
  classical
  obtain ⟨⟨Ch, hH⟩, hP, hD⟩ := hJ
  obtain ⟨b1, b2, b3⟩ := qg_b g hg
  obtain ⟨⟨C0, H0⟩, -, -, O0⟩ := id B0
  have l0 : w0.length = 38 := H0.1.trans hcore_n
  have hlo : ∀ i, i < 549755813889 → qcJ cA w0 w2 i = cA i := qcJ_lo
  have hF := zfree hD hS Cx.2.2.2.2.2.2.1
  obtain ⟨en, hw0⟩ := hax
  have hws0 : (w0 ++ w1 ++ w2)[0]? = some (ax, en) := by
    rw [List.append_assoc, List.getElem?_append_left (by omega)]
    exact hw0
  have hl38 : 38 ≤ (w0 ++ w1 ++ w2).length := by rw [List.length_append, List.length_append]; omega
  generalize hws : w0 ++ w1 ++ w2 = ws at *
  refine pt_callF (h := HH) (ws := ws) (P := fun r h => zands [zeqI r a, qGP g φT φS tr sr h]) (as := zR 1 :: as') (av := .ref ax :: av') hM run (zCx_to hlo Cx) hr1 hr2 hk hH hP hD hS hls ⟨⟨some ax, rfl, Or.inr ⟨0, ax, rfl, zad_ix hws0, rfl⟩⟩, has _⟩ hcat (by rw [List.length_cons]; exact hn) (qrc_of hH ⟨en, hws0⟩ hci) hcb hsb (fun Ch' r h' ws' ov H1' locs1 hov hPk hHo hpre hP' hD' hS1 hsz hfr => ?_)
  obtain ⟨hra, hPk⟩ := zands_c hPk
  obtain ⟨hPk, -⟩ := zands_c hPk
  obtain ⟨s2, hPk⟩ := zands_c hPk
  obtain ⟨s3, hPk⟩ := zands_c hPk
  obtain ⟨s4, hPk⟩ := zands_c hPk
  obtain ⟨hck, -⟩ := zands_c hPk
  obtain ⟨q0, hck⟩ := zands_c hck
  obtain ⟨q1, hck⟩ := zands_c hck
  obtain ⟨q2, hck⟩ := zands_c hck
  obtain ⟨q3, hck⟩ := zands_c hck
  obtain ⟨q4, hck⟩ := zands_c hck
  obtain ⟨q5, hck⟩ := zands_c hck
  obtain ⟨q6, hck⟩ := zands_c hck
  obtain ⟨q7, hck⟩ := zands_c hck
  obtain ⟨q8, -⟩ := zands_c hck
  obtain ⟨k1, hq0⟩ := zands_c q0
  obtain ⟨k2, hq0⟩ := zands_c hq0
  obtain ⟨k3, hq0⟩ := zands_c hq0
  obtain ⟨k4, hq0⟩ := zands_c hq0
  obtain ⟨k5, hq0⟩ := zands_c hq0
  obtain ⟨k6, hq0⟩ := zands_c hq0
  obtain ⟨k7, hq0⟩ := zands_c hq0
  obtain ⟨k8, hq0⟩ := zands_c hq0
  obtain ⟨k10, hq0⟩ := zands_c hq0
  obtain ⟨k11, hq0⟩ := zands_c hq0
  obtain ⟨k12, hq0⟩ := zands_c hq0
  obtain ⟨k9, -⟩ := zands_c hq0
  have hn38 : 38 ≤ h'.2.1 := Nat.le_of_ble_eq_true k9
  have hl' : ws'.length = h'.2.1 := hHo.1
  have c0 := zc3 k1 k2
  have c1 := zc3 k3 k4
  have c2 := zc3 k5 k6
  have c13 := zc3 k7 k8
  have c11 := zc3 k10 k11
  -- addresses
  have hpx : ∀ (b : Nat) (x : Nat × va_E), ws[b]? = some x → ∃ e, ws'[b]? = some (x.1, e) := fun b x hx => by
    have h1 := zad_ix (cA := qcJ cA w0 w2) hx
    obtain ⟨⟨t, ht⟩, -⟩ := hpre
    have hb : b < (zad (qcJ cA w0 w2) ws).1.length := (List.getElem?_eq_some_iff.mp h1).1
    rw [← List.getElem?_append_left (l₂ := t) hb, ← ht] at h1
    exact zad_at h1
  have hold : ∀ (b : Nat) (x : Nat × va_E), b < ws.length → ws'[b]? = some x → ∃ e, ws[b]? = some (x.1, e) := fun b x hb hx => by
    have e1 : ws[b]? = some ws[b] := List.getElem?_eq_getElem hb
    obtain ⟨e2, h2⟩ := hpx b _ e1
    rw [hx] at h2
    cases h2
    exact ⟨ws[b].2, e1⟩
  have hnew : ∀ (b : Nat) (x : Nat × va_E), ws.length ≤ b → ws'[b]? = some x → H.size ≤ x.1 := fun b x hb hx => by
    rcases hD'.2 b x hx with ⟨k, e1, hk1⟩ | z
    · obtain ⟨e2, h2⟩ := hpx k _ hk1
      have := hD'.1 k b _ x h2 hx rfl
      have hkl := (List.getElem?_eq_some_iff.mp hk1).1
      omega
    · exact z
  have hDA := hD'.weaken (fun _ q _ hq => hF _ hq)
  let own1 : Nat → Nat := fun q => if q < H.size then own q else if ∃ (p b : Nat) (x : Nat × va_E), φT[p]? = some b ∧ ws'[b]? = some x ∧ x.1 = q then 1 + qgN g else 8 + g
  have ho1 : ∀ q, q < H.size → own1 q = own q := fun q hq => if_pos hq
  have B0' : qB cA D A H1' own1 0 hcore (zsubw (zrng 0 38) ws') := q_bk hlo s2 hHo hP' hDA (fun p b x hb hx => by
    have hp : p < 38 := by rw [← zrng_len 38 0]; exact (List.getElem?_eq_some_iff.mp hb).1
    rw [zrng_at 38 0 p hp] at hb
    have eb : b = p := by cases hb; omega
    subst eb
    obtain ⟨e1, g1⟩ := hold b x (by omega) hx
    rw [ho1 _ (hP b _ g1).lt]
    rcases ow b _ g1 with z | z
    · exact z.2
    · omega)
  have BT' : qB cA D A H1' own1 (1 + qgN g) (hTf (qgN g)) (zsubw φT ws') := q_bk hlo s3 hHo hP' hDA (fun p b x hb hx => by
    rcases hφT p b hb with z | ⟨y, z1, z2⟩
    · have hx1 := hnew b x z hx
      show (if x.1 < H.size then own x.1 else if ∃ (p b : Nat) (y : Nat × va_E), φT[p]? = some b ∧ ws'[b]? = some y ∧ y.1 = x.1 then 1 + qgN g else 8 + g) = _
      rw [if_neg (by omega), if_pos ⟨p, b, x, hb, hx, rfl⟩]
    · obtain ⟨e2, h2⟩ := hpx b y z1
      rw [hx] at h2
      cases h2
      show own1 y.1 = _
      rw [ho1 _ (hP b _ z1).lt]
      exact z2)
  have BS' : qB cA D A H1' own1 (8 + g) (hSf g) (zsubw φS ws') := q_bk hlo s4 hHo hP' hDA (fun p b x hb hx => by
    rcases hφS p b hb with z | ⟨y, z1, z2⟩
    · have hx1 := hnew b x z hx
      show (if x.1 < H.size then own x.1 else if ∃ (p b : Nat) (y : Nat × va_E), φT[p]? = some b ∧ ws'[b]? = some y ∧ y.1 = x.1 then 1 + qgN g else 8 + g) = _
      rw [if_neg (by omega), if_neg (fun ⟨p2, b2, y, u1, u2, u3⟩ => by
        have eb := hDA.1 b2 b y x u2 hx u3
        subst eb
        exact hdj p2 p b2 u1 hb)]
    · obtain ⟨e2, h2⟩ := hpx b y z1
      rw [hx] at h2
      cases h2
      show own1 y.1 = _
      rw [ho1 _ (hP b _ z1).lt]
      exact z2)
  have hfrm : ∀ (d2 z2 : Nat) (h2 : zH d2) (w2 : va_W), z2 ≠ 0 → z2 ≠ 1 + qgN g → z2 ≠ 8 + g → qB cA D A H own z2 h2 w2 → qB cA D A H1' own1 z2 h2 w2 := fun d2 z2 h2 w2 n0 n1 n2 B2 => qB_kept hfr (fun i x hx => by rcases ow i x hx with q | ⟨-, q | q⟩ <;> omega) ho1 B2
  -- what the words say
  have hz0 : ∀ t j, t < 38 → zgw (zsubw (zrng 0 38) ws') t j = zgw ws' t j := fun t j ht => by
    rw [zgw_rng ht (by omega), Nat.zero_add]
  have hA : ∀ k, k < 7 → zgw (zsubw (zrng 0 38) ws') 1 k = zrvl (zad (qcJ cA w0 w2) ws') (qwd h' 1 k) := fun k hk => by
    rw [hz0 1 k (by decide)]
    exact zgw_arr hHo (by omega) c1 (by decide) (by decide) hk
  have hB : ∀ k, k < 56 → zgw (zsubw (zrng 0 38) ws') 2 k = zrvl (zad (qcJ cA w0 w2) ws') (qwd h' 2 k) := fun k hk => by
    rw [hz0 2 k (by decide)]
    exact zgw_arr hHo (by omega) c2 (by decide) (by decide) hk
  have h06 : zgw (zsubw (zrng 0 38) ws') 0 6 = zrvl (zad (qcJ cA w0 w2) ws') (qwd h' 0 6) := by
    rw [hz0 0 6 (by decide)]
    exact zgw_ref hHo (by omega) c0 (by decide) (by decide) (by decide)
  have h07 : zgw (zsubw (zrng 0 38) ws') 0 7 = zrvl (zad (qcJ cA w0 w2) ws') (qwd h' 0 7) := by
    rw [hz0 0 7 (by decide)]
    exact zgw_ref hHo (by omega) c0 (by decide) (by decide) (by decide)
  have h12 : zgw (zsubw (zrng 0 38) ws') 13 12 = zrvl (zad (qcJ cA w0 w2) ws') (qwd h' 13 12) := by
    rw [hz0 13 12 (by decide)]
    exact zgw_ref hHo (by omega) c13 (by decide) (by decide) (by decide)
  have h13 : zgw (zsubw (zrng 0 38) ws') 13 13 = zrvl (zad (qcJ cA w0 w2) ws') (qwd h' 13 13) := by
    rw [hz0 13 13 (by decide)]
    exact zgw_ref hHo (by omega) c13 (by decide) (by decide) (by decide)
  rw [Nat.eq_of_beq_eq_true q1] at h06
  rw [Nat.eq_of_beq_eq_true q2] at h07
  rw [Nat.eq_of_beq_eq_true q3] at h12
  rw [Nat.eq_of_beq_eq_true q4] at h13
  have h1n := hA (qgN g) (by omega)
  rw [Nat.eq_of_beq_eq_true q5] at h1n
  have h2s := hB (qgS g) b3
  rw [Nat.eq_of_beq_eq_true q6] at h2s
  have hoth1 : ∀ k, 1 ≤ k → k < 7 → k ≠ qgN g → zgw (zsubw (zrng 0 38) ws') 1 k = zgw w0 1 k := fun k hk1 hk7 hne => by
    have := zall_t q7 k hk7
    have e1 : Nat.beq k (qgN g) = false := by
      cases hb : Nat.beq k (qgN g)
      · rfl
      · exact absurd (Nat.eq_of_beq_eq_true hb) hne
    have e2 : Nat.beq k 0 = false := by
      cases hb : Nat.beq k 0
      · rfl
      · exact absurd (Nat.eq_of_beq_eq_true hb) (by omega)
    have this : cond (Nat.beq k (qgN g)) true (cond (Nat.beq k 0) true (Nat.beq (qwd h' 1 k) (zoc 1 k))) = true := this
    rw [e1, e2, cond_false, cond_false] at this
    rw [hA k hk7, Nat.eq_of_beq_eq_true this, zrvl_oc]
    exact qcJ_oc (by omega) (by omega)
  have hoth2 : ∀ g', g' < 24 → g' ≠ g → zgw (zsubw (zrng 0 38) ws') 2 (qgS g') = zgw w0 2 (qgS g') := fun g' hg' hne => by
    have := zall_t q8 g' hg'
    have e1 : Nat.beq g' g = false := by
      cases hb : Nat.beq g' g
      · rfl
      · exact absurd (Nat.eq_of_beq_eq_true hb) hne
    have this : cond (Nat.beq g' g) true (Nat.beq (qwd h' 2 (qgS g')) (zoc 2 (qgS g'))) = true := this
    rw [e1, cond_false] at this
    obtain ⟨u1, u2, u3⟩ := qg_b g' hg'
    rw [hB _ u3, Nat.eq_of_beq_eq_true this, zrvl_oc]
    exact qcJ_oc (by omega) (by omega)
  -- the new roots
  have hbT : ∃ x, ws'[tr]? = some x := by
    obtain ⟨-, z⟩ := zcnd_t s3
    obtain ⟨-, z⟩ := zcnd_t z
    obtain ⟨z, -⟩ := zcnd_t z
    have := (znd_t z).1 0 tr hT0
    exact ⟨_, List.getElem?_eq_getElem (by omega)⟩
  have hbS : ∃ x, ws'[sr]? = some x := by
    obtain ⟨-, z⟩ := zcnd_t s4
    obtain ⟨-, z⟩ := zcnd_t z
    obtain ⟨z, -⟩ := zcnd_t z
    have := (znd_t z).1 0 sr hS00
    exact ⟨_, List.getElem?_eq_getElem (by omega)⟩
  obtain ⟨xT, hxT⟩ := hbT
  obtain ⟨xS, hxS⟩ := hbS
  rw [zrvl_at (zad_ix hxT) (by omega)] at h06 h12 h1n
  rw [zrvl_at (zad_ix hxS) (by omega)] at h07 h13 h2s
  have hdT' : qhd (zsubw φT ws') xT.1 := ⟨xT.2, zsubw_at hT0 hxT⟩
  have hdS' : qhd (zsubw φS ws') xS.1 := ⟨xS.2, zsubw_at hS00 hxS⟩
  have hd0' : qhd (zsubw (zrng 0 38) ws') ax := by
    obtain ⟨e2, h2⟩ := hpx 0 _ hws0
    exact ⟨e2, by rw [zsubw_rng (by decide) (by omega), Nat.zero_add]; exact h2⟩
  have hqT : qT cA D A H1' own1 (zsubw (zrng 0 38) ws') := fun k k1 k6 hne => by
    by_cases hkn : k = qgN g
    · subst hkn
      exact ⟨_, BT', by rw [h1n]; exact hdT'⟩
    · rw [hoth1 k k1 (by omega) hkn] at hne ⊢
      obtain ⟨w, B, hd⟩ := hT k k1 k6 hne
      exact ⟨w, hfrm _ _ _ _ (by omega) (by omega) (by omega) B, hd⟩
  have hqS : qS cA D A H1' own1 (zsubw (zrng 0 38) ws') := fun g' hg' hne => by
    obtain ⟨u1, u2, u3⟩ := qg_b g' hg'
    by_cases hgg : g' = g
    · subst hgg
      exact ⟨by rw [h1n]; omega, _, BS', by rw [h2s]; exact hdS'⟩
    · rw [hoth2 g' hg' hgg] at hne ⊢
      obtain ⟨v1, w, B, hd⟩ := hS0 g' hg' hne
      refine ⟨?_, w, hfrm _ _ _ _ (by omega) (by omega) (by omega) B, hd⟩
      by_cases hnn : qgN g' = qgN g
      · rw [hnn, h1n]
        omega
      · rw [hoth1 _ u1 (by omega) hnn]
        exact v1
  have hlen : zgw (zsubw (zrng 0 38) ws') 11 1 = zgw w0 11 1 := by
    rw [hz0 11 1 (by decide)]
    obtain ⟨-, -, i, -, -, -, e1, -, e2⟩ := zgw_num hHo (by omega) c11 (j := 1) (by decide) (by decide) (by decide)
    have ew : zwd 40 (zget 10 h'.1 11).2.2 1 = zoc 11 1 := Nat.eq_of_beq_eq_true k12
    rw [e1, e2 (by rw [ew]; decide), ew]
    exact qcJ_oc (by decide) (by decide)
  exact kk _ own1 _ r ov H1' locs1 hov hra ⟨B0', hd0', ⟨by rw [h2s]; omega, by rw [h06, h1n], by rw [h12, h1n], by rw [h07, h2s], by rw [h13, h2s]⟩, hqT, hqS⟩ hoth2 hlen (fun d2 h2 w2 B2 => hfrm d2 1 h2 w2 (by decide) (by omega) (by omega) B2) hS1
