/-! the start: both made, then told by blocks -/
/-- a call, its end told -/
theorem pt_call [G : zGh] {Ch : zCh} {d : Nat} {X Xc : zM} {yc : MethodName} {fr frc pc n mc ms : Nat} {f : List zV → zH d → zP d → Bool} {recv : va_W → List Value → Prop} {cA : Nat → ClassId} {D : va_G} {A : Nat → Prop} {MC MS : Nat} {p : Program} {l : Launch} {e : Env} {s : State} {m : MethodId} {args : Array Value} {below : List Frame} {meth : Method} {c : Code} {Q : State → Prop} {ls : Array Slot} {H : Heap} {locs : List Loc} {cells slots : Nat} {as : List zV} {st av : List Value} {h : zH d} {ws : va_W} {kr : zV → zH d → Bool}
    (hM : zMet Xc yc frc f) (run : zRun X Xc yc fr frc pc n mc ms recv) (Cx : zCx X cA D p s m args meth c A) (hk : zgo mc ms f as h kr = true) (hHp : @zHp Ch d cA h ws) (hP : va_P D zcl ws H) (hD : va_D A ws) (hS : va_S A s.heap H locs) (hls : ls.size = X.2.2.1) (has : zRepL (zad cA ws) as av) (hcat : (st.map fun v => v.category).sum ≤ 8) (hn : av.length = n) (hrc : recv ws av) (hcb : cells + h.2.2.1 ≤ MC) (hsb : slots + h.2.2.2 ≤ MS)
    (kk : ∀ (Ch' : zCh) (r : zV) (h' : zH d) (ws' : va_W) (ov : Option Value) (H1 : Heap) (locs1 : List Loc), ((ov = none ∧ r = zU) ∨ ∃ x, ov = some x ∧ ∀ (_ : zGh), zRep (zad cA ws') r x) → kr r (h'.1, (h'.2.1, (h.2.2.1 - mc, h.2.2.2 - ms))) = true → @zHp Ch' d cA (h'.1, (h'.2.1, (h.2.2.1 - mc, h.2.2.2 - ms))) ws' → zPre (zad cA ws) (zad cA ws') → va_P D zcl ws' H1 → va_D A ws' → va_S A s.heap H1 locs1 → W p l e (zRm fr MC MS) s m args below meth c H1 locs1 (cells + mc) (slots + ms) Q (F0 m (pc + 3) ls (ov.toList ++ st))) :
    W p l e (zRm fr MC MS) s m args below meth c H locs cells slots Q (F0 m pc ls (av.reverse ++ st)) := by
  obtain ⟨g1, g2, hk⟩ := zgo_t hk
  have hF := zfree hD hS Cx.2.2.2.2.2.2.1
  have hMet := @hM G Ch l cA D ws av as (h.1, (h.2.1, (mc, ms))) _ H.size hk has hHp Cx.2.2.2.2.2.2.2.2.1.2
  refine zrun (run (l := l) (e := e) (below := below) (MC := MC) (MS := MS) (locs := locs) (cells := cells) (slots := slots) (ls := ls) (rest := st) Cx hP hrc hMet zPc_blind (fun U hU hW => ⟨rfl, by rw [hU], by rw [hU]; exact hP, va_K.moved hW.alike Cx.2.2.2.2.2.1, hD.weaken (fun _ _ _ _ => trivial), zStat_to Cx.2.2.2.2.2.2.2.2.2.2.1 hS hF hU hW.alike, zEx_moved hW Cx.2.2.2.2.2.2.2.2.2.2.2⟩) hn hls hcat (by omega) (by omega)) hS (fun q _ h => hF q h) hF (@fun Ch' r h' ws' ov H1 locs1 hov hPk hHp' hpre' hP' hD' hS' => ?_)
  exact kk Ch' r h' ws' ov H1 locs1 hov hPk hHp' hpre' hP' (hD'.weaken (fun _ q _ hq => hF _ hq)) hS'
/-- an object made, its end told -/
theorem pt_new [G : zGh] {Ch : zCh} {d : Nat} {X : zM} {fr pc ci index : Nat} {C : String} {T : u_T} {N : Nat} {ty0 : Nat → FieldType} {cA : Nat → ClassId} {D : va_G} {A : Nat → Prop} {MC MS : Nat} {p : Program} {l : Launch} {e : Env} {s : State} {m : MethodId} {args : Array Value} {below : List Frame} {meth : Method} {c : Code} {Q : State → Prop} {ls : Array Slot} {st : List Value} {H : Heap} {locs : List Loc} {cells slots : Nat} {h : zH d} {ws : va_W} {kr : Nat → zH d → Bool}
    (hN : N = zN ci) (hfty : ∀ j, j < N → ty0 j = zfty ci j) (hall : ∀ j, j < N → zfty ci j = .int ∨ zisR (zfty ci j) = true) (hin : ∀ w ∈ u_ws C T N, w ∈ ztbl) (hty : ∀ k, k < N → parseFieldDescriptor (T k).2.2.1 = some (ty0 k)) (hc : zcl[ci]? = some (C, T, N)) (hcl : Cond.classLink X.1 index C ∈ ztbl) (hinst : Cond.instantiable C N ∈ ztbl) (hini : Cond.initialized C ∈ ztbl) (dg : decode X.2.1 pc = .ok (.new index, 3))
    (Cx : zCx X cA D p s m args meth c A) (hk : zmk h N (16 + ci, N, 0) kr = true) (hHp : @zHp Ch d cA h ws) (hP : va_P D zcl ws H) (hD : va_D A ws) (hS : va_S A s.heap H locs) (hcb : cells + h.2.2.1 ≤ MC) (hsb : slots + h.2.2.2 ≤ MS)
    (kk : ∀ (q : Nat) (fs : List Value) (H1 : Heap), kr (h.2.1 + 1) (zset d h.1 h.2.1 (16 + ci, N, 0), (h.2.1 + 1, (h.2.2.1 - 1, h.2.2.2 - N))) = true → @zHp Ch d cA (zset d h.1 h.2.1 (16 + ci, N, 0), (h.2.1 + 1, (h.2.2.1 - 1, h.2.2.2 - N))) (ws ++ [(q, .inr (ci, fs))]) → (zad cA (ws ++ [(q, .inr (ci, fs))])).1[h.2.1]? = some q → (ws ++ [(q, .inr (ci, fs))])[h.2.1]? = some (q, .inr (ci, fs)) → va_P D zcl (ws ++ [(q, .inr (ci, fs))]) H1 → va_D A (ws ++ [(q, .inr (ci, fs))]) → va_S A s.heap H1 locs → zPre (zad cA ws) (zad cA (ws ++ [(q, .inr (ci, fs))])) → 1 ≤ h.2.2.1 → N ≤ h.2.2.2 → W p l e (zRm fr MC MS) s m args below meth c H1 locs (cells + 1) (slots + N) Q (F0 m (pc + 3) ls (.ref q :: st))) :
    W p l e (zRm fr MC MS) s m args below meth c H locs cells slots Q (F0 m pc ls st) := by
  obtain ⟨h1, h2, h3, hk⟩ := zmk_t hk
  refine va_new (fs := (List.range N).map (fun j => defaultValue (ty0 j))) Cx.1 Cx.2.1 Cx.2.2.2.2.1 hin ty0 hty Cx.2.2.2.1 (Cx.2.2.2.2.1 _ hcl) (Cx.2.2.2.2.1 _ hinst) (Cx.2.2.2.2.1 _ hini) Cx.2.2.2.2.2.1 hP hD hS Cx.2.2.2.2.2.2.1 hc (fun j hj => ?_) (by show cells + 1 ≤ MC; omega) (by show slots + N ≤ MS; omega) dg (fun q H1 hP1 hD1 hS1 => ?_)
  · show _ = ((List.range N).map (fun j => defaultValue (ty0 j))).getD j .null
    rw [List.getD_eq_getElem?_getD, List.getElem?_map, List.getElem?_range hj]
    rfl
  · have hp := zPre_push (cA := cA) ws q (.inr (ci, (List.range N).map (fun j => defaultValue (ty0 j))))
    refine kk q _ H1 hk (zHp_push hHp h3 (zCell_ok (by rw [List.length_map, List.length_range]; exact hN) (fun j v hj => ?_))) (zad_new hHp.1) ?_ hP1 hD1 hS1 hp h1 h2
    · have hj2 : j < N := by
        have := (List.getElem?_eq_some_iff.mp hj).1
        rw [List.length_map, List.length_range] at this
        exact this
      rw [List.getElem?_map, List.getElem?_range hj2] at hj
      cases hj
      unfold zFl
      rw [zwd_zero]
      show zRepC _ _ (defaultValue (ty0 j))
      rw [hfty j hj2]
      exact zdef _ _ (hall j hj2)
    · rw [← hHp.1, List.getElem?_concat_length]
noncomputable def krD (r : zV) (h : zH 10) : Bool := cond (zisU r) (zsubH h hB_lw) false
noncomputable def krC (r : Nat) (h : zH 10) : Bool := zgo 100 80000 g_X9_init_0 [zR r] h krD
noncomputable def krB (r : zV) (h : zH 10) : Bool := cond (zisU r) (cond (Nat.beq h.2.1 165) (zmk h 63 (16 + 9, 63, 0) krC) false) false
noncomputable def krA (r : Nat) (h : zH 10) : Bool := zgo 1100 82000 g_X8_init_0 [zR r] h krB
theorem ev_make2 : zmk hS_lw 8 (16 + 8, 8, 0) krA = true := by decide +kernel
theorem krA_t {r : Nat} {h : zH 10} (hk : krA r h = true) : zgo 1100 82000 g_X8_init_0 [zR r] h krB = true := hk
theorem krB_t {r : zV} {h : zH 10} (hk : krB r h = true) : r = zU ∧ h.2.1 = 165 ∧ zmk h 63 (16 + 9, 63, 0) krC = true := by
  unfold krB at hk
  obtain ⟨h1, hk1⟩ := zcnd_t hk
  obtain ⟨h2, hk2⟩ := zcnd_t hk1
  exact ⟨zisU_t h1, Nat.eq_of_beq_eq_true h2, hk2⟩
theorem krC_t {r : Nat} {h : zH 10} (hk : krC r h = true) : zgo 100 80000 g_X9_init_0 [zR r] h krD = true := hk
theorem krD_t {r : zV} {h : zH 10} (hk : krD r h = true) : r = zU ∧ zsubH h hB_lw = true := by
  unfold krD at hk
  obtain ⟨h1, hk1⟩ := zcnd_t hk
  exact ⟨zisU_t h1, hk1⟩
theorem lw_all8 : ∀ j, j < 8 → zfty 8 j = .int ∨ zisR (zfty 8 j) = true := by decide
theorem lw_all9 : ∀ j, j < 63 → zfty 9 j = .int ∨ zisR (zfty 9 j) = true := by decide +kernel
theorem hS_n : hS_lw.2.1 = 0 := rfl
theorem hS_c : hS_lw.2.2.1 = 10000 := rfl
theorem hS_s : hS_lw.2.2.2 = 1000000 := rfl
theorem lw_e0 {cA : Nat → ClassId} (Ch : zCh) : @zHp Ch 10 cA hS_lw [] := ⟨rfl, Nat.le_of_ble_eq_true rfl, fun i q h => by simp at h⟩
noncomputable def ph0C : List Nat := [0, 1, 2, 3, 4, 5, 6, 7, 8, 9, 10, 11, 12, 140, 141, 142, 143, 144, 145, 146, 147, 148, 149, 150, 151, 152, 153, 154, 155, 156, 157, 158, 159, 160, 161, 162, 163, 164]
noncomputable def ph0T : List Nat := [13, 14, 16, 17, 18, 19, 20, 21, 22, 23, 24, 25, 26, 27, 28, 29, 30, 31, 32, 33, 34, 35, 36, 37, 38, 39, 40, 41, 42, 43, 44, 45, 46, 47, 48, 49, 50, 51, 52, 53, 54, 55, 56, 57, 58, 59, 60, 61, 62, 63, 64, 65, 66, 67, 68, 69, 70, 71, 72, 73, 74, 75, 76, 77, 78, 79, 80, 81, 82, 83, 84, 89]
noncomputable def ph0S : List Nat := [90, 91, 92, 93, 94, 95, 96, 97, 106, 107, 108, 109, 115, 116, 117, 118, 119, 120, 121, 122, 123, 124, 125, 126, 127, 128, 129, 130, 131, 132, 133, 135]
noncomputable def ph0R : List Nat := [165, 166, 167, 168, 169, 170, 171, 172, 173, 174, 175, 176, 177, 178, 179, 180, 181, 182, 183, 184, 185, 186, 187, 188, 189, 190, 191, 192, 193, 194, 195, 196, 197, 198, 199, 200, 201, 202, 203, 204, 205, 206, 207, 208, 209]
noncomputable def zdjL (a b : List Nat) : Bool := List.rec (motive := fun _ => Bool) true (fun x _ r => cond (zmmb x b) false r) a
theorem zdjL_t {b : List Nat} : ∀ {a : List Nat}, zdjL a b = true → ∀ (p q x : Nat), a[p]? = some x → b[q]? = some x → False
  | [], _, p, q, x, hp, _ => by simp at hp
  | y :: a, h, p, q, x, hp, hq => by
    have h : cond (zmmb y b) false (zdjL a b) = true := h
    cases hb : zmmb y b
    · rw [hb, cond_false] at h
      cases p with
      | zero =>
        have e : y = x := by simpa using hp
        subst e
        exact zmmb_f hb (List.mem_of_getElem? hq)
      | succ p => exact zdjL_t h p q x (by simpa using hp) hq
    · rw [hb] at h
      cases h
noncomputable def qw0 (t j : Nat) : Nat := zwd 40 (zget 10 hB_lw.1 t).2.2 j
noncomputable def qkc (t kd len : Nat) : Bool := cond (Nat.beq (zget 10 hB_lw.1 t).1 kd) (Nat.beq (zget 10 hB_lw.1 t).2.1 len) false
set_option maxRecDepth 100000 in
theorem ev_B1 : zands [zsubB ph0C hB_lw hcore, zsubB ph0T hB_lw (hTf 3), zsubB ph0S hB_lw (hSf 8), zsubB ph0R hB_lw (hRf 8), zdjL ph0T ph0C, zdjL ph0S ph0C, zdjL ph0S ph0T, zdjL ph0R ph0C, zdjL ph0R ph0T, zdjL ph0R ph0S] = true := by decide +kernel
theorem ev_B2 : zands [qkc 0 24 8, qkc 1 6 7, qkc 2 7 56, qkc 140 18 15, qkc 11 22 2, qkc 165 25 63, Nat.beq (qw0 0 6) 14, Nat.beq (qw0 0 7) 91, Nat.beq (qw0 140 12) 14, Nat.beq (qw0 140 13) 91, Nat.beq (qw0 1 3) 14, Nat.beq (qw0 2 26) 91, Nat.beq (qw0 11 1) 0, Nat.beq (qw0 165 46) 0, zall 7 (fun k => cond (Nat.beq k 3) true (Nat.beq (qw0 1 k) 0)), zall 24 (fun g => cond (Nat.beq g 8) true (Nat.beq (qw0 2 (qgS g)) 0))] = true := by decide +kernel
theorem ev_B3 : hB_lw.2.1 = 210 := rfl
theorem zsum_le {f : Nat → Nat} (h : ∀ i, f i ≤ 1) : ∀ n, zsum n f ≤ n
  | 0 => Nat.le_refl _
  | n + 1 => by
    have := zsum_le h n
    have := h n
    show zsum n f + f n ≤ n + 1
    omega
theorem qMis_le (w0 : va_W) : qMis w0 ≤ 24 := zsum_le (fun i => by cases Nat.beq (zgw w0 2 (qgS i)) 0 <;> decide) 24
theorem qkc_t {t kd len : Nat} (h : qkc t kd len = true) : zget 10 hB_lw.1 t = (kd, len, (zget 10 hB_lw.1 t).2.2) := by
  obtain ⟨h1, h2⟩ := zcnd_t h
  exact zc3 h1 h2
theorem q_begin {Ch : zCh} {cA : Nat → ClassId} {D : va_G} {A : Nat → Prop} {H : Heap} {ws : va_W} {ax am : Nat} (hH : @zHp Ch 10 cA hB_lw ws) (hP : va_P D zcl ws H) (hD : va_D A ws) (hax : (zad cA ws).1[0]? = some ax) (ham : (zad cA ws).1[165]? = some am) : ∃ (own : Nat → Nat) (w0 wR : va_W), qI cA D A H own ax am 8 w0 wR := by
  classical
  obtain ⟨s1, k⟩ := zands_c ev_B1
  obtain ⟨s2, k⟩ := zands_c k
  obtain ⟨s3, k⟩ := zands_c k
  obtain ⟨s4, k⟩ := zands_c k
  obtain ⟨j1, k⟩ := zands_c k
  obtain ⟨j2, k⟩ := zands_c k
  obtain ⟨j3, k⟩ := zands_c k
  obtain ⟨j4, k⟩ := zands_c k
  obtain ⟨j5, k⟩ := zands_c k
  obtain ⟨j6, -⟩ := zands_c k
  obtain ⟨c0, k⟩ := zands_c ev_B2
  obtain ⟨c1, k⟩ := zands_c k
  obtain ⟨c2, k⟩ := zands_c k
  obtain ⟨c3, k⟩ := zands_c k
  obtain ⟨c4, k⟩ := zands_c k
  obtain ⟨c5, k⟩ := zands_c k
  obtain ⟨w1, k⟩ := zands_c k
  obtain ⟨w2, k⟩ := zands_c k
  obtain ⟨w3, k⟩ := zands_c k
  obtain ⟨w4, k⟩ := zands_c k
  obtain ⟨w5, k⟩ := zands_c k
  obtain ⟨w6, k⟩ := zands_c k
  obtain ⟨w7, k⟩ := zands_c k
  obtain ⟨w8, k⟩ := zands_c k
  obtain ⟨w9, k⟩ := zands_c k
  obtain ⟨w10, -⟩ := zands_c k
  have hl : ws.length = 210 := hH.1.trans ev_B3
  let inn : List Nat → Nat → Prop := fun φ q => ∃ (p b : Nat) (x : Nat × va_E), φ[p]? = some b ∧ ws[b]? = some x ∧ x.1 = q
  let own : Nat → Nat := fun q => if inn ph0C q then 0 else if inn ph0T q then 4 else if inn ph0S q then 16 else 1
  have hno : ∀ (φ φ' : List Nat), zdjL φ φ' = true → ∀ (p b : Nat) (x : Nat × va_E), φ[p]? = some b → ws[b]? = some x → ¬ inn φ' x.1 := by
    rintro φ φ' hj p b x hb hx ⟨p2, b2, y, u1, u2, u3⟩
    have eb := hD.1 b2 b y x u2 hx u3
    subst eb
    exact zdjL_t hj p p2 b2 hb u1
  have B0 : qB cA D A H own 0 hcore (zsubw ph0C ws) := q_bk (fun _ _ => rfl) s1 hH hP hD (fun p b x hb hx => if_pos ⟨p, b, x, hb, hx, rfl⟩)
  have BT : qB cA D A H own 4 (hTf 3) (zsubw ph0T ws) := q_bk (fun _ _ => rfl) s2 hH hP hD (fun p b x hb hx => by
    show (if inn ph0C x.1 then 0 else if inn ph0T x.1 then 4 else if inn ph0S x.1 then 16 else 1) = 4
    rw [if_neg (hno _ _ j1 p b x hb hx), if_pos ⟨p, b, x, hb, hx, rfl⟩])
  have BS : qB cA D A H own 16 (hSf 8) (zsubw ph0S ws) := q_bk (fun _ _ => rfl) s3 hH hP hD (fun p b x hb hx => by
    show (if inn ph0C x.1 then 0 else if inn ph0T x.1 then 4 else if inn ph0S x.1 then 16 else 1) = 16
    rw [if_neg (hno _ _ j2 p b x hb hx), if_neg (hno _ _ j3 p b x hb hx), if_pos ⟨p, b, x, hb, hx, rfl⟩])
  have BR : qB cA D A H own 1 (hRf 8) (zsubw ph0R ws) := q_bk (fun _ _ => rfl) s4 hH hP hD (fun p b x hb hx => by
    show (if inn ph0C x.1 then 0 else if inn ph0T x.1 then 4 else if inn ph0S x.1 then 16 else 1) = 1
    rw [if_neg (hno _ _ j4 p b x hb hx), if_neg (hno _ _ j5 p b x hb hx), if_neg (hno _ _ j6 p b x hb hx)])
  have hat : ∀ k : Nat, k < 210 → ∃ a : Nat, (zad cA ws).1[k]? = some a := fun k hk => ⟨_, List.getElem?_eq_getElem (by show k < (ws.map _).length; rw [List.length_map]; omega)⟩
  obtain ⟨aT, haT⟩ := hat 13 (by decide)
  obtain ⟨aS, haS⟩ := hat 90 (by decide)
  have n210 : ∀ k : Nat, k < 210 → k < hB_lw.2.1 := fun k hk => by rw [ev_B3]; exact hk
  have dT : qhd (zsubw ph0T ws) aT := by
    obtain ⟨e, h⟩ := zad_at haT
    exact ⟨e, zsubw_at (φ := ph0T) (p := 0) rfl h⟩
  have dS : qhd (zsubw ph0S ws) aS := by
    obtain ⟨e, h⟩ := zad_at haS
    exact ⟨e, zsubw_at (φ := ph0S) (p := 0) rfl h⟩
  have d0 : qhd (zsubw ph0C ws) ax := by
    obtain ⟨e, h⟩ := zad_at hax
    exact ⟨e, zsubw_at (φ := ph0C) (p := 0) rfl h⟩
  have dR : qhd (zsubw ph0R ws) am := by
    obtain ⟨e, h⟩ := zad_at ham
    exact ⟨e, zsubw_at (φ := ph0R) (p := 0) rfl h⟩
  have vT : ∀ w, w = 14 → zrvl (zad cA ws) w = aT + 1 := fun w e => by rw [e]; exact zrvl_at haT (by decide)
  have vS : ∀ w, w = 91 → zrvl (zad cA ws) w = aS + 1 := fun w e => by rw [e]; exact zrvl_at haS (by decide)
  have v0 : ∀ w, w = 0 → zrvl (zad cA ws) w = 0 := fun w e => by rw [e]; rfl
  have g06 : zgw (zsubw ph0C ws) 0 6 = aT + 1 := by
    rw [zgw_sub (k := 0) (i := 0) rfl (by omega), zgw_ref hH (n210 0 (by decide)) (qkc_t c0) (by decide) (by decide) rfl]
    exact vT _ (Nat.eq_of_beq_eq_true w1)
  have g07 : zgw (zsubw ph0C ws) 0 7 = aS + 1 := by
    rw [zgw_sub (k := 0) (i := 0) rfl (by omega), zgw_ref hH (n210 0 (by decide)) (qkc_t c0) (by decide) (by decide) rfl]
    exact vS _ (Nat.eq_of_beq_eq_true w2)
  have g12 : zgw (zsubw ph0C ws) 13 12 = aT + 1 := by
    rw [zgw_sub (k := 13) (i := 140) rfl (by omega), zgw_ref hH (n210 140 (by decide)) (qkc_t c3) (by decide) (by decide) rfl]
    exact vT _ (Nat.eq_of_beq_eq_true w3)
  have g13 : zgw (zsubw ph0C ws) 13 13 = aS + 1 := by
    rw [zgw_sub (k := 13) (i := 140) rfl (by omega), zgw_ref hH (n210 140 (by decide)) (qkc_t c3) (by decide) (by decide) rfl]
    exact vS _ (Nat.eq_of_beq_eq_true w4)
  have g1 : ∀ k, k < 7 → zgw (zsubw ph0C ws) 1 k = zrvl (zad cA ws) (qw0 1 k) := fun k hk => by
    rw [zgw_sub (k := 1) (i := 1) rfl (by omega)]
    exact zgw_arr hH (n210 1 (by decide)) (qkc_t c1) (by decide) (by decide) hk
  have g2 : ∀ k, k < 56 → zgw (zsubw ph0C ws) 2 k = zrvl (zad cA ws) (qw0 2 k) := fun k hk => by
    rw [zgw_sub (k := 2) (i := 2) rfl (by omega)]
    exact zgw_arr hH (n210 2 (by decide)) (qkc_t c2) (by decide) (by decide) hk
  have g13' : zgw (zsubw ph0C ws) 1 3 = aT + 1 := (g1 3 (by decide)).trans (vT _ (Nat.eq_of_beq_eq_true w5))
  have g226 : zgw (zsubw ph0C ws) 2 26 = aS + 1 := (g2 26 (by decide)).trans (vS _ (Nat.eq_of_beq_eq_true w6))
  have q8 : qgN 8 = 3 ∧ qgS 8 = 26 := ⟨rfl, rfl⟩
  have cur : qCur (zsubw ph0C ws) 8 := ⟨by rw [q8.2, g226]; omega, by rw [q8.1, g06, g13'], by rw [q8.1, g12, g13'], by rw [q8.2, g07, g226], by rw [q8.2, g13, g226]⟩
  have hqT : qT cA D A H own (zsubw ph0C ws) := fun k k1 k6 hne => by
    by_cases e : k = 3
    · subst e
      refine ⟨_, BT, ?_⟩
      rw [g13']
      exact dT
    · have := zall_t w9 k (by omega)
      have e1 : Nat.beq k 3 = false := by
        cases hb : Nat.beq k 3
        · rfl
        · exact absurd (Nat.eq_of_beq_eq_true hb) e
      have this : cond (Nat.beq k 3) true (Nat.beq (qw0 1 k) 0) = true := this
      rw [e1, cond_false] at this
      exact absurd ((g1 k (by omega)).trans (v0 _ (Nat.eq_of_beq_eq_true this))) hne
  have hqS : qS cA D A H own (zsubw ph0C ws) := fun g hg hne => by
    obtain ⟨u1, u2, u3⟩ := qg_b g hg
    by_cases e : g = 8
    · subst e
      refine ⟨by rw [q8.1, g13']; omega, _, BS, ?_⟩
      rw [q8.2, g226]
      exact dS
    · have := zall_t w10 g hg
      have e1 : Nat.beq g 8 = false := by
        cases hb : Nat.beq g 8
        · rfl
        · exact absurd (Nat.eq_of_beq_eq_true hb) e
      have this : cond (Nat.beq g 8) true (Nat.beq (qw0 2 (qgS g)) 0) = true := this
      rw [e1, cond_false] at this
      exact absurd ((g2 _ u3).trans (v0 _ (Nat.eq_of_beq_eq_true this))) hne
  have t0 : zgw (zsubw ph0C ws) 11 1 = 0 := by
    rw [zgw_sub (k := 11) (i := 11) rfl (by omega)]
    obtain ⟨-, -, i, -, -, -, y1, y2, -⟩ := zgw_num hH (n210 11 (by decide)) (qkc_t c4) (j := 1) (by decide) (by decide) rfl
    have ew : zwd 40 (zget 10 hB_lw.1 11).2.2 1 = 0 := Nat.eq_of_beq_eq_true w7
    rw [ew] at y2
    exact y1.trans (y2.1 (by decide))
  have tR : zgw (zsubw ph0R ws) 0 46 = 0 := by
    rw [zgw_sub (k := 0) (i := 165) rfl (by omega)]
    obtain ⟨-, -, i, -, -, -, y1, y2, -⟩ := zgw_num hH (n210 165 (by decide)) (qkc_t c5) (j := 46) (by decide) (by decide) rfl
    have ew : zwd 40 (zget 10 hB_lw.1 165).2.2 46 = 0 := Nat.eq_of_beq_eq_true w8
    rw [ew] at y2
    exact y1.trans (y2.1 (by decide))
  exact ⟨own, _, _, ⟨B0, d0, cur, hqT, hqS⟩, ⟨BR, dR⟩, by rw [t0, tR], by rw [t0]; exact Nat.zero_le _⟩
