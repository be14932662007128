section
/-! the tape alone: small worlds, by program -/
noncomputable def hs0C : zH 2 := (show zT 2 from (((24, 8, 0x80000000088000000007800000000600000000028000000004800000000380000000028000000001), (22, 2, 0x80000000420000000003)), ((0, 200, zun 40 200 4294967296), (0, 0, 0))), (3, (0, 0)))
noncomputable def hs0R : zH 1 := (show zT 1 from ((25, 63, 0x800000003f800000003e800000003d800000003c800000003b800000003a8000000039800000003880000000378000000036800000003580000000348000000033800000003280000000318000000030800000002f0000000002800000002d800000002c800000002b800000002a8000000029800000002880000000278000000026800000002580000000248000000023800000002280000000218000000020800000001f800000001e800000001d800000001c800000001b800000001a8000000019800000001880000000178000000016800000001580000000148000000013800000001280000000118000000010800000000f800000000e800000000d800000000c800000000b800000000a800000000980000000088000000007800000000680000000058000000004800000000380000000028000000001), (0, 200, zun 40 200 4294967296)), (2, (0, 0)))
noncomputable def hbC : zH 2 := (show zT 2 from (((24, 8, 0x80000000088000000007800000000600000000028000000004800000000380000000028000000001), (22, 2, 0x1000000000000000003)), ((0, 200, zun 40 200 4294967296), (0, 0, 0))), (3, (0, 0)))
noncomputable def hbR : zH 1 := (show zT 1 from ((25, 63, 0x800000003f800000003e800000003d800000003c800000003b800000003a800000003980000000388000000037800000003680000000358000000034800000003380000000328000000031800000003001000000000000000002800000002d800000002c800000002b800000002a8000000029800000002880000000278000000026800000002580000000248000000023800000002280000000218000000020800000001f800000001e800000001d800000001c800000001b800000001a8000000019800000001880000000178000000016800000001580000000148000000013800000001280000000118000000010800000000f800000000e800000000d800000000c800000000b800000000a800000000980000000088000000007800000000680000000058000000004800000000380000000028000000001), (0, 200, zun 40 200 4294967296)), (2, (0, 0)))
end
section
/-! the tape's length on both sides -/
noncomputable def hTC (t : Nat) : zH 2 := (zset 2 hs0C.1 1 (22, 2, zup 40 (zget 2 hs0C.1 1).2.2 1 t), hs0C.2)
noncomputable def hTR (t : Nat) : zH 1 := (zset 1 hs0R.1 0 (25, 63, zup 40 (zget 1 hs0R.1 0).2.2 46 t), hs0R.2)
theorem ev_tC : zands [zsubB [0, 11, 12] hcore hs0C, zslf hcore [0, 11, 12], zutL [0, 11, 12] hcore.1 hbC [0, 11, 12] 0, zutL [0, 11, 12] hcore.1 hs0C [0, 11, 12] 0, zsubH hs0C hbC] = true := by decide +kernel
theorem ev_tR : zall 24 (fun g => zands [zsubB [0, 37] (hRf g) hs0R, zslf (hRf g) [0, 37], zutL [0, 37] (hRf g).1 hbR [0, 37] 0, zutL [0, 37] (hRf g).1 hs0R [0, 37] 0]) = true := by decide +kernel
theorem ev_tT : zall 201 (fun t => zands [zsubH (hTC t) hbC, zsubH (hTR t) hbR]) = true := by decide +kernel
theorem ev_tk : zands [Nat.beq (zget 2 hs0C.1 0).1 24, Nat.beq (zget 2 hs0C.1 0).2.1 8, Nat.beq (zget 2 hs0C.1 1).1 22, Nat.beq (zget 2 hs0C.1 1).2.1 2, Nat.beq (zwd 40 (zget 2 hs0C.1 0).2.2 6) (zoc 0 6), Nat.beq (zwd 40 (zget 2 hs0C.1 0).2.2 7) (zoc 0 7), Nat.beq (zwd 40 (zget 2 hs0C.1 1).2.2 1) (zoc 1 1), Nat.beq (zget 1 hs0R.1 0).1 25, Nat.beq (zget 1 hs0R.1 0).2.1 63, Nat.beq (zwd 40 (zget 1 hs0R.1 0).2.2 46) (zoc 0 46)] = true := by decide +kernel
theorem ev_tk2 : zands [Nat.beq (zget 1 hs0R.1 0).1 (16 + 9), Nat.beq hs0R.2.1 2, Nat.beq hs0C.2.1 3] = true := by decide +kernel
theorem zgw_sub {φ : List Nat} {ws : va_W} {k i j : Nat} (hk : φ[k]? = some i) (hi : i < ws.length) : zgw (zsubw φ ws) k j = zgw ws i j := by
  have e : ws[i]? = some ws[i] := List.getElem?_eq_getElem hi
  rw [zgw_e e, zgw_e (zsubw_at hk e)]
theorem zgw_of {w w' : va_W} {i k j : Nat} (h : w'[i]? = w[k]?) : zgw w' i j = zgw w k j := by
  unfold zgw
  rw [h]
/-- one number of an object told otherwise: not below a least one, at most 200 -/
theorem zHp_openT {Ch : zCh} {d : Nat} {cA : Nat → ClassId} {h : zH d} {w : va_W} {t kd len x j m : Nat} (hH : @zHp Ch d cA h w) (ht : t < h.2.1) (hc : zget d h.1 t = (kd, len, x)) (h16 : 16 ≤ kd) (hj : j < zN (kd - 16)) (hr : zisR (zfty (kd - 16) j) = false) (h1 : m ≤ zgw w t j) (h2 : zgw w t j ≤ 200) : @zHp Ch d cA (zset d h.1 t (kd, len, zup 40 x j (Nat.add 274877906946 m)), h.2) w := by
  obtain ⟨q, e, hq⟩ := zHp_at hH ht hc
  refine zHp_cell hH e ?_
  have hg : zgw w t j = zgv q.2 j := zgw_e e
  have ev : Nat.add 274877906946 m = 274877906946 + m := rfl
  obtain ⟨qa, qe⟩ := q
  obtain ⟨fs, he, hl, hf⟩ := @zCell_obj Ch cA _ kd len x (kd - 16) _ hq (by omega)
  have he : qe = .inr (kd - 16, fs) := he
  subst he
  have key := @zCell_ok Ch cA (zad cA w) (kd - 16) len (zup 40 x j (Nat.add 274877906946 m)) fs hl (fun k u hu => by
    by_cases c1 : k = j
    · subst c1
      rw [zwd_up_same _ _ _ _ (by omega)]
      have hz := hf k u hu
      unfold zFl at hz ⊢
      rw [hr, cond_false] at hz ⊢
      obtain ⟨i, e1, e2, e3, e4⟩ := hz
      have hgi : zgw w t k = zi i := by
        rw [hg]
        show (match fs[k]? with
          | some v => zcv v
          | none => 0) = _
        rw [hu, e1]
        rfl
      have hlt := zi_lt i
      rw [ev]
      exact ⟨i, e1, ⟨⟨fun z => absurd z (by omega), fun _ _ => by omega⟩, fun z => absurd z (by omega)⟩, fun z => absurd z (by omega), fun _ _ => ⟨by omega, fun z => absurd z (by omega), fun z => absurd z (by omega), fun _ => by omega⟩⟩
    · rw [zwd_up_ne _ _ _ _ _ (by omega) (fun z => c1 z.symm)]
      exact hf k u hu)
  rw [show 16 + (kd - 16) = kd by omega] at key
  exact key
section TAPE
variable {Ch : zCh} {cA : Nat → ClassId} {t : Nat} {ws : va_W}
theorem hTC_op (hH : @zHp Ch 2 cA hs0C ws) (h : zgw ws 1 1 = t) (ht : t ≤ 200) : @zHp Ch 2 cA (hTC t) ws := by
  obtain ⟨-, k⟩ := zands_c ev_tk
  obtain ⟨-, k⟩ := zands_c k
  obtain ⟨k3, k⟩ := zands_c k
  obtain ⟨k4, k⟩ := zands_c k
  exact zHp_open hH (by decide) (zc3 k3 k4) (by decide) (by decide) rfl (by omega) (fun i hi => ⟨fun _ => hi.trans h, fun z => absurd z (by omega)⟩)
theorem hTR_op (hH : @zHp Ch 1 cA hs0R ws) (h : zgw ws 0 46 = t) (ht : t ≤ 200) : @zHp Ch 1 cA (hTR t) ws := by
  obtain ⟨-, k⟩ := zands_c ev_tk
  obtain ⟨-, k⟩ := zands_c k
  obtain ⟨-, k⟩ := zands_c k
  obtain ⟨-, k⟩ := zands_c k
  obtain ⟨-, k⟩ := zands_c k
  obtain ⟨-, k⟩ := zands_c k
  obtain ⟨-, k⟩ := zands_c k
  obtain ⟨k3, k⟩ := zands_c k
  obtain ⟨k4, k⟩ := zands_c k
  exact zHp_open hH (by decide) (zc3 k3 k4) (by decide) (by decide) rfl (by omega) (fun i hi => ⟨fun _ => hi.trans h, fun z => absurd z (by omega)⟩)
theorem hTC_opT {m : Nat} (hH : @zHp Ch 2 cA hs0C ws) (h : zgw ws 1 1 = t) (hm : m ≤ t) (ht : t ≤ 200) : @zHp Ch 2 cA (hTC (Nat.add 274877906946 m)) ws := by
  obtain ⟨-, k⟩ := zands_c ev_tk
  obtain ⟨-, k⟩ := zands_c k
  obtain ⟨k3, k⟩ := zands_c k
  obtain ⟨k4, k⟩ := zands_c k
  exact zHp_openT hH (by decide) (zc3 k3 k4) (by decide) (by decide) rfl (by omega) (by omega)
theorem hTR_opT {m : Nat} (hH : @zHp Ch 1 cA hs0R ws) (h : zgw ws 0 46 = t) (hm : m ≤ t) (ht : t ≤ 200) : @zHp Ch 1 cA (hTR (Nat.add 274877906946 m)) ws := by
  obtain ⟨-, k⟩ := zands_c ev_tk
  obtain ⟨-, k⟩ := zands_c k
  obtain ⟨-, k⟩ := zands_c k
  obtain ⟨-, k⟩ := zands_c k
  obtain ⟨-, k⟩ := zands_c k
  obtain ⟨-, k⟩ := zands_c k
  obtain ⟨-, k⟩ := zands_c k
  obtain ⟨k3, k⟩ := zands_c k
  obtain ⟨k4, k⟩ := zands_c k
  exact zHp_openT hH (by decide) (zc3 k3 k4) (by decide) (by decide) rfl (by omega) (by omega)
theorem hTC_cl (hH : @zHp Ch 2 cA (hTC t) ws) (ht : t ≤ 200) : zgw ws 1 1 = t ∧ zgw ws 0 6 = cA (zoc 0 6) ∧ zgw ws 0 7 = cA (zoc 0 7) := by
  obtain ⟨k1, k⟩ := zands_c ev_tk
  obtain ⟨k2, k⟩ := zands_c k
  obtain ⟨k3, k⟩ := zands_c k
  obtain ⟨k4, k⟩ := zands_c k
  obtain ⟨k5, k⟩ := zands_c k
  obtain ⟨k6, k⟩ := zands_c k
  have g1 : zget 2 (hTC t).1 1 = (22, 2, zup 40 (zget 2 hs0C.1 1).2.2 1 t) := zget_set_same 2 _ _ _ (by decide)
  have g0 : zget 2 (hTC t).1 0 = (24, 8, (zget 2 hs0C.1 0).2.2) := (zget_set_ne 2 _ 1 0 _ (by decide) (by decide) (by decide)).trans (zc3 k1 k2)
  refine ⟨?_, ?_, ?_⟩
  · obtain ⟨-, -, i, -, -, -, e1, e2, -⟩ := zgw_num hH (show 1 < 3 by decide) g1 (j := 1) (by decide) (by decide) rfl
    rw [e1]
    rw [zwd_up_same _ _ _ _ (by omega)] at e2
    exact e2.1 (by omega)
  · rw [zgw_ref hH (show 0 < 3 by decide) g0 (j := 6) (by decide) (by decide) rfl, Nat.eq_of_beq_eq_true k5, zrvl_oc]
  · rw [zgw_ref hH (show 0 < 3 by decide) g0 (j := 7) (by decide) (by decide) rfl, Nat.eq_of_beq_eq_true k6, zrvl_oc]
theorem hTR_cl (hH : @zHp Ch 1 cA (hTR t) ws) (ht : t ≤ 200) : zgw ws 0 46 = t := by
  have g1 : zget 1 (hTR t).1 0 = (25, 63, zup 40 (zget 1 hs0R.1 0).2.2 46 t) := zget_set_same 1 _ _ _ (by decide)
  obtain ⟨-, -, i, -, -, -, e1, e2, -⟩ := zgw_num hH (show 0 < 2 by decide) g1 (j := 46) (by decide) (by decide) rfl
  rw [e1]
  rw [zwd_up_same _ _ _ _ (by omega)] at e2
  exact e2.1 (by omega)
end TAPE
theorem q_no {φ : List Nat} {i : Nat} (h : zmmb i φ = false) : ¬ ∃ k : Nat, φ[k]? = some i := fun ⟨k, hk⟩ => zmmb_f h (List.mem_of_getElem? hk)
theorem q_subC [G : zGh] {X Xc : zM} {yc : MethodName} {fr frc pc n : Nat} {f : List zV → zH 2 → zP 2 → Bool} {cA : Nat → ClassId} {D : va_G} {A : Nat → Prop} {MC MS : Nat} {p : Program} {l : Launch} {e : Env} {s : State} {m : MethodId} {args : Array Value} {below : List Frame} {meth : Method} {c : Code} {Q : State → Prop} {ls : Array Slot} {H : Heap} {locs : List Loc} {cells slots : Nat} {as' : List zV} {st av' : List Value} {w0 : va_W} {own : Nat → Nat} {ax g v t' : Nat} {a : zV}
    (hg : g < 24) (hM : zMet Xc yc frc f) (run : zRun X Xc yc fr frc pc n 0 0 (qrc 8)) (Cx : zCx X cA D p s m args meth c A)
    (IC : qC cA D A H own ax g w0) (hop : ∀ (Ch : zCh) (cB : Nat → ClassId) (ws : va_W), @zHp Ch 2 cB hs0C ws → zgw ws 1 1 = zgw w0 11 1 → @zHp Ch 2 cB (hTC v) ws) (htl' : t' ≤ 200) (hk : f (zR 1 :: as') (hTC v) (fun r h => zands [zeqI r a, zsubH h (hTC t')]) = true)
    (hS : va_S A s.heap H locs) (hls : ls.size = X.2.2.1) (has : ∀ ad, zRepL ad as' av') (hcat : (st.map fun v => v.category).sum ≤ 8) (hn : av'.length + 1 = n) (hcb : cells ≤ MC) (hsb : slots ≤ MS)
    (kk : ∀ (w0' : va_W) (ad : zA) (r : zV) (ov : Option Value) (H1 : Heap) (locs1 : List Loc), ((ov = none ∧ r = zU) ∨ ∃ x, ov = some x ∧ ∀ (_ : zGh), zRep ad r x) → zeqI r a = true → qC cA D A H1 own ax g w0' → qMis w0' = qMis w0 → zgw w0' 11 1 = t' → (∀ (d2 : Nat) (h2 : zH d2) (w2 : va_W), qB cA D A H own 1 h2 w2 → qB cA D A H1 own 1 h2 w2) → va_S A s.heap H1 locs1 → W p l e (zRm fr MC MS) s m args below meth c H1 locs1 cells slots Q (F0 m (pc + 3) ls (ov.toList ++ st))) :
    W p l e (zRm fr MC MS) s m args below meth c H locs cells slots Q (F0 m pc ls ((.ref ax :: av').reverse ++ st)) := by
  obtain ⟨B0, hax, cur, hT, hS0⟩ := IC
  obtain ⟨e1, e0⟩ := zands_c ev_tC
  obtain ⟨e2, e0⟩ := zands_c e0
  obtain ⟨e3, -⟩ := zands_c e0
  obtain ⟨e4, -⟩ := zands_c (zall_t ev_tT t' (by omega))
  have l0 : w0.length = 38 := by
    obtain ⟨⟨C0, H0⟩, -⟩ := id B0
    exact H0.1.trans hcore_n
  refine q_sub (hh := hcore) (hs0 := hs0C) (hin := hTC v) (hout := hTC t') (hb := hbC) (φ := [0, 11, 12]) hM run Cx B0 hax rfl e1 e2 (fun Ch h0 => hop Ch _ _ h0 (zgw_sub (k := 1) rfl (by omega))) rfl rfl rfl hk (fun r h hP => (zands_c (zands_c hP).2).1) rfl e4 e3 hS hls has hcat hn hcb hsb (fun w' ws' ad r h' ov H1 locs1 hov hP B' hd' ho hi hHo hfr hS1 => ?_)
  obtain ⟨Ch', hHo⟩ := hHo
  obtain ⟨z1, z2, z3⟩ := hTC_cl hHo htl'
  have hsame : qSame w0 w' := ⟨fun k hk => zgw_of (ho 1 (q_no rfl)), fun j hj => zgw_of (ho 2 (q_no rfl)), ?_, ?_, zgw_of (ho 13 (q_no rfl)), zgw_of (ho 13 (q_no rfl))⟩
  · exact kk w' ad r ov H1 locs1 hov (zands_c hP).1 ⟨B', hd', qSame_cur hg hsame cur, qT_kept hsame (fun d2 z2 h2 w2 hz B2 => hfr d2 z2 h2 w2 (by omega) B2) hT, qS_kept hsame (fun d2 z2 h2 w2 hz B2 => hfr d2 z2 h2 w2 (by omega) B2) hS0⟩ (qSame_mis hsame) ((zgw_of (hi 1 11 rfl)).trans z1) (fun d2 h2 w2 B2 => hfr d2 1 h2 w2 (by decide) B2) hS1
  · rw [zgw_of (hi 0 0 rfl), z2, zcg_gw (by decide), zgw_sub (k := 0) rfl (by omega)]
  · rw [zgw_of (hi 0 0 rfl), z3, zcg_gw (by decide), zgw_sub (k := 0) rfl (by omega)]
theorem q_subR [G : zGh] {X Xc : zM} {yc : MethodName} {fr frc pc n : Nat} {f : List zV → zH 1 → zP 1 → Bool} {cA : Nat → ClassId} {D : va_G} {A : Nat → Prop} {MC MS : Nat} {p : Program} {l : Launch} {e : Env} {s : State} {m : MethodId} {args : Array Value} {below : List Frame} {meth : Method} {c : Code} {Q : State → Prop} {ls : Array Slot} {H : Heap} {locs : List Loc} {cells slots : Nat} {as' : List zV} {st av' : List Value} {w : va_W} {own : Nat → Nat} {am g v t' : Nat} {a : zV}
    (hg : g < 24) (hM : zMet Xc yc frc f) (run : zRun X Xc yc fr frc pc n 0 0 (qrc 9)) (Cx : zCx X cA D p s m args meth c A)
    (IR : qR cA D A H own am g w) (hop : ∀ (Ch : zCh) (cB : Nat → ClassId) (ws : va_W), @zHp Ch 1 cB hs0R ws → zgw ws 0 46 = zgw w 0 46 → @zHp Ch 1 cB (hTR v) ws) (htl' : t' ≤ 200) (hk : f (zR 1 :: as') (hTR v) (fun r h => zands [zeqI r a, zsubH h (hTR t')]) = true)
    (hS : va_S A s.heap H locs) (hls : ls.size = X.2.2.1) (has : ∀ ad, zRepL ad as' av') (hcat : (st.map fun v => v.category).sum ≤ 8) (hn : av'.length + 1 = n) (hcb : cells ≤ MC) (hsb : slots ≤ MS)
    (kk : ∀ (w' : va_W) (ad : zA) (r : zV) (ov : Option Value) (H1 : Heap) (locs1 : List Loc), ((ov = none ∧ r = zU) ∨ ∃ x, ov = some x ∧ ∀ (_ : zGh), zRep ad r x) → zeqI r a = true → qR cA D A H1 own am g w' → zgw w' 0 46 = t' → (∀ (d2 z2 : Nat) (h2 : zH d2) (w2 : va_W), z2 ≠ 1 → qB cA D A H own z2 h2 w2 → qB cA D A H1 own z2 h2 w2) → va_S A s.heap H1 locs1 → W p l e (zRm fr MC MS) s m args below meth c H1 locs1 cells slots Q (F0 m (pc + 3) ls (ov.toList ++ st))) :
    W p l e (zRm fr MC MS) s m args below meth c H locs cells slots Q (F0 m pc ls ((.ref am :: av').reverse ++ st)) := by
  obtain ⟨B0, hax⟩ := IR
  obtain ⟨e1, e0⟩ := zands_c (zall_t ev_tR g hg)
  obtain ⟨e2, e0⟩ := zands_c e0
  obtain ⟨e3, -⟩ := zands_c e0
  obtain ⟨-, e4⟩ := zands_c (zall_t ev_tT t' (by omega))
  obtain ⟨e4, -⟩ := zands_c e4
  have l0 : 0 < w.length := by
    obtain ⟨en, h⟩ := hax
    exact Nat.lt_of_le_of_lt (Nat.zero_le _) (List.getElem?_eq_some_iff.mp h).1
  refine q_sub (hh := hRf g) (hs0 := hs0R) (hin := hTR v) (hout := hTR t') (hb := hbR) (φ := [0, 37]) hM run Cx B0 hax rfl e1 e2 (fun Ch h0 => hop Ch _ _ h0 (zgw_sub (k := 0) rfl l0)) rfl rfl rfl hk (fun r h hP => (zands_c (zands_c hP).2).1) rfl e4 e3 hS hls has hcat hn hcb hsb (fun w' ws' ad r h' ov H1 locs1 hov hP B' hd' ho hi hHo hfr hS1 => ?_)
  obtain ⟨Ch', hHo⟩ := hHo
  exact kk w' ad r ov H1 locs1 hov (zands_c hP).1 ⟨B', hd'⟩ ((zgw_of (hi 0 0 rfl)).trans (hTR_cl hHo htl')) hfr hS1
/-! feed and end at every length -/
noncomputable def qfA (t : Nat) : Nat := cond (Nat.ble t 180) (Nat.add t 20) 4294967295
noncomputable def qfT (t : Nat) : Nat := cond (Nat.ble t 180) (Nat.add t 20) t
theorem qfT_le {t : Nat} (h : t ≤ 200) : qfT t ≤ 200 := by
  unfold qfT
  cases hb : Nat.ble t 180
  · exact h
  · have := Nat.le_of_ble_eq_true hb
    show t + 20 ≤ 200
    omega
noncomputable def qfF {d : Nat} (f : List zV → zH d → zP d → Bool) (hT : Nat → zH d) (t : Nat) : Bool := f [zR 1, zI 4294967296, zI 4294967296, zI 4294967296, zI 4294967296, zI 4294967296] (hT t) (fun r h => zands [zeqI r (zI (qfA t)), zsubH h (hT (qfT t))])
/-- end: a number at most the length (m); a greater one, one below 0 (t the length) -/
noncomputable def qeL {d : Nat} (f : List zV → zH d → zP d → Bool) (hT : Nat → zH d) (m : Nat) : Bool := f [zR 1, zI m] (hT (Nat.add 274877906946 (Nat.succ m))) (fun r h => zands [zeqI r (zI 1), zsubH h (hT m)])
noncomputable def qeG {d : Nat} (f : List zV → zH d → zP d → Bool) (hT : Nat → zH d) (t : Nat) : Bool := zands [zF (fun c => f [zR 1, zI c] (hT t) (fun r h => zands [zeqI r (zI 0), zsubH h (hT t)])) (Nat.add 6442450944 (Nat.mul 1099511627776 (Nat.succ t))), f [zR 1, zI 2361183241439117574144] (hT t) (fun r h => zands [zeqI r (zI 0), zsubH h (hT t)]), f [zR 1, zI t] (hT t) (fun r h => zands [zeqI r (zI 1), zsubH h (hT t)])]
theorem qeG_t {d : Nat} {f : List zV → zH d → zP d → Bool} {hT : Nat → zH d} {t : Nat} (ht : t ≤ 200) (h : qeG f hT t = true) (i : Int32) (hi : t < zi i) : ∃ c, (∀ (_ : zGh), zIs c i) ∧ f [zR 1, zI c] (hT t) (fun r h => zands [zeqI r (zI 0), zsubH h (hT t)]) = true := by
  obtain ⟨h2, h⟩ := zands_c h
  obtain ⟨h3, h⟩ := zands_c h
  rw [zF_eq] at h2
  have hlt := zi_lt i
  by_cases c : zi i < 2147483648
  · refine ⟨_, fun G => ?_, h2⟩
    have := zrg_ok (lo := t + 1) (hi := 2147483648) (i := i) (by omega) c
    unfold zrg at this
    rw [zble_n (by show t + 1 + 1 < 2147483648; omega), cond_false] at this
    exact this
  · exact ⟨_, fun G => (by
      have := zrg_ok (lo := 2147483648) (hi := 4294967296) (i := i) (by omega) hlt
      exact this), h3⟩
theorem qeG_e {d : Nat} {f : List zV → zH d → zP d → Bool} {hT : Nat → zH d} {t : Nat} (h : qeG f hT t = true) : f [zR 1, zI t] (hT t) (fun r h => zands [zeqI r (zI 1), zsubH h (hT t)]) = true := (zands_c (zands_c (zands_c h).2).2).1
end
section
/-! end, by program -/
theorem gfT_X8_85 [zGh] {d : Nat} {X : zM} {fr : Nat} {P : zP d} {pc : Nat} {k : zK d} (h1 : X.1 = RX8) (dg : decode X.2.1 pc = .ok (.getfield 85, 3)) (hs : zSim X fr P (pc + 3) k) : zSim X fr P pc (xgfT 22 1 k) := sm_getfieldT (ci := 6) (n := 1) (C := RX6) (T := TX6) (N := 2) rfl rfl inz6 rfl (by decide) rfl (by rw [h1]; exact wd_38) rfl dg hs
theorem gfT_X9_347 [zGh] {d : Nat} {X : zM} {fr : Nat} {P : zP d} {pc : Nat} {k : zK d} (h1 : X.1 = RX9) (dg : decode X.2.1 pc = .ok (.getfield 347, 3)) (hs : zSim X fr P (pc + 3) k) : zSim X fr P pc (xgfT 25 46 k) := sm_getfieldT (ci := 9) (n := 46) (C := RX9) (T := TX9) (N := 63) rfl rfl inz9 rfl (by decide) rfl (by rw [h1]; exact wd_1064) rfl dg hs
noncomputable def bX8_endt_15 {d : Nat} (P : zP d) : zK d := (xpI 0 (xzret P))
set_option maxRecDepth 100000 in
set_option maxHeartbeats 4000000 in
theorem sbX8_endt_15 {d : Nat} [zGh] (P : zP d) : zSim X_X8_end 1 P 15 (bX8_endt_15 P) := by
  unfold bX8_endt_15
  refine sm_iconst (pc := 15) dX8_end_15 zc_i_0 ?_
  exact sm_zreturn (pc := 16) dX8_end_16 rfl
noncomputable def b_X8_endt {d : Nat} (P : zP d) : zK d := (xild 1 (xjoin (bX8_endt_15 P) (fun j15 => (xif0S tgeR rlGe rhS rlS rhLt (xild 1 (xaldV 0 (xgfR 24 4 (xgfT 22 1 (xcmpS tleR rlS rhLe rlGt rhS (xaldV 0 (xgfR 24 4 (xild 1 (xpfI 22 1 (xpI 1 (xzret P)))))) j15))))) j15))))
set_option maxRecDepth 100000 in
set_option maxHeartbeats 4000000 in
theorem s_X8_endt {d : Nat} [zGh] (P : zP d) : zSim X_X8_end 1 P 0 (b_X8_endt P) := by
  unfold b_X8_endt
  refine sm_iload_n (pc := 0) (n := 1) dX8_end_0 rfl ?_
  refine sm_joinJ (pc := 1) (pc' := 15) (j := 1) (fun G0 hG0 => @sbX8_endt_15 d G0 P) (fun j15 hj15 => ?_)
  refine sm_ifS_lt (pc := 1) (tgt := 15) dX8_end_1 (by decide) ?_ ?_
  · skip
    exact hj15.use
  · skip
    refine sm_iload_n (pc := 4) (n := 1) dX8_end_4 rfl ?_
    refine sm_aloadV_n (pc := 5) (n := 0) dX8_end_5 rfl ?_
    refine gf_X8_33 (pc := 6) rfl dX8_end_6 ?_
    refine gfT_X8_85 (pc := 9) rfl dX8_end_9 ?_
    refine sm_icmpS_le (pc := 12) (tgt := 17) dX8_end_12 (by decide) ?_ ?_
    · skip
      refine sm_aloadV_n (pc := 17) (n := 0) dX8_end_17 rfl ?_
      refine gf_X8_33 (pc := 18) rfl dX8_end_18 ?_
      refine sm_iload_n (pc := 21) (n := 1) dX8_end_21 rfl ?_
      refine pf_X8_85 (pc := 22) rfl dX8_end_22 ?_
      refine sm_iconst (pc := 25) dX8_end_25 zc_i_1 ?_
      exact sm_zreturn (pc := 26) dX8_end_26 rfl
    · skip
      exact hj15.use
noncomputable def f_X8_endt {d : Nat} : List zV → zH d → zP d → Bool := zfn 2 (b_X8_endt )
theorem m_X8_endt {d : Nat} : zMet (d := d) X_X8_end yX8_end 1 (f_X8_endt ) := zmet_mk (X := X_X8_end) (by decide) rfl rfl (fun P => s_X8_endt P)

noncomputable def b_X9_endt {d : Nat} (P : zP d) : zK d := (xild 1 (xi2lR (xpL 0 (xaldV 0 (xgfT 25 46 (xi2lR (xcS 3 0 0 (zstr f_X9_isIna) (xif0S teqR rlEq rhEq rlNe rhNe (xpI 0 (xzret P)) (xaldV 0 (xild 1 (xpfI 25 46 (xpI 1 (xzret P)))))))))))))
set_option maxRecDepth 100000 in
set_option maxHeartbeats 4000000 in
theorem s_X9_endt {d : Nat} [zGh] (P : zP d) : zSim X_X9_end 2 P 0 (b_X9_endt P) := by
  unfold b_X9_endt
  refine sm_iload_n (pc := 0) (n := 1) dX9_end_0 rfl ?_
  refine sm_i2lR (pc := 1) dX9_end_1 ?_
  refine sm_lconst (pc := 2) dX9_end_2 zc_l_0 ?_
  refine sm_aloadV_n (pc := 3) (n := 0) dX9_end_3 rfl ?_
  refine gfT_X9_347 (pc := 4) rfl dX9_end_4 ?_
  refine sm_i2lR (pc := 7) dX9_end_7 ?_
  refine sm_cS (pc := 8) (n := 3) (mc := 0) (ms := 0) (zMet_str m_X9_isIna) (cr_X9_283 (X := X_X9_end) (fr := 2) (frc := 1) (pc := 8) (mc := 0) (ms := 0) rfl (by decide) dX9_end_8) ?_
  refine sm_ifS_ne (pc := 11) (tgt := 16) dX9_end_11 (by decide) ?_ ?_
  · skip
    refine sm_aloadV_n (pc := 16) (n := 0) dX9_end_16 rfl ?_
    refine sm_iload_n (pc := 17) (n := 1) dX9_end_17 rfl ?_
    refine pf_X9_347 (pc := 18) rfl dX9_end_18 ?_
    refine sm_iconst (pc := 21) dX9_end_21 zc_i_1 ?_
    exact sm_zreturn (pc := 22) dX9_end_22 rfl
  · skip
    refine sm_iconst (pc := 14) dX9_end_14 zc_i_0 ?_
    exact sm_zreturn (pc := 15) dX9_end_15 rfl
noncomputable def f_X9_endt {d : Nat} : List zV → zH d → zP d → Bool := zfn 2 (b_X9_endt )
theorem m_X9_endt {d : Nat} : zMet (d := d) X_X9_end yX9_end 2 (f_X9_endt ) := zmet_mk (X := X_X9_end) (by decide) rfl rfl (fun P => s_X9_endt P)
end
