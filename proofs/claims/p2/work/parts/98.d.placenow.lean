/-! placeNow's contract -/
theorem go_pI {d : Nat} {L S : List zV} {h : zH d} {k : zK d} {v : Nat} (hk : k L (zI v :: S) h = true) : xpI v k L S h = true := hk
theorem zps_lt : ∀ lam, lam ∈ zlams → ∀ c, c < zpn lam → zps lam c < zpn lam := by decide +kernel
section PLACENOW
variable {d : Nat}
noncomputable def pnEnd (P : zP d) : zK d := (xald 0 (xgfR 25 26 (xild 1 (xald1 0 (xjoin (bX9_placeNow_68 P) (fun j68 => (xif0 t0eq (xald 0 (xgfR 25 27 (xald 0 (xgfI 25 28 (xild 1 (xast1 0 (fun v => v) (xald 0 (xdup (xgfI 25 28 (xpI 1 (xbin zadd (xpfI 25 28 (xald 0 (xgfR 25 26 (xild 1 (xald 0 (xgfI 25 28 (cX9_placeNow_67 P j68)))))))))))))))))) j68)))))))
noncomputable def pnNew (P : zP d) : zK d := (xald 0 (xgfR 25 27 (xald 0 (xgfI 25 28 (xild 1 (xast1 0 (fun v => v) (xald 0 (xdup (xgfI 25 28 (xpI 1 (xbin zadd (xpfI 25 28 (xald 0 (xgfR 25 26 (xild 1 (xald 0 (xgfI 25 28 (cX9_placeNow_67 P (bX9_placeNow_68 P)))))))))))))))))))
noncomputable def pnBody (r7 : zK d) : zK d := (xpI 6 (xild 1 (xbin zmul (xald 0 (xgfR 25 32 (xild 2 (xald1 0 (xbin zadd (xist 1 (xinc 2 4294967295 r7))))))))))
theorem pn_b68 {P : zP d} {h : zH d} {i len x bp lp Wp code v : Nat} {w : zV} (ki : zget d h.1 i = (25, len, x)) (x26 : zwd 40 x 26 = bp + 1) (hb : bp ≤ 1000000) (kp : zget d h.1 bp = (0, lp, Wp)) (hc : code < lp) (hw : zwd 40 Wp code = v + 1) (hv : v < 720) (hP : P (zI v) h = true) : bX9_placeNow_68 P [zR (i + 1), zI code, w] [] h = true := by
  unfold bX9_placeNow_68
  refine go_ald rfl ?_
  refine go_gfR ki x26 (by omega) ?_
  refine go_ild rfl ?_
  refine go_al1 kp hc hw ?_
  refine go_pI ?_
  refine go_bin (v := v) ?_ ?_
  · show zk2 (v + 1) 1 (Nat.mod (Nat.add (v + 1) (Nat.sub 4294967296 1)) 4294967296) = v
    rw [zk2_e (by omega) (by decide)]
    show (v + 1 + (4294967296 - 1)) % 4294967296 = v
    omega
  · exact go_iret (by omega) hP
theorem pn_loop {P : zP d} {h : zH d} {i len x bi l9 W9 : Nat} {f : Nat → Nat} (ki : zget d h.1 i = (25, len, x)) (x32 : zwd 40 x 32 = bi + 1) (hb : bi ≤ 1000000) (k9 : zget d h.1 bi = (0, l9, W9)) : ∀ (v fuel code : Nat), v < fuel → v ≤ 6 → v < l9 → (∀ u, 1 ≤ u → u ≤ v → zwd 40 W9 u = f u ∧ f u < 6) → (code + 1) * 6 ^ v ≤ 46656 → pnEnd P [zR (i + 1), zI (zcf v f code), zI 0] [] h = true → xloop (fun r7 => lX9_placeNow_7 P r7) fuel [zR (i + 1), zI code, zI v] [] h = true
  | 0, fuel, code, h1, _, _, _, _, hE => by
    obtain ⟨m, rfl⟩ : ∃ m, fuel = m + 1 := ⟨fuel - 1, by omega⟩
    show xild 2 (xif0 t0le (pnEnd P) (pnBody (xloop (fun r7 => lX9_placeNow_7 P r7) m))) [zR (i + 1), zI code, zI 0] [] h = true
    refine go_ild rfl ?_
    exact go_ift (by decide) rfl hE
  | v + 1, fuel, code, h1, h6, h9, hf, hc, hE => by
    obtain ⟨m, rfl⟩ : ∃ m, fuel = m + 1 := ⟨fuel - 1, by omega⟩
    obtain ⟨f1, f2⟩ := hf (v + 1) (by omega) (by omega)
    have hp : 0 < 6 ^ v := Nat.pow_pos (by decide)
    have hc2 : (code + 1) * 6 * 6 ^ v ≤ 46656 := by
      rw [Nat.mul_assoc, Nat.mul_comm 6]
      exact hc
    have hc3 : (code + 1) * 6 ≤ 46656 := Nat.le_trans (Nat.le_mul_of_pos_right _ hp) hc2
    show xild 2 (xif0 t0le (pnEnd P) (pnBody (xloop (fun r7 => lX9_placeNow_7 P r7) m))) [zR (i + 1), zI code, zI (v + 1)] [] h = true
    refine go_ild rfl ?_
    refine go_iff (by omega) (show cond (Nat.beq (v + 1) 0) true (Nat.ble 2147483648 (v + 1)) = false from zble_n (by omega)) ?_
    unfold pnBody
    refine go_pI ?_
    refine go_ild rfl ?_
    refine go_bin (v := 6 * code) ?_ ?_
    · show zk2 6 code (Nat.mod (Nat.mul 6 code) 4294967296) = 6 * code
      rw [zk2_e (by decide) (by omega)]
      show 6 * code % 4294967296 = 6 * code
      omega
    refine go_ald rfl ?_
    refine go_gfR ki x32 (by omega) ?_
    refine go_ild rfl ?_
    refine go_al1 k9 h9 f1 ?_
    refine go_bin (v := 6 * code + f (v + 1)) ?_ ?_
    · show zk2 (6 * code) (f (v + 1)) (Nat.mod (Nat.add (6 * code) (f (v + 1))) 4294967296) = 6 * code + f (v + 1)
      rw [zk2_e (by omega) (by omega)]
      show (6 * code + f (v + 1)) % 4294967296 = 6 * code + f (v + 1)
      omega
    refine go_ist (L' := [zR (i + 1), zI (6 * code + f (v + 1)), zI (v + 1)]) (fun _ => rfl) ?_
    refine go_inc (a := v + 1) (w := v) (L' := [zR (i + 1), zI (6 * code + f (v + 1)), zI v]) rfl ?_ (fun _ => rfl) ?_
    · show zk2 (v + 1) 4294967295 (Nat.mod (Nat.add (v + 1) 4294967295) 4294967296) = v
      rw [zk2_e (by omega) (by decide)]
      show (v + 1 + 4294967295) % 4294967296 = v
      omega
    · refine pn_loop ki x32 hb k9 v m (6 * code + f (v + 1)) (by omega) (by omega) (by omega) (fun u a b => hf u a (by omega)) ?_ hE
      exact Nat.le_trans (Nat.mul_le_mul_right _ (by omega)) hc2
noncomputable def gM_X9_placeNow : List zV → zH d → zP d → Bool := fun as h P => zpR as (fun r as => List.rec (motive := fun _ => Bool) (zat h r (fun _ _ i0 kd _ x => cond (Nat.beq kd 25) (zat h (zwd 40 x 31) (fun _ _ bh k8 l8 lam => zat h (zwd 40 x 32) (fun _ _ bi k9 l9 x9 => zat h (zwd 40 x 26) (fun _ _ bp kp lp _ => zat h (zwd 40 x 27) (fun _ _ bs ks ls lam2 => cond (zands [Nat.beq k8 8, Nat.beq k9 9, Nat.beq kp 10, Nat.beq ks 11, Nat.ble (Nat.succ i0) h.2.1, Nat.ble (Nat.succ bh) h.2.1, Nat.ble (Nat.succ bi) h.2.1, Nat.ble (Nat.succ bp) h.2.1, Nat.ble (Nat.succ bs) h.2.1, Nat.ble bh 1000000, Nat.ble bi 1000000, Nat.ble bp 1000000, Nat.ble bs 1000000, Nat.beq lam2 lam, Nat.ble (Nat.succ lam) 1048576, zmmb lam zlams, Nat.beq (zwd 40 x 0) (zpn lam), Nat.ble (zpn lam) l8, Nat.beq (Nat.mod x9 1048576) lam, Nat.ble (zpn lam) (Nat.div x9 1048576), Nat.ble (Nat.succ (zpn lam)) l9, Nat.ble 46656 lp, Nat.ble 720 ls, Nat.beq (zwd 40 x 28) 549755813888, zall 63 (fun j => cond (Nat.beq j 28) true (cond (Nat.beq (zwd 40 x j) 549755813888) false true)), zall h.2.1 (fun q => cond (Nat.beq q i0) true (cond (Nat.beq q bh) true (cond (Nat.beq q bi) true (cond (Nat.beq q bp) true (cond (Nat.beq q bs) true (znm (zget d h.1 q)))))))]) (P (zI 4294968016) h) false))))) false)) (fun _ _ _ => false) as)
theorem zbeq_n {a b : Nat} (h : a ≠ b) : Nat.beq a b = false := by
  cases z : Nat.beq a b
  · rfl
  · exact absurd (Nat.eq_of_beq_eq_true z) h
set_option maxRecDepth 100000 in
set_option maxHeartbeats 8000000 in
theorem mM_X9_placeNow : zMet (d := d) X_X9_placeNow yX9_placeNow 1 gM_X9_placeNow := zMet_ex m_X9_placeNow (fun C cA ws as h P hg hH => by
  classical
  obtain ⟨r, as1, rfl, hg1⟩ := zpR_t hg
  clear hg
  match as1, hg1 with
  | _ :: _, hg1 => cases hg1
  | [], hg1 =>
    obtain ⟨i, kd, len, x, rfl, gi, hg2⟩ := zat_t hg1
    clear hg1
    obtain ⟨c0, hg3⟩ := zcnd_t hg2
    obtain ⟨bh, k8, l8, lam, x31, g8, hg4⟩ := zat_t hg3
    obtain ⟨bi, k9, l9, x9, x32, g9, hg5⟩ := zat_t hg4
    obtain ⟨bp, kp, lp, xp, x26, gp, hg6⟩ := zat_t hg5
    obtain ⟨bs, ks, ls, lam2, x27, gs, hg7⟩ := zat_t hg6
    obtain ⟨hA, hg⟩ := zcnd_t hg7
    clear hg2 hg3 hg4 hg5 hg6 hg7
    obtain ⟨c1, hA⟩ := zands_c hA
    obtain ⟨c2, hA⟩ := zands_c hA
    obtain ⟨c3, hA⟩ := zands_c hA
    obtain ⟨c4, hA⟩ := zands_c hA
    obtain ⟨c5, hA⟩ := zands_c hA
    obtain ⟨c6, hA⟩ := zands_c hA
    obtain ⟨c7, hA⟩ := zands_c hA
    obtain ⟨c8, hA⟩ := zands_c hA
    obtain ⟨c9, hA⟩ := zands_c hA
    obtain ⟨c10, hA⟩ := zands_c hA
    obtain ⟨c11, hA⟩ := zands_c hA
    obtain ⟨c12, hA⟩ := zands_c hA
    obtain ⟨c13, hA⟩ := zands_c hA
    obtain ⟨c14, hA⟩ := zands_c hA
    obtain ⟨c15, hA⟩ := zands_c hA
    obtain ⟨c16, hA⟩ := zands_c hA
    obtain ⟨c17, hA⟩ := zands_c hA
    obtain ⟨c18, hA⟩ := zands_c hA
    obtain ⟨c19, hA⟩ := zands_c hA
    obtain ⟨c20, hA⟩ := zands_c hA
    obtain ⟨c21, hA⟩ := zands_c hA
    obtain ⟨c22, hA⟩ := zands_c hA
    obtain ⟨c23, hA⟩ := zands_c hA
    obtain ⟨c24, hA⟩ := zands_c hA
    obtain ⟨c25, hA⟩ := zands_c hA
    obtain ⟨c26, hA⟩ := zands_c hA
    have e0 := Nat.eq_of_beq_eq_true c0
    have e1 := Nat.eq_of_beq_eq_true c1
    have e2 := Nat.eq_of_beq_eq_true c2
    have e3 := Nat.eq_of_beq_eq_true c3
    have e4 := Nat.eq_of_beq_eq_true c4
    have e14 := Nat.eq_of_beq_eq_true c14
    subst e0
    subst e1
    subst e2
    subst e3
    subst e4
    subst e14
    have ii : i < h.2.1 := Nat.le_of_ble_eq_true c5
    have i8 : bh < h.2.1 := Nat.le_of_ble_eq_true c6
    have i9 : bi < h.2.1 := Nat.le_of_ble_eq_true c7
    have ip : bp < h.2.1 := Nat.le_of_ble_eq_true c8
    have is : bs < h.2.1 := Nat.le_of_ble_eq_true c9
    have b8 := Nat.le_of_ble_eq_true c10
    have b9 := Nat.le_of_ble_eq_true c11
    have bbp := Nat.le_of_ble_eq_true c12
    have bbs := Nat.le_of_ble_eq_true c13
    have hl20 : lam2 < 1048576 := Nat.le_of_ble_eq_true c15
    have hl : lam2 ∈ zlams := by
      obtain ⟨p, -, hp⟩ := zmmb_in c16
      exact List.mem_of_getElem? hp
    have x0 : zwd 40 x 0 = zpn lam2 := Nat.eq_of_beq_eq_true c17
    have n8 := Nat.le_of_ble_eq_true c18
    have x9m : x9 % 1048576 = lam2 := Nat.eq_of_beq_eq_true c19
    have x9d : zpn lam2 ≤ x9 / 1048576 := Nat.le_of_ble_eq_true c20
    have n9 : zpn lam2 < l9 := Nat.le_of_ble_eq_true c21
    have np := Nat.le_of_ble_eq_true c22
    have ns := Nat.le_of_ble_eq_true c23
    have hx28 : zwd 40 x 28 = 549755813888 := Nat.eq_of_beq_eq_true c24
    have hx : ∀ j, j < 63 → j ≠ 28 → zwd 40 x j ≠ 549755813888 := fun j hj n e => by
      have hz := zall_t c25 j hj
      have hz : cond (Nat.beq j 28) true (cond (Nat.beq (zwd 40 x j) 549755813888) false true) = true := hz
      rw [zbeq_n n, e] at hz
      cases hz
    have hoth : ∀ p, p < h.2.1 → p ≠ i → p ≠ bh → p ≠ bi → p ≠ bp → p ≠ bs → znm (zget d h.1 p) = true := fun p hp n1 n2 n3 n4 n5 => by
      have hz := zall_t c26 p hp
      have hz : cond (Nat.beq p i) true (cond (Nat.beq p bh) true (cond (Nat.beq p bi) true (cond (Nat.beq p bp) true (cond (Nat.beq p bs) true (znm (zget d h.1 p)))))) = true := hz
      rw [zbeq_n n1, zbeq_n n2, zbeq_n n3, zbeq_n n4, zbeq_n n5] at hz
      exact hz
    have hn6 := zpn_6 lam2 hl
    have kne : ∀ {p q : Nat} {a b c a' b' c' : Nat}, zget d h.1 p = (a, b, c) → zget d h.1 q = (a', b', c') → a ≠ a' → p ≠ q := fun h1 h2 hn e => by
      rw [e, h2] at h1
      exact hn (congrArg (fun c : zC => c.1) h1).symm
    have d1 : i ≠ bh := kne gi g8 (by decide)
    have d2 : i ≠ bi := kne gi g9 (by decide)
    have d3 : i ≠ bp := kne gi gp (by decide)
    have d4 : i ≠ bs := kne gi gs (by decide)
    have d5 : bh ≠ bi := kne g8 g9 (by decide)
    have d6 : bh ≠ bp := kne g8 gp (by decide)
    have d7 : bh ≠ bs := kne g8 gs (by decide)
    have d8 : bi ≠ bp := kne g9 gp (by decide)
    have d9 : bi ≠ bs := kne g9 gs (by decide)
    have d10 : bp ≠ bs := kne gp gs (by decide)
    have hwl : ws.length = h.2.1 := hH.1
    have hd : h.2.1 ≤ 2 ^ d := hH.2.1
    have q8 := hH.2.2 bh _ (List.getElem?_eq_getElem (by omega))
    rw [g8] at q8
    obtain ⟨L8, E8, M8⟩ := @zCell_mkd C cA _ 8 l8 lam2 _ (by decide) (by decide) q8
    have q9 := hH.2.2 bi _ (List.getElem?_eq_getElem (by omega))
    rw [g9] at q9
    obtain ⟨L9, E9, M9⟩ := @zCell_mkd C cA _ 9 l9 x9 _ (by decide) (by decide) q9
    have qp := hH.2.2 bp _ (List.getElem?_eq_getElem (by omega))
    rw [gp] at qp
    obtain ⟨Lp, Ep, Mp⟩ := @zCell_mkd C cA _ 10 lp xp _ (by decide) (by decide) qp
    have qs := hH.2.2 bs _ (List.getElem?_eq_getElem (by omega))
    rw [gs] at qs
    obtain ⟨Ls, Es, Ms⟩ := @zCell_mkd C cA _ 11 ls lam2 _ (by decide) (by decide) qs
    have qi := hH.2.2 i _ (List.getElem?_eq_getElem (by omega))
    rw [gi] at qi
    obtain ⟨fv, Ei, Li, Ri⟩ := @zCell_obj C cA _ 25 len x 9 _ qi rfl
    have hpm : zPm (zpn lam2) (fun i => zi (@zcF C 8 i)) := by
      have := M8.1 rfl
      rw [Nat.mod_eq_of_lt hl20] at this
      exact this
    have h9 : ∀ c, c < zpn lam2 → zi (@zcF C 9 (zi (@zcF C 8 c))) = zrw lam2 c := fun c hc => by
      have := M9.2.1 rfl c
      rw [x9m] at this
      exact this hc (Nat.lt_of_lt_of_le (zps_lt lam2 hl c hc) x9d)
    have h10 := Mp.2.2.1 rfl
    have h11 := Ms.2.2.2 rfl
    rw [Nat.mod_eq_of_lt hl20] at h11
    obtain ⟨t, ht⟩ : ∃ t, t = @zcT C := ⟨_, rfl⟩
    rw [← ht] at h11
    obtain ⟨iv, hiv, hti, ht720⟩ : ∃ iv : Int32, fv[28]? = some (.int iv) ∧ zi iv = t ∧ t ≤ 720 := by
      have hl28 : 28 < fv.length := by rw [Li]; decide
      have hf := Ri 28 _ (List.getElem?_eq_getElem hl28)
      rw [hx28] at hf
      unfold zFl at hf
      rw [show zisR (zfty 9 28) = false from rfl, cond_false] at hf
      obtain ⟨iv, v1, ⟨-, v2⟩, -⟩ := hf
      have v2 : zi iv = @zcT C ∧ @zcT C ≤ 720 := v2 rfl
      exact ⟨iv, by rw [List.getElem?_eq_getElem hl28, v1], by rw [ht]; exact v2.1, by rw [ht]; exact v2.2⟩
    have t40 : t < 2 ^ 40 := Nat.lt_of_le_of_lt ht720 (by decide)
    generalize hw8 : zpk (@zcF C 8) l8 = W8
    generalize hw9 : zpk (@zcF C 9) l9 = W9
    generalize hwp : zpk (@zcF C 10) lp = Wp
    generalize hws : zpk (@zcF C 11) ls = Ws
    have A8 : ∀ j, j < l8 → zwd 40 W8 j = zi (@zcF C 8 j) := fun j hj => by rw [← hw8]; exact zpk_wd _ _ _ hj
    have A9 : ∀ j, j < l9 → zwd 40 W9 j = zi (@zcF C 9 j) := fun j hj => by rw [← hw9]; exact zpk_wd _ _ _ hj
    have Ap : ∀ j, j < lp → zwd 40 Wp j = zi (@zcF C 10 j) := fun j hj => by rw [← hwp]; exact zpk_wd _ _ _ hj
    have As : ∀ j, j < ls → zwd 40 Ws j = zi (@zcF C 11 j) := fun j hj => by rw [← hws]; exact zpk_wd _ _ _ hj
    have I8 : zAI l8 W8 (@zcF C 8) := by rw [← hw8]; exact zpk_AI _ _
    have I9 : zAI l9 W9 (@zcF C 9) := by rw [← hw9]; exact zpk_AI _ _
    have Ip : zAI lp Wp (@zcF C 10) := by rw [← hwp]; exact zpk_AI _ _
    have Is : zAI ls Ws (@zcF C 11) := by rw [← hws]; exact zpk_AI _ _
    clear hw8 hw9 hwp hws
    obtain ⟨y, hye⟩ : ∃ y, y = zup 40 x 28 t := ⟨_, rfl⟩
    have hy : ∀ j, j ≠ 28 → zwd 40 y j = zwd 40 x j := fun j hj => by rw [hye, zwd_up_ne _ _ _ _ _ t40 (fun z => hj z.symm)]
    have hy28 : zwd 40 y 28 = t := by rw [hye, zwd_up_same _ _ _ _ t40]
    clear hye
    have H1 := zHp_cell hH (List.getElem?_eq_getElem (show bh < ws.length by omega)) (c' := (0, l8, W8)) (by rw [E8]; exact @zCell_ik C cA _ 0 l8 W8 _ (by decide) L8 I8)
    have H2 := zHp_cell H1 (List.getElem?_eq_getElem (show bi < ws.length by omega)) (c' := (0, l9, W9)) (by rw [E9]; exact @zCell_ik C cA _ 0 l9 W9 _ (by decide) L9 I9)
    have H3 := zHp_cell H2 (List.getElem?_eq_getElem (show bp < ws.length by omega)) (c' := (0, lp, Wp)) (by rw [Ep]; exact @zCell_ik C cA _ 0 lp Wp _ (by decide) Lp Ip)
    have H4 := zHp_cell H3 (List.getElem?_eq_getElem (show bs < ws.length by omega)) (c' := (0, ls, Ws)) (by rw [Es]; exact @zCell_ik C cA _ 0 ls Ws _ (by decide) Ls Is)
    have H5 := zHp_cell H4 (List.getElem?_eq_getElem (show i < ws.length by omega)) (c' := (25, len, y)) (by
      rw [Ei]
      refine @zCell_ok C cA _ 9 len y fv Li (fun k v hv => ?_)
      by_cases ek : k = 28
      · subst ek
        rw [hiv] at hv
        cases hv
        rw [hy28]
        unfold zFl
        rw [show zisR (zfty 9 28) = false from rfl, cond_false]
        exact ⟨iv, rfl, ⟨zIa_e hti, fun q => absurd q (by omega)⟩, fun q => absurd q (by omega), fun q => absurd q (by omega)⟩
      · rw [hy k ek]
        exact Ri k v hv)
    obtain ⟨T1, hT1⟩ : ∃ T1 : zT d, T1 = zset d (zset d (zset d (zset d (zset d h.1 bh (0, l8, W8)) bi (0, l9, W9)) bp (0, lp, Wp)) bs (0, ls, Ws)) i (25, len, y) := ⟨_, rfl⟩
    have H6 : @zHp C d cA (T1, h.2) ws := by rw [hT1]; exact H5
    clear H1 H2 H3 H4 H5
    have ki : zget d T1 i = (25, len, y) := by rw [hT1, zget_set_same d _ _ _ (by omega)]
    have ks : zget d T1 bs = (0, ls, Ws) := by rw [hT1, zget_set_ne d _ _ _ _ (by omega) (by omega) d4, zget_set_same d _ _ _ (by omega)]
    have kp : zget d T1 bp = (0, lp, Wp) := by rw [hT1, zget_set_ne d _ _ _ _ (by omega) (by omega) d3, zget_set_ne d _ _ _ _ (by omega) (by omega) d10.symm, zget_set_same d _ _ _ (by omega)]
    have k9 : zget d T1 bi = (0, l9, W9) := by rw [hT1, zget_set_ne d _ _ _ _ (by omega) (by omega) d2, zget_set_ne d _ _ _ _ (by omega) (by omega) d9.symm, zget_set_ne d _ _ _ _ (by omega) (by omega) d8.symm, zget_set_same d _ _ _ (by omega)]
    have k8 : zget d T1 bh = (0, l8, W8) := by rw [hT1, zget_set_ne d _ _ _ _ (by omega) (by omega) d1, zget_set_ne d _ _ _ _ (by omega) (by omega) d7.symm, zget_set_ne d _ _ _ _ (by omega) (by omega) d6.symm, zget_set_ne d _ _ _ _ (by omega) (by omega) d5.symm, zget_set_same d _ _ _ (by omega)]
    have ko : ∀ p, p < h.2.1 → p ≠ i → p ≠ bh → p ≠ bi → p ≠ bp → p ≠ bs → zget d T1 p = zget d h.1 p := fun p hp n1 n2 n3 n4 n5 => by rw [hT1, zget_set_ne d _ _ _ _ (by omega) (by omega) n1.symm, zget_set_ne d _ _ _ _ (by omega) (by omega) n5.symm, zget_set_ne d _ _ _ _ (by omega) (by omega) n4.symm, zget_set_ne d _ _ _ _ (by omega) (by omega) n3.symm, zget_set_ne d _ _ _ _ (by omega) (by omega) n2.symm]
    have y0 : zwd 40 y 0 = zpn lam2 := by rw [hy 0 (by decide)]; exact x0
    have y26 : zwd 40 y 26 = bp + 1 := by rw [hy 26 (by decide)]; exact x26
    have y27 : zwd 40 y 27 = bs + 1 := by rw [hy 27 (by decide)]; exact x27
    have y32 : zwd 40 y 32 = bi + 1 := by rw [hy 32 (by decide)]; exact x32
    obtain ⟨f, hfe⟩ : ∃ f : Nat → Nat, f = fun v => zi (@zcF C 9 v) := ⟨_, rfl⟩
    have hf1 : ∀ v, f v = zi (@zcF C 9 v) := fun v => by rw [hfe]
    have hcode : zcf (zpn lam2) f 0 ∈ zcs lam2 := zcode_mem hl hpm (fun c hc => by rw [hf1]; exact h9 c hc)
    have hf6 : ∀ v, 1 ≤ v → v ≤ zpn lam2 → f v < 6 := fun v a b => by
      obtain ⟨c, c1, c2⟩ := zPm_mem hpm a b
      have c2 : zi (@zcF C 8 c) = v := c2
      rw [hf1, ← c2, h9 c c1]
      exact zrw_lt lam2 hl c c1
    obtain ⟨code, hce⟩ : ∃ code, code = zcf (zpn lam2) f 0 := ⟨_, rfl⟩
    rw [← hce] at hcode
    have hc46 : code < 46656 := zcs_lt lam2 hl code hcode
    have M8' : zPm (zpn (lam2 % 1048576)) (fun c => zwd 40 W8 c) := by
      rw [Nat.mod_eq_of_lt hl20]
      exact zPm_c (fun c hc => (A8 c (by omega)).symm) hpm
    have M9' : ∀ c, c < zpn (x9 % 1048576) → zps (x9 % 1048576) c < x9 / 1048576 → c < l8 ∧ zwd 40 W8 c < l9 ∧ zwd 40 W9 (zwd 40 W8 c) = zrw (x9 % 1048576) c := by
      rw [x9m]
      intro c hc _
      have hr : zi (@zcF C 8 c) ≤ zpn lam2 := (zPm_rg hpm hc).2
      have hc8 : c < l8 := by omega
      rw [A8 c hc8]
      refine ⟨hc8, by omega, ?_⟩
      rw [A9 _ (by omega)]
      exact h9 c hc
    have X8 : ∀ j, j < l8 → zwd 40 W8 j < 4294967296 := fun j hj => by rw [A8 j hj]; exact zi_lt _
    have X9 : ∀ j, j < l9 → zwd 40 W9 j < 4294967296 := fun j hj => by rw [A9 j hj]; exact zi_lt _
    have Xs : ∀ j, j < ls → zwd 40 Ws j < 46656 := fun j hj => by rw [As j hj]; exact h11.1 j hj
    have Xp : ∀ j, j < lp → zwd 40 Wp j ≤ 720 := fun j hj => by rw [Ap j hj]; exact h10 j hj
    have Ms' : ∀ j, j < t → j < ls ∧ zwd 40 Ws j < lp ∧ zwd 40 Ws j ∈ zcs lam2 ∧ zwd 40 Wp (zwd 40 Ws j) = j + 1 := fun j hj => by
      obtain ⟨z1, z2⟩ := h11.2 j hj
      have hjl : j < ls := by omega
      rw [As j hjl]
      have z3 := zcs_lt lam2 hl _ z1
      refine ⟨hjl, by omega, z1, ?_⟩
      rw [Ap _ (by omega)]
      exact z2
    obtain ⟨hN, hNe⟩ : ∃ hN : zH d, hN = (zset d (zset d (zset d T1 bs (0, ls, zup 40 Ws t code)) i (25, len, zup 40 y 28 (t + 1))) bp (0, lp, zup 40 Wp code (t + 1)), h.2) := ⟨_, rfl⟩
    refine ⟨C, (T1, h.2), fun r h2 => @decide (∃ v, v < 720 ∧ r = zI v ∧ (h2 = (T1, h.2) ∨ (zwd 40 Wp code = 0 ∧ t + 1 ≤ 720 ∧ h2 = hN))) (Classical.propDecidable _), rfl, H6, ?_, ?_⟩
    · generalize hP1 : (fun r h2 => @decide (∃ v, v < 720 ∧ r = zI v ∧ (h2 = (T1, h.2) ∨ (zwd 40 Wp code = 0 ∧ t + 1 ≤ 720 ∧ h2 = hN))) (Classical.propDecidable _) : zP d) = P1
      show b_X9_placeNow P1 [zR (i + 1), zU, zU] [] (T1, h.2) = true
      unfold b_X9_placeNow
      refine go_pI ?_
      refine go_ist (L' := [zR (i + 1), zI 0, zU]) (fun _ => rfl) ?_
      refine go_ald rfl ?_
      refine go_gfI ki y0 ?_
      refine go_ist (L' := [zR (i + 1), zI 0, zI (zpn lam2)]) (fun _ => rfl) ?_
      refine pn_loop (f := f) ki y32 b9 k9 (zpn lam2) 100000 0 (by omega) hn6.2 n9 (fun u a b => ⟨by rw [hf1, A9 u (by omega)], hf6 u a b⟩) ?_ ?_
      · rw [Nat.zero_add, Nat.one_mul]
        exact Nat.le_trans (Nat.pow_le_pow_right (by decide) hn6.2) (by decide)
      rw [← hce]
      unfold pnEnd
      refine go_ald rfl ?_
      refine go_gfR ki y26 (by omega) ?_
      refine go_ild rfl ?_
      refine go_al1 kp (by omega) rfl ?_
      have hpl : zwd 40 Wp code ≤ 720 := Xp code (by omega)
      by_cases hz : zwd 40 Wp code = 0
      · have ht1 : t + 1 ≤ 720 := zseen_lt (s := fun j => zwd 40 Ws j) (pl := fun j => zwd 40 Wp j) hl (fun j hj => ⟨(Ms' j hj).2.2.1, (Ms' j hj).2.2.2⟩) hcode hz
        have t41 : t + 1 < 2 ^ 40 := Nat.lt_of_le_of_lt ht1 (by decide)
        show xif0 t0eq (pnNew P1) (bX9_placeNow_68 P1) [zR (i + 1), zI code, zI 0] [zI (zwd 40 Wp code)] (T1, h.2) = true
        refine go_ift (by omega) (by rw [hz]; rfl) ?_
        unfold pnNew
        refine go_ald rfl ?_
        refine go_gfR ki y27 (by omega) ?_
        refine go_ald rfl ?_
        refine go_gfI ki hy28 ?_
        refine go_ild rfl ?_
        refine go_as1 ks (by omega) (by omega) ?_
        have ki2 : zget d (zset d T1 bs (0, ls, zup 40 Ws t code)) i = (25, len, y) := by rw [zget_set_ne d _ _ _ _ (by omega) (by omega) d4.symm]; exact ki
        refine go_ald rfl ?_
        refine (show xgfI 25 28 _ [zR (i + 1), zI code, zI 0] [zR (i + 1), zR (i + 1)] (zset d T1 bs (0, ls, zup 40 Ws t code), h.2) = true from ?_)
        refine go_gfI ki2 hy28 ?_
        refine go_pI ?_
        refine go_bin (v := t + 1) ?_ ?_
        · show zk2 t 1 (Nat.mod (Nat.add t 1) 4294967296) = t + 1
          rw [zk2_e (by omega) (by decide)]
          show (t + 1) % 4294967296 = t + 1
          omega
        refine go_pfI ki2 (by omega) ?_
        have ki3 : zget d (zset d (zset d T1 bs (0, ls, zup 40 Ws t code)) i (25, len, zup 40 y 28 (t + 1))) i = (25, len, zup 40 y 28 (t + 1)) := zget_set_same d _ _ _ (by omega)
        have kp3 : zget d (zset d (zset d T1 bs (0, ls, zup 40 Ws t code)) i (25, len, zup 40 y 28 (t + 1))) bp = (0, lp, Wp) := by rw [zget_set_ne d _ _ _ _ (by omega) (by omega) d3, zget_set_ne d _ _ _ _ (by omega) (by omega) d10.symm]; exact kp
        have z26 : zwd 40 (zup 40 y 28 (t + 1)) 26 = bp + 1 := by rw [zwd_up_ne _ _ _ _ _ t41 (by decide)]; exact y26
        refine go_ald rfl ?_
        refine go_gfR ki3 z26 (by omega) ?_
        refine go_ild rfl ?_
        refine go_ald rfl ?_
        refine go_gfI (v := t + 1) ki3 (by rw [zwd_up_same _ _ _ _ t41]) ?_
        unfold cX9_placeNow_67
        refine go_as1 kp3 (by omega) (by omega) ?_
        refine pn_b68 (i := i) (len := len) (x := zup 40 y 28 (t + 1)) (bp := bp) (lp := lp) (Wp := zup 40 Wp code (t + 1)) (v := t) ?_ z26 bbp (zget_set_same d _ _ _ (by omega)) (by omega) (zwd_up_same _ _ _ _ t41) (by omega) ?_
        · show zget d (zset d _ bp _) i = _
          rw [zget_set_ne d _ _ _ _ (by omega) (by omega) d3.symm]
          exact ki3
        · rw [← hP1]
          exact @decide_eq_true _ (Classical.propDecidable _) ⟨t, by omega, rfl, Or.inr ⟨hz, ht1, hNe.symm⟩⟩
      · show xif0 t0eq (pnNew P1) (bX9_placeNow_68 P1) [zR (i + 1), zI code, zI 0] [zI (zwd 40 Wp code)] (T1, h.2) = true
        refine go_iff (by omega) (zbeq_n hz) ?_
        refine pn_b68 (v := zwd 40 Wp code - 1) ki y26 bbp kp (by omega) (by omega) (by omega) ?_
        rw [← hP1]
        exact @decide_eq_true _ (Classical.propDecidable _) ⟨zwd 40 Wp code - 1, by omega, rfl, Or.inl rfl⟩
    · intro C2 ws2 r h2 hp hH3
      obtain ⟨v, hv, hr, hcase⟩ := @of_decide_eq_true _ (Classical.propDecidable _) hp
      subst hr
      have hC3 : ∃ C3 : zCh, @zHp C3 d cA h ws2 := by
        rcases hcase with hcase | ⟨hz, ht1, hcase⟩
        · subst hcase
          exact zmark5 (lam := lam2) (x9 := x9) hH3 rfl hd ii i8 i9 ip is gi g8 g9 gp gs ki hy hy28 k8 k9 kp ks (fun p a b c d e f => ⟨ko p a b c d e f, hoth p a b c d e f⟩) hx hx28 ht720 X8 X9 Xs M8' (by rw [Nat.mod_eq_of_lt hl20]; exact n8) M9' Xp (by rw [Nat.mod_eq_of_lt hl20]; exact Ms')
        · subst hcase
          have t41 : t + 1 < 2 ^ 40 := Nat.lt_of_le_of_lt ht1 (by decide)
          have c40 : code < 2 ^ 40 := Nat.lt_of_lt_of_le hc46 (by decide)
          have gg : ∀ p, zget d h2.1 p = zget d (zset d (zset d (zset d T1 bs (0, ls, zup 40 Ws t code)) i (25, len, zup 40 y 28 (t + 1))) bp (0, lp, zup 40 Wp code (t + 1))) p := fun p => by rw [hNe]
          refine zmark5 (lam := lam2) (x9 := x9) (y := zup 40 y 28 (t + 1)) (t := t + 1) (w8 := W8) (w9 := W9) (wp := zup 40 Wp code (t + 1)) (wsn := zup 40 Ws t code) hH3 (by rw [hNe]) hd ii i8 i9 ip is gi g8 g9 gp gs ?_ (fun j hj => by rw [zwd_up_ne _ _ _ _ _ t41 (fun z => hj z.symm)]; exact hy j hj) (zwd_up_same _ _ _ _ t41) ?_ ?_ ?_ ?_ (fun p a b c d e f => ⟨?_, hoth p a b c d e f⟩) hx hx28 ht1 X8 X9 ?_ M8' (by rw [Nat.mod_eq_of_lt hl20]; exact n8) M9' ?_ ?_
          · rw [gg, zget_set_ne d _ _ _ _ (by omega) (by omega) d3.symm, zget_set_same d _ _ _ (by omega)]
          · rw [gg, zget_set_ne d _ _ _ _ (by omega) (by omega) d6.symm, zget_set_ne d _ _ _ _ (by omega) (by omega) d1, zget_set_ne d _ _ _ _ (by omega) (by omega) d7.symm]
            exact k8
          · rw [gg, zget_set_ne d _ _ _ _ (by omega) (by omega) d8.symm, zget_set_ne d _ _ _ _ (by omega) (by omega) d2, zget_set_ne d _ _ _ _ (by omega) (by omega) d9.symm]
            exact k9
          · rw [gg, zget_set_same d _ _ _ (by omega)]
          · rw [gg, zget_set_ne d _ _ _ _ (by omega) (by omega) d10, zget_set_ne d _ _ _ _ (by omega) (by omega) d4, zget_set_same d _ _ _ (by omega)]
          · rw [gg, zget_set_ne _ _ _ _ _ (by omega) (by omega) e.symm, zget_set_ne _ _ _ _ _ (by omega) (by omega) b.symm, zget_set_ne _ _ _ _ _ (by omega) (by omega) f.symm]
            exact ko p a b c d e f
          · intro j hj
            by_cases q : j = t
            · rw [q, zwd_up_same _ _ _ _ c40]; exact hc46
            · rw [zwd_up_ne _ _ _ _ _ c40 (fun z => q z.symm)]; exact Xs j hj
          · intro j hj
            by_cases q : j = code
            · rw [q, zwd_up_same _ _ _ _ t41]; exact ht1
            · rw [zwd_up_ne _ _ _ _ _ t41 (fun z => q z.symm)]; exact Xp j hj
          · rw [Nat.mod_eq_of_lt hl20]
            intro j hj
            by_cases q : j = t
            · rw [q, zwd_up_same _ _ _ _ c40, zwd_up_same _ _ _ _ t41]
              exact ⟨by omega, by omega, hcode, rfl⟩
            · rw [zwd_up_ne _ _ _ _ _ c40 (fun z => q z.symm)]
              obtain ⟨z1, z2, z3, z4⟩ := Ms' j (by omega)
              have hne : code ≠ zwd 40 Ws j := fun e => by rw [← e, hz] at z4; omega
              rw [zwd_up_ne _ _ _ _ _ t41 hne]
              exact ⟨z1, z2, z3, z4⟩
      obtain ⟨C3, hC3⟩ := hC3
      refine ⟨C3, zI 4294968016, h, hg, hC3, (fun q => by cases q), fun xx hxx G' => ?_⟩
      obtain ⟨iv', v1, v2⟩ := hxx G'
      have v3 := v2.1 (by omega)
      exact ⟨iv', v1, fun q => absurd q (by decide), fun _ _ => by show zi iv' < 4294968016 % 1099511627776 - 4294967296; omega, by show 4294968016 / 1099511627776 % 4294967296 ≤ zi iv'; omega, fun q => absurd q (by decide)⟩)
end PLACENOW
