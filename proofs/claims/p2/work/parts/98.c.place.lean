/-! placeNow, where all of it is marked -/
section MARK5
variable {d : Nat}
theorem zmark5 {C2 : zCh} {cA : Nat → ClassId} {hX h : zH d} {ws2 : va_W} {i bh bi bp bs len x y t l8 w8 l9 w9 lp wp xp ls wsn lam x9 : Nat}
  (hH : @zHp C2 d cA hX ws2) (h2 : hX.2 = h.2) (hd : h.2.1 ≤ 2 ^ d) (ii : i < h.2.1) (i8 : bh < h.2.1) (i9 : bi < h.2.1) (ip : bp < h.2.1) (is : bs < h.2.1)
  (gi : zget d h.1 i = (25, len, x)) (g8 : zget d h.1 bh = (8, l8, lam)) (g9 : zget d h.1 bi = (9, l9, x9)) (gp : zget d h.1 bp = (10, lp, xp)) (gs : zget d h.1 bs = (11, ls, lam))
  (ki : zget d hX.1 i = (25, len, y)) (hy : ∀ j, j ≠ 28 → zwd 40 y j = zwd 40 x j) (hy28 : zwd 40 y 28 = t) (k8 : zget d hX.1 bh = (0, l8, w8)) (k9 : zget d hX.1 bi = (0, l9, w9)) (kp : zget d hX.1 bp = (0, lp, wp)) (ks : zget d hX.1 bs = (0, ls, wsn))
  (ko : ∀ p, p < h.2.1 → p ≠ i → p ≠ bh → p ≠ bi → p ≠ bp → p ≠ bs → zget d hX.1 p = zget d h.1 p ∧ znm (zget d h.1 p) = true)
  (hx : ∀ j, j < 63 → j ≠ 28 → zwd 40 x j ≠ 549755813888) (hx28 : zwd 40 x 28 = 549755813888) (ht : t ≤ 720)
  (e8 : ∀ j, j < l8 → zwd 40 w8 j < 4294967296) (e9 : ∀ j, j < l9 → zwd 40 w9 j < 4294967296) (es : ∀ j, j < ls → zwd 40 wsn j < 46656)
  (m8 : zPm (zpn (lam % 1048576)) (fun c => zwd 40 w8 c)) (n8 : zpn (lam % 1048576) ≤ l8)
  (m9 : ∀ c, c < zpn (x9 % 1048576) → zps (x9 % 1048576) c < x9 / 1048576 → c < l8 ∧ zwd 40 w8 c < l9 ∧ zwd 40 w9 (zwd 40 w8 c) = zrw (x9 % 1048576) c)
  (mp : ∀ j, j < lp → zwd 40 wp j ≤ 720)
  (ms : ∀ j, j < t → j < ls ∧ zwd 40 wsn j < lp ∧ zwd 40 wsn j ∈ zcs (lam % 1048576) ∧ zwd 40 wp (zwd 40 wsn j) = j + 1) :
  ∃ C3 : zCh, @zHp C3 d cA h ws2 := by
  obtain ⟨u1, u2, u3⟩ := hH
  have hlen : ws2.length = h.2.1 := by rw [u1, h2]
  have p8 := u3 bh _ (List.getElem?_eq_getElem (by omega))
  rw [k8] at p8
  obtain ⟨L8, f8, F8, R8⟩ := @zCell_i C2 cA _ 0 l8 _ _ p8 (by decide)
  have p9 := u3 bi _ (List.getElem?_eq_getElem (by omega))
  rw [k9] at p9
  obtain ⟨L9, f9, F9, R9⟩ := @zCell_i C2 cA _ 0 l9 _ _ p9 (by decide)
  have pp := u3 bp _ (List.getElem?_eq_getElem (by omega))
  rw [kp] at pp
  obtain ⟨Lp, fp, Fp, Rp⟩ := @zCell_i C2 cA _ 0 lp _ _ pp (by decide)
  have ps := u3 bs _ (List.getElem?_eq_getElem (by omega))
  rw [ks] at ps
  obtain ⟨Ls, fs, Fs, Rs⟩ := @zCell_i C2 cA _ 0 ls _ _ ps (by decide)
  have pi := u3 i _ (List.getElem?_eq_getElem (by omega))
  rw [ki] at pi
  obtain ⟨fv, Fi, Li, Ri⟩ := @zCell_obj C2 cA _ 25 len _ 9 _ pi rfl
  have V8 : ∀ j, j < l8 → zi (f8 j) = zwd 40 w8 j := fun j hj => zAI_e R8 hj (e8 j hj)
  have V9 : ∀ j, j < l9 → zi (f9 j) = zwd 40 w9 j := fun j hj => zAI_e R9 hj (e9 j hj)
  have Vp : ∀ j, j < lp → zi (fp j) = zwd 40 wp j := fun j hj => zAI_e Rp hj (by have := mp j hj; omega)
  have Vs : ∀ j, j < ls → zi (fs j) = zwd 40 wsn j := fun j hj => zAI_e Rs hj (by have := es j hj; omega)
  obtain ⟨C3, hC3⟩ : ∃ C3 : zCh, C3 = ⟨((fun q => if q = 8 then f8 else if q = 9 then f9 else if q = 10 then fp else fs, t) : (Nat → Nat → Int32) × Nat)⟩ := ⟨_, rfl⟩
  have d8 : @zcF C3 8 = f8 := by rw [hC3]; rfl
  have d9 : @zcF C3 9 = f9 := by rw [hC3]; rfl
  have d10 : @zcF C3 10 = fp := by rw [hC3]; rfl
  have d11 : @zcF C3 11 = fs := by rw [hC3]; rfl
  have dT : @zcT C3 = t := by rw [hC3]; rfl
  clear hC3
  refine ⟨C3, hlen, hd, fun p yy hp' => ?_⟩
  have hpl : p < ws2.length := (List.getElem?_eq_some_iff.mp hp').1
  by_cases ep8 : p = bh
  · subst ep8
    rw [List.getElem?_eq_getElem hpl] at hp'
    cases hp'
    rw [g8, F8]
    refine @zCell_km C3 cA _ 8 l8 lam f8 (by decide) (by decide) L8 d8.symm ⟨fun _ => ?_, fun q => absurd q (by decide), fun q => absurd q (by decide), fun q => absurd q (by decide)⟩
    refine zPm_c (fun c hc => ?_) m8
    show _ = zi (@zcF C3 8 c)
    rw [d8, V8 c (by omega)]
  by_cases ep9 : p = bi
  · subst ep9
    rw [List.getElem?_eq_getElem hpl] at hp'
    cases hp'
    rw [g9, F9]
    refine @zCell_km C3 cA _ 9 l9 x9 f9 (by decide) (by decide) L9 d9.symm ⟨fun q => absurd q (by decide), fun _ => ?_, fun q => absurd q (by decide), fun q => absurd q (by decide)⟩
    intro c hc hq
    show zi (@zcF C3 9 (zi (@zcF C3 8 c))) = _
    rw [d8, d9]
    obtain ⟨z1, z2, z3⟩ := m9 c hc hq
    rw [V8 c z1, V9 _ z2, z3]
  by_cases epp : p = bp
  · subst epp
    rw [List.getElem?_eq_getElem hpl] at hp'
    cases hp'
    rw [gp, Fp]
    refine @zCell_km C3 cA _ 10 lp xp fp (by decide) (by decide) Lp d10.symm ⟨fun q => absurd q (by decide), fun q => absurd q (by decide), fun _ j hj => ?_, fun q => absurd q (by decide)⟩
    show zi (@zcF C3 10 j) ≤ 720
    rw [d10]
    rw [Vp j hj]
    exact mp j hj
  by_cases eps : p = bs
  · subst eps
    rw [List.getElem?_eq_getElem hpl] at hp'
    cases hp'
    rw [gs, Fs]
    refine @zCell_km C3 cA _ 11 ls lam fs (by decide) (by decide) Ls d11.symm ⟨fun q => absurd q (by decide), fun q => absurd q (by decide), fun q => absurd q (by decide), fun _ => ⟨fun j hj => ?_, fun j hj => ?_⟩⟩
    · show zi (@zcF C3 11 j) < 46656
      rw [d11]
      rw [Vs j hj]
      exact es j hj
    · rw [dT] at hj
      obtain ⟨z1, z2, z3, z4⟩ := ms j hj
      show zi (@zcF C3 11 j) ∈ _ ∧ zi (@zcF C3 10 (zi (@zcF C3 11 j))) = j + 1
      rw [d10, d11]
      rw [Vs j z1, Vp _ z2]
      exact ⟨z3, z4⟩
  by_cases epi : p = i
  · subst epi
    rw [List.getElem?_eq_getElem hpl] at hp'
    cases hp'
    rw [gi, Fi]
    refine @zCell_ok C3 cA _ 9 len x fv Li (fun k v hv => ?_)
    have hk : k < 63 := by have := (List.getElem?_eq_some_iff.mp hv).1; rw [Li] at this; exact this
    have hf := Ri k v hv
    by_cases ek : k = 28
    · subst ek
      rw [hy28] at hf
      rw [hx28]
      unfold zFl at hf ⊢
      rw [show zisR (zfty 9 28) = false from rfl, cond_false] at hf ⊢
      obtain ⟨iv, v1, v2, -⟩ := hf
      exact ⟨iv, v1, ⟨⟨fun z => absurd z (by decide), fun _ z => absurd z (by decide)⟩, fun _ => show zi iv = @zcT C3 ∧ @zcT C3 ≤ 720 from dT ▸ ⟨v2.1.1 (by omega), ht⟩⟩, fun z => absurd z (Nat.lt_irrefl _), fun _ z => absurd z (Nat.lt_irrefl _)⟩
    · rw [hy k ek] at hf
      exact zFl_gh2 (hx k hk ek) hf
  obtain ⟨o1, o2⟩ := ko p (by omega) epi ep8 ep9 epp eps
  obtain ⟨z1, z2⟩ := znm_t o2
  have hc := u3 p yy hp'
  rw [o1] at hc
  exact zCell_nm z1 z2 hc
end MARK5
