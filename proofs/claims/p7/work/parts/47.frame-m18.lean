section
/-! a method's summary over a small world serves in every larger one -/
theorem zcnd_t {a b : Bool} (h : cond a b false = true) : a = true ∧ b = true := by
  cases a
  · cases h
  · exact ⟨rfl, h⟩
theorem Met_mono {l : Launch} {y : MethodName} {ws : List Cond} {rm : Room} {Pc Pc' : Array Value → State → Prop} {Qc Qc' : Array Value → State → Outcome → State → Prop} {mc ms : Nat} {free free' : Addr → Prop} (h : Met l y ws rm Pc Qc mc ms free) (hp : ∀ a s, Pc' a s → Pc a s) (hq : ∀ a s o t, Pc' a s → Qc a s o t → Qc' a s o t) (hf : ∀ q, free q → free' q) : Met l y ws rm Pc' Qc' mc ms free' := by
  intro p e h1 h2 h3 s m args below hfr hap hP hK
  obtain ⟨n, o, a1, a2, a3, hq1, L, hL, hfree⟩ := h p e h1 h2 h3 s m args below hfr hap (hp _ _ hP) hK
  exact ⟨n, o, a1, a2, a3, hq _ _ _ _ hP hq1, L, hL, fun q hq => hf _ (hfree q hq)⟩
/-- the word of what isn't looked at: field j of the small world's cell t -/
def zoc (t j : Nat) : Nat := Nat.add 549755813889 (Nat.add (Nat.mul 64 t) j)
theorem zoc_n (t j : Nat) : zoc t j = 549755813889 + (64 * t + j) := rfl
def zcv (v : Value) : Nat := match v with
  | .int i => zi i
  | .ref a => a + 1
  | _ => 0
def zgv (e : va_E) (j : Nat) : Nat := match e with
  | .inr (_, fs) => match fs[j]? with
    | some v => zcv v
    | none => 0
  | .inl (_, _, .inr (.inr (.inr (.inr g)))) => zcv (va_rf (g j))
  | _ => 0
def zcg (cA : Nat → ClassId) (wss : va_W) : Nat → ClassId := fun w => if w < 549755813889 then cA w else match wss[(w - 549755813889) / 64]? with
  | some q => zgv q.2 ((w - 549755813889) % 64)
  | none => 0
theorem zcg_lo {cA : Nat → ClassId} {wss : va_W} {w : Nat} (h : w < 549755813889) : zcg cA wss w = cA w := if_pos h
theorem zcg_oc {cA : Nat → ClassId} {wss : va_W} {t j : Nat} {q : Nat × va_E} (hj : j < 64) (hq : wss[t]? = some q) : zcg cA wss (zoc t j) = zgv q.2 j := by
  unfold zcg
  rw [zoc_n, if_neg (by omega), show (549755813889 + (64 * t + j) - 549755813889) / 64 = t by omega, show (549755813889 + (64 * t + j) - 549755813889) % 64 = j by omega, hq]
theorem zop_cv {g : Nat → Nat} {w : Nat} {o : Option Nat} (hw : 21 ≤ w) (h : g w = zcv (va_rf o)) : zop g w = o := by
  unfold zop
  rw [Nat.max_eq_left hw]
  cases o with
  | none => rw [if_pos (by rw [h]; rfl)]
  | some a =>
    have e : g w = a + 1 := h
    rw [if_neg (by omega), e]
    rfl
theorem zoc_20 (t j : Nat) : 21 ≤ zoc t j := by
  rw [zoc_n]
  omega
theorem zcg_ty {cA : Nat → ClassId} {wss : va_W} : zty (zcg cA wss) = zty cA := by
  unfold zty
  rw [zcg_lo (w := 0) (by decide), zcg_lo (w := 1) (by decide), zcg_lo (w := 2) (by decide), zcg_lo (w := 3) (by decide), zcg_lo (w := 4) (by decide), zcg_lo (w := 5) (by decide), zcg_lo (w := 6) (by decide), zcg_lo (w := 7) (by decide)]
noncomputable def zsubi (wb ws : Nat) : Bool := cond (Nat.ble 274877906944 ws) false (cond (Nat.beq wb ws) true (cond (Nat.ble 549755813888 wb) (Nat.beq ws 4294967296) (zsubI wb ws)))
theorem zsubi_ok {wb ws : Nat} {i : Int32} (h : zsubi wb ws = true) (hb : wb < 1099511627776) (hi : zIa wb i) : ws < 274877906944 ∧ zIa ws i := by
  unfold zsubi at h
  cases h1 : Nat.ble 274877906944 ws
  · rw [h1, cond_false] at h
    have q1 := zble_f h1
    refine ⟨q1, ?_⟩
    cases h2 : Nat.beq wb ws
    · rw [h2, cond_false] at h
      cases h3 : Nat.ble 549755813888 wb
      · rw [h3, cond_false] at h
        exact zsubI_a hb (by omega) h hi
      · rw [h3, cond_true] at h
        rw [Nat.eq_of_beq_eq_true h]
        exact ⟨fun q => absurd q (Nat.lt_irrefl _), fun q => absurd q (Nat.lt_irrefl _)⟩
    · rw [← Nat.eq_of_beq_eq_true h2]
      exact hi
  · rw [h1] at h; cases h
noncomputable def zmw (φ : List Nat) (t : Nat) (isR : Bool) (x x0 j : Nat) : Bool := cond (Nat.beq (zwd 40 x0 j) (zoc t j)) (Nat.ble j 63) (cond isR (Nat.rec (motive := fun _ => Bool) (Nat.beq (zwd 40 x j) 0) (fun p _ => ztab φ p (fun b => Nat.beq (zwd 40 x j) (Nat.succ b))) (zwd 40 x0 j)) (zsubi (zwd 40 x j) (zwd 40 x0 j)))
/-- rows side by side, on both sides -/
noncomputable def zm12 (φ : List Nat) (x x0 : Nat) : Bool := cond (Nat.beq (Nat.sub (Nat.div x 1048576) (Nat.mod x 1048576)) (Nat.sub (Nat.div x0 1048576) (Nat.mod x0 1048576))) (zall (Nat.sub (Nat.div x 1048576) (Nat.mod x 1048576)) (fun i => ztab φ (Nat.add (Nat.mod x0 1048576) i) (fun b => Nat.beq b (Nat.add (Nat.mod x 1048576) i)))) false
noncomputable def zmt (φ : List Nat) (t : Nat) (c c0 : zC) : Bool := Prod.rec (motive := fun _ => Bool) (fun kd v => Prod.rec (motive := fun _ => Bool) (fun len x => Prod.rec (motive := fun _ => Bool) (fun kd0 v0 => Prod.rec (motive := fun _ => Bool) (fun len0 x0 => cond (Nat.beq kd kd0) (cond (Nat.beq len len0) (cond (Nat.ble kd 2) (cond (Nat.beq x x0) true (zsubX kd len x x0)) (cond (Nat.ble kd 7) (zall len (zmw φ t true x x0)) (cond (Nat.ble 16 kd) (zall (zN (Nat.sub kd 16)) (fun j => zmw φ t (zisR (zfty (Nat.sub kd 16) j)) x x0 j)) (cond (Nat.beq kd 12) (zm12 φ x x0) false)))) false) false) v0) c0) v) c
theorem zCell_lo {C1 C2 : zCh} {cA cB : Nat → ClassId} {ad ad' : zA} {kd len x : Nat} {e : va_E} (hk : kd ≤ 2) (hc : @zCell C1 cA ad (kd, len, x) e) (hB : ∀ i, i < 3 → cB i = cA i) : @zCell C2 cB ad' (kd, len, x) e := by
  by_cases q : kd = 2
  · subst q
    obtain ⟨hl, f, rfl, hf⟩ := @zCell_j C1 cA ad len x e hc
    rw [← hB 2 (by decide)]
    exact @zCell_jk C2 cB ad' len x f hl hf
  · obtain ⟨hl, f, rfl, hf⟩ := @zCell_i C1 cA ad kd len x e hc (by omega)
    rw [← hB kd (by omega)]
    exact @zCell_ik C2 cB ad' kd len x f (by omega) hl hf
section WORLD
variable {cA : Nat → ClassId} {ws wss : va_W} {φ : List Nat}
theorem zmw_R {t x x0 j : Nat} {q : Nat × va_E} {o : Option Nat} (hφ : ∀ (p b : Nat), φ[p]? = some b → b < 549755813887 ∧ p < 549755813887 ∧ ∃ q, ws[b]? = some q ∧ wss[p]? = some q) (hq : wss[t]? = some q) (hg : zgv q.2 j = zcv (va_rf o)) (h : zmw φ t true x x0 j = true) (hr : zRw (zad cA ws) (zwd 40 x j) o) : zRw (zad (zcg cA wss) wss) (zwd 40 x0 j) o := by
  unfold zmw at h
  cases h1 : Nat.beq (zwd 40 x0 j) (zoc t j)
  · rw [h1, cond_false, cond_true] at h
    generalize zwd 40 x0 j = w at h ⊢
    cases w with
    | zero =>
      have e : zwd 40 x j = 0 := Nat.eq_of_beq_eq_true h
      rw [e] at hr
      rcases hr with ⟨-, ⟨-, z⟩ | ⟨k, a, z, -⟩⟩ | ⟨z, -⟩
      · exact Or.inl ⟨by decide, Or.inl ⟨rfl, z⟩⟩
      · cases z
      · exact absurd z (by decide)
    | succ p =>
      have h : ztab φ p (fun b => Nat.beq (zwd 40 x j) (Nat.succ b)) = true := h
      obtain ⟨b, hb, hb2⟩ := ztab_t φ p h
      have e : zwd 40 x j = b + 1 := Nat.eq_of_beq_eq_true hb2
      obtain ⟨b1, b2, q', g1, g2⟩ := hφ p b hb
      rw [e] at hr
      rcases hr with ⟨-, ⟨z, -⟩ | ⟨k, a, z1, z2, z3⟩⟩ | ⟨z, -⟩
      · cases z
      · have ek : b = k := by omega
        subst ek
        refine Or.inl ⟨by omega, Or.inr ⟨p, a, rfl, ?_, z3⟩⟩
        have z2 : (ws.map (fun q => q.1))[b]? = some a := z2
        show (wss.map (fun q => q.1))[p]? = some a
        rw [List.getElem?_map, g1] at z2
        rw [List.getElem?_map, g2]
        exact z2
      · omega
  · rw [h1, cond_true] at h
    have hj := Nat.le_of_ble_eq_true h
    rw [Nat.eq_of_beq_eq_true h1]
    exact Or.inr ⟨by rw [zoc_n]; omega, (zop_cv (g := zcg cA wss) (zoc_20 _ _) (by rw [zcg_oc (by omega) hq]; exact hg)).symm⟩
theorem zmw_I [zCh] {t x x0 j : Nat} {q : Nat × va_E} {v : Value} (hq : wss[t]? = some q) (hg : zgv q.2 j = zcv v) (h : zmw φ t false x x0 j = true) (hr : zRepC (zad cA ws) (zI (zwd 40 x j)) v) : zRepC (zad (zcg cA wss) wss) (zI (zwd 40 x0 j)) v := by
  unfold zmw at h
  obtain ⟨i, rfl, r1, r2⟩ := hr
  cases h1 : Nat.beq (zwd 40 x0 j) (zoc t j)
  · rw [h1, cond_false, cond_false] at h
    obtain ⟨g1, g2⟩ := zsubi_ok h (zwd_lt _ _ _) r1.1
    exact ⟨i, rfl, ⟨g2, fun z => absurd z (by omega)⟩, fun z => absurd z (by omega), fun z => absurd z (by omega)⟩
  · rw [h1, cond_true] at h
    have hj := Nat.le_of_ble_eq_true h
    rw [Nat.eq_of_beq_eq_true h1]
    refine ⟨i, rfl, ⟨⟨fun z => absurd z (by rw [zoc_n]; omega), fun _ z => absurd z (by rw [zoc_n]; omega)⟩, fun z => absurd z (by rw [zoc_n]; omega)⟩, fun _ => ?_, fun _ z => absurd z (by rw [zoc_n]; omega)⟩
    show zi i = zcg cA wss (zoc t j)
    rw [zcg_oc (by omega) hq, hg]
    rfl
theorem zmt_ok [zCh] {t a : Nat} {c c0 : zC} {e : va_E} (hφ : ∀ (p b : Nat), φ[p]? = some b → b < 549755813887 ∧ p < 549755813887 ∧ ∃ q, ws[b]? = some q ∧ wss[p]? = some q) (hq : wss[t]? = some (a, e)) (hc : zCell cA (zad cA ws) c e) (hm : zmt φ t c c0 = true) : zCell (zcg cA wss) (zad (zcg cA wss) wss) c0 e := by
  obtain ⟨kd, len, x⟩ := c
  obtain ⟨kd0, len0, x0⟩ := c0
  replace hm : cond (Nat.beq kd kd0) (cond (Nat.beq len len0) (cond (Nat.ble kd 2) (cond (Nat.beq x x0) true (zsubX kd len x x0)) (cond (Nat.ble kd 7) (zall len (zmw φ t true x x0)) (cond (Nat.ble 16 kd) (zall (zN (Nat.sub kd 16)) (fun j => zmw φ t (zisR (zfty (Nat.sub kd 16) j)) x x0 j)) (cond (Nat.beq kd 12) (zm12 φ x x0) false)))) false) false = true := hm
  cases h1 : Nat.beq kd kd0
  · rw [h1] at hm; cases hm
  cases h2 : Nat.beq len len0
  · rw [h1, h2] at hm; cases hm
  rw [h1, h2, cond_true, cond_true] at hm
  have e1 := Nat.eq_of_beq_eq_true h1
  have e2 := Nat.eq_of_beq_eq_true h2
  subst e1
  subst e2
  cases h3 : Nat.ble kd 2
  · rw [h3, cond_false] at hm
    have q3 := zble_f h3
    cases h4 : Nat.ble kd 7
    · rw [h4, cond_false] at hm
      cases h5 : Nat.ble 16 kd
      · rw [h5, cond_false] at hm
        obtain ⟨h12, hm12⟩ := zcnd_t hm
        have e12 := Nat.eq_of_beq_eq_true h12
        clear hm
        subst e12
        obtain ⟨hl, f, rfl, hf⟩ : len < 2147483648 ∧ ∃ f : Nat → Option Nat, e = .inl (cA 3, len, .inr (.inr (.inr (.inr f)))) ∧ zRs (zad cA ws) len x f := by
          rcases hc with ⟨g, -⟩ | ⟨g, -⟩ | ⟨-, -, g3, ⟨g4, -⟩ | ⟨-, f, g5, g6⟩⟩ | ⟨-, g, -⟩ | ⟨g, -⟩
          · exact absurd (show 12 < 2 from g) (by decide)
          · exact absurd (show 12 = 2 from g) (by decide)
          · exact absurd (show 12 < 12 from g4) (by decide)
          · exact ⟨g3, f, g5, g6⟩
          · exact absurd (show 12 < 8 from g) (by decide)
          · exact absurd (show 16 ≤ 12 from g) (by decide)
        obtain ⟨hd, hm⟩ := zcnd_t hm12
        have hd : x / 1048576 - x % 1048576 = x0 / 1048576 - x0 % 1048576 := Nat.eq_of_beq_eq_true hd
        refine Or.inr (Or.inr (Or.inl ⟨(by decide : 8 ≤ 12), (by decide : 12 < 16), hl, Or.inr ⟨rfl, f, by rw [zcg_lo (by decide)], fun j hj => ?_⟩⟩))
        obtain ⟨k, a', z1, z2, z3, z4⟩ := hf j hj
        have hk : k - x % 1048576 < x / 1048576 - x % 1048576 := by omega
        obtain ⟨b, hb, hb2⟩ := ztab_t φ _ (zall_t hm (k - x % 1048576) hk)
        have eb : b = x % 1048576 + (k - x % 1048576) := Nat.eq_of_beq_eq_true hb2
        have ebk : b = k := by omega
        subst ebk
        obtain ⟨-, -, q', g1, g2⟩ := hφ _ b hb
        refine ⟨x0 % 1048576 + (b - x % 1048576), a', by show x0 % 1048576 ≤ _; omega, by show _ < x0 / 1048576; omega, ?_, z4⟩
        have z3 : (ws.map (fun q => q.1))[b]? = some a' := z3
        show (wss.map (fun q => q.1))[x0 % 1048576 + (b - x % 1048576)]? = some a'
        have g2 : wss[x0 % 1048576 + (b - x % 1048576)]? = some q' := g2
        rw [List.getElem?_map, g1] at z3
        rw [List.getElem?_map, g2]
        exact z3
      rw [h5, cond_true] at hm
      have q5 := Nat.le_of_ble_eq_true h5
      obtain ⟨fs, rfl, hl, hf⟩ := zCell_obj (ci := kd - 16) hc (by omega)
      have hek : kd = 16 + (kd - 16) := by omega
      have hw := zall_t hm
      have key : zCell (zcg cA wss) (zad (zcg cA wss) wss) (16 + (kd - 16), len, x0) (.inr (kd - 16, fs)) := zCell_ok hl (fun j v hv => by
        have hj : j < zN (kd - 16) := by rw [← hl]; exact (List.getElem?_eq_some_iff.mp hv).1
        have hwj : zmw φ t (zisR (zfty (kd - 16) j)) x x0 j = true := hw j hj
        have hfj := hf j v hv
        unfold zFl at hfj ⊢
        cases hz : zisR (zfty (kd - 16) j)
        · rw [hz] at hwj
          rw [hz, cond_false] at hfj
          rw [cond_false]
          exact zmw_I hq (by show (match fs[j]? with | some v => zcv v | none => 0) = zcv v; rw [hv]) hwj hfj
        · rw [hz] at hwj
          rw [hz, cond_true] at hfj
          rw [cond_true]
          obtain ⟨o, rfl, ho⟩ := hfj
          exact ⟨o, rfl, zmw_R hφ hq (by show (match fs[j]? with | some v => zcv v | none => 0) = zcv (va_rf o); rw [hv]) hwj ho⟩)
      rw [← hek] at key
      exact key
    · rw [h4, cond_true] at hm
      have q4 := Nat.le_of_ble_eq_true h4
      obtain ⟨hl, f, rfl, hf⟩ := zCell_r hc (by omega) (by omega)
      have hw := zall_t hm
      have key := zCell_rk (cA := zcg cA wss) (ad := zad (zcg cA wss) wss) (x := x0) (f := f) (kd := kd) (by omega) (by omega) hl (fun j hj => zmw_R hφ hq rfl (hw j hj) (hf j hj))
      rw [zcg_lo (by omega)] at key
      exact key
  · rw [h3, cond_true] at hm
    have q3 := Nat.le_of_ble_eq_true h3
    have key : zCell cA (zad cA ws) (kd, len, x0) e := by
      cases h4 : Nat.beq x x0
      · rw [h4, cond_false] at hm
        exact zsubX_ok hm hc
      · rw [← Nat.eq_of_beq_eq_true h4]
        exact hc
    exact zCell_lo q3 key (fun i hi => zcg_lo (by omega))
end WORLD
/-! and back -/
noncomputable def zlr (kd len j : Nat) (isR : Bool) : Bool := cond (Nat.ble kd 7) (cond (Nat.ble 3 kd) (cond (Nat.ble len j) false isR) false) (cond (Nat.ble 16 kd) (cond (Nat.ble (zN (Nat.sub kd 16)) j) false (cond (zisR (zfty (Nat.sub kd 16) j)) isR (cond isR false true))) false)
noncomputable def zwb {d : Nat} (φ ρ : List Nat) (t : zT d) (isR : Bool) (w : Nat) (K : Nat → Bool) : Bool := cond (Nat.ble 549755813889 w) (ztab φ (Nat.div (Nat.sub w 549755813889) 64) (fun b => Prod.rec (motive := fun _ => Bool) (fun kd v => Prod.rec (motive := fun _ => Bool) (fun len x => cond (zlr kd len (Nat.mod (Nat.sub w 549755813889) 64) isR) (zF K (zwd 40 x (Nat.mod (Nat.sub w 549755813889) 64))) false) v) (zget d t b))) (cond (Nat.ble 274877906944 w) false (cond isR (Nat.rec (motive := fun _ => Bool) (K 0) (fun p _ => ztab ρ p (fun b => zF K (Nat.succ b))) w) (K w)))
def zWB {d : Nat} (φ ρ : List Nat) (t : zT d) (isR : Bool) (w w' : Nat) : Prop :=
  (549755813889 ≤ w ∧ ∃ b kd len x : Nat, φ[(w - 549755813889) / 64]? = some b ∧ zget d t b = (kd, len, x) ∧ zlr kd len ((w - 549755813889) % 64) isR = true ∧ w' = zwd 40 x ((w - 549755813889) % 64)) ∨
  (w < 274877906944 ∧ isR = true ∧ ((w = 0 ∧ w' = 0) ∨ ∃ p b : Nat, w = p + 1 ∧ ρ[p]? = some b ∧ w' = b + 1)) ∨
  (w < 274877906944 ∧ isR = false ∧ w' = w)
theorem zwb_t {d : Nat} {φ ρ : List Nat} {t : zT d} {isR : Bool} {w : Nat} {K : Nat → Bool} (h : zwb φ ρ t isR w K = true) : ∃ w', K w' = true ∧ zWB φ ρ t isR w w' := by
  unfold zwb at h
  cases h1 : Nat.ble 549755813889 w
  · rw [h1, cond_false] at h
    have q1 := zble_f h1
    cases h2 : Nat.ble 274877906944 w
    · rw [h2, cond_false] at h
      have q2 := zble_f h2
      cases isR
      · exact ⟨w, h, Or.inr (Or.inr ⟨by omega, rfl, rfl⟩)⟩
      · rw [cond_true] at h
        cases w with
        | zero => exact ⟨0, h, Or.inr (Or.inl ⟨by omega, rfl, Or.inl ⟨rfl, rfl⟩⟩)⟩
        | succ p =>
          have h : ztab ρ p (fun b => zF K (Nat.succ b)) = true := h
          obtain ⟨b, hb, hb2⟩ := ztab_t ρ p h
          rw [zF_eq] at hb2
          exact ⟨b + 1, hb2, Or.inr (Or.inl ⟨by omega, rfl, Or.inr ⟨p, b, rfl, hb, rfl⟩⟩)⟩
    · rw [h2] at h; cases h
  · rw [h1, cond_true] at h
    obtain ⟨b, hb, hb2⟩ := ztab_t φ _ h
    generalize hc : zget d t b = c at hb2
    obtain ⟨kd, len, x⟩ := c
    have hb2 : cond (zlr kd len (Nat.mod (Nat.sub w 549755813889) 64) isR) (zF K (zwd 40 x (Nat.mod (Nat.sub w 549755813889) 64))) false = true := hb2
    cases h3 : zlr kd len (Nat.mod (Nat.sub w 549755813889) 64) isR
    · rw [h3] at hb2; cases hb2
    rw [h3, cond_true, zF_eq] at hb2
    exact ⟨_, hb2, Or.inl ⟨Nat.le_of_ble_eq_true h1, b, kd, len, x, hb, hc, h3, rfl⟩⟩
theorem zWB_lt {d : Nat} {φ ρ : List Nat} {t : zT d} {isR : Bool} {w w' : Nat} (hρ : ∀ (p b : Nat), ρ[p]? = some b → b < 549755813887) (h : zWB φ ρ t isR w w') : w' < 2 ^ 40 := by
  rcases h with ⟨-, b, kd, len, x, -, -, -, h5⟩ | ⟨-, -, ⟨-, h5⟩ | ⟨p, b, -, hb, h5⟩⟩ | ⟨h, -, h5⟩
  · rw [h5]; exact zwd_lt _ _ _
  · rw [h5]; decide
  · rw [h5]
    have := hρ p b hb
    exact Nat.lt_of_lt_of_le (show b + 1 < 549755813888 by omega) (by decide)
  · rw [h5]; exact Nat.lt_of_lt_of_le h (by decide)
noncomputable def zrnW {d : Nat} (φ ρ : List Nat) (t : zT d) (isR : Nat → Bool) (x n : Nat) : Nat → (Nat → Bool) → Bool := Nat.rec (motive := fun _ => Nat → (Nat → Bool) → Bool) (fun acc K => K acc) (fun j r acc K => zwb φ ρ t (isR j) (zwd 40 x j) (fun w => zF (fun acc => r acc K) (zup 40 acc j w))) n
theorem zrnW_t {d : Nat} {φ ρ : List Nat} {t : zT d} {isR : Nat → Bool} {x : Nat} (hρ : ∀ (p b : Nat), ρ[p]? = some b → b < 549755813887) : ∀ (n acc : Nat) {K : Nat → Bool}, zrnW φ ρ t isR x n acc K = true → ∃ y, K y = true ∧ (∀ j, j < n → zWB φ ρ t (isR j) (zwd 40 x j) (zwd 40 y j)) ∧ ∀ j, n ≤ j → zwd 40 y j = zwd 40 acc j
  | 0, acc, K, h => ⟨acc, h, fun j hj => absurd hj (Nat.not_lt_zero j), fun _ _ => rfl⟩
  | n + 1, acc, K, h => by
    have h : zwb φ ρ t (isR n) (zwd 40 x n) (fun w => zF (fun acc => zrnW φ ρ t isR x n acc K) (zup 40 acc n w)) = true := h
    obtain ⟨w, hw, hb⟩ := zwb_t h
    rw [zF_eq] at hw
    obtain ⟨y, h1, h2, h3⟩ := zrnW_t hρ n _ hw
    have hlt := zWB_lt hρ hb
    refine ⟨y, h1, fun j hj => ?_, fun j hj => ?_⟩
    · rcases Nat.lt_succ_iff_lt_or_eq.mp hj with q | rfl
      · exact h2 j q
      · rw [h3 j (Nat.le_refl j), zwd_up_same _ _ _ _ hlt]
        exact hb
    · rw [h3 j (by omega), zwd_up_ne _ _ _ _ _ hlt (by omega)]
noncomputable def zr12 (ρ : List Nat) (x : Nat) (K : Nat → Bool) : Bool := ztab ρ (Nat.mod x 1048576) (fun b => cond (Nat.ble b 1000000) (cond (zall (Nat.sub (Nat.div x 1048576) (Nat.mod x 1048576)) (fun i => ztab ρ (Nat.add (Nat.mod x 1048576) i) (fun c => Nat.beq c (Nat.add b i)))) (zF K (Nat.add b (Nat.mul 1048576 (Nat.add b (Nat.sub (Nat.div x 1048576) (Nat.mod x 1048576)))))) false) false)
theorem zr12_t {ρ : List Nat} {x : Nat} {K : Nat → Bool} (h : zr12 ρ x K = true) : ∃ b, b ≤ 1000000 ∧ K (b + 1048576 * (b + (x / 1048576 - x % 1048576))) = true ∧ ∀ i, i < x / 1048576 - x % 1048576 → ρ[x % 1048576 + i]? = some (b + i) := by
  obtain ⟨b, -, h⟩ := ztab_t ρ _ h
  obtain ⟨h1, h⟩ := zcnd_t h
  obtain ⟨h2, h⟩ := zcnd_t h
  rw [zF_eq] at h
  refine ⟨b, Nat.le_of_ble_eq_true h1, h, fun i hi => ?_⟩
  obtain ⟨c, hc, hc2⟩ := ztab_t ρ _ (zall_t h2 i hi)
  have e : c = b + i := Nat.eq_of_beq_eq_true hc2
  rw [e] at hc
  exact hc
noncomputable def zren {d : Nat} (φ ρ : List Nat) (t : zT d) (c : zC) (K : zC → Bool) : Bool := Prod.rec (motive := fun _ => Bool) (fun kd v => Prod.rec (motive := fun _ => Bool) (fun len x => cond (Nat.ble kd 2) (K (kd, len, x)) (cond (Nat.ble kd 7) (zrnW φ ρ t (fun _ => true) x len 0 (fun y => K (kd, len, y))) (cond (Nat.ble 16 kd) (zrnW φ ρ t (fun j => zisR (zfty (Nat.sub kd 16) j)) x (zN (Nat.sub kd 16)) 0 (fun y => K (kd, len, y))) (cond (Nat.beq kd 12) (zr12 ρ x (fun y => K (kd, len, y))) false)))) v) c
def zRN {d : Nat} (φ ρ : List Nat) (t : zT d) (c c' : zC) : Prop := ∃ kd len x y : Nat, c = (kd, len, x) ∧ c' = (kd, len, y) ∧ ((kd ≤ 2 ∧ y = x) ∨ (3 ≤ kd ∧ kd ≤ 7 ∧ ∀ j, j < len → zWB φ ρ t true (zwd 40 x j) (zwd 40 y j)) ∨ (16 ≤ kd ∧ ∀ j, j < zN (kd - 16) → zWB φ ρ t (zisR (zfty (kd - 16) j)) (zwd 40 x j) (zwd 40 y j)) ∨ (kd = 12 ∧ ∃ b, b ≤ 1000000 ∧ y = b + 1048576 * (b + (x / 1048576 - x % 1048576)) ∧ ∀ i, i < x / 1048576 - x % 1048576 → ρ[x % 1048576 + i]? = some (b + i)))
theorem zren_t {d : Nat} {φ ρ : List Nat} {t : zT d} {c : zC} {K : zC → Bool} (hρ : ∀ (p b : Nat), ρ[p]? = some b → b < 549755813887) (h : zren φ ρ t c K = true) : ∃ c', K c' = true ∧ zRN φ ρ t c c' := by
  obtain ⟨kd, len, x⟩ := c
  replace h : cond (Nat.ble kd 2) (K (kd, len, x)) (cond (Nat.ble kd 7) (zrnW φ ρ t (fun _ => true) x len 0 (fun y => K (kd, len, y))) (cond (Nat.ble 16 kd) (zrnW φ ρ t (fun j => zisR (zfty (Nat.sub kd 16) j)) x (zN (Nat.sub kd 16)) 0 (fun y => K (kd, len, y))) (cond (Nat.beq kd 12) (zr12 ρ x (fun y => K (kd, len, y))) false))) = true := h
  cases h1 : Nat.ble kd 2
  · rw [h1, cond_false] at h
    have q1 := zble_f h1
    cases h2 : Nat.ble kd 7
    · rw [h2, cond_false] at h
      cases h3 : Nat.ble 16 kd
      · rw [h3, cond_false] at h
        obtain ⟨h4, h⟩ := zcnd_t h
        obtain ⟨b, g1, g2, g3⟩ := zr12_t h
        exact ⟨_, g2, kd, len, x, _, rfl, rfl, Or.inr (Or.inr (Or.inr ⟨Nat.eq_of_beq_eq_true h4, b, g1, rfl, g3⟩))⟩
      rw [h3, cond_true] at h
      obtain ⟨y, g1, g2, -⟩ := zrnW_t hρ _ _ h
      exact ⟨_, g1, kd, len, x, y, rfl, rfl, Or.inr (Or.inr (Or.inl ⟨Nat.le_of_ble_eq_true h3, g2⟩))⟩
    · rw [h2, cond_true] at h
      obtain ⟨y, g1, g2, -⟩ := zrnW_t hρ _ _ h
      exact ⟨_, g1, kd, len, x, y, rfl, rfl, Or.inr (Or.inl ⟨by omega, Nat.le_of_ble_eq_true h2, g2⟩)⟩
  · rw [h1, cond_true] at h
    exact ⟨_, h, kd, len, x, x, rfl, rfl, Or.inl ⟨Nat.le_of_ble_eq_true h1, rfl⟩⟩
section BACK
variable {d : Nat} {cA cB : Nat → ClassId} {ws ws' wss' : va_W} {φ ρ : List Nat} {T : zT d}
/-- what a word that isn't looked at stands for, over the large world -/
def zOp [zCh] (cA cB : Nat → ClassId) (ws : va_W) (φ : List Nat) (T : zT d) : Prop := ∀ (t b kd len x j : Nat), φ[t]? = some b → zget d T b = (kd, len, x) → j < 64 → (zlr kd len j true = true → zRw (zad cA ws) (zwd 40 x j) (zop cB (zoc t j))) ∧ (zlr kd len j false = true → ∀ i : Int32, zi i = cB (zoc t j) → zRepC (zad cA ws) (zI (zwd 40 x j)) (.int i))
theorem zoc_of {w : Nat} (h : 549755813889 ≤ w) : zoc ((w - 549755813889) / 64) ((w - 549755813889) % 64) = w := by
  rw [zoc_n]
  omega
theorem zWB_R [zCh] {w w' : Nat} {o : Option Nat} (hop : zOp cA cB ws φ T) (hpre : zPre (zad cA ws) (zad cA ws')) (hρ : ∀ (p b : Nat), ρ[p]? = some b → b < 549755813887) (hρa : ∀ (p b a : Nat), ρ[p]? = some b → (zad cB wss').1[p]? = some a → (zad cA ws').1[b]? = some a) (hw : zWB φ ρ T true w w') (hr : zRw (zad cB wss') w o) : zRw (zad cA ws') w' o := by
  rcases hw with ⟨h1, b, kd, len, x, h2, h3, h4, h5⟩ | ⟨h1, -, ⟨rfl, h5⟩ | ⟨p, b, rfl, h2, h5⟩⟩ | ⟨-, h, -⟩
  · rw [h5]
    have key := (hop _ b kd len x _ h2 h3 (Nat.mod_lt _ (by decide))).1 h4
    rw [zoc_of h1] at key
    rcases hr with ⟨z, -⟩ | ⟨-, z⟩
    · omega
    · rw [z]
      exact zRw_mono hpre key
  · rw [h5]
    rcases hr with ⟨-, ⟨-, z⟩ | ⟨k, a, z, -⟩⟩ | ⟨z, -⟩
    · exact Or.inl ⟨by decide, Or.inl ⟨rfl, z⟩⟩
    · cases z
    · exact absurd z (by decide)
  · rw [h5]
    have hb := hρ p b h2
    rcases hr with ⟨-, ⟨z, -⟩ | ⟨k, a, z1, z2, z3⟩⟩ | ⟨z, -⟩
    · cases z
    · have ek : p = k := by omega
      subst ek
      exact Or.inl ⟨by omega, Or.inr ⟨b, a, rfl, hρa p b a h2 z2, z3⟩⟩
    · omega
  · cases h
theorem zWB_I {C1 C2 : zCh} {w w' : Nat} {v : Value} (hop : @zOp d C2 cA cB ws φ T) (hpre : zPre (zad cA ws) (zad cA ws')) (hw : zWB φ ρ T false w w') (hr : @zRepC C1 (zad cB wss') (zI w) v) : @zRepC C2 (zad cA ws') (zI w') v := by
  obtain ⟨i, rfl, r1, r2⟩ := hr
  rcases hw with ⟨h1, b, kd, len, x, h2, h3, h4, h5⟩ | ⟨-, h, -⟩ | ⟨h1, -, h5⟩
  · rw [h5]
    have key := (hop _ b kd len x _ h2 h3 (Nat.mod_lt _ (by decide))).2 h4 i (by rw [zoc_of h1]; exact r2.1 (by omega))
    exact @zRepC_mono C2 _ _ hpre _ _ key
  · cases h
  · rw [h5]
    exact ⟨i, rfl, ⟨r1.1, fun z => absurd z (by omega)⟩, fun z => absurd z (by omega), fun z => absurd z (by omega)⟩
theorem zRN_ok {C1 C2 : zCh} {c c' : zC} {e : va_E} (hB : ∀ i, i < 8 → cB i = cA i) (hop : @zOp d C2 cA cB ws φ T) (hpre : zPre (zad cA ws) (zad cA ws')) (hρ : ∀ (p b : Nat), ρ[p]? = some b → b < 549755813887) (hρa : ∀ (p b a : Nat), ρ[p]? = some b → (zad cB wss').1[p]? = some a → (zad cA ws').1[b]? = some a) (hc : @zCell C1 cB (zad cB wss') c e) (hn : zRN φ ρ T c c') : @zCell C2 cA (zad cA ws') c' e := by
  obtain ⟨kd, len, x, y, rfl, rfl, ⟨h1, rfl⟩ | ⟨h1, h2, h3⟩ | ⟨h1, h2⟩ | ⟨h1, b, h2, h3, h4⟩⟩ := hn
  · exact zCell_lo h1 hc (fun i hi => (hB i (by omega)).symm)
  · obtain ⟨hl, f, rfl, hf⟩ := @zCell_r C1 cB _ kd len x e hc h1 (by omega)
    rw [hB kd (by omega)]
    exact @zCell_rk C2 cA _ kd len y f h1 (by omega) hl (fun j hj => @zWB_R d cA cB ws ws' wss' φ ρ T C2 _ _ _ hop hpre hρ hρa (h3 j hj) (hf j hj))
  · obtain ⟨fs, rfl, hl, hf⟩ := @zCell_obj C1 cB _ kd len x (kd - 16) e hc (by omega)
    have hek : kd = 16 + (kd - 16) := by omega
    have key : @zCell C2 cA (zad cA ws') (16 + (kd - 16), len, y) (.inr (kd - 16, fs)) := @zCell_ok C2 cA _ (kd - 16) len y fs hl (fun j v hv => by
      have hj : j < zN (kd - 16) := by rw [← hl]; exact (List.getElem?_eq_some_iff.mp hv).1
      have hwj := h2 j hj
      have hfj := hf j v hv
      unfold zFl at hfj ⊢
      cases hz : zisR (zfty (kd - 16) j)
      · rw [hz] at hwj
        rw [hz, cond_false] at hfj
        rw [cond_false]
        exact zWB_I hop hpre hwj hfj
      · rw [hz] at hwj
        rw [hz, cond_true] at hfj
        rw [cond_true]
        obtain ⟨o, rfl, ho⟩ := hfj
        exact ⟨o, rfl, @zWB_R d cA cB ws ws' wss' φ ρ T C2 _ _ _ hop hpre hρ hρa hwj ho⟩)
    rw [← hek] at key
    exact key
  · subst h1
    obtain ⟨hl, f, rfl, hf⟩ : len < 2147483648 ∧ ∃ f : Nat → Option Nat, e = .inl (cB 3, len, .inr (.inr (.inr (.inr f)))) ∧ zRs (zad cB wss') len x f := by
      rcases hc with ⟨g, -⟩ | ⟨g, -⟩ | ⟨-, -, g3, ⟨g4, -⟩ | ⟨-, f, g5, g6⟩⟩ | ⟨-, g, -⟩ | ⟨g, -⟩
      · exact absurd (show 12 < 2 from g) (by decide)
      · exact absurd (show 12 = 2 from g) (by decide)
      · exact absurd (show 12 < 12 from g4) (by decide)
      · exact ⟨g3, f, g5, g6⟩
      · exact absurd (show 12 < 8 from g) (by decide)
      · exact absurd (show 16 ≤ 12 from g) (by decide)
    have m1 : y % 1048576 = b := by omega
    have m2 : y / 1048576 = b + (x / 1048576 - x % 1048576) := by omega
    refine Or.inr (Or.inr (Or.inl ⟨(by decide : 8 ≤ 12), (by decide : 12 < 16), hl, Or.inr ⟨rfl, f, by rw [hB 3 (by decide)], fun j hj => ?_⟩⟩))
    obtain ⟨k, a', z1, z2, z3, z4⟩ := hf j hj
    have hk := h4 (k - x % 1048576) (by omega)
    rw [show x % 1048576 + (k - x % 1048576) = k by omega] at hk
    exact ⟨b + (k - x % 1048576), a', by show y % 1048576 ≤ _; rw [m1]; omega, by show _ < y / 1048576; rw [m2]; omega, hρa k _ a' hk z3, z4⟩
end BACK
end
section
/-! the summary of a method, and the contract that it gives -/
noncomputable def zsts {d ds : Nat} (φ ρ : List Nat) (T0 : zT d) (hs : zT ds) (l : List Nat) : Nat → zT d → (zT d → Bool) → Bool := List.rec (motive := fun _ => Nat → zT d → (zT d → Bool) → Bool) (fun _ T K => K T) (fun b _ r t T K => zren φ ρ T0 (zget ds hs t) (fun c => zsetK d T b c (fun T => r (Nat.succ t) T K))) l
theorem zsts_t {d ds : Nat} {φ ρ : List Nat} {T0 : zT d} {hs : zT ds} (hρ : ∀ (p b : Nat), ρ[p]? = some b → b < 549755813887) : ∀ (l : List Nat) (t : Nat) (T : zT d) {K : zT d → Bool}, (∀ i ∈ l, i < 2 ^ d) → zsts φ ρ T0 hs l t T K = true → ∃ T' : zT d, K T' = true ∧ (∀ i, i < 2 ^ d → i ∉ l → zget d T' i = zget d T i) ∧ ((∀ (u v i : Nat), l[u]? = some i → l[v]? = some i → u = v) → ∀ (u i : Nat), l[u]? = some i → zRN φ ρ T0 (zget ds hs (t + u)) (zget d T' i))
  | [], t, T, K, _, h => ⟨T, h, fun _ _ _ => rfl, fun _ u i hu => by simp at hu⟩
  | b :: l, t, T, K, hl, h => by
    have h : zren φ ρ T0 (zget ds hs t) (fun c => zsetK d T b c (fun T => zsts φ ρ T0 hs l (Nat.succ t) T K)) = true := h
    obtain ⟨c, hc, hn⟩ := zren_t hρ h
    rw [zsetK_eq] at hc
    obtain ⟨T', h1, h2, h3⟩ := zsts_t hρ l (t + 1) (zset d T b c) (fun i hi => hl i (List.mem_cons_of_mem _ hi)) hc
    have hb : b < 2 ^ d := hl b List.mem_cons_self
    refine ⟨T', h1, fun i hi hni => ?_, fun hinj u i hu => ?_⟩
    · rw [h2 i hi (fun q => hni (List.mem_cons_of_mem _ q)), zget_set_ne d _ _ _ _ hb hi (fun q => hni (by rw [q]; exact List.mem_cons_self))]
    · cases u with
      | zero =>
        have e : b = i := by simpa using hu
        subst e
        have hni : b ∉ l := fun q => by
          obtain ⟨v, hv⟩ := List.getElem?_of_mem q
          have := hinj 0 (v + 1) b rfl (by simpa using hv)
          omega
        rw [h2 b hb hni, zget_set_same d _ _ _ hb]
        exact hn
      | succ u =>
        have key := h3 (fun u v i hu hv => by have := hinj (u + 1) (v + 1) i (by simpa using hu) (by simpa using hv); omega) u i (by simpa using hu)
        rw [show t + (u + 1) = t + 1 + u by omega]
        exact key
/-- lists of numbers -/
noncomputable def zapL (φ l : List Nat) : (List Nat → Bool) → Bool := List.rec (motive := fun _ => (List Nat → Bool) → Bool) (fun K => K l) (fun b _ r K => r (fun t => K (b :: t))) φ
theorem zapL_t : ∀ (φ l : List Nat) {K : List Nat → Bool}, zapL φ l K = true → K (φ ++ l) = true
  | [], l, K, h => h
  | b :: φ, l, K, h => zapL_t φ l (K := fun t => K (b :: t)) h
noncomputable def zsqK (k : Nat) : Nat → (List Nat → Bool) → Bool := Nat.rec (motive := fun _ => Nat → (List Nat → Bool) → Bool) (fun _ K => K []) (fun _ r N K => zF (fun N1 => r N1 (fun l => K (N :: l))) (Nat.succ N)) k
theorem zsqK_t : ∀ (k N : Nat) {K : List Nat → Bool}, zsqK k N K = true → K (List.range' N k) = true
  | 0, N, K, h => h
  | k + 1, N, K, h => by
    have h : zF (fun N1 => zsqK k N1 (fun l => K (N :: l))) (Nat.succ N) = true := h
    rw [zF_eq] at h
    exact zsqK_t k (N + 1) (K := fun l => K (N :: l)) h
noncomputable def zlen (φ : List Nat) : Nat := List.rec (motive := fun _ => Nat) 0 (fun _ _ r => Nat.succ r) φ
theorem zlen_eq : ∀ φ : List Nat, zlen φ = φ.length
  | [] => rfl
  | _ :: φ => congrArg Nat.succ (zlen_eq φ)
noncomputable def zmmbS (b : Nat) (l : List Nat) : Bool := List.rec (motive := fun _ => Bool) false (fun c _ r => cond (Nat.beq b c) true r) l
theorem zmmbS_f {b : Nat} : ∀ {l : List Nat}, zmmbS b l = false → b ∉ l
  | [], _ => by simp
  | c :: l, h => by
    have h : cond (Nat.beq b c) true (zmmbS b l) = false := h
    cases hb : Nat.beq b c
    · rw [hb, cond_false] at h
      intro q
      rcases List.mem_cons.mp q with e | e
      · rw [e, Nat.beq_refl] at hb; cases hb
      · exact zmmbS_f h e
    · rw [hb] at h; cases h
/-- the numbers of a list as a mask -/
noncomputable def zmkl (l : List Nat) : Nat := List.rec (motive := fun _ => Nat) 0 (fun c _ r => cond (Nat.ble c 65535) (Nat.lor (Nat.pow 2 c) r) r) l
noncomputable def zmmb (b : Nat) (l : List Nat) : Bool := cond (Nat.ble b 65535) (Nat.beq (Nat.mod (Nat.shiftRight (zmkl l) b) 2) 1) (zmmbS b l)
theorem zmkl_bit {b : Nat} (hb : b ≤ 65535) : ∀ l : List Nat, (zmkl l).testBit b = zmmbS b l
  | [] => Nat.zero_testBit b
  | c :: l => by
    have e2 : zmmbS b (c :: l) = cond (Nat.beq b c) true (zmmbS b l) := rfl
    have ih := zmkl_bit hb l
    rw [e2]
    show (cond (Nat.ble c 65535) (Nat.lor (Nat.pow 2 c) (zmkl l)) (zmkl l)).testBit b = _
    cases h1 : Nat.ble c 65535
    · rw [cond_false, ih]
      cases h2 : Nat.beq b c
      · rfl
      · have := Nat.eq_of_beq_eq_true h2
        subst this
        rw [Nat.ble_eq_true_of_le hb] at h1
        cases h1
    · rw [cond_true]
      show (2 ^ c ||| zmkl l).testBit b = _
      rw [Nat.testBit_or, Nat.testBit_two_pow, ih]
      cases h2 : Nat.beq b c
      · have hne : c ≠ b := fun q => by rw [q, Nat.beq_refl] at h2; cases h2
        rw [cond_false, decide_eq_false hne, Bool.false_or]
      · rw [decide_eq_true (Nat.eq_of_beq_eq_true h2).symm, Bool.true_or, cond_true]
theorem zmmb_eq (b : Nat) (l : List Nat) : zmmb b l = zmmbS b l := by
  show cond (Nat.ble b 65535) (Nat.beq (Nat.mod (Nat.shiftRight (zmkl l) b) 2) 1) (zmmbS b l) = zmmbS b l
  cases h1 : Nat.ble b 65535
  · rfl
  · rw [cond_true, ← zmkl_bit (Nat.le_of_ble_eq_true h1) l, Nat.testBit_eq_decide_div_mod_eq, ← Nat.shiftRight_eq_div_pow]
    cases h2 : Nat.beq (Nat.mod (Nat.shiftRight (zmkl l) b) 2) 1
    · exact (decide_eq_false (fun q => by rw [show Nat.mod (Nat.shiftRight (zmkl l) b) 2 = 1 from q] at h2; cases h2)).symm
    · exact (decide_eq_true (Nat.eq_of_beq_eq_true h2)).symm
theorem zmmb_f {b : Nat} {l : List Nat} (h : zmmb b l = false) : b ∉ l := zmmbS_f (by rw [← zmmb_eq]; exact h)
noncomputable def znd (N : Nat) (φ : List Nat) : Bool := List.rec (motive := fun _ => Bool) true (fun b l r => cond (Nat.ble (Nat.succ b) N) (cond (zmmb b l) false r) false) φ
theorem znd_t {N : Nat} : ∀ {φ : List Nat}, znd N φ = true → (∀ (p b : Nat), φ[p]? = some b → b < N) ∧ ∀ (p p' b : Nat), φ[p]? = some b → φ[p']? = some b → p = p'
  | [], _ => ⟨fun p b h => by simp at h, fun p p' b h => by simp at h⟩
  | c :: φ, h => by
    have h : cond (Nat.ble (Nat.succ c) N) (cond (zmmb c φ) false (znd N φ)) false = true := h
    cases h1 : Nat.ble (Nat.succ c) N
    · rw [h1] at h; cases h
    cases h2 : zmmb c φ
    · rw [h1, h2, cond_true, cond_false] at h
      obtain ⟨g1, g2⟩ := znd_t h
      have hn := zmmb_f h2
      refine ⟨fun p b hp => ?_, fun p p' b hp hp' => ?_⟩
      · cases p with
        | zero =>
          have e : c = b := by simpa using hp
          rw [← e]
          exact Nat.le_of_ble_eq_true h1
        | succ p => exact g1 p b (by simpa using hp)
      · cases p with
        | zero =>
          have e : c = b := by simpa using hp
          subst e
          cases p' with
          | zero => rfl
          | succ p' => exact absurd (List.mem_of_getElem? (show φ[p']? = some c by simpa using hp')) hn
        | succ p =>
          cases p' with
          | zero =>
            have e : c = b := by simpa using hp'
            subst e
            exact absurd (List.mem_of_getElem? (show φ[p]? = some c by simpa using hp)) hn
          | succ p' => exact congrArg Nat.succ (g2 p p' b (by simpa using hp) (by simpa using hp'))
    · rw [h1, h2] at h; cases h
/-- which cells are meant: an argument, or a word of a cell that is there already -/
noncomputable def zfp {d : Nat} (fp : List (Nat × Nat)) (as : List zV) (T : zT d) : List Nat → (List Nat → Bool) → Bool := List.rec (motive := fun _ => List Nat → (List Nat → Bool) → Bool) (fun φ K => K φ) (fun s _ r φ K => Prod.rec (motive := fun _ => Bool) (fun src idx => Nat.rec (motive := fun _ => Bool) (znth idx as (fun v => Sum.rec (motive := fun _ => Bool) (fun _ => false) (fun u => Sum.rec (motive := fun _ => Bool) (fun rr => Nat.rec (motive := fun _ => Bool) false (fun i _ => zapL φ [i] (fun φ => r φ K)) rr) (fun _ => false) u) v)) (fun s' _ => ztabS φ s' (fun b => Prod.rec (motive := fun _ => Bool) (fun kd v => Prod.rec (motive := fun _ => Bool) (fun _ x => cond (Nat.beq kd 12) (zF (fun i => zapL φ [i] (fun φ => r φ K)) (Nat.add (Nat.mod x 1048576) idx)) (Nat.rec (motive := fun _ => Bool) false (fun i _ => zapL φ [i] (fun φ => r φ K)) (zwd 40 x idx))) v) (zget d T b))) src) s) fp
theorem zfp_t {d : Nat} {as : List zV} {T : zT d} : ∀ (fp : List (Nat × Nat)) (φ : List Nat) {K : List Nat → Bool}, zfp fp as T φ K = true → ∃ φ', K φ' = true
  | [], φ, K, h => ⟨φ, h⟩
  | (0, idx) :: fp, φ, K, h => by
    have h : znth idx as (fun v => Sum.rec (motive := fun _ => Bool) (fun _ => false) (fun u => Sum.rec (motive := fun _ => Bool) (fun rr => Nat.rec (motive := fun _ => Bool) false (fun i _ => zapL φ [i] (fun φ => zfp fp as T φ K)) rr) (fun _ => false) u) v) = true := h
    obtain ⟨v, hv, hk⟩ := znth_t idx h
    match v, hv, hk with
    | .inr (.inl (i + 1)), _, hk =>
      have hk : zapL φ [i] (fun φ => zfp fp as T φ K) = true := hk
      exact zfp_t fp _ (zapL_t φ [i] (K := fun φ => zfp fp as T φ K) hk)
  | (s + 1, idx) :: fp, φ, K, h => by
    have h : ztabS φ s (fun b => Prod.rec (motive := fun _ => Bool) (fun kd v => Prod.rec (motive := fun _ => Bool) (fun _ x => cond (Nat.beq kd 12) (zF (fun i => zapL φ [i] (fun φ => zfp fp as T φ K)) (Nat.add (Nat.mod x 1048576) idx)) (Nat.rec (motive := fun _ => Bool) false (fun i _ => zapL φ [i] (fun φ => zfp fp as T φ K)) (zwd 40 x idx))) v) (zget d T b)) = true := h
    obtain ⟨b, hb, hk⟩ := ztabS_t φ s h
    generalize zget d T b = c at hk
    obtain ⟨kd, len, x⟩ := c
    have hk : cond (Nat.beq kd 12) (zF (fun i => zapL φ [i] (fun φ => zfp fp as T φ K)) (Nat.add (Nat.mod x 1048576) idx)) (Nat.rec (motive := fun _ => Bool) false (fun i _ => zapL φ [i] (fun φ => zfp fp as T φ K)) (zwd 40 x idx)) = true := hk
    cases h12 : Nat.beq kd 12
    case true =>
      rw [h12, cond_true, zF_eq] at hk
      exact zfp_t fp _ (zapL_t φ _ (K := fun φ => zfp fp as T φ K) hk)
    rw [h12, cond_false] at hk
    generalize zwd 40 x idx = w at hk
    cases w with
    | zero => cases hk
    | succ i =>
      have hk : zapL φ [i] (fun φ => zfp fp as T φ K) = true := hk
      exact zfp_t fp _ (zapL_t φ [i] (K := fun φ => zfp fp as T φ K) hk)
/-- the arguments -/
noncomputable def zav (φ : List Nat) (v v0 : zV) : Bool := Sum.rec (motive := fun _ => Bool) (fun m => Sum.rec (motive := fun _ => Bool) (fun n => zsubI n m) (fun _ => false) v) (fun u0 => Sum.rec (motive := fun _ => Bool) (fun r0 => Sum.rec (motive := fun _ => Bool) (fun _ => false) (fun u => Sum.rec (motive := fun _ => Bool) (fun r => Nat.rec (motive := fun _ => Bool) (Nat.beq r 0) (fun p _ => ztab φ p (fun b => Nat.beq r (Nat.succ b))) r0) (fun _ => false) u) v) (fun w0 => Sum.rec (motive := fun _ => Bool) (fun m => Sum.rec (motive := fun _ => Bool) (fun _ => false) (fun u => Sum.rec (motive := fun _ => Bool) (fun _ => false) (fun w => Sum.rec (motive := fun _ => Bool) (fun n => zsubJ n m) (fun _ => false) w) u) v) (fun _ => false) w0) u0) v0
noncomputable def zma (φ : List Nat) : List zV → List zV → Bool := List.rec (motive := fun _ => List zV → Bool) (fun B => List.rec (motive := fun _ => Bool) true (fun _ _ _ => false) B) (fun v _ r B => List.rec (motive := fun _ => Bool) false (fun w t _ => cond (zav φ v w) (r t) false) B)
section WORLD
variable {cA : Nat → ClassId} {ws wss : va_W} {φ : List Nat}
theorem zav_ok [zGh] {v v0 : zV} {x : Value} (hφ : ∀ (p b : Nat), φ[p]? = some b → b < 549755813887 ∧ p < 549755813887 ∧ ∃ q, ws[b]? = some q ∧ wss[p]? = some q) (h : zav φ v v0 = true) (hv : zRep (zad cA ws) v x) : zRep (zad (zcg cA wss) wss) v0 x := by
  match v0, h with
  | .inl m, h =>
    match v, h, hv with
    | .inl n, h, ⟨i, h1, h2⟩ => exact ⟨i, h1, zsubI_ok h h2⟩
  | .inr (.inl r0), h =>
    match v, h, hv with
    | .inr (.inl r), h, ⟨o, h1, h2⟩ =>
      refine ⟨o, h1, ?_⟩
      cases r0 with
      | zero =>
        have e : r = 0 := Nat.eq_of_beq_eq_true h
        rcases h2 with ⟨-, z⟩ | ⟨k, a, z, -⟩
        · exact Or.inl ⟨rfl, z⟩
        · omega
      | succ p =>
        have h : ztab φ p (fun b => Nat.beq r (Nat.succ b)) = true := h
        obtain ⟨b, hb, hb2⟩ := ztab_t φ p h
        have e : r = b + 1 := Nat.eq_of_beq_eq_true hb2
        obtain ⟨b1, b2, q', g1, g2⟩ := hφ p b hb
        rcases h2 with ⟨z, -⟩ | ⟨k, a, z1, z2, z3⟩
        · omega
        · have ek : b = k := by omega
          subst ek
          refine Or.inr ⟨p, a, rfl, ?_, z3⟩
          have z2 : (ws.map (fun q => q.1))[b]? = some a := z2
          show (wss.map (fun q => q.1))[p]? = some a
          rw [List.getElem?_map, g1] at z2
          rw [List.getElem?_map, g2]
          exact z2
  | .inr (.inr (.inl m)), h =>
    match v, h, hv with
    | .inr (.inr (.inl n)), h, ⟨i, h1, h2⟩ => exact ⟨i, h1, zsubJ_ok h h2⟩
theorem zma_ok [zGh] (hφ : ∀ (p b : Nat), φ[p]? = some b → b < 549755813887 ∧ p < 549755813887 ∧ ∃ q, ws[b]? = some q ∧ wss[p]? = some q) : ∀ {as as0 : List zV} {av : List Value}, zma φ as as0 = true → zRepL (zad cA ws) as av → zRepL (zad (zcg cA wss) wss) as0 av
  | [], [], [], _, _ => trivial
  | [], [], _ :: _, _, h => by cases h
  | [], _ :: _, av, h, _ => by cases h
  | _ :: _, [], av, h, _ => by cases h
  | v :: as, w :: as0, [], h, hr => by cases hr
  | v :: as, w :: as0, x :: av, h, hr => by
    have h : cond (zav φ v w) (zma φ as as0) false = true := h
    cases hb : zav φ v w
    · rw [hb] at h; cases h
    · rw [hb, cond_true] at h
      exact ⟨zav_ok hφ hb hr.1, zma_ok hφ h hr.2⟩
end WORLD
noncomputable def zmtL {d ds : Nat} (φ : List Nat) (T : zT d) (hs : zT ds) (l : List Nat) : Nat → Bool := List.rec (motive := fun _ => Nat → Bool) (fun _ => true) (fun b _ r t => cond (zmt φ t (zget d T b) (zget ds hs t)) (r (Nat.succ t)) false) l
theorem zmtL_t {d ds : Nat} {φ : List Nat} {T : zT d} {hs : zT ds} : ∀ (l : List Nat) (t : Nat), zmtL φ T hs l t = true → ∀ (u b : Nat), l[u]? = some b → zmt φ (t + u) (zget d T b) (zget ds hs (t + u)) = true
  | [], t, _, u, b, hu => by simp at hu
  | c :: l, t, h, u, b, hu => by
    have h : cond (zmt φ t (zget d T c) (zget ds hs t)) (zmtL φ T hs l (Nat.succ t)) false = true := h
    cases h1 : zmt φ t (zget d T c) (zget ds hs t)
    · rw [h1] at h; cases h
    rw [h1, cond_true] at h
    cases u with
    | zero =>
      have e : c = b := by simpa using hu
      subst e
      exact h1
    | succ u =>
      have key := zmtL_t l (t + 1) h u b (by simpa using hu)
      rw [show t + (u + 1) = t + 1 + u by omega]
      exact key
/-- the answer -/
noncomputable def zrv {d : Nat} (φ ρ : List Nat) (T : zT d) (r1 : zV) (K : zV → Bool) : Bool := Sum.rec (motive := fun _ => Bool) (fun n => cond (Nat.ble 1099511627776 n) false (K (zI n))) (fun u => Sum.rec (motive := fun _ => Bool) (fun w => cond (Nat.ble 549755813888 w) false (zwb φ ρ T true w (fun w' => cond (Nat.ble 549755813888 w') false (K (zR w'))))) (fun v => Sum.rec (motive := fun _ => Bool) (fun n => K (zL n)) (fun n => cond (Nat.beq n 0) (K zU) false) v) u) r1
theorem zrv_t {d : Nat} {φ ρ : List Nat} {T : zT d} {r1 : zV} {K : zV → Bool} (h : zrv φ ρ T r1 K = true) : ∃ r', K r' = true ∧ ((∃ n, n < 1099511627776 ∧ r1 = zI n ∧ r' = zI n) ∨ (∃ w w', w < 549755813888 ∧ w' < 549755813888 ∧ r1 = zR w ∧ r' = zR w' ∧ zWB φ ρ T true w w') ∨ (∃ n, r1 = zL n ∧ r' = zL n) ∨ (r1 = zU ∧ r' = zU)) := by
  match r1, h with
  | .inl n, h =>
    have h : cond (Nat.ble 1099511627776 n) false (K (zI n)) = true := h
    cases h1 : Nat.ble 1099511627776 n
    · rw [h1, cond_false] at h
      exact ⟨_, h, Or.inl ⟨n, zble_f h1, rfl, rfl⟩⟩
    · rw [h1] at h; cases h
  | .inr (.inl w), h =>
    have h : cond (Nat.ble 549755813888 w) false (zwb φ ρ T true w (fun w' => cond (Nat.ble 549755813888 w') false (K (zR w')))) = true := h
    cases h1 : Nat.ble 549755813888 w
    · rw [h1, cond_false] at h
      obtain ⟨w', hw, hb⟩ := zwb_t h
      cases h2 : Nat.ble 549755813888 w'
      · rw [h2, cond_false] at hw
        exact ⟨_, hw, Or.inr (Or.inl ⟨w, w', zble_f h1, zble_f h2, rfl, rfl, hb⟩)⟩
      · rw [h2] at hw; cases hw
    · rw [h1] at h; cases h
  | .inr (.inr (.inl n)), h => exact ⟨_, h, Or.inr (Or.inr (Or.inl ⟨n, rfl, rfl⟩))⟩
  | .inr (.inr (.inr 0)), h => exact ⟨_, h, Or.inr (Or.inr (Or.inr ⟨rfl, rfl⟩))⟩
  | .inr (.inr (.inr (n + 1))), h => cases h
noncomputable def zisU (v : zV) : Bool := Sum.rec (motive := fun _ => Bool) (fun _ => false) (fun u => Sum.rec (motive := fun _ => Bool) (fun _ => false) (fun w => Sum.rec (motive := fun _ => Bool) (fun _ => false) (fun n => Nat.beq n 0) w) u) v
theorem zisU_t : ∀ {v : zV}, zisU v = true → v = zU
  | .inr (.inr (.inr 0)), _ => rfl
theorem zisU_f : zisU zU = true := rfl
noncomputable def zrk {ds : Nat} (r1 : zV) (hs1 : zH ds) : zP ds := fun r h => cond (zisU r1) (cond (zisU r) (zsubH h hs1) false) (cond (zsubV false r r1) (zsubH h hs1) false)
theorem zrk_t {ds : Nat} {r1 r : zV} {hs1 h : zH ds} (hk : zrk r1 hs1 r h = true) : zsubH h hs1 = true ∧ ((r1 = zU ∧ r = zU) ∨ (zisU r1 = false ∧ zsubV false r r1 = true)) := by
  have hk : cond (zisU r1) (cond (zisU r) (zsubH h hs1) false) (cond (zsubV false r r1) (zsubH h hs1) false) = true := hk
  cases h1 : zisU r1
  · rw [h1, cond_false] at hk
    cases h2 : zsubV false r r1
    · rw [h2] at hk; cases hk
    · rw [h2, cond_true] at hk
      exact ⟨hk, Or.inr ⟨rfl, rfl⟩⟩
  · rw [h1, cond_true] at hk
    cases h2 : zisU r
    · rw [h2] at hk; cases hk
    · rw [h2, cond_true] at hk
      exact ⟨hk, Or.inl ⟨zisU_t h1, zisU_t h2⟩⟩
/-- a call by its summary -/
noncomputable def zsmy {d ds : Nat} (fp : List (Nat × Nat)) (as0 : List zV) (hs0 : zH ds) (r1 : zV) (hs1 : zH ds) : List zV → zH d → zP d → Bool := fun as h P => zfp fp as h.1 [] (fun φ => cond (Nat.ble hs0.2.1 (Nat.pow 2 ds)) (cond (Nat.beq (zlen φ) hs0.2.1) (cond (Nat.ble hs0.2.1 hs1.2.1) (cond (Nat.ble (Nat.add h.2.1 (Nat.sub hs1.2.1 hs0.2.1)) (Nat.pow 2 d)) (cond (Nat.ble (Nat.add h.2.1 (Nat.add hs0.2.1 (Nat.sub hs1.2.1 hs0.2.1))) 1000000) (cond (Nat.beq hs0.2.2.1 h.2.2.1) (cond (Nat.beq hs0.2.2.2 h.2.2.2) (cond (znd h.2.1 φ) (cond (zma φ as as0) (cond (zmtL φ h.1 hs0.1 φ 0) (zsqK (Nat.sub hs1.2.1 hs0.2.1) h.2.1 (fun l => zapL φ l (fun ρ => zrv φ ρ h.1 r1 (fun r' => zsts φ ρ h.1 hs1.1 ρ 0 h.1 (fun T => zF (fun N => P r' (T, (N, hs1.2.2))) (Nat.add h.2.1 (Nat.sub hs1.2.1 hs0.2.1))))))) false) false) false) false) false) false) false) false) false) false)
end
section
/-! a summary gives a contract -/
theorem zsubV_nU : ∀ {w : zV}, zsubV false zU w = true → False
  | .inr (.inr (.inr 0)), h => by cases h
  | .inr (.inr (.inr (n + 1))), h => by
    have e : 0 = n + 1 := Nat.eq_of_beq_eq_true h
    cases e
theorem zOp_of [zCh] {d : Nat} {cA : Nat → ClassId} {h : zH d} {ws wss : va_W} {φ : List Nat} (hH : zHp cA h ws) (hφ : ∀ (p b : Nat), φ[p]? = some b → b < 549755813887 ∧ p < 549755813887 ∧ ∃ q, ws[b]? = some q ∧ wss[p]? = some q) : zOp cA (zcg cA wss) ws φ h.1 := by
  intro t b kd len x j ht hget hj
  obtain ⟨-, -, q, q1, q2⟩ := hφ t b ht
  have hc := hH.2.2 b q q1
  rw [hget] at hc
  obtain ⟨a, e⟩ := q
  have hcg : zcg cA wss (zoc t j) = zgv e j := zcg_oc hj q2
  refine ⟨fun hl => ?_, fun hl i hi => ?_⟩
  · unfold zlr at hl
    cases h7 : Nat.ble kd 7
    · rw [h7, cond_false] at hl
      obtain ⟨h16, hl⟩ := zcnd_t hl
      cases hN : Nat.ble (zN (Nat.sub kd 16)) j
      · rw [hN, cond_false] at hl
        cases hz : zisR (zfty (kd - 16) j)
        · rw [show zisR (zfty (Nat.sub kd 16) j) = false from hz, cond_false] at hl; cases hl
        obtain ⟨fs, rfl, hlen, hf⟩ := zCell_obj (ci := kd - 16) hc (by have := Nat.le_of_ble_eq_true h16; omega)
        have hjl : j < fs.length := by rw [hlen]; exact zble_f hN
        have hv : fs[j]? = some fs[j] := List.getElem?_eq_getElem hjl
        have hfj := hf j _ hv
        unfold zFl at hfj
        rw [hz, cond_true] at hfj
        obtain ⟨o, ho, hr⟩ := hfj
        rw [zop_cv (g := zcg cA wss) (o := o) (zoc_20 _ _) (by rw [hcg]; show (match fs[j]? with | some v => zcv v | none => 0) = zcv (va_rf o); rw [hv, ho])]
        exact hr
      · rw [hN] at hl; cases hl
    · rw [h7, cond_true] at hl
      obtain ⟨h3, hl⟩ := zcnd_t hl
      cases hjl : Nat.ble len j
      · obtain ⟨hlen, f, rfl, hf⟩ := zCell_r hc (Nat.le_of_ble_eq_true h3) (by have := Nat.le_of_ble_eq_true h7; omega)
        rw [zop_cv (g := zcg cA wss) (o := f j) (zoc_20 _ _) (by rw [hcg]; rfl)]
        exact hf j (zble_f hjl)
      · rw [hjl] at hl; cases hl
  · unfold zlr at hl
    cases h7 : Nat.ble kd 7
    · rw [h7, cond_false] at hl
      obtain ⟨h16, hl⟩ := zcnd_t hl
      cases hN : Nat.ble (zN (Nat.sub kd 16)) j
      · rw [hN, cond_false] at hl
        cases hz : zisR (zfty (kd - 16) j)
        · obtain ⟨fs, rfl, hlen, hf⟩ := zCell_obj (ci := kd - 16) hc (by have := Nat.le_of_ble_eq_true h16; omega)
          have hjl : j < fs.length := by rw [hlen]; exact zble_f hN
          have hv : fs[j]? = some fs[j] := List.getElem?_eq_getElem hjl
          have hfj := hf j _ hv
          unfold zFl at hfj
          rw [hz, cond_false] at hfj
          obtain ⟨i0, hi0, hr⟩ := id hfj
          have ei : i = i0 := zi_inj (by
            rw [hi, hcg]
            show (match fs[j]? with | some v => zcv v | none => 0) = zi i0
            rw [hv, hi0]
            rfl)
          rw [hi0] at hfj
          rw [ei]
          exact hfj
        · rw [show zisR (zfty (Nat.sub kd 16) j) = true from hz, cond_true] at hl; cases hl
      · rw [hN] at hl; cases hl
    · rw [h7, cond_true] at hl
      obtain ⟨-, hl⟩ := zcnd_t hl
      cases hjl : Nat.ble len j
      · rw [hjl] at hl; cases hl
      · rw [hjl] at hl; cases hl
theorem zMet_sm {d ds : Nat} {X : zM} {y : MethodName} {fr : Nat} {f : List zV → zH ds → zP ds → Bool} (hM : zMet X y fr f) {fp : List (Nat × Nat)} {as0 : List zV} {hs0 : zH ds} {r1 : zV} {hs1 : zH ds} (hev : f as0 hs0 (zrk r1 hs1) = true) : zMet (d := d) X y fr (zsmy fp as0 hs0 r1 hs1) := by
  intro G Ch l cA D ws av as h P sz hg has hH hT
  obtain ⟨φ, hg⟩ := zfp_t fp [] hg
  obtain ⟨c0, hg⟩ := zcnd_t hg
  obtain ⟨c1, hg⟩ := zcnd_t hg
  obtain ⟨c2, hg⟩ := zcnd_t hg
  obtain ⟨c3, hg⟩ := zcnd_t hg
  obtain ⟨c4, hg⟩ := zcnd_t hg
  obtain ⟨c5, hg⟩ := zcnd_t hg
  obtain ⟨c6, hg⟩ := zcnd_t hg
  obtain ⟨c7, hg⟩ := zcnd_t hg
  obtain ⟨c8, hg⟩ := zcnd_t hg
  obtain ⟨c9, hg⟩ := zcnd_t hg
  have hg := zapL_t φ _ (zsqK_t _ _ hg)
  simp only [zsub_n, zadd_n] at hg
  have m0 : hs0.2.1 ≤ 2 ^ ds := Nat.le_of_ble_eq_true c0
  have m1 : φ.length = hs0.2.1 := by rw [← zlen_eq]; exact Nat.eq_of_beq_eq_true c1
  have m2 : hs0.2.1 ≤ hs1.2.1 := Nat.le_of_ble_eq_true c2
  have m3 : h.2.1 + (hs1.2.1 - hs0.2.1) ≤ 2 ^ d := Nat.le_of_ble_eq_true c3
  have m4 : h.2.1 + (hs0.2.1 + (hs1.2.1 - hs0.2.1)) ≤ 1000000 := Nat.le_of_ble_eq_true c4
  have m5 : hs0.2.2.1 = h.2.2.1 := Nat.eq_of_beq_eq_true c5
  have m6 : hs0.2.2.2 = h.2.2.2 := Nat.eq_of_beq_eq_true c6
  obtain ⟨n1, n2⟩ := znd_t c7
  have hN : ws.length = h.2.1 := hH.1
  generalize hk : hs1.2.1 - hs0.2.1 = k at *
  have hρ0 : ∀ (p i : Nat), (φ ++ List.range' h.2.1 k)[p]? = some i ↔ (p < φ.length ∧ φ[p]? = some i) ∨ (φ.length ≤ p ∧ p < φ.length + k ∧ i = h.2.1 + (p - φ.length)) := by
    intro p i
    by_cases hp : p < φ.length
    · rw [List.getElem?_append_left hp]
      exact ⟨fun z => Or.inl ⟨hp, z⟩, fun z => z.elim (fun z => z.2) (fun z => absurd z.1 (by omega))⟩
    · rw [List.getElem?_append_right (by omega)]
      constructor
      · intro z
        obtain ⟨z1, z2⟩ := List.getElem?_eq_some_iff.mp z
        rw [List.length_range'] at z1
        rw [List.getElem_range'] at z2
        exact Or.inr ⟨by omega, by omega, by omega⟩
      · rintro (z | ⟨z1, z2, z3⟩)
        · exact absurd z.1 hp
        · rw [List.getElem?_eq_getElem (by rw [List.length_range']; omega), List.getElem_range', z3]
          simp
  generalize hρe : φ ++ List.range' h.2.1 k = ρ at hg hρ0
  obtain ⟨r', hg, hr'⟩ := zrv_t hg
  have hρ : ∀ (p b : Nat), ρ[p]? = some b → b < 549755813887 := by
    intro p b hp
    rcases (hρ0 p b).mp hp with ⟨-, z⟩ | ⟨z1, z2, z3⟩
    · have := n1 p b z
      omega
    · omega
  have hρN : ∀ (p b : Nat), ρ[p]? = some b → b < h.2.1 + k := by
    intro p b hp
    rcases (hρ0 p b).mp hp with ⟨-, z⟩ | ⟨z1, z2, z3⟩
    · have := n1 p b z
      omega
    · omega
  obtain ⟨T', hg, hT1, hT2⟩ := zsts_t hρ ρ 0 h.1 (fun i hi => by
    obtain ⟨p, hp⟩ := List.getElem?_of_mem hi
    have := hρN p i hp
    omega) hg
  have hρi : ∀ (u v i : Nat), ρ[u]? = some i → ρ[v]? = some i → u = v := by
    intro u v i hu hv
    rcases (hρ0 u i).mp hu with ⟨a1, a2⟩ | ⟨a1, a2, a3⟩ <;> rcases (hρ0 v i).mp hv with ⟨b1, b2⟩ | ⟨b1, b2, b3⟩
    · exact n2 u v i a2 b2
    · have := n1 u i a2
      omega
    · have := n1 v i b2
      omega
    · omega
  have hT2 := hT2 hρi
  rw [zF_eq] at hg
  have hwl : (φ.map (fun b => (ws[b]?).getD ((0, .inr (0, [])) : Nat × va_E))).length = φ.length := List.length_map ..
  have hφ : ∀ (p b : Nat), φ[p]? = some b → b < 549755813887 ∧ p < 549755813887 ∧ ∃ q, ws[b]? = some q ∧ (φ.map (fun b => (ws[b]?).getD ((0, .inr (0, [])) : Nat × va_E)))[p]? = some q := by
    intro p b hp
    have hb := n1 p b hp
    have hpl := (List.getElem?_eq_some_iff.mp hp).1
    have e : ws[b]? = some ws[b] := List.getElem?_eq_getElem (by omega)
    refine ⟨by omega, by omega, ws[b], e, ?_⟩
    rw [List.getElem?_map, hp]
    simp [e]
  generalize φ.map (fun b => (ws[b]?).getD ((0, .inr (0, [])) : Nat × va_E)) = wss at hwl hφ
  have hφr : ∀ (p : Nat) (q : Nat × va_E), wss[p]? = some q → ∃ b, φ[p]? = some b ∧ ws[b]? = some q := by
    intro p q hp
    have hpl := (List.getElem?_eq_some_iff.mp hp).1
    have e : φ[p]? = some φ[p] := List.getElem?_eq_getElem (by omega)
    obtain ⟨-, -, q', g1, g2⟩ := hφ p _ e
    rw [hp] at g2
    cases g2
    exact ⟨_, e, g1⟩
  have hsub : ∀ q, va_A wss sz q → va_A ws sz q := by
    rintro q (⟨k', e, hk'⟩ | z)
    · obtain ⟨b, -, hb⟩ := hφr k' _ hk'
      exact Or.inl ⟨b, e, hb⟩
    · exact Or.inr z
  have hHs : zHp (zcg cA wss) hs0 wss := by
    refine ⟨by omega, m0, fun i q hi => ?_⟩
    obtain ⟨b, hb, hq⟩ := hφr i q hi
    have hm := zmtL_t φ 0 c9 i b hb
    rw [Nat.zero_add] at hm
    obtain ⟨qa, qe⟩ := q
    exact zmt_ok hφ hi (hH.2.2 b _ hq) hm
  have hm := hM l (zcg cA wss) D wss av as0 hs0 (zrk r1 hs1) sz hev (zma_ok hφ c8 has) hHs (by rw [zcg_lo (by decide)]; exact hT)
  rw [m5, m6] at hm
  refine Met_mono hm ?_ ?_ hsub
  · rintro a s ⟨rfl, e1, hP, hK, hD, hst, hex⟩
    refine ⟨rfl, e1, fun k' q hk' => ?_, by rw [zcg_ty]; exact hK, ⟨fun i j p q hi hj hpq => ?_, fun _ _ _ => trivial⟩, zStat_to hst va_S.rf hsub rfl (Vm.Alike.refl s.vm), hex⟩
    · obtain ⟨b, -, hq⟩ := hφr k' q hk'
      exact hP b q hq
    · obtain ⟨b1, g1, g2⟩ := hφr i p hi
      obtain ⟨b2, g3, g4⟩ := hφr j q hj
      have e := hD.1 b1 b2 p q g2 g4 hpq
      subst e
      exact n2 i j b1 g1 g3
  · rintro a st o t ⟨rfl, e1, hP, hK, hD, hst, hex⟩ ⟨⟨Ch', r, hh, wss', ov, rfl, hov, hk2, hHp', hpre', hP', hD'⟩, hF⟩
    obtain ⟨hsb, hrr⟩ := zrk_t hk2
    have hH1 : @zHp Ch' ds (zcg cA wss) hs1 wss' := zsubH_ok hsb hHp'
    have hl1 : wss'.length = hs1.2.1 := hH1.1
    obtain ⟨⟨tt, htt⟩, -⟩ := hpre'
    have htt : wss'.map (fun q => q.1) = wss.map (fun q => q.1) ++ tt := htt
    have hadr : ∀ (p : Nat) (q q' : Nat × va_E), wss[p]? = some q → wss'[p]? = some q' → q'.1 = q.1 := by
      intro p q q' h1 h2
      have e := congrArg (fun z => z[p]?) htt
      have e : (wss'.map (fun q => q.1))[p]? = (wss.map (fun q => q.1) ++ tt)[p]? := e
      rw [List.getElem?_append_left (by rw [List.length_map]; exact (List.getElem?_eq_some_iff.mp h1).1), List.getElem?_map, List.getElem?_map, h1, h2] at e
      exact Option.some.inj e
    have hρl : ∀ (p i : Nat), ρ[p]? = some i → ∃ q, wss'[p]? = some q := by
      intro p i hp
      have hpl : p < wss'.length := by
        rcases (hρ0 p i).mp hp with ⟨z, -⟩ | ⟨z1, z2, z3⟩ <;> omega
      exact ⟨_, List.getElem?_eq_getElem hpl⟩
    obtain ⟨ws', hwl', hin, hout⟩ : ∃ ws' : va_W, ws'.length = h.2.1 + k ∧ (∀ (p i : Nat) (q : Nat × va_E), ρ[p]? = some i → wss'[p]? = some q → ws'[i]? = some q) ∧ ∀ (i : Nat) (q : Nat × va_E), i ∉ ρ → ws[i]? = some q → ws'[i]? = some q := by
      refine ⟨(List.range (h.2.1 + k)).map (fun i => @dite _ (∃ q : Nat × va_E, ∃ p : Nat, ρ[p]? = some i ∧ wss'[p]? = some q) (Classical.propDecidable _) (fun hx => Classical.choose hx) (fun _ => (ws[i]?).getD (0, .inr (0, [])))), by rw [List.length_map, List.length_range], fun p i q hp hq => ?_, fun i q hi hq => ?_⟩
      · have hx : ∃ q : Nat × va_E, ∃ p : Nat, ρ[p]? = some i ∧ wss'[p]? = some q := ⟨q, p, hp, hq⟩
        rw [List.getElem?_map, List.getElem?_range (hρN p i hp)]
        show some (@dite _ _ (Classical.propDecidable _) _ _) = some q
        rw [dif_pos hx]
        obtain ⟨p', z1, z2⟩ := Classical.choose_spec hx
        have e := hρi p' p i z1 hp
        subst e
        rw [z2] at hq
        exact hq
      · have hx : ¬ ∃ q : Nat × va_E, ∃ p : Nat, ρ[p]? = some i ∧ wss'[p]? = some q := fun ⟨_, p, hp, _⟩ => hi (List.mem_of_getElem? hp)
        have hil := (List.getElem?_eq_some_iff.mp hq).1
        rw [List.getElem?_map, List.getElem?_range (by omega)]
        show some (@dite _ _ (Classical.propDecidable _) _ _) = some q
        rw [dif_neg hx, hq]
        rfl
    have hrev : ∀ (i : Nat) (q : Nat × va_E), ws'[i]? = some q → (∃ p : Nat, ρ[p]? = some i ∧ wss'[p]? = some q) ∨ (i ∉ ρ ∧ ws[i]? = some q) := by
      intro i q hi
      by_cases hm : i ∈ ρ
      · obtain ⟨p, hp⟩ := List.getElem?_of_mem hm
        obtain ⟨q', hq'⟩ := hρl p i hp
        have := hin p i q' hp hq'
        rw [hi] at this
        cases this
        exact Or.inl ⟨p, hp, hq'⟩
      · have hil := (List.getElem?_eq_some_iff.mp hi).1
        have hiN : i < h.2.1 := by
          rcases Nat.lt_or_ge i h.2.1 with z | z
          · exact z
          · exact absurd (List.mem_of_getElem? ((hρ0 (φ.length + (i - h.2.1)) i).mpr (Or.inr ⟨by omega, by omega, by omega⟩))) hm
        have e : ws[i]? = some ws[i] := List.getElem?_eq_getElem (by omega)
        have := hout i _ hm e
        rw [hi] at this
        cases this
        exact Or.inr ⟨hm, e⟩
    have hfst : ∀ (i : Nat) (q : Nat × va_E), ws[i]? = some q → ∃ q', ws'[i]? = some q' ∧ q'.1 = q.1 := by
      intro i q hi
      by_cases hm : i ∈ ρ
      · obtain ⟨p, hp⟩ := List.getElem?_of_mem hm
        obtain ⟨q', hq'⟩ := hρl p i hp
        have hil := (List.getElem?_eq_some_iff.mp hi).1
        rcases (hρ0 p i).mp hp with ⟨z1, z2⟩ | ⟨z1, z2, z3⟩
        · obtain ⟨-, -, q2, g1, g2⟩ := hφ p i z2
          rw [hi] at g1
          cases g1
          exact ⟨q', hin p i q' hp hq', hadr p _ _ g2 hq'⟩
        · omega
      · exact ⟨q, hout i q hm hi, rfl⟩
    have hpreB : zPre (zad cA ws) (zad cA ws') := by
      refine ⟨⟨(ws'.map (fun q => q.1)).drop ws.length, ?_⟩, rfl⟩
      show ws'.map (fun q => q.1) = ws.map (fun q => q.1) ++ (ws'.map (fun q => q.1)).drop ws.length
      have key : (ws'.map (fun q => q.1)).take ws.length = ws.map (fun q => q.1) := by
        apply List.ext_getElem?
        intro i
        rw [List.getElem?_take]
        by_cases hi : i < ws.length
        · rw [if_pos hi]
          obtain ⟨q', g1, g2⟩ := hfst i _ (List.getElem?_eq_getElem hi)
          rw [List.getElem?_map, List.getElem?_map, g1, List.getElem?_eq_getElem hi]
          show some q'.1 = some _
          rw [g2]
        · rw [if_neg hi, List.getElem?_eq_none (by rw [List.length_map]; omega)]
      rw [← key]
      exact (List.take_append_drop _ _).symm
    have hρa : ∀ (p b a : Nat), ρ[p]? = some b → (zad (zcg cA wss) wss').1[p]? = some a → (zad cA ws').1[b]? = some a := by
      intro p b a hp ha
      have ha : (wss'.map (fun q => q.1))[p]? = some a := ha
      show (ws'.map (fun q => q.1))[b]? = some a
      rw [List.getElem?_map] at ha ⊢
      obtain ⟨q, hq, hqa⟩ := Option.map_eq_some_iff.mp ha
      rw [hin p b q hp hq]
      exact congrArg some hqa
    have hop := @zOp_of Ch d cA h ws wss φ hH hφ
    have hB : ∀ i, i < 8 → zcg cA wss i = cA i := fun i hi => zcg_lo (by omega)
    refine ⟨⟨Ch, r', (T', (h.2.1 + k, hs1.2.2)), ws', ov, rfl, ?_, hg, ⟨hwl', m3, fun i q hi => ?_⟩, hpreB, fun i q hi => ?_, ⟨fun i j p q hi hj hpq => ?_, fun i q hi => ?_⟩⟩, hF.1, fun q hq hnq => hF.2 q hq (fun z => hnq (hsub q z))⟩
    · rcases hrr with ⟨g1, g2⟩ | ⟨g1, g2⟩
      · subst g2
        rcases hov with ⟨z, -⟩ | ⟨x, z1, z2⟩
        · refine Or.inl ⟨z, ?_⟩
          rw [g1] at hr'
          rcases hr' with ⟨n, -, e, -⟩ | ⟨w, w', -, -, e, -⟩ | ⟨n, e, -⟩ | ⟨-, e⟩
          · cases e
          · cases e
          · cases e
          · exact e
        · exact absurd (z2 G) (fun q => @zRep_U G _ _ q)
      · rcases hov with ⟨-, z⟩ | ⟨x, z1, z2⟩
        · rw [z] at g2
          exact absurd g2 (fun q => zsubV_nU q)
        · refine Or.inr ⟨x, z1, fun G' => ?_⟩
          have hx : @zRep G' (zad (zcg cA wss) wss') r1 x := by
            rcases @zsubV_ok G' false _ _ _ _ g2 (z2 G') with ⟨q, -⟩ | q
            · cases q
            · exact q
          rcases hr' with ⟨n, -, e, e'⟩ | ⟨w, w', w1, w2, e, e', hb⟩ | ⟨n, e, e'⟩ | ⟨e, -⟩
          · rw [e] at hx
            rw [e']
            exact hx
          · rw [e] at hx
            rw [e']
            obtain ⟨ox, ho, hrf⟩ := hx
            refine ⟨ox, ho, ?_⟩
            rcases @zWB_R d cA (zcg cA wss) ws ws' wss' φ ρ h.1 Ch w w' ox hop hpreB hρ hρa hb (Or.inl ⟨w1, hrf⟩) with ⟨-, q⟩ | ⟨q, -⟩
            · exact q
            · omega
          · rw [e] at hx
            rw [e']
            exact hx
          · rw [e, zisU_f] at g1
            cases g1
    · rcases hrev i q hi with ⟨p, hp, hq⟩ | ⟨hm, hq⟩
      · have hn := hT2 p i hp
        rw [Nat.zero_add] at hn
        exact zRN_ok hB hop hpreB hρ hρa (hH1.2.2 p q hq) hn
      · have hil := (List.getElem?_eq_some_iff.mp hq).1
        show @zCell Ch cA (zad cA ws') (zget d T' i) q.2
        rw [hT1 i (by omega) hm]
        exact @zCell_mono Ch cA _ _ hpreB _ _ (hH.2.2 i q hq)
    · rcases hrev i q hi with ⟨p, hp, hq⟩ | ⟨hm, hq⟩
      · exact hP' p q hq
      · have hlt := (hP i q hq).lt
        refine (hP i q hq).kept (hF.2 q.1 hlt ?_)
        rintro (⟨k', e, hk'⟩ | z)
        · obtain ⟨b, hb, hq2⟩ := hφr k' _ hk'
          have e := hD.1 b i _ q hq2 hq rfl
          subst e
          exact hm (List.mem_of_getElem? ((hρ0 k' b).mpr (Or.inl ⟨(List.getElem?_eq_some_iff.mp hb).1, hb⟩)))
        · omega
    · have mixed : ∀ (i j : Nat) (p q : Nat × va_E) (u : Nat), ρ[u]? = some i → wss'[u]? = some p → j ∉ ρ → ws[j]? = some q → p.1 = q.1 → False := by
        intro i j p q u hu hp hjm hq hpq
        have hlt := (hP j q hq).lt
        rcases hD'.2 u p hp with ⟨k', e, hk'⟩ | z
        · obtain ⟨b, hb, hq2⟩ := hφr k' _ hk'
          have e2 := hD.1 b j _ q hq2 hq hpq
          subst e2
          exact hjm (List.mem_of_getElem? ((hρ0 k' b).mpr (Or.inl ⟨(List.getElem?_eq_some_iff.mp hb).1, hb⟩)))
        · omega
      rcases hrev i p hi with ⟨u, hu, hp⟩ | ⟨hm, hp⟩ <;> rcases hrev j q hj with ⟨v, hv, hq⟩ | ⟨hm2, hq⟩
      · have e := hD'.1 u v p q hp hq hpq
        subst e
        rw [hu] at hv
        cases hv
        rfl
      · exact absurd (mixed i j p q u hu hp hm2 hq hpq) id
      · exact absurd (mixed j i q p v hv hq hm hp hpq.symm) id
      · exact hD.1 i j p q hp hq hpq
    · rcases hrev i q hi with ⟨p, hp, hq⟩ | ⟨hm, hq⟩
      · exact hsub _ (hD'.2 p q hq)
      · exact Or.inl ⟨i, q.2, hq⟩
end
section
/-! arrays at a place that is known within bounds, or one of some arrays that are alike -/
theorem zi_idxR [zGh] {n len : Nat} {i : Int32} (hi : zIs n i) (hlen : len < 2147483648) (h : zhi n ≤ len) : vp_in i len ∧ i.toNatClampNeg = zi i ∧ zi i < len := by
  have hl := Nat.lt_of_lt_of_le (zhi_ok hi) h
  obtain ⟨g1, g2, g3⟩ := zi_idx (i := i) (a := zi i) (fun _ => rfl) hlen (zble_lt hl)
  exact ⟨g1, g2, g3⟩
/-- all of some cells are the same -/
noncomputable def zalr (d : Nat) (t : zT d) (kd len x : Nat) (lo n : Nat) : Bool := Nat.rec (motive := fun _ => Bool) true (fun m r => Prod.rec (motive := fun _ => Bool) (fun kd' v => Prod.rec (motive := fun _ => Bool) (fun len' x' => cond (Nat.beq kd kd') (cond (Nat.beq len len') (cond (Nat.beq x x') r false) false) false) v) (zget d t (Nat.add lo m))) n
theorem zalr_t {d : Nat} {t : zT d} {kd len x lo : Nat} : ∀ {n : Nat}, zalr d t kd len x lo n = true → ∀ m, m < n → zget d t (lo + m) = (kd, len, x)
  | 0, _, m, hm => absurd hm (Nat.not_lt_zero m)
  | n + 1, h, m, hm => by
    have h : Prod.rec (motive := fun _ => Bool) (fun kd' v => Prod.rec (motive := fun _ => Bool) (fun len' x' => cond (Nat.beq kd kd') (cond (Nat.beq len len') (cond (Nat.beq x x') (zalr d t kd len x lo n) false) false) false) v) (zget d t (lo + n)) = true := h
    generalize hc : zget d t (lo + n) = c at h
    obtain ⟨kd', len', x'⟩ := c
    have h : cond (Nat.beq kd kd') (cond (Nat.beq len len') (cond (Nat.beq x x') (zalr d t kd len x lo n) false) false) false = true := h
    obtain ⟨h1, h⟩ := zcnd_t h
    obtain ⟨h2, h⟩ := zcnd_t h
    obtain ⟨h3, h⟩ := zcnd_t h
    rcases Nat.lt_succ_iff_lt_or_eq.mp hm with q | rfl
    · exact zalr_t h m q
    · rw [hc, Nat.eq_of_beq_eq_true h1, Nat.eq_of_beq_eq_true h2, Nat.eq_of_beq_eq_true h3]
noncomputable def zcr {d : Nat} (h : zH d) (S : List zV) (K : Nat → Nat → Nat → List zV → Bool) : Bool := List.rec (motive := fun _ => Bool) false (fun v S _ => Sum.rec (motive := fun _ => Bool) (fun _ => false) (fun u => Sum.rec (motive := fun _ => Bool) (fun r => zat h r (fun _ _ _ kd len x => K kd len x S)) (fun w => Sum.rec (motive := fun _ => Bool) (fun _ => false) (fun m => cond (Nat.ble 1152921504606846976 m) false (Prod.rec (motive := fun _ => Bool) (fun kd v => Prod.rec (motive := fun _ => Bool) (fun len x => cond (zalr d h.1 kd len x (Nat.mod m 1048576) (Nat.sub (Nat.div m 1048576) (Nat.mod m 1048576))) (K kd len x S) false) v) (zget d h.1 (Nat.mod m 1048576)))) w) u) v) S
theorem zcr_t [zGh] [zCh] {d : Nat} {cA : Nat → ClassId} {h : zH d} {ws : va_W} {S : List zV} {st : List Value} {K : Nat → Nat → Nat → List zV → Bool} (hk : zcr h S K = true) (hst : zRepL (zad cA ws) S st) (hH : zHp cA h ws) : ∃ (kd len x : Nat) (S' : List zV) (st' : List Value) (a : Nat) (e : va_E) (j : Nat), K kd len x S' = true ∧ st = .ref a :: st' ∧ zRepL (zad cA ws) S' st' ∧ ws[j]? = some (a, e) ∧ zget d h.1 j = (kd, len, x) ∧ zCell cA (zad cA ws) (kd, len, x) e := by
  match S, hk, hst with
  | .inr (.inl r) :: S, hk, hst =>
    obtain ⟨o, st', rfl, ho, hst2⟩ := zRepL_R hst
    have hk : zat h r (fun _ _ _ kd len x => K kd len x S) = true := hk
    obtain ⟨j, kd, len, x, rfl, hg, hk2⟩ := zat_t hk
    obtain ⟨a, e, rfl, hwi, hcell⟩ := zat_w hH ho
    rw [hg] at hcell
    exact ⟨kd, len, x, S, st', a, e, j, hk2, rfl, hst2, hwi, hg, hcell⟩
  | .inr (.inr (.inr m)) :: S, hk, hst =>
    match st, hst with
    | v :: st', ⟨hv, hst2⟩ =>
      have hk : cond (Nat.ble 1152921504606846976 m) false (Prod.rec (motive := fun _ => Bool) (fun kd v => Prod.rec (motive := fun _ => Bool) (fun len x => cond (zalr d h.1 kd len x (Nat.mod m 1048576) (Nat.sub (Nat.div m 1048576) (Nat.mod m 1048576))) (K kd len x S) false) v) (zget d h.1 (Nat.mod m 1048576))) = true := hk
      cases h1 : Nat.ble 1152921504606846976 m
      · rw [h1, cond_false] at hk
        generalize zget d h.1 (Nat.mod m 1048576) = c at hk
        obtain ⟨kd, len, x⟩ := c
        obtain ⟨h2, hk⟩ := zcnd_t hk
        rcases hv with ⟨-, k, a, g1, g2, g3, rfl⟩ | ⟨g, -⟩
        · obtain ⟨e, he⟩ := zad_at g3
          have hg : zget d h.1 k = (kd, len, x) := by
            have key := zalr_t h2 (k - m % 1048576) (by show k - m % 1048576 < m / 1048576 - m % 1048576; omega)
            have e1 : Nat.mod m 1048576 + (k - m % 1048576) = k := by show m % 1048576 + (k - m % 1048576) = k; omega
            rw [e1] at key
            exact key
          have hcell := hH.2.2 k _ he
          rw [hg] at hcell
          exact ⟨kd, len, x, S, st', a, e, k, hk, rfl, hst2, he, hg, hcell⟩
        · exact absurd (zble_f h1) (by omega)
      · rw [h1] at hk; cases hk
/-- what stands anywhere in an array -/
def zjo (len x : Nat) : Nat := cond (Nat.beq x (zun 40 len (zwd 40 x 0))) (zwd 40 x 0) 4294967296
theorem zun_at {len x j : Nat} (h : Nat.beq x (zun 40 len (zwd 40 x 0)) = true) (hj : j < len) : zwd 40 x j = zwd 40 x 0 := by
  have := congrArg (fun z => zwd 40 z j) (Nat.eq_of_beq_eq_true h)
  exact this.trans (zun_wd 40 len _ j (by decide) (zwd_lt _ _ _) hj)
theorem zjo_ok [zGh] {len x j : Nat} {f : Nat → Int32} (hf : zAI len x f) (hj : j < len) : zIs (zjo len x) (f j) := by
  unfold zjo
  cases h : Nat.beq x (zun 40 len (zwd 40 x 0))
  · exact zIs_u _
  · rw [cond_true, ← zun_at h hj]
    exact zIs_a (hf j hj) (zwd_lt _ _ _)
section OPS
variable {d : Nat} {X : zM} {fr : Nat} {P : zP d} {pc pc' tgt : Nat} {k : zK d}
/-- any reference from a local, and into one -/
noncomputable def xaldV (n : Nat) (k : zK d) : zK d := fun L S h => znth n L (fun v => Sum.rec (motive := fun _ => Bool) (fun _ => false) (fun u => Sum.rec (motive := fun _ => Bool) (fun a => k L (zR a :: S) h) (fun w => Sum.rec (motive := fun _ => Bool) (fun _ => false) (fun m => cond (Nat.beq m 0) false (k L (zW m :: S) h)) w) u) v)
theorem zW_rf [zGh] {ad : zA} {m : Nat} {x : Value} (h : zRep ad (zW m) x) : ∃ o : Option Nat, x = va_rf o := by
  rcases h with ⟨-, k, a, -, -, -, rfl⟩ | ⟨-, rfl⟩
  · exact ⟨some a, rfl⟩
  · exact ⟨_, rfl⟩
theorem sm_aldV [G : zGh] {n : Nat} (row : ∀ {p : Program} {l : Launch} {e : Env} {R : Room} {s : State} {m : MethodId} {args : Array Value} {below : List Frame} {meth : Method} {c : Code} {H : Heap} {locs : List Loc} {cells slots : Nat} {Q : State → Prop} {ls : Array Slot} {rest : List Value} {o : Option Nat}, p.tables.exec = Jvm.exec → c.code = X.2.1 → ls[n]? = some (.val (va_rf o)) → W p l e R s m args below meth c H locs cells slots Q (F0 m pc' ls (va_rf o :: rest)) → W p l e R s m args below meth c H locs cells slots Q (F0 m pc ls rest)) (hs : zSim X fr P pc' k) : zSim X fr P pc (xaldV n k) := by
  intro Ch cA D ad0 A MC MS p l e s m args below meth c ls st H locs cells slots L S h Cx hk R0
  obtain ⟨ws, hHp, hpre, hP, hD, hS, hL, hst, hcb, hsb⟩ := R0
  obtain ⟨v, hv, hk2⟩ := znth_t n hk
  match v, hv, hk2 with
  | .inr (.inl a), hv, hk2 =>
    obtain ⟨x, hx, i, rfl, hi⟩ := zLoc_at hL hv (by intro q; cases q)
    exact row Cx.1 Cx.2.1 hx (hs Ch cA D ad0 A MC MS p l e s m args below meth c ls _ H locs cells slots L _ h Cx hk2 ⟨ws, hHp, hpre, hP, hD, hS, hL, ⟨⟨i, rfl, hi⟩, hst⟩, hcb, hsb⟩)
  | .inr (.inr (.inr w)), hv, hk2 =>
    have hk2 : cond (Nat.beq w 0) false (k L (zW w :: S) h) = true := hk2
    cases hb : Nat.beq w 0
    · rw [hb, cond_false] at hk2
      obtain ⟨x, hx, hr⟩ := zLoc_at hL hv (by intro q; cases q; cases hb)
      obtain ⟨o, rfl⟩ := zW_rf hr
      exact row Cx.1 Cx.2.1 hx (hs Ch cA D ad0 A MC MS p l e s m args below meth c ls _ H locs cells slots L _ h Cx hk2 ⟨ws, hHp, hpre, hP, hD, hS, hL, ⟨hr, hst⟩, hcb, hsb⟩)
    · rw [hb] at hk2; cases hk2
theorem sm_aloadV_n [G : zGh] {n : Nat} {f : Fin 4} (dg : decode X.2.1 pc = .ok (.aload_n f, 1)) (hf : (f : Nat) = n) (hs : zSim X fr P (pc + 1) k) : zSim X fr P pc (xaldV n k) := sm_aldV (fun {_ _ _ _ _ _ _ _ _ _ _ _ _ _ _ _ _ o} hx hb hl kk => by
  cases o with
  | none => exact lv_aload_nN hx hb dg hf hl kk
  | some a => exact lv_aload_n hx hb dg hf hl kk) hs
theorem sm_aloadV [G : zGh] {n : Nat} (dg : decode X.2.1 pc = .ok (.aload n, 2)) (hs : zSim X fr P (pc + 2) k) : zSim X fr P pc (xaldV n k) := sm_aldV (fun {_ _ _ _ _ _ _ _ _ _ _ _ _ _ _ _ _ o} hx hb hl kk => by
  cases o with
  | none => exact lv_aloadN hx hb dg hl kk
  | some a => exact lv_aload hx hb dg hl kk) hs
noncomputable def xastV (n : Nat) (k : zK d) : zK d := fun L S h => List.rec (motive := fun _ => Bool) false (fun v S _ => Sum.rec (motive := fun _ => Bool) (fun _ => false) (fun u => Sum.rec (motive := fun _ => Bool) (fun a => zst n (zR a) L (fun L => k L S h)) (fun w => Sum.rec (motive := fun _ => Bool) (fun _ => false) (fun m => cond (Nat.beq m 0) false (zst n (zW m) L (fun L => k L S h))) w) u) v) S
theorem sm_astV [G : zGh] {n : Nat} (row : ∀ {p : Program} {l : Launch} {e : Env} {R : Room} {s : State} {m : MethodId} {args : Array Value} {below : List Frame} {meth : Method} {c : Code} {H : Heap} {locs : List Loc} {cells slots : Nat} {Q : State → Prop} {ls : Array Slot} {rest : List Value} {o : Option Nat} {nL : Nat} {lv : List (Nat × Value)}, p.tables.exec = Jvm.exec → c.code = X.2.1 → lv_has ls nL lv → n < nL → (∀ ls' : Array Slot, lv_has ls' nL ((n, va_rf o) :: lv.filter (fun q => !(q.1 == n) && !(q.1 + 1 == n && q.2.category == 2))) → W p l e R s m args below meth c H locs cells slots Q (F0 m pc' ls' rest)) → W p l e R s m args below meth c H locs cells slots Q (F0 m pc ls (va_rf o :: rest))) (hs : zSim X fr P pc' k) : zSim X fr P pc (xastV n k) := by
  intro Ch cA D ad0 A MC MS p l e s m args below meth c ls st H locs cells slots L S h Cx hk R0
  obtain ⟨ws, hHp, hpre, hP, hD, hS, hL, hst, hcb, hsb⟩ := R0
  have fin : ∀ (v : zV) (S : List zV) (st : List Value) (o : Option Nat), zst n v L (fun L => k L S h) = true → zRep (zad cA ws) v (va_rf o) → zRepL (zad cA ws) S st → W p l e (zRm fr MC MS) s m args below meth c H locs cells slots (MQ below (zQc P cA D ad0 A) args s MC MS A) (F0 m pc ls (va_rf o :: st)) := by
    intro v S st o hk hv hst
    obtain ⟨L', hlen, hn, hz, hk⟩ := zst_t n hk
    obtain ⟨hLn, lv, hlv, hall⟩ := hL
    refine row Cx.1 Cx.2.1 hlv (by rw [← hLn]; exact hn) (fun ls' hls => ?_)
    exact hs Ch cA D ad0 A MC MS p l e s m args below meth c ls' _ H locs cells slots L' _ h Cx hk ⟨ws, hHp, hpre, hP, hD, hS, zLoc_set1 (by rw [hlen]; exact hLn) hz hall (Or.inr hv) hls, hst, hcb, hsb⟩
  match S, hk, st, hst with
  | .inr (.inl a) :: S, hk, v :: st, ⟨⟨o, hv, hr⟩, hst⟩ =>
    subst hv
    exact fin _ S st o hk ⟨o, rfl, hr⟩ hst
  | .inr (.inr (.inr w)) :: S, hk, v :: st, ⟨hv, hst⟩ =>
    have hk : cond (Nat.beq w 0) false (zst n (zW w) L (fun L => k L S h)) = true := hk
    cases hb : Nat.beq w 0
    · rw [hb, cond_false] at hk
      obtain ⟨o, rfl⟩ := zW_rf hv
      exact fin _ S st o hk hv hst
    · rw [hb] at hk; cases hk
theorem sm_astoreV_n [G : zGh] {n : Nat} {f : Fin 4} (dg : decode X.2.1 pc = .ok (.astore_n f, 1)) (hf : (f : Nat) = n) (hs : zSim X fr P (pc + 1) k) : zSim X fr P pc (xastV n k) := sm_astV (fun {_ _ _ _ _ _ _ _ _ _ _ _ _ _ _ _ _ o _ _} hx hb h hn kk => by
  cases o with
  | none => exact lv_astore_nN hx hb dg hf h hn rfl kk
  | some a => exact lv_astore_n hx hb dg hf h hn rfl kk) hs
theorem sm_astoreV [G : zGh] {n : Nat} (dg : decode X.2.1 pc = .ok (.astore n, 2)) (hs : zSim X fr P (pc + 2) k) : zSim X fr P pc (xastV n k) := sm_astV (fun {_ _ _ _ _ _ _ _ _ _ _ _ _ _ _ _ _ o _ _} hx hb h hn kk => by
  cases o with
  | none => exact lv_astoreN hx hb dg h hn rfl kk
  | some a => exact lv_astore hx hb dg h hn rfl kk) hs
/-- ints and booleans read -/
noncomputable def xalQ (kc : Nat) (k : zK d) : zK d := fun L S h => zpI S (fun n S => zcr h S (fun kd len x S => cond (Nat.beq kd kc) (cond (Nat.ble 4294967296 n) (cond (Nat.ble (zhi n) len) (zF (fun v => k L (zI v :: S) h) (zjo len x)) false) (cond (Nat.ble len n) false (zF (fun v => k L (zI v :: S) h) (zwd 40 x n)))) false))
theorem sm_alQ [G : zGh] {kc : Nat} (hkc : kc < 2) (row : ∀ {cA : Nat → ClassId} {D : va_G} {p : Program} {l : Launch} {e : Env} {R : Room} {s : State} {m : MethodId} {args : Array Value} {below : List Frame} {meth : Method} {c : Code} {H : Heap} {locs : List Loc} {cells slots : Nat} {Q : State → Prop} {ls : Array Slot} {rest : List Value} {ws : va_W} {a n q0 : Nat} {f : Nat → Int32} {i : Int32}, p.tables.exec = Jvm.exec → c.code = X.2.1 → va_K D zcl (zty cA) s → va_P D zcl ws H → ws[q0]? = some (a, .inl (cA kc, n, .inl f)) → vp_in i n → W p l e R s m args below meth c H locs cells slots Q (F0 m pc' ls (.int (f i.toNatClampNeg) :: rest)) → W p l e R s m args below meth c H locs cells slots Q (F0 m pc ls (.int i :: .ref a :: rest))) (hs : zSim X fr P pc' k) : zSim X fr P pc (xalQ kc k) := by
  intro Ch cA D ad0 A MC MS p l e s m args below meth c ls st H locs cells slots L S h Cx hk R0
  obtain ⟨ws, hHp, hpre, hP, hD, hS, hL, hst, hcb, hsb⟩ := R0
  obtain ⟨n, S, rfl, hk1⟩ := zpI_t hk
  obtain ⟨i, st, rfl, hi, hst1⟩ := zRepL_I hst
  obtain ⟨kd, len, x, S', st', a, en, j, hk2, rfl, hst2, hwi, hg, hcell⟩ := zcr_t hk1 hst1 hHp
  obtain ⟨hb, hk3⟩ := zcnd_t hk2
  clear hk2
  have hb2 := Nat.eq_of_beq_eq_true hb
  subst hb2
  obtain ⟨hlen, f, rfl, hf⟩ := zCell_i hcell hkc
  cases hb3 : Nat.ble 4294967296 n
  · rw [hb3, cond_false] at hk3
    cases hbl : Nat.ble len n
    · rw [hbl, cond_false, zF_eq] at hk3
      obtain ⟨g1, g2, g3⟩ := zi_idx hi.1 hlen hbl
      exact row Cx.1 Cx.2.1 Cx.2.2.2.2.2.1 hP hwi g1 (hs Ch cA D ad0 A MC MS p l e s m args below meth c ls _ H locs cells slots L _ h Cx hk3 ⟨ws, hHp, hpre, hP, hD, hS, hL, ⟨⟨_, rfl, by rw [g2]; exact zIs_a (hf n g3) (zwd_lt _ _ _)⟩, hst2⟩, hcb, hsb⟩)
    · rw [hbl] at hk3; cases hk3
  · rw [hb3, cond_true] at hk3
    obtain ⟨hh, hk4⟩ := zcnd_t hk3
    clear hk3
    rw [zF_eq] at hk4
    obtain ⟨g1, g2, g3⟩ := zi_idxR hi hlen (Nat.le_of_ble_eq_true hh)
    exact row Cx.1 Cx.2.1 Cx.2.2.2.2.2.1 hP hwi g1 (hs Ch cA D ad0 A MC MS p l e s m args below meth c ls _ H locs cells slots L _ h Cx hk4 ⟨ws, hHp, hpre, hP, hD, hS, hL, ⟨⟨_, rfl, by rw [g2]; exact zjo_ok hf g3⟩, hst2⟩, hcb, hsb⟩)
theorem sm_ialoadQ [G : zGh] (dg : decode X.2.1 pc = .ok (.iaload, 1)) (hs : zSim X fr P (pc + 1) k) : zSim X fr P pc (xalQ 0 k) := sm_alQ (by decide) (fun hx hb hK hP ha hin kk => va_iald hx hb hK hP _ 0 ha rfl hin dg kk) hs
theorem sm_baloadQ [G : zGh] (dg : decode X.2.1 pc = .ok (.baload, 1)) (hs : zSim X fr P (pc + 1) k) : zSim X fr P pc (xalQ 1 k) := sm_alQ (by decide) (fun hx hb hK hP ha hin kk => va_zald hx hb hK hP _ 1 ha rfl hin dg kk) hs
/-- ints and booleans written where all words are alike -/
noncomputable def xasU (kc : Nat) (g : Nat → Nat) (k : zK d) : zK d := fun L S h => zpI S (fun v S => zpI S (fun n S => zcr h S (fun kd len x S => cond (Nat.beq kd kc) (cond (Nat.ble (zhi n) len) (cond (Nat.beq x (zun 40 len (zwd 40 x 0))) (cond (zsubI (zcap (g v)) (zwd 40 x 0)) (k L S h) false) false) false) false)))
theorem sm_asU [G : zGh] {kc : Nat} {g : Nat → Nat} {Gf : Int32 → Int32} (hkc : kc < 2) (hg : ∀ {a : Nat} {x : Int32}, zIs a x → zIs (g a) (Gf x)) (row : ∀ {cA : Nat → ClassId} {D : va_G} {p : Program} {l : Launch} {e : Env} {R : Room} {s : State} {m : MethodId} {args : Array Value} {below : List Frame} {meth : Method} {c : Code} {H H0 : Heap} {A : Nat → Prop} {locs : List Loc} {cells slots : Nat} {Q : State → Prop} {ls : Array Slot} {rest : List Value} {ws : va_W} {a n q0 : Nat} {f : Nat → Int32} {i x : Int32}, p.tables.exec = Jvm.exec → c.code = X.2.1 → va_K D zcl (zty cA) s → va_P D zcl ws H → va_D A ws → va_S A H0 H locs → ws[q0]? = some (a, .inl (cA kc, n, .inl f)) → vp_in i n → (∀ (H1 : Heap) (locs1 : List Loc), va_P D zcl (ws.set q0 (a, .inl (cA kc, n, .inl (upd f i.toNatClampNeg (Gf x))))) H1 → va_D A (ws.set q0 (a, .inl (cA kc, n, .inl (upd f i.toNatClampNeg (Gf x))))) → va_S A H0 H1 locs1 → W p l e R s m args below meth c H1 locs1 cells slots Q (F0 m pc' ls rest)) → W p l e R s m args below meth c H locs cells slots Q (F0 m pc ls (.int x :: .int i :: .ref a :: rest))) (hs : zSim X fr P pc' k) : zSim X fr P pc (xasU kc g k) := by
  intro Ch cA D ad0 A MC MS p l e s m args below meth c ls st H locs cells slots L S h Cx hk R0
  obtain ⟨ws, hHp, hpre, hP, hD, hS, hL, hst, hcb, hsb⟩ := R0
  obtain ⟨v, S, rfl, hk0⟩ := zpI_t hk
  obtain ⟨n, S, rfl, hk1⟩ := zpI_t hk0
  obtain ⟨y, st, rfl, hy, hst0⟩ := zRepL_I hst
  obtain ⟨i, st, rfl, hi, hst1⟩ := zRepL_I hst0
  obtain ⟨kd, len, x, S', st', a, en, j, hk2, rfl, hst2, hwi, hgt, hcell⟩ := zcr_t hk1 hst1 hHp
  obtain ⟨hb, hk3⟩ := zcnd_t hk2
  obtain ⟨hh, hk4⟩ := zcnd_t hk3
  obtain ⟨hu, hk5⟩ := zcnd_t hk4
  obtain ⟨hsv, hk6⟩ := zcnd_t hk5
  clear hk2 hk3 hk4 hk5
  have hb2 := Nat.eq_of_beq_eq_true hb
  subst hb2
  obtain ⟨hlen, f, rfl, hf⟩ := zCell_i hcell hkc
  obtain ⟨g1, g2, g3⟩ := zi_idxR hi hlen (Nat.le_of_ble_eq_true hh)
  refine row Cx.1 Cx.2.1 Cx.2.2.2.2.2.1 hP hD hS hwi g1 (fun H1 locs1 hP1 hD1 hS1 => ?_)
  have hz := zad_set (cA := cA) (e' := .inl (cA kd, len, .inl (upd f i.toNatClampNeg (Gf y)))) hwi
  have hnew : zAI len x (upd f i.toNatClampNeg (Gf y)) := by
    intro j' hj'
    by_cases q : j' = i.toNatClampNeg
    · subst q
      rw [pk_us, zun_at hu hj']
      exact zsubI_a (zcap_lt _) (zwd_lt _ _ _) hsv (zcap_ok (hg hy))
    · rw [pk_un q]
      exact hf j' hj'
  have hH2 := zHp_set hHp hwi (c' := (kd, len, x)) (e' := .inl (cA kd, len, .inl (upd f i.toNatClampNeg (Gf y)))) (zCell_ik hkc hlen hnew)
  rw [← hgt, zset_get] at hH2
  exact hs Ch cA D ad0 A MC MS p l e s m args below meth c ls _ H1 locs1 cells slots L _ h Cx hk6 ⟨_, hH2, by rw [hz]; exact hpre, hP1, hD1, hS1, by rw [hz]; exact hL, by rw [hz]; exact hst2, hcb, hsb⟩
/-- whether place and array are known -/
noncomputable def zkn (S : List zV) : Bool := zpI S (fun _ S => zpI S (fun n S => zpR S (fun _ _ => Nat.ble n 4294967295)))
noncomputable def xasQ (kc : Nat) (g : Nat → Nat) (k : zK d) : zK d := fun L S h => cond (zkn S) (xast1 kc g k L S h) (xasU kc g k L S h)
theorem sm_or [G : zGh] {b : List zV → Bool} {k1 k2 : zK d} (h1 : zSim X fr P pc k1) (h2 : zSim X fr P pc k2) : zSim X fr P pc (fun L S h => cond (b S) (k1 L S h) (k2 L S h)) := by
  intro Ch cA D ad0 A MC MS p l e s m args below meth c ls st H locs cells slots L S h Cx hk R0
  have hk : cond (b S) (k1 L S h) (k2 L S h) = true := hk
  cases hb : b S
  · rw [hb] at hk
    exact h2 Ch cA D ad0 A MC MS p l e s m args below meth c ls st H locs cells slots L S h Cx hk R0
  · rw [hb] at hk
    exact h1 Ch cA D ad0 A MC MS p l e s m args below meth c ls st H locs cells slots L S h Cx hk R0
theorem sm_iastoreQ [G : zGh] (dg : decode X.2.1 pc = .ok (.iastore, 1)) (hs : zSim X fr P (pc + 1) k) : zSim X fr P pc (xasQ 0 (fun v => v) k) := sm_or (sm_iastore dg hs) (sm_asU (Gf := fun x => x) (by decide) (fun h => h) (fun hx hb hK hP hD hS ha hin kk => va_iast hx hb hK hP hD hS _ 0 ha rfl hin dg kk) hs)
theorem sm_bastoreQ [G : zGh] (dg : decode X.2.1 pc = .ok (.bastore, 1)) (hs : zSim X fr P (pc + 1) k) : zSim X fr P pc (xasQ 1 (fun v => zand v 1) k) := sm_or (sm_bastore dg hs) (sm_asU (Gf := fun x => vp_nar .boolean x) (by decide) (fun {a x} h => by rw [vp_nar_bool]; exact zIs_of (zand_ok h.1 (fun _ => zi_p1)) (zand_le _ _)) (fun hx hb hK hP hD hS ha hin kk => va_zast hx hb hK hP hD hS _ 1 ha rfl hin dg kk) hs)
/-- a row of rows that may lie in any order -/
noncomputable def xaa12 (k : zK d) : zK d := fun L S h => zpI S (fun n S => zpR S (fun r S => zat h r (fun _ _ _ kd len x => cond (Nat.beq kd 12) (cond (Nat.ble (zhi n) len) (cond (Nat.ble 1152921504606846976 x) false (k L (zW x :: S) h)) false) false)))
theorem sm_aa12 [G : zGh] (dg : decode X.2.1 pc = .ok (.aaload, 1)) (hs : zSim X fr P (pc + 1) k) : zSim X fr P pc (xaa12 k) := by
  intro Ch cA D ad0 A MC MS p l e s m args below meth c ls st H locs cells slots L S h Cx hk R0
  obtain ⟨ws, hHp, hpre, hP, hD, hS, hL, hst, hcb, hsb⟩ := R0
  obtain ⟨n, S, rfl, hk1⟩ := zpI_t hk
  obtain ⟨r, S, rfl, hk2⟩ := zpR_t hk1
  obtain ⟨i, st, rfl, hi, hst1⟩ := zRepL_I hst
  obtain ⟨o, st, rfl, ho, hst2⟩ := zRepL_R hst1
  obtain ⟨j, kd, len, x, rfl, hg, hk3⟩ := zat_t hk2
  obtain ⟨a, en, rfl, hwi, hcell⟩ := zat_w hHp ho
  rw [hg] at hcell
  obtain ⟨hb, hk4⟩ := zcnd_t hk3
  obtain ⟨hh, hk5⟩ := zcnd_t hk4
  clear hk3 hk4
  have hb2 := Nat.eq_of_beq_eq_true hb
  subst hb2
  cases hb3 : Nat.ble 1152921504606846976 x
  · rw [hb3, cond_false] at hk5
    obtain ⟨hlen, f, rfl, hf⟩ : len < 2147483648 ∧ ∃ f : Nat → Option Nat, en = .inl (cA 3, len, .inr (.inr (.inr (.inr f)))) ∧ zRs (zad cA ws) len x f := by
      rcases hcell with ⟨g, -⟩ | ⟨g, -⟩ | ⟨-, -, g3, ⟨g4, -⟩ | ⟨-, f, g5, g6⟩⟩ | ⟨-, g, -⟩ | ⟨g, -⟩
      · exact absurd (show 12 < 2 from g) (by decide)
      · exact absurd (show 12 = 2 from g) (by decide)
      · exact absurd (show 12 < 12 from g4) (by decide)
      · exact ⟨g3, f, g5, g6⟩
      · exact absurd (show 12 < 8 from g) (by decide)
      · exact absurd (show 16 ≤ 12 from g) (by decide)
    obtain ⟨g1, g2, g3⟩ := zi_idxR hi hlen (Nat.le_of_ble_eq_true hh)
    obtain ⟨k0, a0, r1, r2, r3, r4⟩ := hf (zi i) g3
    have hlt : i.toNatClampNeg < len := by rw [g2]; exact g3
    exact W.aald (v := va_rf (f i.toNatClampNeg)) (ty := .array .int) Cx.1 Cx.2.1 (hP j _ hwi) ((Cx.2.2.2.2.2.1.2 3 _ rfl).1 len (fun j => va_rf (f j))) rfl (fun q => by cases q) (by show ¬ (i < 0 ∨ (arrV _ _ _).slots.size ≤ _); rw [arrV_size]; exact g1) (by show (arrV _ _ _).slots[_]? = _; rw [arrV_read _ _ hlt]) rfl rfl dg (hs Ch cA D ad0 A MC MS p l e s m args below meth c ls _ H locs cells slots L _ h Cx hk5 ⟨ws, hHp, hpre, hP, hD, hS, hL, ⟨Or.inl ⟨zble_f hb3, k0, a0, r1, r2, r3, by rw [g2, r4]; rfl⟩, hst2⟩, hcb, hsb⟩)
  · rw [hb3] at hk5; cases hk5
noncomputable def zk12 (h : zH d) (S : List zV) : Bool := zpI S (fun _ S => zpR S (fun r _ => zat h r (fun _ _ _ kd _ _ => Nat.beq kd 12)))
noncomputable def xaaQ (k : zK d) : zK d := fun L S h => cond (zk12 h S) (xaa12 k L S h) (xaal k L S h)
theorem sm_or2 [G : zGh] {b : zH d → List zV → Bool} {k1 k2 : zK d} (h1 : zSim X fr P pc k1) (h2 : zSim X fr P pc k2) : zSim X fr P pc (fun L S h => cond (b h S) (k1 L S h) (k2 L S h)) := by
  intro Ch cA D ad0 A MC MS p l e s m args below meth c ls st H locs cells slots L S h Cx hk R0
  have hk : cond (b h S) (k1 L S h) (k2 L S h) = true := hk
  cases hb : b h S
  · rw [hb] at hk
    exact h2 Ch cA D ad0 A MC MS p l e s m args below meth c ls st H locs cells slots L S h Cx hk R0
  · rw [hb] at hk
    exact h1 Ch cA D ad0 A MC MS p l e s m args below meth c ls st H locs cells slots L S h Cx hk R0
theorem sm_aaloadQ [G : zGh] (dg : decode X.2.1 pc = .ok (.aaload, 1)) (hs : zSim X fr P (pc + 1) k) : zSim X fr P pc (xaaQ k) := sm_or2 (sm_aa12 dg hs) (sm_aaload dg hs)
end OPS
end
section
/-! recursion by a list of states; ways to weaken; arraycopy to a place within bounds -/
section REC
variable {d : Nat}
abbrev zEn (d : Nat) : Type := List zV × zH d
/-- what is known of the method where it calls itself -/
noncomputable def zself (r0 : zV) (Es : List (zEn d)) : List zV → zH d → zP d → Bool := fun as h P => List.rec (motive := fun _ => Bool) false (fun e _ r => Prod.rec (motive := fun _ => Bool) (fun a h0 => cond (zsubL false as a) (cond (zsubH h h0) (P r0 h0) r) r) e) Es
noncomputable def zgd (r0 : zV) (f : (List zV → zH d → zP d → Bool) → List zV → zH d → zP d → Bool) (Es : List (zEn d)) : Bool := List.rec (motive := fun _ => Bool) true (fun e Es' r => Prod.rec (motive := fun _ => Bool) (fun a h0 => cond (f (zself r0 Es') a h0 (zrk r0 h0)) r false) e) Es
theorem zself_t {r0 : zV} {as : List zV} {h : zH d} {P : zP d} {a : List zV} {h0 : zH d} {Es : List (zEn d)} (hk : zself r0 ((a, h0) :: Es) as h P = true) : (zsubL false as a = true ∧ zsubH h h0 = true ∧ P r0 h0 = true) ∨ zself r0 Es as h P = true := by
  have hk : cond (zsubL false as a) (cond (zsubH h h0) (P r0 h0) (zself r0 Es as h P)) (zself r0 Es as h P) = true := hk
  cases h1 : zsubL false as a
  · rw [h1, cond_false] at hk
    exact Or.inr hk
  · rw [h1, cond_true] at hk
    cases h2 : zsubH h h0
    · rw [h2, cond_false] at hk
      exact Or.inr hk
    · rw [h2, cond_true] at hk
      exact Or.inl ⟨rfl, rfl, hk⟩
/-- weaker at the start, the same at the end -/
theorem zMet_w {X : zM} {y : MethodName} {fr : Nat} {f : List zV → zH d → zP d → Bool} (hM : zMet X y fr f) {r0 : zV} {a : List zV} {h0 : zH d} (hev : f a h0 (zrk r0 h0) = true) {G : zGh} {Ch : zCh} {l : Launch} {cA : Nat → ClassId} {D : va_G} {ws : va_W} {av : List Value} {as : List zV} {h : zH d} {P : zP d} {sz : Nat} (h1 : zsubL false as a = true) (h2 : zsubH h h0 = true) (hb : h0.2.2.1 = h.2.2.1 ∧ h0.2.2.2 = h.2.2.2) (hP : P r0 h0 = true) (has : zRepL (zad cA ws) as av) (hH : zHp cA h ws) (hT : cA 20 = zg 0) : Met l y (zws X y) (zRm fr h.2.2.1 h.2.2.2) (zPc cA D ws av sz) (zQc P cA D (zad cA ws) (va_A ws sz)) h.2.2.1 h.2.2.2 (va_A ws sz) := by
  have hm := hM l cA D ws av a h0 (zrk r0 h0) sz hev (zsubL_S h1 has) (zsubH_ok h2 hH) hT
  rw [hb.1, hb.2] at hm
  refine Met_mono hm (fun _ _ q => q) ?_ (fun _ q => q)
  rintro b st o t - ⟨⟨Ch', r, hh, ws', ov, rfl, hov, hk, hHp', hpre', hP', hD'⟩, hF⟩
  obtain ⟨hsb, hrr⟩ := zrk_t hk
  refine ⟨⟨Ch', r0, h0, ws', ov, rfl, ?_, hP, zsubH_ok hsb hHp', hpre', hP', hD'⟩, hF⟩
  rcases hrr with ⟨g1, g2⟩ | ⟨g1, g2⟩
  · subst g2
    rw [g1]
    exact hov
  · rcases hov with ⟨-, z⟩ | ⟨x, z1, z2⟩
    · rw [z] at g2
      exact absurd g2 (fun q => zsubV_nU q)
    · refine Or.inr ⟨x, z1, fun G' => ?_⟩
      rcases @zsubV_ok G' false _ _ _ _ g2 (z2 G') with ⟨q, -⟩ | q
      · cases q
      · exact q
/-- all entries have the room of the last -/
noncomputable def zrmE (mc ms : Nat) (Es : List (zEn d)) : Bool := List.rec (motive := fun _ => Bool) true (fun e _ r => cond (Nat.beq e.2.2.2.1 mc) (cond (Nat.beq e.2.2.2.2 ms) r false) false) Es
noncomputable def zselfR (mc ms : Nat) (r0 : zV) (Es : List (zEn d)) : List zV → zH d → zP d → Bool := fun as h P => cond (Nat.beq h.2.2.1 mc) (cond (Nat.beq h.2.2.2 ms) (zself r0 Es as h P) false) false
noncomputable def zgdR (mc ms : Nat) (r0 : zV) (f : (List zV → zH d → zP d → Bool) → List zV → zH d → zP d → Bool) (Es : List (zEn d)) : Bool := List.rec (motive := fun _ => Bool) true (fun e Es' r => Prod.rec (motive := fun _ => Bool) (fun a h0 => cond (Nat.beq h0.2.2.1 mc) (cond (Nat.beq h0.2.2.2 ms) (cond (f (zselfR mc ms r0 Es') a h0 (zrk r0 h0)) r false) false) false) e) Es
theorem zMet_rc {X : zM} {y : MethodName} {fr : Nat} {body : (List zV → zH d → zP d → Bool) → zP d → zK d} (hy : plainName y.cls = true) (h1 : X.1 = y.cls) (h2 : X.2.2.2.2 = y.name) (hs : ∀ n f, zMet X y (fr + n) f → ∀ [zGh] P, zSim X (fr + (n + 1)) P 0 (body f P)) {mc ms : Nat} {r0 : zV} : ∀ (Es : List (zEn d)), zgdR mc ms r0 (fun f => zfn X.2.2.1 (body f)) Es = true → ∀ n, Es.length ≤ n → zMet X y (fr + n) (zselfR mc ms r0 Es)
  | [], _, n, _ => by
    intro l cA D ws av as h P sz hf
    have hf : cond (Nat.beq h.2.2.1 mc) (cond (Nat.beq h.2.2.2 ms) false false) false = true := hf
    obtain ⟨-, hf⟩ := zcnd_t hf
    obtain ⟨-, hf⟩ := zcnd_t hf
    cases hf
  | (a, h0) :: Es, hg, n, hn => by
    have hg : cond (Nat.beq h0.2.2.1 mc) (cond (Nat.beq h0.2.2.2 ms) (cond (zfn X.2.2.1 (body (zselfR mc ms r0 Es)) a h0 (zrk r0 h0)) (zgdR mc ms r0 (fun f => zfn X.2.2.1 (body f)) Es) false) false) false = true := hg
    obtain ⟨b1, hg⟩ := zcnd_t hg
    obtain ⟨b2, hg⟩ := zcnd_t hg
    obtain ⟨hev, hg⟩ := zcnd_t hg
    obtain ⟨n', rfl⟩ : ∃ n', n = n' + 1 := ⟨n - 1, by have : Es.length + 1 ≤ n := hn; omega⟩
    have hn' : Es.length ≤ n' := by have : Es.length + 1 ≤ n' + 1 := hn; omega
    intro l cA D ws av as h P sz hf has hH hT
    have hf : cond (Nat.beq h.2.2.1 mc) (cond (Nat.beq h.2.2.2 ms) (zself r0 ((a, h0) :: Es) as h P) false) false = true := hf
    obtain ⟨c1, hf⟩ := zcnd_t hf
    obtain ⟨c2, hf⟩ := zcnd_t hf
    rcases zself_t hf with ⟨g1, g2, g3⟩ | g
    · exact zMet_w (zmet_mk hy h1 h2 (hs n' _ (zMet_rc hy h1 h2 hs Es hg n' hn'))) hev g1 g2 ⟨(Nat.eq_of_beq_eq_true b1).trans (Nat.eq_of_beq_eq_true c1).symm, (Nat.eq_of_beq_eq_true b2).trans (Nat.eq_of_beq_eq_true c2).symm⟩ g3 has hH hT
    · refine zMet_rc hy h1 h2 hs Es hg (n' + 1) (by omega) l cA D ws av as h P sz ?_ has hH hT
      show cond (Nat.beq h.2.2.1 mc) (cond (Nat.beq h.2.2.2 ms) (zself r0 Es as h P) false) false = true
      rw [c1, c2]
      exact g
end REC
/-! ways to weaken -/
section WEAK
variable {d : Nat}
noncomputable def wkE : zWk d := fun L h K => K L h
theorem wkE_ok : zWkOK (wkE : zWk d) := fun L h _ hk => ⟨L, h, hk⟩
noncomputable def wkL (i c : Nat) (w : zWk d) : zWk d := fun L h K => zst i (zI c) L (fun L => w L h K)
theorem wkL_ok {i c : Nat} {w : zWk d} (hw : zWkOK w) : zWkOK (wkL i c w) := fun L h K hk => by
  obtain ⟨L', -, -, -, hk2⟩ := zst_t i (x := zI c) (L := L) (k := fun L => w L h K) hk
  exact hw _ _ _ hk2
noncomputable def wkU (i : Nat) (w : zWk d) : zWk d := fun L h K => zst i zU L (fun L => w L h K)
theorem wkU_ok {i : Nat} {w : zWk d} (hw : zWkOK w) : zWkOK (wkU i w) := fun L h K hk => by
  obtain ⟨L', -, -, -, hk2⟩ := zst_t i (x := zU) (L := L) (k := fun L => w L h K) hk
  exact hw _ _ _ hk2
/-- a cell by a local and fields -/
noncomputable def zpf (t : zT d) (fs : List Nat) : Nat → (Nat → Bool) → Bool := List.rec (motive := fun _ => Nat → (Nat → Bool) → Bool) (fun b K => K b) (fun f _ r b K => Prod.rec (motive := fun _ => Bool) (fun _ v => Prod.rec (motive := fun _ => Bool) (fun _ x => Nat.rec (motive := fun _ => Bool) false (fun b' _ => r b' K) (zwd 40 x f)) v) (zget d t b)) fs
theorem zpf_t {t : zT d} : ∀ (fs : List Nat) (b : Nat) {K : Nat → Bool}, zpf t fs b K = true → ∃ b', K b' = true
  | [], b, K, h => ⟨b, h⟩
  | f :: fs, b, K, h => by
    have h : Prod.rec (motive := fun _ => Bool) (fun _ v => Prod.rec (motive := fun _ => Bool) (fun _ x => Nat.rec (motive := fun _ => Bool) false (fun b' _ => zpf t fs b' K) (zwd 40 x f)) v) (zget d t b) = true := h
    generalize zget d t b = c at h
    obtain ⟨kd, len, x⟩ := c
    have h : Nat.rec (motive := fun _ => Bool) false (fun b' _ => zpf t fs b' K) (zwd 40 x f) = true := h
    generalize zwd 40 x f = w at h
    cases w with
    | zero => cases h
    | succ b' => exact zpf_t fs b' h
noncomputable def zpp (i : Nat) (fs : List Nat) (L : List zV) (h : zH d) (K : Nat → Bool) : Bool := znth i L (fun v => Sum.rec (motive := fun _ => Bool) (fun _ => false) (fun u => Sum.rec (motive := fun _ => Bool) (fun r => Nat.rec (motive := fun _ => Bool) false (fun b _ => zpf h.1 fs b K) r) (fun _ => false) u) v)
theorem zpp_t {i : Nat} {fs : List Nat} {L : List zV} {h : zH d} {K : Nat → Bool} (hk : zpp i fs L h K = true) : ∃ b, K b = true := by
  obtain ⟨v, hv, hk2⟩ := znth_t i hk
  match v, hk2 with
  | .inr (.inl (b + 1)), hk2 => exact zpf_t fs b hk2
/-- all words of an array alike -/
noncomputable def zwp (w : Nat) (c : zC) (K : zC → Bool) : Bool := Prod.rec (motive := fun _ => Bool) (fun kd v => Prod.rec (motive := fun _ => Bool) (fun len _ => cond (Nat.beq kd 2) (zF (fun y => K (2, len, y)) (zun 72 len 18446744073709551616)) (cond (Nat.ble 8 kd) (zF (fun y => K (0, len, y)) (zun 40 len w)) (zF (fun y => K (kd, len, y)) (zun 40 len w)))) v) c
theorem zwp_t {w : Nat} {c : zC} {K : zC → Bool} (h : zwp w c K = true) : ∃ c', K c' = true := by
  obtain ⟨kd, len, x⟩ := c
  have h : cond (Nat.beq kd 2) (zF (fun y => K (2, len, y)) (zun 72 len 18446744073709551616)) (cond (Nat.ble 8 kd) (zF (fun y => K (0, len, y)) (zun 40 len w)) (zF (fun y => K (kd, len, y)) (zun 40 len w))) = true := h
  cases h1 : Nat.beq kd 2
  · rw [h1, cond_false] at h
    cases h2 : Nat.ble 8 kd
    · rw [h2, cond_false, zF_eq] at h
      exact ⟨_, h⟩
    · rw [h2, cond_true, zF_eq] at h
      exact ⟨_, h⟩
  · rw [h1, cond_true, zF_eq] at h
    exact ⟨_, h⟩
noncomputable def wkA (i : Nat) (fs : List Nat) (c : Nat) (w : zWk d) : zWk d := fun L h K => zpp i fs L h (fun b => zwp c (zget d h.1 b) (fun y => zsetK d h.1 b y (fun t => w L (t, h.2) K)))
theorem wkA_ok {i c : Nat} {fs : List Nat} {w : zWk d} (hw : zWkOK w) : zWkOK (wkA i fs c w) := fun L h K hk => by
  obtain ⟨b, hk⟩ := zpp_t hk
  obtain ⟨y, hk⟩ := zwp_t hk
  rw [zsetK_eq] at hk
  exact hw _ _ _ hk
/-- cells side by side -/
noncomputable def zwr (c : Nat) (lo n : Nat) : zT d → (zT d → Bool) → Bool := Nat.rec (motive := fun _ => zT d → (zT d → Bool) → Bool) (fun t K => K t) (fun m r t K => zwp c (zget d t (Nat.add lo m)) (fun y => zF (fun b => zsetK d t b y (fun t => r t K)) (Nat.add lo m))) n
theorem zwr_t {c lo : Nat} : ∀ (n : Nat) (t : zT d) {K : zT d → Bool}, zwr c lo n t K = true → ∃ t', K t' = true
  | 0, t, K, h => ⟨t, h⟩
  | n + 1, t, K, h => by
    have h : zwp c (zget d t (Nat.add lo n)) (fun y => zF (fun b => zsetK d t b y (fun t => zwr c lo n t K)) (Nat.add lo n)) = true := h
    obtain ⟨y, h⟩ := zwp_t h
    rw [zF_eq, zsetK_eq] at h
    exact zwr_t n _ h
/-- the rows of an array of rows, which lie behind one another -/
noncomputable def wkR (i : Nat) (fs : List Nat) (c : Nat) (w : zWk d) : zWk d := fun L h K => zpp i fs L h (fun b => Prod.rec (motive := fun _ => Bool) (fun kd v => Prod.rec (motive := fun _ => Bool) (fun len x => zF (fun lo => zwr c lo len h.1 (fun t => w L (t, h.2) K)) (cond (Nat.beq kd 12) (Nat.mod x 1048576) (Nat.pred (zwd 40 x 0)))) v) (zget d h.1 b))
theorem wkR_ok {i c : Nat} {fs : List Nat} {w : zWk d} (hw : zWkOK w) : zWkOK (wkR i fs c w) := fun L h K hk => by
  obtain ⟨b, hk⟩ := zpp_t hk
  generalize zget d h.1 b = e at hk
  obtain ⟨kd, len, x⟩ := e
  have hk : zF (fun lo => zwr c lo len h.1 (fun t => w L (t, h.2) K)) (cond (Nat.beq kd 12) (Nat.mod x 1048576) (Nat.pred (zwd 40 x 0))) = true := hk
  rw [zF_eq] at hk
  obtain ⟨t, hk⟩ := zwr_t len _ hk
  exact hw _ _ _ hk
/-- rows in any order -/
noncomputable def wk12 (i : Nat) (fs : List Nat) (w : zWk d) : zWk d := fun L h K => zpp i fs L h (fun b => Prod.rec (motive := fun _ => Bool) (fun kd v => Prod.rec (motive := fun _ => Bool) (fun len x => cond (Nat.beq kd 12) (w L h K) (zF (fun y => zsetK d h.1 b (12, len, y) (fun t => w L (t, h.2) K)) (Nat.add (Nat.pred (zwd 40 x 0)) (Nat.mul 1048576 (Nat.add (Nat.pred (zwd 40 x 0)) len))))) v) (zget d h.1 b))
theorem wk12_ok {i : Nat} {fs : List Nat} {w : zWk d} (hw : zWkOK w) : zWkOK (wk12 i fs w) := fun L h K hk => by
  obtain ⟨b, hk⟩ := zpp_t hk
  generalize zget d h.1 b = e at hk
  obtain ⟨kd, len, x⟩ := e
  have hk : cond (Nat.beq kd 12) (w L h K) (zF (fun y => zsetK d h.1 b (12, len, y) (fun t => w L (t, h.2) K)) (Nat.add (Nat.pred (zwd 40 x 0)) (Nat.mul 1048576 (Nat.add (Nat.pred (zwd 40 x 0)) len)))) = true := hk
  cases h1 : Nat.beq kd 12
  · rw [h1, cond_false, zF_eq, zsetK_eq] at hk
    exact hw _ _ _ hk
  · rw [h1, cond_true] at hk
    exact hw _ _ _ hk
/-- an object's number -/
noncomputable def wkF (i : Nat) (fs : List Nat) (j c : Nat) (w : zWk d) : zWk d := fun L h K => zpp i fs L h (fun b => Prod.rec (motive := fun _ => Bool) (fun kd v => Prod.rec (motive := fun _ => Bool) (fun len x => zF (fun y => zsetK d h.1 b (kd, len, y) (fun t => w L (t, h.2) K)) (zup 40 x j c)) v) (zget d h.1 b))
theorem wkF_ok {i j c : Nat} {fs : List Nat} {w : zWk d} (hw : zWkOK w) : zWkOK (wkF i fs j c w) := fun L h K hk => by
  obtain ⟨b, hk⟩ := zpp_t hk
  generalize zget d h.1 b = e at hk
  obtain ⟨kd, len, x⟩ := e
  have hk : zF (fun y => zsetK d h.1 b (kd, len, y) (fun t => w L (t, h.2) K)) (zup 40 x j c) = true := hk
  rw [zF_eq, zsetK_eq] at hk
  exact hw _ _ _ hk
/-- bounds -/
noncomputable def hsC (n : Nat) : zHs d := fun _ _ K => K n
theorem hsC_ok {n : Nat} : zHsOK (hsC n : zHs d) := fun _ _ _ hk => ⟨n, hk⟩
noncomputable def hsL (i : Nat) : zHs d := fun L _ K => znth i L (fun v => Sum.rec (motive := fun _ => Bool) (fun n => zF K (zhi n)) (fun _ => false) v)
theorem hsL_ok {i : Nat} : zHsOK (hsL i : zHs d) := fun L h K hk => by
  obtain ⟨v, hv, hk2⟩ := znth_t i hk
  match v, hk2 with
  | .inl n, hk2 =>
    have hk2 : zF K (zhi n) = true := hk2
    rw [zF_eq] at hk2
    exact ⟨_, hk2⟩
noncomputable def hsF (i : Nat) (fs : List Nat) (j : Nat) : zHs d := fun L h K => zpp i fs L h (fun b => Prod.rec (motive := fun _ => Bool) (fun _ v => Prod.rec (motive := fun _ => Bool) (fun _ x => zF K (zhi (zwd 40 x j))) v) (zget d h.1 b))
theorem hsF_ok {i j : Nat} {fs : List Nat} : zHsOK (hsF i fs j : zHs d) := fun L h K hk => by
  obtain ⟨b, hk⟩ := zpp_t hk
  generalize zget d h.1 b = e at hk
  obtain ⟨kd, len, x⟩ := e
  have hk : zF K (zhi (zwd 40 x j)) = true := hk
  rw [zF_eq] at hk
  exact ⟨_, hk⟩
noncomputable def hsA (i : Nat) (fs : List Nat) : zHs d := fun L h K => zpp i fs L h (fun b => Prod.rec (motive := fun _ => Bool) (fun _ v => Prod.rec (motive := fun _ => Bool) (fun len _ => zF K (Nat.succ len)) v) (zget d h.1 b))
theorem hsA_ok {i : Nat} {fs : List Nat} : zHsOK (hsA i fs : zHs d) := fun L h K hk => by
  obtain ⟨b, hk⟩ := zpp_t hk
  generalize zget d h.1 b = e at hk
  obtain ⟨kd, len, x⟩ := e
  have hk : zF K (Nat.succ len) = true := hk
  rw [zF_eq] at hk
  exact ⟨_, hk⟩
end WEAK
/-- the stack behind a join: some go, some come -/
noncomputable def zsp (ps : List zV) (n : Nat) : List zV → (List zV → Bool) → Bool := Nat.rec (motive := fun _ => List zV → (List zV → Bool) → Bool) (fun S K => List.rec (motive := fun _ => (List zV → Bool) → Bool) (fun K => K S) (fun v _ r K => r (fun t => K (v :: t))) ps K) (fun _ r S K => List.rec (motive := fun _ => Bool) false (fun _ t _ => r t K) S) n
theorem zsp_ok (ps : List zV) : ∀ (n : Nat) (S : List zV) (K : List zV → Bool), zsp ps n S K = true → ∃ S0, K S0 = true
  | 0, S, K, h => by
    have key : ∀ (ps : List zV) (K : List zV → Bool), List.rec (motive := fun _ => (List zV → Bool) → Bool) (fun K => K S) (fun v _ r K => r (fun t => K (v :: t))) ps K = true → ∃ S0, K S0 = true := by
      intro ps
      induction ps with
      | nil => intro K h; exact ⟨S, h⟩
      | cons v ps ih =>
        intro K h
        obtain ⟨S0, h0⟩ := ih (fun t => K (v :: t)) h
        exact ⟨_, h0⟩
    exact key ps K h
  | n + 1, [], K, h => by cases h
  | n + 1, v :: S, K, h => zsp_ok ps n S K h
/-- words to a place within bounds, where all words are alike -/
noncomputable def zalA (x0 w : Nat) (sp n : Nat) : Bool := Nat.rec (motive := fun _ => Bool) true (fun m r => cond (zsubI (zwd 40 x0 (Nat.add sp m)) w) r false) n
theorem zalA_t {x0 w sp : Nat} : ∀ {n : Nat}, zalA x0 w sp n = true → ∀ m, m < n → zsubI (zwd 40 x0 (sp + m)) w = true
  | 0, _, m, hm => absurd hm (Nat.not_lt_zero m)
  | n + 1, h, m, hm => by
    have h : cond (zsubI (zwd 40 x0 (sp + n)) w) (zalA x0 w sp n) false = true := h
    obtain ⟨h1, h2⟩ := zcnd_t h
    rcases Nat.lt_succ_iff_lt_or_eq.mp hm with q | rfl
    · exact zalA_t h2 m q
    · exact h1
section OPS
variable {d : Nat} {X : zM} {fr : Nat} {P : zP d} {pc : Nat} {k : zK d}
noncomputable def xcpU (k : zK d) : zK d := fun L S h => zpI S (fun n S => zpI S (fun dp S => zpR S (fun r1 S => zpI S (fun sp S => zpR S (fun r0 S => zle4 S (cond (Nat.ble n 100000) (cond (Nat.ble (zhi dp) 100000) (cond (Nat.ble sp 100000) (zat h r0 (fun _ _ _ kd0 len0 x0 => zat h r1 (fun _ _ _ kd1 len1 x1 => cond (Nat.beq kd0 0) (cond (Nat.beq kd1 0) (cond (Nat.ble (Nat.add sp n) len0) (cond (Nat.ble (Nat.add (zhi dp) n) (Nat.succ len1)) (cond (Nat.beq x1 (zun 40 len1 (zwd 40 x1 0))) (cond (zalA x0 (zwd 40 x1 0) sp n) (k L S h) false) false) false) false) false) false))) false) false) false))))))
theorem sm_copyU [G : zGh] {index : Nat} (hlink : Cond.methodLink X.1 index arraycopyName ∈ ztbl) (hnat : Cond.native arraycopyName ∈ ztbl) (hstat : Cond.static arraycopyName ∈ ztbl) (hini : Cond.initialized "java/lang/System" ∈ ztbl) (hfr : 1 ≤ fr) (dg : decode X.2.1 pc = .ok (.invokestatic index, 3)) (hs : zSim X fr P (pc + 3) k) : zSim X fr P pc (xcpU k) := by
  intro Ch cA D ad0 A MC MS p l e s m args below meth c ls st H locs cells slots L S h Cx hk R0
  obtain ⟨ws, hHp, hpre, hP, hD, hS, hL, hst, hcb, hsb⟩ := R0
  obtain ⟨n, S, rfl, hk1⟩ := zpI_t hk
  obtain ⟨dp, S, rfl, hk2⟩ := zpI_t hk1
  obtain ⟨r1, S, rfl, hk3⟩ := zpR_t hk2
  obtain ⟨sp, S, rfl, hk4⟩ := zpI_t hk3
  obtain ⟨r0, S, rfl, hk5⟩ := zpR_t hk4
  obtain ⟨jn, st, rfl, hn, hst1⟩ := zRepL_I hst
  obtain ⟨jd, st, rfl, hdp, hst2⟩ := zRepL_I hst1
  obtain ⟨o1, st, rfl, ho1, hst3⟩ := zRepL_R hst2
  obtain ⟨js, st, rfl, hsp, hst4⟩ := zRepL_I hst3
  obtain ⟨o0, st, rfl, ho0, hst5⟩ := zRepL_R hst4
  obtain ⟨h4, hk6⟩ := zle4_t hk5
  obtain ⟨b1, hk6⟩ := zcnd_t hk6
  obtain ⟨b2, hk6⟩ := zcnd_t hk6
  obtain ⟨b3, hk6⟩ := zcnd_t hk6
  obtain ⟨i0, kd0, len0, x0, rfl, hg0, hk7⟩ := zat_t hk6
  obtain ⟨i1, kd1, len1, x1, rfl, hg1, hk8⟩ := zat_t hk7
  obtain ⟨b4, hk9⟩ := zcnd_t hk8
  obtain ⟨b5, hk10⟩ := zcnd_t hk9
  obtain ⟨b6, hk11⟩ := zcnd_t hk10
  obtain ⟨b7, hk12⟩ := zcnd_t hk11
  obtain ⟨b8, hk13⟩ := zcnd_t hk12
  obtain ⟨b9, hk14⟩ := zcnd_t hk13
  clear hk7 hk8 hk9 hk10 hk11 hk12 hk13
  have e0 := Nat.eq_of_beq_eq_true b4
  have e1 := Nat.eq_of_beq_eq_true b5
  subst e0
  subst e1
  obtain ⟨a0, en0, rfl, hw0, hc0⟩ := zat_w hHp ho0
  obtain ⟨a1, en1, rfl, hw1, hc1⟩ := zat_w hHp ho1
  rw [hg0] at hc0
  rw [hg1] at hc1
  obtain ⟨hl0, f0, rfl, hf0⟩ := zCell_i hc0 (by decide)
  obtain ⟨hl1, f1, rfl, hf1⟩ := zCell_i hc1 (by decide)
  have hdl := zhi_ok hdp
  have hd0 := Nat.le_of_ble_eq_true b2
  obtain ⟨n1, n2⟩ := zi_len hn.1 (Nat.le_of_ble_eq_true b1)
  obtain ⟨d1, d2⟩ := zi_len (i := jd) (n := zi jd) (fun _ => rfl) (by omega)
  obtain ⟨s1, s2⟩ := zi_len hsp.1 (Nat.le_of_ble_eq_true b3)
  have hle0 : sp + n ≤ len0 := Nat.le_of_ble_eq_true b6
  have hle1 : zhi dp + n ≤ len1 + 1 := Nat.le_of_ble_eq_true b7
  have hcat := zcat hst5
  refine va_copyi (ty := .int) Cx.1 Cx.2.1 (by rw [Cx.2.2.1]; exact hL.2.choose_spec.1.1.symm) Cx.2.2.2.1 (Cx.2.2.2.2.1 _ hlink) (Cx.2.2.2.2.1 _ hnat) (Cx.2.2.2.2.1 _ hstat) (Cx.2.2.2.2.1 _ hini) Cx.2.2.2.2.2.1 hP hD hS i0 i1 0 0 hw0 hw1 rfl rfl rfl s1 d1 n1 (by rw [s2, n2]; exact hle0) (by rw [d2, n2]; omega) (fun _ _ => rfl) hfr (by show (st.map fun v => v.category).sum + (nativeFrameWords "java/lang/System" "arraycopy" 5 + 11) ≤ 64 * fr; rw [znfw]; omega) dg (fun H1 locs1 hP1 hD1 hS1 => ?_)
  have hz := zad_set (cA := cA) (e' := .inl (cA 0, len1, .inl (va_cpy f0 f1 js.toNatClampNeg jd.toNatClampNeg jn.toNatClampNeg))) hw1
  have hnew : zAI len1 x1 (va_cpy f0 f1 js.toNatClampNeg jd.toNatClampNeg jn.toNatClampNeg) := by
    intro j hj
    rw [s2, d2, n2]
    unfold va_cpy
    by_cases q : zi jd ≤ j ∧ j < zi jd + n
    · rw [if_pos q, zun_at b8 hj]
      exact zsubI_a (zwd_lt _ _ _) (zwd_lt _ _ _) (zalA_t b9 (j - zi jd) (by omega)) (hf0 _ (by omega))
    · rw [if_neg q]
      exact hf1 _ hj
  have hH2 := zHp_set hHp hw1 (c' := (0, len1, x1)) (zCell_ik (cA := cA) (by decide) hl1 hnew)
  rw [← hg1, zset_get] at hH2
  exact hs Ch cA D ad0 A MC MS p l e s m args below meth c ls _ H1 locs1 cells slots L _ h Cx hk14 ⟨_, hH2, by rw [hz]; exact hpre, hP1, hD1, hS1, by rw [hz]; exact hL, by rw [hz]; exact hst5, hcb, hsb⟩
/-- whether the place is known -/
noncomputable def zkd (S : List zV) : Bool := zpI S (fun _ S => zpI S (fun dp _ => Nat.ble dp 4294967295))
noncomputable def xcpQ (k : zK d) : zK d := fun L S h => cond (zkd S) (xcpy 0 40 k L S h) (xcpU k L S h)
theorem sm_copyQ [G : zGh] {index : Nat} (hlink : Cond.methodLink X.1 index arraycopyName ∈ ztbl) (hnat : Cond.native arraycopyName ∈ ztbl) (hstat : Cond.static arraycopyName ∈ ztbl) (hini : Cond.initialized "java/lang/System" ∈ ztbl) (hfr : 1 ≤ fr) (dg : decode X.2.1 pc = .ok (.invokestatic index, 3)) (hs : zSim X fr P (pc + 3) k) : zSim X fr P pc (xcpQ k) := sm_or (sm_copyI hlink hnat hstat hini hfr dg hs) (sm_copyU hlink hnat hstat hini hfr dg hs)
end OPS
end
section
/-! two fields compared, and what is then known; rows stored in any order; a divisor that isn't 0 -/
def zbw (m : Nat) : Nat := cond (Nat.ble 2147483648 m) 4294967296 (cond (Nat.beq m 0) 4294967296 (Nat.add 4294967296 m))
theorem zbw_lt (m : Nat) : zbw m < 549755813888 := by
  unfold zbw
  cases h : Nat.ble 2147483648 m
  · have := zble_f h
    rw [cond_false]
    cases Nat.beq m 0
    · show 4294967296 + m < 549755813888
      omega
    · rw [cond_true]; decide
  · rw [cond_true]; decide
theorem zbw_lt38 (m : Nat) : zbw m < 274877906944 := by
  unfold zbw
  cases h : Nat.ble 2147483648 m
  · have := zble_f h
    rw [cond_false]
    cases Nat.beq m 0
    · show 4294967296 + m < 274877906944
      omega
    · rw [cond_true]; decide
  · rw [cond_true]; decide
theorem zbw_ok {m : Nat} {i : Int32} (h : zi i < m) : zIa (zbw m) i := by
  unfold zbw
  have un : zIa 4294967296 i := ⟨fun q => absurd q (Nat.lt_irrefl _), fun q => absurd q (Nat.lt_irrefl _)⟩
  cases h1 : Nat.ble 2147483648 m
  · rw [cond_false]
    cases h2 : Nat.beq m 0
    · show zIa (4294967296 + m) i
      exact ⟨fun q => absurd q (by omega), fun _ _ => by omega⟩
    · exact un
  · exact un
section OPS
variable {d : Nat} {X : zM} {fr : Nat} {P : zP d} {pc pc' tgt : Nat} {off : Int} {k kt kf : zK d}
noncomputable def xfc (kc n1 n2 : Nat) (kt kf : zK d) : zK d := fun L S h => znth 0 L (fun v => Sum.rec (motive := fun _ => Bool) (fun _ => false) (fun u => Sum.rec (motive := fun _ => Bool) (fun r => zat h r (fun t u j kd len x => cond (Nat.beq kd kc) (Nat.rec (motive := fun _ => Bool) (kf L S h) (fun m _ => Nat.rec (motive := fun _ => Bool) (kt L S h) (fun _ _ => and (kt L S h) (zF (fun y => zsetK d t j (kd, len, y) (fun t => kf L S (t, u))) (zup 40 x n1 (zbw (Nat.min (zhi (zwd 40 x n1)) (rhLt (zwd 40 x n1) (zwd 40 x n2))))))) m) (tgeR (zwd 40 x n1) (zwd 40 x n2))) false)) (fun _ => false) u) v)
theorem sm_fcmp [G : zGh] {ci kc n1 n2 ix1 ix2 : Nat} {C rf1 rf2 : String} {T : u_T} {N : Nat} {f1 f2 : Fin 4} (hkc : 16 + ci = kc) (hz1 : zisR (zfty ci n1) = false) (hz2 : zisR (zfty ci n2) = false) (hin : ∀ w ∈ u_ws C T N, w ∈ ztbl) (hc : zcl[ci]? = some (C, T, N)) (hn1 : n1 < N) (hn2 : n2 < N) (hN : N = zN ci) (hl1 : Cond.fieldLink X.1 ix1 rf1 (T n1).2.1 (T n1).2.2.1 ∈ ztbl) (hr1 : (T n1).1 = rf1) (hl2 : Cond.fieldLink X.1 ix2 rf2 (T n2).2.1 (T n2).2.2.1 ∈ ztbl) (hr2 : (T n2).1 = rf2)
    (d1 : decode X.2.1 pc = .ok (.aload_n f1, 1)) (e1 : (f1 : Nat) = 0) (d2 : decode X.2.1 (pc + 1) = .ok (.getfield ix1, 3)) (d3 : decode X.2.1 (pc + 1 + 3) = .ok (.aload_n f2, 1)) (e2 : (f2 : Nat) = 0) (d4 : decode X.2.1 (pc + 1 + 3 + 1) = .ok (.getfield ix2, 3)) (d5 : decode X.2.1 (pc + 1 + 3 + 1 + 3) = .ok (.if_icmp .ge off, 3)) (ht : ((pc + 1 + 3 + 1 + 3 : Nat) : Int) + off = (tgt : Int)) (h1 : zSim X fr P tgt kt) (h2 : zSim X fr P (pc + 1 + 3 + 1 + 3 + 3) kf) : zSim X fr P pc (xfc kc n1 n2 kt kf) := by
  subst hkc
  intro Ch cA D ad0 A MC MS p l e s m args below meth c ls st H locs cells slots L S h Cx hk R0
  obtain ⟨ws, hHp, hpre, hP, hD, hS, hL, hst, hcb, hsb⟩ := R0
  obtain ⟨v, hv, hk2⟩ := znth_t 0 hk
  match v, hv, hk2 with
  | .inr (.inl r), hv, hk2 =>
    obtain ⟨x0, hx0, o, rfl, ho⟩ := zLoc_at hL hv (by intro q; cases q)
    obtain ⟨j, kd, len, x, rfl, hg, hk3⟩ := zat_t hk2
    obtain ⟨a, en, rfl, hwi, hcell⟩ := zat_w hHp ho
    rw [hg] at hcell
    obtain ⟨hb, hk4⟩ := zcnd_t hk3
    clear hk2 hk3
    have ekd := Nat.eq_of_beq_eq_true hb
    obtain ⟨fs, rfl, hlen, hfl⟩ := zCell_obj hcell ekd
    have fld : ∀ n, n < N → zisR (zfty ci n) = false → ∃ i : Int32, fs[n]? = some (.int i) ∧ zIs (zwd 40 x n) i := by
      intro n hn hz
      have hlt : n < fs.length := by rw [hlen, ← hN]; exact hn
      have hv : fs[n]? = some fs[n] := List.getElem?_eq_getElem hlt
      have hf := hfl n _ hv
      unfold zFl at hf
      rw [hz, cond_false] at hf
      obtain ⟨i, e1, e2, -⟩ := hf
      exact ⟨i, by rw [hv, e1], zIs_a e2.1 (zwd_lt _ _ _)⟩
    obtain ⟨i1, v1, z1⟩ := fld n1 hn1 hz1
    obtain ⟨i2, v2, z2⟩ := fld n2 hn2 hz2
    refine lv_aload_n Cx.1 Cx.2.1 d1 e1 hx0 ?_
    refine va_get (rest := st) Cx.1 Cx.2.1 Cx.2.2.2.2.1 hin Cx.2.2.2.1 Cx.2.2.2.2.2.1 hP j hwi hc n1 hn1 (Cx.2.2.2.2.1 _ hl1) (fun x hx => by rw [← hr1]; exact hx) v1 d2 ?_
    refine lv_aload_n Cx.1 Cx.2.1 d3 e2 hx0 ?_
    refine va_get (rest := .int i1 :: st) Cx.1 Cx.2.1 Cx.2.2.2.2.1 hin Cx.2.2.2.1 Cx.2.2.2.2.2.1 hP j hwi hc n2 hn2 (Cx.2.2.2.2.1 _ hl2) (fun x hx => by rw [← hr2]; exact hx) v2 d4 ?_
    have key : (i2 ≤ i1 → kt L S h = true) ∧ (¬ i2 ≤ i1 → kf L S h = true ∨ kf L S (zset d h.1 j (kd, len, zup 40 x n1 (zbw (Nat.min (zhi (zwd 40 x n1)) (rhLt (zwd 40 x n1) (zwd 40 x n2))))), h.2) = true) := by
      rcases zT3_t hk4 with ⟨q0, g⟩ | ⟨q1, g⟩ | g
      · exact ⟨fun z => absurd z ((tgeR_ok z1 z2).2 q0), fun _ => Or.inl g⟩
      · exact ⟨fun _ => g, fun z => absurd ((tgeR_ok z1 z2).1 q1) z⟩
      · rw [Bool.and_eq_true, zF_eq, zsetK_eq] at g
        exact ⟨fun _ => g.1, fun _ => Or.inr g.2⟩
    refine lv_icmp_ge Cx.1 Cx.2.1 d5 ht (fun hq => ?_) (fun hq => ?_)
    · exact h1 Ch cA D ad0 A MC MS p l e s m args below meth c ls _ H locs cells slots L _ h Cx (key.1 hq) ⟨ws, hHp, hpre, hP, hD, hS, hL, hst, hcb, hsb⟩
    · rcases key.2 hq with g | g
      · exact h2 Ch cA D ad0 A MC MS p l e s m args below meth c ls _ H locs cells slots L _ h Cx g ⟨ws, hHp, hpre, hP, hD, hS, hL, hst, hcb, hsb⟩
      · have hlt : zi i1 < Nat.min (zhi (zwd 40 x n1)) (rhLt (zwd 40 x n1) (zwd 40 x n2)) := Nat.lt_min.mpr ⟨zhi_ok z1, (rb_lt z1 z2 hq).2⟩
        have hcell2 : zCell cA (zad cA ws) (16 + ci, len, zup 40 x n1 (zbw (Nat.min (zhi (zwd 40 x n1)) (rhLt (zwd 40 x n1) (zwd 40 x n2))))) (.inr (ci, fs)) := zCell_ok hlen (fun q v hv => by
          by_cases hq : n1 = q
          · subst hq
            rw [zwd_up_same _ _ _ _ (Nat.lt_trans (zbw_lt _) (by decide))]
            rw [v1] at hv
            cases hv
            unfold zFl
            rw [hz1, cond_false]
            exact ⟨i1, rfl, ⟨zbw_ok hlt, fun z => absurd z (Nat.ne_of_lt (zbw_lt _))⟩, fun z => absurd z (Nat.not_lt.mpr (Nat.le_of_lt (zbw_lt _))), fun z => absurd z (Nat.not_le.mpr (zbw_lt38 _))⟩
          · rw [zwd_up_ne _ _ _ _ _ (Nat.lt_trans (zbw_lt _) (by decide)) hq]
            exact hfl q v hv)
        rw [← ekd] at hcell2
        have hH2 := zHp_set hHp hwi hcell2
        have hse : ws.set j (a, .inr (ci, fs)) = ws := by
          apply List.ext_getElem?
          intro q
          rw [List.getElem?_set]
          by_cases hq2 : j = q
          · subst hq2
            rw [if_pos rfl, if_pos (List.getElem?_eq_some_iff.mp hwi).1, hwi]
          · rw [if_neg hq2]
        rw [hse] at hH2
        exact h2 Ch cA D ad0 A MC MS p l e s m args below meth c ls _ H locs cells slots L _ _ Cx g ⟨ws, hH2, hpre, hP, hD, hS, hL, hst, hcb, hsb⟩
/-- a long local against 0: kt where it is 0 -/
noncomputable def xlz (n : Nat) (kt kf : zK d) : zK d := fun L S h => znth n L (fun v => Sum.rec (motive := fun _ => Bool) (fun _ => false) (fun u => Sum.rec (motive := fun _ => Bool) (fun _ => false) (fun w => Sum.rec (motive := fun _ => Bool) (fun a => cond (Nat.ble 18446744073709551616 a) (and (kt L S h) (zst (Nat.succ n) zU L (fun L => zst n (zL 1606938044258990275541962092341162602527285592350703190540288) L (fun L => kf L S h)))) (cond (Nat.beq a 0) (kt L S h) (kf L S h))) (fun _ => false) w) u) v)
/-- quotients of longs, also by one that isn't 0 and else not known -/
noncomputable def xdvQ (k : zK d) : zK d := fun L S h => zpL S (fun b S => zpL S (fun a S => cond (Nat.ble 4722366482869645213696 b) (cond (Nat.ble 1 (Nat.mod (Nat.div b 4722366482869645213696) 18446744073709551616)) (k L (zL 18446744073709551616 :: S) h) false) false))
theorem sm_dvU [G : zGh] (dg : decode X.2.1 pc = .ok (.ldiv, 1)) (hs : zSim X fr P (pc + 1) k) : zSim X fr P pc (xdvQ k) := sm_go (fun ad L S h st hk hst => by
  obtain ⟨b, S, rfl, hk1⟩ := zpL_t hk
  obtain ⟨a, S, rfl, hk2⟩ := zpL_t hk1
  obtain ⟨y, st, rfl, hy, hst⟩ := zRepL_L hst
  obtain ⟨x, st, rfl, hx, hst⟩ := zRepL_L hst
  obtain ⟨c1, hk3⟩ := zcnd_t hk2
  obtain ⟨c2, hk4⟩ := zcnd_t hk3
  have hy2 := (hy.2 (Nat.le_of_ble_eq_true c1)).1
  have c2' : 1 ≤ b / 4722366482869645213696 % 18446744073709551616 := Nat.le_of_ble_eq_true c2
  have hne : ¬ y = 0 := fun q => by rw [q, zj_z] at hy2; omega
  exact ⟨_, [.long y, .long x], [.long (x / y)], st, hk4, rfl, (fun hx hb kk => lv_ldiv hx hb dg hne kk), ⟨⟨_, rfl, zJs_of (fun q => absurd q (Nat.lt_irrefl _)) (by decide)⟩, hst⟩⟩) hs
noncomputable def zkl (S : List zV) : Bool := zpL S (fun b _ => Nat.ble b 18446744073709551615)
theorem sm_ldivQ [G : zGh] (dg : decode X.2.1 pc = .ok (.ldiv, 1)) (hs : zSim X fr P (pc + 1) k) : zSim X fr P pc (fun L S h => cond (zkl S) (xbinjN zdivj k L S h) (xdvQ k L S h)) := sm_or (sm_ldiv dg hs) (sm_dvU dg hs)
/-- a number that is marked, read -/
noncomputable def xgfM (kc n : Nat) (k : zK d) : zK d := fun L S h => zpR S (fun r S => zat h r (fun _ _ _ kd _ x => cond (Nat.beq kd kc) (zF (fun v => k L (zI v :: S) h) (cond (Nat.beq (zwd 40 x n) 549755813888) 4294968017 (zwd 40 x n))) false))
theorem sm_getfieldM [G : zGh] {ci kc n index : Nat} {C ref : String} {T : u_T} {N : Nat} (hkc : 16 + ci = kc) (hw : zisR (zfty ci n) = false) (hin : ∀ w ∈ u_ws C T N, w ∈ ztbl) (hc : zcl[ci]? = some (C, T, N)) (hn : n < N) (hN : N = zN ci) (hlink : Cond.fieldLink X.1 index ref (T n).2.1 (T n).2.2.1 ∈ ztbl) (href : (T n).1 = ref) (dg : decode X.2.1 pc = .ok (.getfield index, 3)) (hs : zSim X fr P (pc + 3) k) : zSim X fr P pc (xgfM kc n k) := by
  subst hkc
  intro Ch cA D ad0 A MC MS p l e s m args below meth c ls st H locs cells slots L S h Cx hk R0
  obtain ⟨ws, hHp, hpre, hP, hD, hS, hL, hst, hcb, hsb⟩ := R0
  obtain ⟨r, S, rfl, hk1⟩ := zpR_t hk
  obtain ⟨o, st, rfl, ho, hst2⟩ := zRepL_R hst
  obtain ⟨i, kd, len, x, rfl, hg, hk2⟩ := zat_t hk1
  obtain ⟨a, en, rfl, hwi, hcell⟩ := zat_w hHp ho
  rw [hg] at hcell
  obtain ⟨hb, hk3⟩ := zcnd_t hk2
  clear hk2
  rw [zF_eq] at hk3
  obtain ⟨fs, rfl, hlen, hfl⟩ := zCell_obj hcell (Nat.eq_of_beq_eq_true hb)
  have hlt : n < fs.length := by rw [hlen, ← hN]; exact hn
  have hv : fs[n]? = some fs[n] := List.getElem?_eq_getElem hlt
  have hf := hfl n _ hv
  unfold zFl at hf
  rw [hw, cond_false] at hf
  obtain ⟨iv, e1, e2, -⟩ := hf
  have hz : zIs (cond (Nat.beq (zwd 40 x n) 549755813888) 4294968017 (zwd 40 x n)) iv := by
    cases hq : Nat.beq (zwd 40 x n) 549755813888
    · exact zIs_a e2.1 (zwd_lt _ _ _)
    · obtain ⟨u1, u2⟩ := e2.2 (Nat.eq_of_beq_eq_true hq)
      rw [cond_true]
      exact zIs_a ⟨fun q => absurd q (by decide), fun _ _ => by omega⟩ (by decide)
  exact va_get (rest := st) Cx.1 Cx.2.1 Cx.2.2.2.2.1 hin Cx.2.2.2.1 Cx.2.2.2.2.2.1 hP i hwi hc n hn (Cx.2.2.2.2.1 _ hlink) (fun x hx => by rw [← href]; exact hx) hv dg (hs Ch cA D ad0 A MC MS p l e s m args below meth c ls _ H locs cells slots L _ h Cx hk3 ⟨ws, hHp, hpre, hP, hD, hS, hL, ⟨⟨iv, e1, hz⟩, hst2⟩, hcb, hsb⟩)
end OPS
end
section
/-! rows that lie side by side, at a place within bounds; rows stored; symbols for any number; longs against 0 -/
section OPS
variable {d : Nat} {X : zM} {fr : Nat} {P : zP d} {pc pc' tgt : Nat} {off : Int} {k kt kf : zK d}
noncomputable def xaa3 (k : zK d) : zK d := fun L S h => zpI S (fun n S => zpR S (fun r S => zat h r (fun _ _ _ kd len x => cond (Nat.beq kd 3) (cond (Nat.ble (zhi n) len) (cond (Nat.ble len 1000) (cond (Nat.ble (zwd 40 x 0) 1000000) (cond (zall len (fun j => Nat.beq (zwd 40 x j) (Nat.add (zwd 40 x 0) j))) (cond (Nat.ble 1 (zwd 40 x 0)) (zF (fun v => k L (zW v :: S) h) (Nat.add (Nat.pred (zwd 40 x 0)) (Nat.mul 1048576 (Nat.add (Nat.pred (zwd 40 x 0)) len)))) false) false) false) false) false) false)))
theorem sm_aa3 [G : zGh] (dg : decode X.2.1 pc = .ok (.aaload, 1)) (hs : zSim X fr P (pc + 1) k) : zSim X fr P pc (xaa3 k) := by
  intro Ch cA D ad0 A MC MS p l e s m args below meth c ls st H locs cells slots L S h Cx hk R0
  obtain ⟨ws, hHp, hpre, hP, hD, hS, hL, hst, hcb, hsb⟩ := R0
  obtain ⟨n, S, rfl, hk1⟩ := zpI_t hk
  obtain ⟨r, S, rfl, hk2⟩ := zpR_t hk1
  obtain ⟨i, st, rfl, hi, hst1⟩ := zRepL_I hst
  obtain ⟨o, st, rfl, ho, hst2⟩ := zRepL_R hst1
  obtain ⟨j, kd, len, x, rfl, hg, hk3⟩ := zat_t hk2
  obtain ⟨a, en, rfl, hwi, hcell⟩ := zat_w hHp ho
  rw [hg] at hcell
  obtain ⟨hb, hk4⟩ := zcnd_t hk3
  obtain ⟨hh, hk5⟩ := zcnd_t hk4
  obtain ⟨h1, hk6⟩ := zcnd_t hk5
  obtain ⟨h2, hk7⟩ := zcnd_t hk6
  obtain ⟨h3, hk8⟩ := zcnd_t hk7
  obtain ⟨h4, hk9⟩ := zcnd_t hk8
  clear hk3 hk4 hk5 hk6 hk7 hk8
  rw [zF_eq] at hk9
  have hb2 := Nat.eq_of_beq_eq_true hb
  subst hb2
  obtain ⟨hlen, f, rfl, hf⟩ := zCell_r hcell (by decide) (by decide)
  obtain ⟨g1, g2, g3⟩ := zi_idxR hi hlen (Nat.le_of_ble_eq_true hh)
  have e1 := Nat.le_of_ble_eq_true h1
  have e2 := Nat.le_of_ble_eq_true h2
  have e4 := Nat.le_of_ble_eq_true h4
  have ew : zwd 40 x (zi i) = zwd 40 x 0 + zi i := Nat.eq_of_beq_eq_true (zall_t h3 (zi i) g3)
  have hfi := hf (zi i) g3
  rw [ew] at hfi
  generalize hw0 : zwd 40 x 0 = w at *
  obtain ⟨a0, ha0, hfa⟩ : ∃ a0, (zad cA ws).1[w - 1 + zi i]? = some a0 ∧ f (zi i) = some a0 := by
    rcases hfi with ⟨-, ⟨z, -⟩ | ⟨k0, a0, z1, z2, z3⟩⟩ | ⟨z, -⟩
    · omega
    · have : k0 = w - 1 + zi i := by omega
      rw [this] at z2
      exact ⟨a0, z2, z3⟩
    · omega
  have hlt : i.toNatClampNeg < len := by rw [g2]; exact g3
  have hv : Nat.add (Nat.pred w) (Nat.mul 1048576 (Nat.add (Nat.pred w) len)) = (w - 1) + 1048576 * (w - 1 + len) := rfl
  rw [hv] at hk9
  have m1 : ((w - 1) + 1048576 * (w - 1 + len)) % 1048576 = w - 1 := by omega
  have m2 : ((w - 1) + 1048576 * (w - 1 + len)) / 1048576 = w - 1 + len := by omega
  exact W.aald (v := va_rf (f i.toNatClampNeg)) (ty := .array .int) Cx.1 Cx.2.1 (hP j _ hwi) ((Cx.2.2.2.2.2.1.2 3 _ rfl).1 len (fun j => va_rf (f j))) rfl (fun q => by cases q) (by show ¬ (i < 0 ∨ (arrV _ _ _).slots.size ≤ _); rw [arrV_size]; exact g1) (by show (arrV _ _ _).slots[_]? = _; rw [arrV_read _ _ hlt]) rfl rfl dg (hs Ch cA D ad0 A MC MS p l e s m args below meth c ls _ H locs cells slots L _ h Cx hk9 ⟨ws, hHp, hpre, hP, hD, hS, hL, ⟨Or.inl ⟨by omega, w - 1 + zi i, a0, by rw [m1]; omega, by rw [m2]; omega, ha0, by rw [g2, hfa]; rfl⟩, hst2⟩, hcb, hsb⟩)
noncomputable def zk3 (h : zH d) (S : List zV) : Bool := zpI S (fun n S => cond (Nat.ble 4294967296 n) (zpR S (fun r _ => zat h r (fun _ _ _ kd _ _ => Nat.beq kd 3))) false)
noncomputable def xaaT (k : zK d) : zK d := fun L S h => cond (zk3 h S) (xaa3 k L S h) (xaaQ k L S h)
theorem sm_aaloadT [G : zGh] (dg : decode X.2.1 pc = .ok (.aaload, 1)) (hs : zSim X fr P (pc + 1) k) : zSim X fr P pc (xaaT k) := sm_or2 (sm_aa3 dg hs) (sm_aaloadQ dg hs)
/-- dup2 of a reference and a place -/
noncomputable def zp1V (S : List zV) (k : zV → List zV → Bool) : Bool := List.rec (motive := fun _ => Bool) false (fun v t _ => Sum.rec (motive := fun _ => Bool) (fun n => k (zI n) t) (fun u => Sum.rec (motive := fun _ => Bool) (fun n => k (zR n) t) (fun w => Sum.rec (motive := fun _ => Bool) (fun _ => false) (fun m => k (zW m) t) w) u) v) S
theorem zp1V_t [G : zGh] {S : List zV} {k : zV → List zV → Bool} (h : zp1V S k = true) : ∃ v t, S = v :: t ∧ (∀ ad x, zRep ad v x → x.category = 1) ∧ k v t = true := by
  match S, h with
  | .inl n :: t, h => exact ⟨_, t, rfl, fun ad x ⟨i, e, _⟩ => by rw [e]; rfl, h⟩
  | .inr (.inl n) :: t, h => exact ⟨_, t, rfl, fun ad x ⟨o, e, _⟩ => by rw [e]; cases o <;> rfl, h⟩
  | .inr (.inr (.inr n)) :: t, h => exact ⟨_, t, rfl, fun ad x hx => by obtain ⟨o, rfl⟩ := zW_rf hx; cases o <;> rfl, h⟩
noncomputable def xdup2V (k : zK d) : zK d := fun L S h => zp1V S (fun v t => zp1V t (fun w u => k L (v :: w :: v :: w :: u) h))
theorem sm_dup2V [G : zGh] (dg : decode X.2.1 pc = .ok (.dup2, 1)) (hs : zSim X fr P (pc + 1) k) : zSim X fr P pc (xdup2V k) := sm_go (fun ad L S h st hk hst => by
  obtain ⟨v, S, rfl, hv, hk1⟩ := zp1V_t hk
  obtain ⟨w, S, rfl, hw, hk2⟩ := zp1V_t hk1
  obtain ⟨x, st, rfl, hx, hst⟩ := zRepL_c hst
  obtain ⟨y, st, rfl, hy, hst⟩ := zRepL_c hst
  exact ⟨_, [x, y], [x, y, x, y], st, hk2, rfl, (fun hx' hb kk => lv_dup2_11 hx' hb dg (hv _ _ hx) (hw _ _ hy) kk), ⟨hx, hy, hx, hy, hst⟩⟩) hs
/-- a row into rows that may lie in any order -/
noncomputable def xas12 (k : zK d) : zK d := fun L S h => List.rec (motive := fun _ => Bool) false (fun v S0 _ => Sum.rec (motive := fun _ => Bool) (fun _ => false) (fun u => Sum.rec (motive := fun _ => Bool) (fun r => zcr h S (fun kv _ _ _ => cond (Nat.beq kv 0) (zpI S0 (fun n S1 => zpR S1 (fun ra S2 => zat h ra (fun _ _ _ kd len x => cond (Nat.beq kd 12) (cond (Nat.ble (zhi n) len) (cond (Nat.ble (Nat.succ (Nat.mod x 1048576)) r) (cond (Nat.ble r (Nat.div x 1048576)) (k L S2 h) false) false) false) false)))) false)) (fun w => Sum.rec (motive := fun _ => Bool) (fun _ => false) (fun m => zcr h S (fun kv _ _ _ => cond (Nat.beq kv 0) (zpI S0 (fun n S1 => zpR S1 (fun ra S2 => zat h ra (fun _ _ _ kd len x => cond (Nat.beq kd 12) (cond (Nat.ble (zhi n) len) (cond (Nat.beq m x) (k L S2 h) false) false) false)))) false)) w) u) v) S
theorem zcr_t2 [zGh] [zCh] {cA : Nat → ClassId} {h : zH d} {ws : va_W} {v : zV} {S : List zV} {st : List Value} {K : Nat → Nat → Nat → List zV → Bool} (hk : zcr h (v :: S) K = true) (hst : zRepL (zad cA ws) (v :: S) st) (hH : zHp cA h ws) : ∃ (kd len x : Nat) (st' : List Value) (a : Nat) (e : va_E) (j : Nat), K kd len x S = true ∧ st = .ref a :: st' ∧ zRepL (zad cA ws) S st' ∧ ws[j]? = some (a, e) ∧ zCell cA (zad cA ws) (kd, len, x) e ∧ (v = zR (j + 1) ∨ ∃ m, v = zW m ∧ m % 1048576 ≤ j ∧ j < m / 1048576) := by
  match v, hk, hst with
  | .inr (.inl r), hk, hst =>
    obtain ⟨o, st', rfl, ho, hst2⟩ := zRepL_R hst
    have hk : zat h r (fun _ _ _ kd len x => K kd len x S) = true := hk
    obtain ⟨j, kd, len, x, rfl, hg, hk2⟩ := zat_t hk
    obtain ⟨a, e, rfl, hwi, hcell⟩ := zat_w hH ho
    rw [hg] at hcell
    exact ⟨kd, len, x, st', a, e, j, hk2, rfl, hst2, hwi, hcell, Or.inl rfl⟩
  | .inr (.inr (.inr m)), hk, hst =>
    match st, hst with
    | v :: st', ⟨hv, hst2⟩ =>
      have hk : cond (Nat.ble 1152921504606846976 m) false (Prod.rec (motive := fun _ => Bool) (fun kd v => Prod.rec (motive := fun _ => Bool) (fun len x => cond (zalr d h.1 kd len x (Nat.mod m 1048576) (Nat.sub (Nat.div m 1048576) (Nat.mod m 1048576))) (K kd len x S) false) v) (zget d h.1 (Nat.mod m 1048576))) = true := hk
      cases h1 : Nat.ble 1152921504606846976 m
      · rw [h1, cond_false] at hk
        generalize zget d h.1 (Nat.mod m 1048576) = c at hk
        obtain ⟨kd, len, x⟩ := c
        obtain ⟨h2, hk⟩ := zcnd_t hk
        rcases hv with ⟨-, k, a, g1, g2, g3, rfl⟩ | ⟨g, -⟩
        · obtain ⟨e, he⟩ := zad_at g3
          have hg : zget d h.1 k = (kd, len, x) := by
            have key := zalr_t h2 (k - m % 1048576) (by show k - m % 1048576 < m / 1048576 - m % 1048576; omega)
            have e1 : Nat.mod m 1048576 + (k - m % 1048576) = k := by show m % 1048576 + (k - m % 1048576) = k; omega
            rw [e1] at key
            exact key
          have hcell := hH.2.2 k _ he
          rw [hg] at hcell
          exact ⟨kd, len, x, st', a, e, k, hk, rfl, hst2, he, hcell, Or.inr ⟨m, rfl, g1, g2⟩⟩
        · exact absurd (zble_f h1) (by omega)
      · rw [h1] at hk; cases hk
theorem sm_as12 [G : zGh] (dg : decode X.2.1 pc = .ok (.aastore, 1)) (hs : zSim X fr P (pc + 1) k) : zSim X fr P pc (xas12 k) := by
  intro Ch cA D ad0 A MC MS p l e s m args below meth c ls st H locs cells slots L S h Cx hk R0
  obtain ⟨ws, hHp, hpre, hP, hD, hS, hL, hst, hcb, hsb⟩ := R0
  have fin : ∀ (v : zV) (S0 : List zV) (st : List Value), zRepL (zad cA ws) (v :: S0) st → zcr h (v :: S0) (fun kv _ _ _ => cond (Nat.beq kv 0) (zpI S0 (fun n S1 => zpR S1 (fun ra S2 => zat h ra (fun _ _ _ kd len x => cond (Nat.beq kd 12) (cond (Nat.ble (zhi n) len) (cond (Nat.ble 0 0) (k L S2 h) false) false) false)))) false) = true → (∀ (n ra j0 len x : Nat) (S2 : List zV), S0 = zI n :: zR ra :: S2 → ra = j0 + 1 → zget d h.1 j0 = (12, len, x) → ∀ j, (v = zR (j + 1) ∨ ∃ m, v = zW m ∧ m % 1048576 ≤ j ∧ j < m / 1048576) → x % 1048576 ≤ j ∧ j < x / 1048576) → W p l e (zRm fr MC MS) s m args below meth c H locs cells slots (MQ below (zQc P cA D ad0 A) args s MC MS A) (F0 m pc ls st) := by
    intro v S0 st hst hk hrng
    obtain ⟨kv, lenv, xv, st1, av, ev, jv, hk1, rfl, hst1, hwv, hcv, hvj⟩ := zcr_t2 hk hst hHp
    obtain ⟨q1, hk2⟩ := zcnd_t hk1
    have ekv := Nat.eq_of_beq_eq_true q1
    subst ekv
    obtain ⟨hlv, fv, rfl, -⟩ := zCell_i hcv (by decide)
    obtain ⟨n, S1, e1, hk3⟩ := zpI_t hk2
    subst e1
    obtain ⟨ra, S2, e2, hk4⟩ := zpR_t hk3
    subst e2
    obtain ⟨i, st2, rfl, hi, hst2⟩ := zRepL_I hst1
    obtain ⟨o, st3, rfl, ho, hst3⟩ := zRepL_R hst2
    obtain ⟨j, kd, len, x, rfl, hgt, hk5⟩ := zat_t hk4
    obtain ⟨a, en, rfl, hwi, hcell⟩ := zat_w hHp ho
    rw [hgt] at hcell
    obtain ⟨q2, hk6⟩ := zcnd_t hk5
    obtain ⟨q3, hk7⟩ := zcnd_t hk6
    obtain ⟨-, hk8⟩ := zcnd_t hk7
    clear hk1 hk2 hk3 hk4 hk5 hk6 hk7
    have ekd := Nat.eq_of_beq_eq_true q2
    subst ekd
    obtain ⟨r1, r2⟩ := hrng n (j + 1) j len x S2 rfl rfl hgt jv hvj
    obtain ⟨hlen, f, rfl, hf⟩ : len < 2147483648 ∧ ∃ f : Nat → Option Nat, en = .inl (cA 3, len, .inr (.inr (.inr (.inr f)))) ∧ zRs (zad cA ws) len x f := by
      rcases hcell with ⟨g, -⟩ | ⟨g, -⟩ | ⟨-, -, g3, ⟨g4, -⟩ | ⟨-, f, g5, g6⟩⟩ | ⟨-, g, -⟩ | ⟨g, -⟩
      · exact absurd (show 12 < 2 from g) (by decide)
      · exact absurd (show 12 = 2 from g) (by decide)
      · exact absurd (show 12 < 12 from g4) (by decide)
      · exact ⟨g3, f, g5, g6⟩
      · exact absurd (show 12 < 8 from g) (by decide)
      · exact absurd (show 16 ≤ 12 from g) (by decide)
    obtain ⟨g1, g2, g3⟩ := zi_idxR hi hlen (Nat.le_of_ble_eq_true q3)
    obtain ⟨kA, k1, k2⟩ := zcompI Cx.2.2.2.2.2.1 Cx.2.2.2.2.2.2.2.2.2.2.2.2.2.2.1
    obtain ⟨kC, hkC⟩ : ∃ kC : Class, s.vm.classes[cA 0]? = some kC := by
      obtain ⟨-, kk, hkk, -⟩ := (Cx.2.2.2.2.2.1.2 0 _ rfl).1 0 (fun _ => .null)
      exact ⟨kk, hkk⟩
    have h0 : ¬ i < 0 := fun q => g1 (Or.inl q)
    have hlt : i.toNatClampNeg < len := by rw [g2]; exact g3
    refine W.aast Cx.1 Cx.2.1 (hP j _ hwi) (fun q h => by cases h) (fun h => by cases h) k1 k2 rfl hkC ⟨h0, by show _ < (arrV _ _ _).slots.size; rw [arrV_size]; exact hlt⟩ (hP jv _ hwv) (fun q h => by cases h) hkC (va_asg s.vm (cA 0)) rfl rfl dg fun H1 e1 z oq => ?_
    have hP1 : va_P D zcl (ws.set j (a, .inl (cA 3, len, .inr (.inr (.inr (.inr (va_up f i.toNatClampNeg (some av)))))))) H1 := by
      refine hP.set hD hwi ?_ oq
      show H1[a]? = some (vp_cell _ _)
      rw [e1]
      rw [vp_cell_q, vp_cell_q, arrV_store]
      congr 2
      funext q
      by_cases hq : q = i.toNatClampNeg
      · subst hq
        simp [updV, va_up, va_rf]
      · simp [updV, va_up, hq]
    have hz := zad_set (cA := cA) (e' := .inl (cA 3, len, .inr (.inr (.inr (.inr (va_up f i.toNatClampNeg (some av))))))) hwi
    have hnew : zCell cA (zad cA ws) (12, len, x) (.inl (cA 3, len, .inr (.inr (.inr (.inr (va_up f i.toNatClampNeg (some av))))))) := by
      refine Or.inr (Or.inr (Or.inl ⟨(by decide : 8 ≤ 12), (by decide : 12 < 16), hlen, Or.inr ⟨rfl, _, rfl, fun j' hj' => ?_⟩⟩))
      by_cases hq : j' = i.toNatClampNeg
      · refine ⟨jv, av, r1, r2, ?_, by simp [va_up, hq]⟩
        show (ws.map (fun q => q.1))[jv]? = some av
        rw [List.getElem?_map, hwv]
        rfl
      · obtain ⟨k0, a0, y1, y2, y3, y4⟩ := hf j' hj'
        exact ⟨k0, a0, y1, y2, y3, by simp [va_up, hq]; exact y4⟩
    have hH2 := zHp_set hHp hwi hnew
    rw [← hgt, zset_get] at hH2
    exact hs Ch cA D ad0 A MC MS p l e s m args below meth c ls _ H1 _ cells slots L _ h Cx hk8 ⟨_, hH2, by rw [hz]; exact hpre, hP1, hD.set hwi, hS.put z oq (hD.2 j _ hwi), by rw [hz]; exact hL, by rw [hz]; exact hst3, hcb, hsb⟩
  have key : ∀ (v : zV) (S0 : List zV) (t : Nat → Nat → Bool), zcr h (v :: S0) (fun kv _ _ _ => cond (Nat.beq kv 0) (zpI S0 (fun n S1 => zpR S1 (fun ra S2 => zat h ra (fun _ _ _ kd len x => cond (Nat.beq kd 12) (cond (Nat.ble (zhi n) len) (cond (t len x) (k L S2 h) false) false) false)))) false) = true → zRepL (zad cA ws) (v :: S0) st → zcr h (v :: S0) (fun kv _ _ _ => cond (Nat.beq kv 0) (zpI S0 (fun n S1 => zpR S1 (fun ra S2 => zat h ra (fun _ _ _ kd len x => cond (Nat.beq kd 12) (cond (Nat.ble (zhi n) len) (cond (Nat.ble 0 0) (k L S2 h) false) false) false)))) false) = true ∧ ∀ (n ra j0 len x : Nat) (S2 : List zV), S0 = zI n :: zR ra :: S2 → ra = j0 + 1 → zget d h.1 j0 = (12, len, x) → t len x = true := by
    intro v S0 t hk hst
    have strip : ∀ kv, cond (Nat.beq kv 0) (zpI S0 (fun n S1 => zpR S1 (fun ra S2 => zat h ra (fun _ _ _ kd len x => cond (Nat.beq kd 12) (cond (Nat.ble (zhi n) len) (cond (t len x) (k L S2 h) false) false) false)))) false = true → cond (Nat.beq kv 0) (zpI S0 (fun n S1 => zpR S1 (fun ra S2 => zat h ra (fun _ _ _ kd len x => cond (Nat.beq kd 12) (cond (Nat.ble (zhi n) len) (cond (Nat.ble 0 0) (k L S2 h) false) false) false)))) false = true ∧ ∀ (n ra j0 len x : Nat) (S2 : List zV), S0 = zI n :: zR ra :: S2 → ra = j0 + 1 → zget d h.1 j0 = (12, len, x) → t len x = true := by
      intro kv hk
      obtain ⟨q1, hk2⟩ := zcnd_t hk
      obtain ⟨n, S1, e1, hk3⟩ := zpI_t hk2
      subst e1
      obtain ⟨ra, S2, e2, hk4⟩ := zpR_t hk3
      subst e2
      obtain ⟨j, kd, len, x, rfl, hgt, hk5⟩ := zat_t hk4
      obtain ⟨q2, hk6⟩ := zcnd_t hk5
      obtain ⟨q3, hk7⟩ := zcnd_t hk6
      obtain ⟨q4, hk8⟩ := zcnd_t hk7
      refine ⟨?_, ?_⟩
      · rw [q1, cond_true]
        show zat h (j + 1) (fun _ _ _ kd len x => cond (Nat.beq kd 12) (cond (Nat.ble (zhi n) len) (cond (Nat.ble 0 0) (k L S2 h) false) false) false) = true
        show Prod.rec (motive := fun _ => Bool) (fun kd v => Prod.rec (motive := fun _ => Bool) (fun len x => cond (Nat.beq kd 12) (cond (Nat.ble (zhi n) len) (cond (Nat.ble 0 0) (k L S2 h) false) false) false) v) (zget d h.1 j) = true
        rw [hgt]
        show cond (Nat.beq kd 12) (cond (Nat.ble (zhi n) len) (cond (Nat.ble 0 0) (k L S2 h) false) false) false = true
        rw [q2, q3]
        exact hk8
      · intro n' ra' j0 len' x' S2' e1 e2 e3
        cases e1
        have ej : j = j0 := by omega
        subst ej
        rw [hgt] at e3
        cases e3
        exact q4
    match v, hk with
    | .inr (.inl r), hk =>
      have hk : zat h r (fun _ _ _ kv _ _ => cond (Nat.beq kv 0) (zpI S0 (fun n S1 => zpR S1 (fun ra S2 => zat h ra (fun _ _ _ kd len x => cond (Nat.beq kd 12) (cond (Nat.ble (zhi n) len) (cond (t len x) (k L S2 h) false) false) false)))) false) = true := hk
      obtain ⟨j, kd, len, x, rfl, hg, hk2⟩ := zat_t hk
      obtain ⟨g1, g2⟩ := strip kd hk2
      refine ⟨?_, g2⟩
      show Prod.rec (motive := fun _ => Bool) (fun kv v => Prod.rec (motive := fun _ => Bool) (fun _ _ => cond (Nat.beq kv 0) (zpI S0 (fun n S1 => zpR S1 (fun ra S2 => zat h ra (fun _ _ _ kd len x => cond (Nat.beq kd 12) (cond (Nat.ble (zhi n) len) (cond (Nat.ble 0 0) (k L S2 h) false) false) false)))) false) v) (zget d h.1 j) = true
      rw [hg]
      exact g1
    | .inr (.inr (.inr m)), hk =>
      have hk : cond (Nat.ble 1152921504606846976 m) false (Prod.rec (motive := fun _ => Bool) (fun kd v => Prod.rec (motive := fun _ => Bool) (fun len x => cond (zalr d h.1 kd len x (Nat.mod m 1048576) (Nat.sub (Nat.div m 1048576) (Nat.mod m 1048576))) (cond (Nat.beq kd 0) (zpI S0 (fun n S1 => zpR S1 (fun ra S2 => zat h ra (fun _ _ _ kd len x => cond (Nat.beq kd 12) (cond (Nat.ble (zhi n) len) (cond (t len x) (k L S2 h) false) false) false)))) false) false) v) (zget d h.1 (Nat.mod m 1048576))) = true := hk
      show cond (Nat.ble 1152921504606846976 m) false (Prod.rec (motive := fun _ => Bool) (fun kd v => Prod.rec (motive := fun _ => Bool) (fun len x => cond (zalr d h.1 kd len x (Nat.mod m 1048576) (Nat.sub (Nat.div m 1048576) (Nat.mod m 1048576))) (cond (Nat.beq kd 0) (zpI S0 (fun n S1 => zpR S1 (fun ra S2 => zat h ra (fun _ _ _ kd len x => cond (Nat.beq kd 12) (cond (Nat.ble (zhi n) len) (cond (Nat.ble 0 0) (k L S2 h) false) false) false)))) false) false) v) (zget d h.1 (Nat.mod m 1048576))) = true ∧ _
      cases h1 : Nat.ble 1152921504606846976 m
      · rw [h1, cond_false] at hk
        rw [cond_false]
        generalize zget d h.1 (Nat.mod m 1048576) = c0 at hk ⊢
        obtain ⟨kd, len, x⟩ := c0
        obtain ⟨h2, hk2⟩ := zcnd_t hk
        obtain ⟨g1, g2⟩ := strip kd hk2
        refine ⟨?_, g2⟩
        show cond (zalr d h.1 kd len x (Nat.mod m 1048576) (Nat.sub (Nat.div m 1048576) (Nat.mod m 1048576))) _ false = true
        rw [h2]
        exact g1
      · rw [h1] at hk; cases hk
  match S, hk, hst with
  | .inr (.inl r) :: S0, hk, hst =>
    obtain ⟨g1, g2⟩ := key (zR r) S0 (fun _ x => cond (Nat.ble (Nat.succ (Nat.mod x 1048576)) r) (Nat.ble r (Nat.div x 1048576)) false) (by
      have e : (fun (kv : Nat) (_ _ : Nat) (_ : List zV) => cond (Nat.beq kv 0) (zpI S0 (fun n S1 => zpR S1 (fun ra S2 => zat h ra (fun _ _ _ kd len x => cond (Nat.beq kd 12) (cond (Nat.ble (zhi n) len) (cond (cond (Nat.ble (Nat.succ (Nat.mod x 1048576)) r) (Nat.ble r (Nat.div x 1048576)) false) (k L S2 h) false) false) false)))) false) = (fun (kv : Nat) (_ _ : Nat) (_ : List zV) => cond (Nat.beq kv 0) (zpI S0 (fun n S1 => zpR S1 (fun ra S2 => zat h ra (fun _ _ _ kd len x => cond (Nat.beq kd 12) (cond (Nat.ble (zhi n) len) (cond (Nat.ble (Nat.succ (Nat.mod x 1048576)) r) (cond (Nat.ble r (Nat.div x 1048576)) (k L S2 h) false) false) false) false)))) false) := by
        have ee : ∀ (x : Nat) (S2 : List zV), cond (cond (Nat.ble (Nat.succ (Nat.mod x 1048576)) r) (Nat.ble r (Nat.div x 1048576)) false) (k L S2 h) false = cond (Nat.ble (Nat.succ (Nat.mod x 1048576)) r) (cond (Nat.ble r (Nat.div x 1048576)) (k L S2 h) false) false := by
          intro x S2
          cases Nat.ble (Nat.succ (Nat.mod x 1048576)) r <;> rfl
        simp only [ee]
      rw [e]
      exact hk) hst
    refine fin (zR r) S0 st hst g1 (fun n ra j0 len x S2 e1 e2 e3 j hj => ?_)
    obtain ⟨y1, y2⟩ := zcnd_t (g2 n ra j0 len x S2 e1 e2 e3)
    have y1' : x % 1048576 + 1 ≤ r := Nat.le_of_ble_eq_true y1
    have y2' : r ≤ x / 1048576 := Nat.le_of_ble_eq_true y2
    rcases hj with z | ⟨m, z, -⟩
    · cases z
      omega
    · cases z
  | .inr (.inr (.inr w)) :: S0, hk, hst =>
    obtain ⟨g1, g2⟩ := key (zW w) S0 (fun _ x => Nat.beq w x) hk hst
    refine fin (zW w) S0 st hst g1 (fun n ra j0 len x S2 e1 e2 e3 j hj => ?_)
    have y := Nat.eq_of_beq_eq_true (g2 n ra j0 len x S2 e1 e2 e3)
    rcases hj with z | ⟨m, z, z1, z2⟩
    · cases z
    · cases z
      rw [← y]
      exact ⟨z1, z2⟩
/-- whether the rows may lie in any order -/
noncomputable def zks (h : zH d) (S : List zV) : Bool := List.rec (motive := fun _ => Bool) false (fun _ S _ => zk12 h S) S
noncomputable def xaasT (k : zK d) : zK d := fun L S h => cond (zks h S) (xas12 k L S h) (xaas 3 0 k L S h)
theorem sm_aastoreT [G : zGh] (dg : decode X.2.1 pc = .ok (.aastore, 1)) (hs : zSim X fr P (pc + 1) k) : zSim X fr P pc (xaasT k) := sm_or2 (sm_as12 dg hs) (sm_aastoreI dg hs)
end OPS
end
section
/-! a number that becomes a symbol; a long against 0; a bound from another local -/
section OPS
variable {d : Nat} {X : zM} {fr : Nat} {P : zP d} {pc pc' tgt : Nat} {off : Int} {k kt kf : zK d}
theorem zRepL_G {G G' : zGh} {ad : zA} {j : Nat} (hG : ∀ m, m < j → @zg G' m = @zg G m) : ∀ {S : List zV} {st : List Value}, zsfL j S = true → @zRepL G ad S st → @zRepL G' ad S st
  | [], [], _, _ => trivial
  | [], _ :: _, _, h => by cases h
  | _ :: _, [], _, h => by cases h
  | v :: S, x :: st, hf, h => by
    have hf : cond (zsf j v) (zsfL j S) false = true := hf
    obtain ⟨h1, h2⟩ := zcnd_t hf
    exact ⟨zRep_G hG h1 h.1, zRepL_G hG h2 h.2⟩
noncomputable def xsym (i j : Nat) (k : zK d) : zK d := fun L S h => znth i L (fun v => Sum.rec (motive := fun _ => Bool) (fun n => cond (Nat.ble (zhi n) 2147483648) (cond (zsfL j S) (zex i L (fun R => cond (zsfL j R) (zF (fun c => zin i (zI c) R (fun L => k L S h)) (zsy j (zlo n) (zhi n))) false)) false) false) (fun _ => false) v)
theorem zsubL_refl_ok {G : zGh} {ad : zA} {nL : Nat} {L : List zV} {ls : Array Slot} (h : @zLoc G ad nL L ls) : @zLoc G ad nL L ls := h
theorem sm_sym [G : zGh] {i j : Nat} (hj : j < 65536) (hs : ∀ G' : zGh, (∀ m, m < j → @zg G' m = @zg G m) → @zSim G' d X fr P pc k) (hj0 : 0 < j := by decide) : zSim X fr P pc (xsym i j k) := by
  intro Ch cA D ad0 A MC MS p l e s m args below meth c ls st H locs cells slots L S h Cx hk R0
  obtain ⟨ws, hHp, hpre, hP, hD, hS, hL, hst, hcb, hsb⟩ := R0
  obtain ⟨v, hv, hk2⟩ := znth_t i hk
  match v, hv, hk2 with
  | .inl n, hv, hk2 =>
    obtain ⟨q1, hk3⟩ := zcnd_t hk2
    obtain ⟨q2, hk4⟩ := zcnd_t hk3
    obtain ⟨R, hk5, r1, r2, r3⟩ := zex_t i hk4
    obtain ⟨q3, hk6⟩ := zcnd_t hk5
    rw [zF_eq] at hk6
    obtain ⟨L0, hk7, l1, l2, l3, l4⟩ := zin_t i hk6
    obtain ⟨iu, hls, hiu⟩ : ∃ iu : Int32, ls[i]? = some (.val (.int iu)) ∧ zIs n iu := by
      obtain ⟨-, lv, hlv, a3⟩ := hL
      rcases a3 i _ hv with z | ⟨x, hx, iu, rfl, hiu⟩
      · cases z
      · exact ⟨iu, hlv.2.2 _ hx, hiu⟩
    have hG : ∀ m, m < j → @zg (zgu G j (zi iu)) m = @zg G m := fun m hm => zgu_ne G _ (by omega)
    obtain ⟨a1, lv, a2, a3⟩ := hL
    have hL0 : @zLoc (zgu G j (zi iu)) (zad cA ws) X.2.2.1 L0 ls := by
      refine ⟨by omega, lv, a2, fun m' w hw => ?_⟩
      have key : ∀ p q : Nat, R[p]? = some w → R[p]? = L[q]? → w = zU ∨ ∃ x : Value, (q, x) ∈ lv ∧ @zRep (zgu G j (zi iu)) (zad cA ws) w x := by
        intro p q e1 e2
        rw [e1] at e2
        rcases a3 q w e2.symm with z | ⟨x, hx, hr⟩
        · exact Or.inl z
        · exact Or.inr ⟨x, hx, zRep_G hG (zsfL_t q3 w (List.mem_of_getElem? e1)) hr⟩
      rcases Nat.lt_trichotomy m' i with hlt | heq | hgt
      · exact key m' m' (by rw [← l3 m' hlt]; exact hw) (r2 m' hlt)
      · subst heq
        rw [l2] at hw
        cases hw
        rcases a3 m' _ hv with z | ⟨x, hx, iv, rfl, h2⟩
        · cases z
        · have hl2 := a2.2.2 _ hx
          rw [show ((m', Value.int iv) : Nat × Value).1 = m' from rfl] at hl2
          rw [hls] at hl2
          cases hl2
          exact Or.inr ⟨_, hx, iu, rfl, @zsy_ok (zgu G j (zi iu)) j (zlo n) (zhi n) iu (zlo_ok hiu) (zhi_ok hiu) (Nat.le_of_ble_eq_true q1) (by rw [Nat.mod_eq_of_lt hj, Nat.div_eq_of_lt hj, zgu_same]; rfl)⟩
      · obtain ⟨m2, rfl⟩ : ∃ m2, m' = m2 + 1 := ⟨m' - 1, by omega⟩
        exact key m2 (m2 + 1) (by rw [← l4 m2 (by omega)]; exact hw) (r3 m2 (by omega))
    exact hs (zgu G j (zi iu)) hG Ch cA D ad0 A MC MS p l e s m args below meth c ls st H locs cells slots L0 S h (zCx_G (hG 0 hj0) Cx) hk7 ⟨ws, hHp, hpre, hP, hD, hS, hL0, zRepL_G hG q2 hst, hcb, hsb⟩
/-- a long local against 0 -/
theorem sm_lz [G : zGh] {n : Nat} {z0 : Fin 2} (row1 : ∀ {p : Program} {l : Launch} {e : Env} {R : Room} {s : State} {m : MethodId} {args : Array Value} {below : List Frame} {meth : Method} {c : Code} {H : Heap} {locs : List Loc} {cells slots : Nat} {Q : State → Prop} {ls : Array Slot} {rest : List Value} {x : Int64}, p.tables.exec = Jvm.exec → c.code = X.2.1 → ls[n]? = some (.val (.long x)) → W p l e R s m args below meth c H locs cells slots Q (F0 m pc' ls (.long x :: rest)) → W p l e R s m args below meth c H locs cells slots Q (F0 m pc ls rest)) (d2 : decode X.2.1 pc' = .ok (.lconst z0, 1)) (ez : (z0 : Nat) = 0) (d3 : decode X.2.1 (pc' + 1) = .ok (.lcmp, 1)) (d4 : decode X.2.1 (pc' + 1 + 1) = .ok (.ifCond .eq off, 3)) (ht : ((pc' + 1 + 1 : Nat) : Int) + off = (tgt : Int)) (h1 : zSim X fr P tgt kt) (h2 : zSim X fr P (pc' + 1 + 1 + 3) kf) : zSim X fr P pc (xlz n kt kf) := by
  intro Ch cA D ad0 A MC MS p l e s m args below meth c ls st H locs cells slots L S h Cx hk R0
  obtain ⟨ws, hHp, hpre, hP, hD, hS, hL, hst, hcb, hsb⟩ := R0
  obtain ⟨v, hv, hk2⟩ := znth_t n hk
  match v, hv, hk2 with
  | .inr (.inr (.inl a)), hv, hk2 =>
    obtain ⟨x, hx, i, rfl, hi⟩ := zLoc_at hL hv (by intro q; cases q)
    have hk2 : cond (Nat.ble 18446744073709551616 a) (and (kt L S h) (zst (Nat.succ n) zU L (fun L => zst n (zL 1606938044258990275541962092341162602527285592350703190540288) L (fun L => kf L S h)))) (cond (Nat.beq a 0) (kt L S h) (kf L S h)) = true := hk2
    have e0 : Int64.ofNat ((z0 : Nat)) = 0 := by rw [ez]; rfl
    have key : (i = 0 → kt L S h = true) ∧ (¬ i = 0 → kf L S h = true ∨ zst (Nat.succ n) zU L (fun L => zst n (zL 1606938044258990275541962092341162602527285592350703190540288) L (fun L => kf L S h)) = true) := by
      cases hb : Nat.ble 18446744073709551616 a
      · rw [hb, cond_false] at hk2
        have hia := hi.1 (zble_f hb)
        cases hb0 : Nat.beq a 0
        · rw [hb0, cond_false] at hk2
          refine ⟨fun q => ?_, fun _ => Or.inl hk2⟩
          rw [q, zj_z] at hia
          rw [← hia] at hb0
          exact absurd hb0 (by decide)
        · rw [hb0, cond_true] at hk2
          refine ⟨fun _ => hk2, fun q => absurd (zj_inj (i := i) (j := 0) ?_) q⟩
          rw [hia, Nat.eq_of_beq_eq_true hb0]
          rfl
      · rw [hb, cond_true, Bool.and_eq_true] at hk2
        exact ⟨fun _ => hk2.1, fun _ => Or.inr hk2.2⟩
    refine row1 Cx.1 Cx.2.1 hx ?_
    refine lv_lconst Cx.1 Cx.2.1 d2 rfl ?_
    refine W.lcmp Cx.1 Cx.2.1 d3 ?_
    refine lv_if_eq Cx.1 Cx.2.1 d4 ht (fun hq => ?_) (fun hq => ?_)
    · have hz : i = 0 := by
        rw [e0] at hq
        unfold lg_cmp at hq
        by_cases c1 : 0 < i
        · rw [if_pos c1] at hq; exact absurd hq (by decide)
        · rw [if_neg c1] at hq
          by_cases c2 : i = 0
          · exact c2
          · rw [if_neg c2] at hq; exact absurd hq (by decide)
      exact h1 Ch cA D ad0 A MC MS p l e s m args below meth c ls _ H locs cells slots L _ h Cx (key.1 hz) ⟨ws, hHp, hpre, hP, hD, hS, hL, hst, hcb, hsb⟩
    · have hz : ¬ i = 0 := fun q => hq (by
        rw [e0, q]
        rfl)
      rcases key.2 hz with g | g
      · exact h2 Ch cA D ad0 A MC MS p l e s m args below meth c ls _ H locs cells slots L _ h Cx g ⟨ws, hHp, hpre, hP, hD, hS, hL, hst, hcb, hsb⟩
      · obtain ⟨L1, y1, y2, y3, g⟩ := zst_t (Nat.succ n) g
        obtain ⟨L2, w1, w2, w3, g⟩ := zst_t n g
        obtain ⟨b1, lv, b2, b3⟩ := hL
        have hL2 : zLoc (zad cA ws) X.2.2.1 L2 ls := by
          refine ⟨by omega, lv, b2, fun q w hw => ?_⟩
          rw [w3 q] at hw
          unfold zsta at hw
          by_cases c1 : q = n
          · rw [if_pos c1] at hw
            cases hw
            rw [c1]
            rcases b3 n _ hv with z | ⟨x, hx', i', rfl, hi'⟩
            · cases z
            · have hl2 := b2.2.2 _ hx'
              rw [show ((n, Value.long i') : Nat × Value).1 = n from rfl, hx] at hl2
              cases hl2
              refine Or.inr ⟨_, hx', i, rfl, fun z => absurd z (by decide), fun _ => ?_⟩
              have hp : 0 < zj i := Nat.pos_of_ne_zero (fun z => hz (zj_inj (by rw [z]; rfl)))
              have hl := zj_lt i
              exact ⟨by show 1 ≤ zj i; omega, by show zj i < 18446744073709551616; omega⟩
          · rw [if_neg c1] at hw
            have y3q := y3 q
            unfold zsta at y3q
            have rest : ∀ u, L1[q]? = some u → u = zU ∨ ∃ x : Value, (q, x) ∈ lv ∧ zRep (zad cA ws) u x := by
              intro u hu
              rw [y3q] at hu
              by_cases c2 : q = Nat.succ n
              · rw [if_pos c2] at hu
                cases hu
                exact Or.inl rfl
              · rw [if_neg c2] at hu
                by_cases c3 : q + 1 = Nat.succ n
                · exact absurd (show q = n by omega) c1
                · rw [if_neg c3] at hu
                  exact b3 q u hu
            by_cases c4 : q + 1 = n
            · rw [if_pos c4] at hw
              obtain ⟨u, hu, hw2⟩ := Option.map_eq_some_iff.mp hw
              rcases rest u hu with z | ⟨x, hx', hr⟩
              · rw [z] at hw2
                exact Or.inl hw2.symm
              · match u, hr, hw2 with
                | .inl b, hr, hw2 => exact Or.inr ⟨x, hx', by rw [← hw2]; exact hr⟩
                | .inr (.inl b), hr, hw2 => exact Or.inr ⟨x, hx', by rw [← hw2]; exact hr⟩
                | .inr (.inr (.inl b)), hr, hw2 => exact Or.inl hw2.symm
                | .inr (.inr (.inr b)), hr, hw2 => exact Or.inr ⟨x, hx', by rw [← hw2]; exact hr⟩
            · rw [if_neg c4] at hw
              exact rest w hw
        exact h2 Ch cA D ad0 A MC MS p l e s m args below meth c ls _ H locs cells slots L2 _ h Cx g ⟨ws, hHp, hpre, hP, hD, hS, hL2, hst, hcb, hsb⟩
theorem sm_lz_n [G : zGh] {n : Nat} {z0 : Fin 2} {f : Fin 4} (d1 : decode X.2.1 pc = .ok (.lload_n f, 1)) (hf : (f : Nat) = n) (d2 : decode X.2.1 (pc + 1) = .ok (.lconst z0, 1)) (ez : (z0 : Nat) = 0) (d3 : decode X.2.1 (pc + 1 + 1) = .ok (.lcmp, 1)) (d4 : decode X.2.1 (pc + 1 + 1 + 1) = .ok (.ifCond .eq off, 3)) (ht : ((pc + 1 + 1 + 1 : Nat) : Int) + off = (tgt : Int)) (h1 : zSim X fr P tgt kt) (h2 : zSim X fr P (pc + 1 + 1 + 1 + 3) kf) : zSim X fr P pc (xlz n kt kf) := sm_lz (fun hx hb hl kk => lv_lload_n hx hb d1 hf hl kk) d2 ez d3 d4 ht h1 h2
end OPS
section OPS
variable {d : Nat} {X : zM} {fr : Nat} {P : zP d} {pc : Nat} {k : zK d}
noncomputable def xdvT (k : zK d) : zK d := fun L S h => cond (zkl S) (xbinjN zdivj k L S h) (xdvQ k L S h)
theorem sm_ldivT [G : zGh] (dg : decode X.2.1 pc = .ok (.ldiv, 1)) (hs : zSim X fr P (pc + 1) k) : zSim X fr P pc (xdvT k) := sm_ldivQ dg hs
end OPS
section WEAK
variable {d : Nat}
noncomputable def wkB (i j : Nat) (w : zWk d) : zWk d := fun L h K => znth j L (fun v => Sum.rec (motive := fun _ => Bool) (fun n => zF (fun c => zst i (zI c) L (fun L => w L h K)) (zrg 0 (zhi n))) (fun _ => false) v)
theorem wkB_ok {i j : Nat} {w : zWk d} (hw : zWkOK w) : zWkOK (wkB i j w) := fun L h K hk => by
  obtain ⟨v, hv, hk2⟩ := znth_t j hk
  match v, hk2 with
  | .inl n, hk2 =>
    have hk2 : zF (fun c => zst i (zI c) L (fun L => w L h K)) (zrg 0 (zhi n)) = true := hk2
    rw [zF_eq] at hk2
    obtain ⟨L', -, -, -, hk3⟩ := zst_t i (k := fun L => w L h K) hk2
    exact hw _ _ _ hk3
end WEAK
/-- one summary or another -/
noncomputable def zor2 {d : Nat} (f g : List zV → zH d → zP d → Bool) : List zV → zH d → zP d → Bool := fun as h P => or (f as h P) (g as h P)
theorem zMet_or {d : Nat} {X : zM} {y : MethodName} {fr : Nat} {f g : List zV → zH d → zP d → Bool} (hf : zMet X y fr f) (hg : zMet X y fr g) : zMet X y fr (zor2 f g) := fun l cA D ws av as h P sz hk => by
  have hk : or (f as h P) (g as h P) = true := hk
  rw [Bool.or_eq_true] at hk
  rcases hk with hk | hk
  · exact hf l cA D ws av as h P sz hk
  · exact hg l cA D ws av as h P sz hk
/-- more frames than are needed -/
theorem zfalse {d : Nat} {X : zM} {y : MethodName} {fr : Nat} : zMet (d := d) X y fr (fun _ _ _ => false) := fun l cA D ws av as h P sz hk => by cases hk
/-- a callee sees no symbols -/
def zst1 (n : Nat) : Nat := cond (Nat.ble 4294967296 (Nat.mod n 4722366482869645213696)) (Nat.mod n 4722366482869645213696) 4294967296
theorem zst1_ok [zGh] {n : Nat} {i : Int32} (h : zIs n i) : zIs (zst1 n) i := by
  unfold zst1
  cases hb : Nat.ble 4294967296 (Nat.mod n 4722366482869645213696)
  · exact zIs_u i
  · rw [cond_true, zmod_n]
    have hl : 4294967296 ≤ n % 4722366482869645213696 := Nat.le_of_ble_eq_true hb
    have hm := Nat.mod_lt n (show 0 < 4722366482869645213696 by decide)
    have e1 : n % 4722366482869645213696 % 1099511627776 = n % 1099511627776 := by omega
    have e2 : n % 4722366482869645213696 / 1099511627776 % 4294967296 = n / 1099511627776 % 4294967296 := by omega
    refine ⟨fun q => absurd q (by omega), fun q1 q2 => ?_, ?_, fun q => absurd q (by omega)⟩
    · rw [e1] at q1 q2 ⊢
      exact h.2.1 q1 q2
    · rw [e2]
      exact h.2.2.1
noncomputable def zstp (as : List zV) : (List zV → Bool) → Bool := List.rec (motive := fun _ => (List zV → Bool) → Bool) (fun K => K []) (fun v _ r K => Sum.rec (motive := fun _ => Bool) (fun n => cond (Nat.ble 4722366482869645213696 n) (zF (fun m => r (fun t => K (zI m :: t))) (zst1 n)) (r (fun t => K (v :: t)))) (fun _ => r (fun t => K (v :: t))) v) as
theorem zstp_t [zGh] {ad : zA} : ∀ {as : List zV} {av : List Value} {K : List zV → Bool}, zstp as K = true → zRepL ad as av → ∃ as', K as' = true ∧ zRepL ad as' av
  | [], [], K, h, _ => ⟨[], h, trivial⟩
  | [], _ :: _, K, h, hr => by cases hr
  | _ :: _, [], K, h, hr => by cases hr
  | .inl n :: as, x :: av, K, h, hr => by
    have h : cond (Nat.ble 4722366482869645213696 n) (zF (fun m => zstp as (fun t => K (zI m :: t))) (zst1 n)) (zstp as (fun t => K (zI n :: t))) = true := h
    cases hb : Nat.ble 4722366482869645213696 n
    · rw [hb, cond_false] at h
      obtain ⟨as', h1, h2⟩ := zstp_t (K := fun t => K (zI n :: t)) h hr.2
      exact ⟨_, h1, hr.1, h2⟩
    · rw [hb, cond_true, zF_eq] at h
      obtain ⟨as', h1, h2⟩ := zstp_t (K := fun t => K (zI (zst1 n) :: t)) h hr.2
      obtain ⟨i, e, hi⟩ := hr.1
      exact ⟨_, h1, ⟨i, e, zst1_ok hi⟩, h2⟩
  | .inr u :: as, x :: av, K, h, hr => by
    have h : zstp as (fun t => K (Sum.inr u :: t)) = true := h
    obtain ⟨as', h1, h2⟩ := zstp_t (K := fun t => K (Sum.inr u :: t)) h hr.2
    exact ⟨_, h1, hr.1, h2⟩
noncomputable def zstr {d : Nat} (f : List zV → zH d → zP d → Bool) : List zV → zH d → zP d → Bool := fun as h P => zstp as (fun as => f as h P)
theorem zMet_str {d : Nat} {X : zM} {y : MethodName} {fr : Nat} {f : List zV → zH d → zP d → Bool} (hf : zMet X y fr f) : zMet X y fr (zstr f) := fun l cA D ws av as h P sz hk has hH => by
  obtain ⟨as', h1, h2⟩ := zstp_t (K := fun as => f as h P) hk has
  exact hf l cA D ws av as' h P sz h1 h2 hH
end
section
/-! the ghost number T = cA 20: a place on the tape that doesn't fall -/
theorem zop_T {g g' : Nat → Nat} (h : ∀ w, w ≠ 20 → g' w = g w) (w : Nat) : zop g' w = zop g w := by
  unfold zop
  have e : max w 21 ≠ 20 := by omega
  rw [h _ e]
theorem zRw_T {cA cA' : Nat → Nat} {ws : va_W} (h : ∀ w, w ≠ 20 → cA' w = cA w) {w : Nat} {o : Option Nat} (hr : zRw (zad cA ws) w o) : zRw (zad cA' ws) w o := by
  rcases hr with ⟨h1, h2⟩ | ⟨h1, h2⟩
  · exact Or.inl ⟨h1, h2⟩
  · exact Or.inr ⟨h1, h2.trans (zop_T h w).symm⟩
theorem zRep_T [zGh] {cA cA' : Nat → Nat} {ws : va_W} (h : ∀ w, w ≠ 20 → cA' w = cA w) {v : zV} {x : Value} (hr : zRep (zad cA ws) v x) : zRep (zad cA' ws) v x := by
  match v, hr with
  | .inl n, hr => exact hr
  | .inr (.inl r), ⟨o, h1, h2⟩ => exact ⟨o, h1, h2⟩
  | .inr (.inr (.inl n)), hr => exact hr
  | .inr (.inr (.inr n)), Or.inl hr => exact Or.inl hr
  | .inr (.inr (.inr n)), Or.inr ⟨h1, h2⟩ => exact Or.inr ⟨h1, h2.trans (congrArg va_rf (zop_T h _).symm)⟩
theorem zRepL_T [zGh] {cA cA' : Nat → Nat} {ws : va_W} (h : ∀ w, w ≠ 20 → cA' w = cA w) : ∀ {S : List zV} {st : List Value}, zRepL (zad cA ws) S st → zRepL (zad cA' ws) S st
  | [], [], _ => trivial
  | [], _ :: _, hr => hr.elim
  | _ :: _, [], hr => hr.elim
  | _ :: _, _ :: _, hr => ⟨zRep_T h hr.1, zRepL_T h hr.2⟩
theorem zLoc_T [zGh] {cA cA' : Nat → Nat} {ws : va_W} (h : ∀ w, w ≠ 20 → cA' w = cA w) {nL : Nat} {L : List zV} {ls : Array Slot} (hL : zLoc (zad cA ws) nL L ls) : zLoc (zad cA' ws) nL L ls := by
  obtain ⟨a1, lv, a2, a3⟩ := hL
  refine ⟨a1, lv, a2, fun i v hv => ?_⟩
  rcases a3 i v hv with z | ⟨x, hx, hr⟩
  · exact Or.inl z
  · exact Or.inr ⟨x, hx, zRep_T h hr⟩
theorem zFl_T [zCh] {cA cA' : Nat → Nat} {ws : va_W} (h : ∀ w, w ≠ 20 → cA' w = cA w) {ci k w : Nat} {v : Value} (hT : 274877906944 ≤ w → w < 274877906946 → cA' 20 ≤ cA 20) (hf : zFl (zad cA ws) ci k w v) : zFl (zad cA' ws) ci k w v := by
  unfold zFl at hf ⊢
  cases hz : zisR (zfty ci k)
  · rw [hz, cond_false] at hf
    rw [cond_false]
    obtain ⟨i, h1, h2, h3, h4⟩ := hf
    refine ⟨i, h1, h2, fun q => ?_, fun q1 q2 => ?_⟩
    · have e := h3 q
      show zi i = cA' w
      rw [h w (by omega)]
      exact e
    · obtain ⟨a, b, c, e⟩ := h4 q1 q2
      exact ⟨a, fun q => Nat.le_trans (hT q1 q) (b q), c, e⟩
  · rw [hz, cond_true] at hf
    rw [cond_true]
    obtain ⟨o, h1, h2⟩ := hf
    exact ⟨o, h1, zRw_T h h2⟩
theorem zCell_T [zCh] {cA cA' : Nat → Nat} {ws : va_W} (h : ∀ w, w ≠ 20 → cA' w = cA w) {c : zC} {e : va_E} (hT : 16 ≤ c.1 → ∀ k, k < zN (c.1 - 16) → 274877906944 ≤ zwd 40 c.2.2 k → zwd 40 c.2.2 k < 274877906946 → cA' 20 ≤ cA 20) (hc : zCell cA (zad cA ws) c e) : zCell cA' (zad cA' ws) c e := by
  rcases hc with ⟨h1, h2, f, h3, h4⟩ | ⟨h1, h2, f, h3, h4⟩ | ⟨h1, h2, hl, ⟨h3, f, h4, h5⟩ | ⟨h3, f, h4, h5⟩⟩ | ⟨h1, h2, hl, f, h3, h4⟩ | ⟨h1, fs, h2, h3, h4⟩
  · exact Or.inl ⟨h1, h2, f, by rw [h c.1 (by omega)]; exact h3, h4⟩
  · exact Or.inr (Or.inl ⟨h1, h2, f, by rw [h 2 (by decide)]; exact h3, h4⟩)
  · exact Or.inr (Or.inr (Or.inl ⟨h1, h2, hl, Or.inl ⟨h3, f, by rw [h 0 (by decide)]; exact h4, h5⟩⟩))
  · exact Or.inr (Or.inr (Or.inl ⟨h1, h2, hl, Or.inr ⟨h3, f, by rw [h 3 (by decide)]; exact h4, h5⟩⟩))
  · exact Or.inr (Or.inr (Or.inr (Or.inl ⟨h1, h2, hl, f, by rw [h c.1 (by omega)]; exact h3, fun j hj => zRw_T h (h4 j hj)⟩)))
  · exact Or.inr (Or.inr (Or.inr (Or.inr ⟨h1, fs, h2, h3, fun k v hv => zFl_T h (hT h1 k (by rw [← h3]; exact (List.getElem?_eq_some_iff.mp hv).1)) (h4 k v hv)⟩)))
/-- no word that speaks of T -/
noncomputable def zng (w : Nat) : Bool := cond (Nat.ble 274877906944 w) (Nat.ble 274877906946 w) true
theorem zng_t {w : Nat} (h : zng w = true) : 274877906944 ≤ w → w < 274877906946 → False := by
  intro h1 h2
  unfold zng at h
  rw [Nat.ble_eq_true_of_le h1, cond_true] at h
  exact absurd (Nat.le_of_ble_eq_true h) (Nat.not_le.mpr h2)
noncomputable def zngC (c : zC) : Bool := Prod.rec (motive := fun _ => Bool) (fun kd v => Prod.rec (motive := fun _ => Bool) (fun _ x => cond (Nat.ble 16 kd) (zall (zN (Nat.sub kd 16)) (fun k => zng (zwd 40 x k))) true) v) c
theorem zngC_t {c : zC} (h : zngC c = true) : 16 ≤ c.1 → ∀ k, k < zN (c.1 - 16) → 274877906944 ≤ zwd 40 c.2.2 k → zwd 40 c.2.2 k < 274877906946 → False := by
  obtain ⟨kd, len, x⟩ := c
  intro h1 k hk h2 h3
  have h : cond (Nat.ble 16 kd) (zall (zN (Nat.sub kd 16)) (fun k => zng (zwd 40 x k))) true = true := h
  have h1 : 16 ≤ kd := h1
  rw [Nat.ble_eq_true_of_le h1, cond_true] at h
  exact zng_t (zall_t h k hk) h2 h3
noncomputable def zngH {d : Nat} (t : zT d) (n : Nat) : Bool := zall n (fun q => zngC (zget d t q))
/-- words that speak of T stay true as T falls -/
theorem zHp_dn [zCh] {d : Nat} {cA cA' : Nat → Nat} (h : ∀ w, w ≠ 20 → cA w = cA' w) (hle : cA 20 ≤ cA' 20) {hh : zH d} {ws : va_W} (hH : zHp cA' hh ws) : zHp cA hh ws := ⟨hH.1, hH.2.1, fun i q hi => zCell_T h (fun _ _ _ _ _ => hle) (hH.2.2 i q hi)⟩
/-- no word speaks of T -/
theorem zHp_ng [zCh] {d : Nat} {cA cA' : Nat → Nat} (h : ∀ w, w ≠ 20 → cA' w = cA w) {hh : zH d} {ws : va_W} (hn : zngH hh.1 hh.2.1 = true) (hH : zHp cA hh ws) : zHp cA' hh ws := ⟨hH.1, hH.2.1, fun i q hi => zCell_T h (fun a k b c e => absurd (zngC_t (zall_t hn i (by rw [← hH.1]; exact (List.getElem?_eq_some_iff.mp hi).1)) a k b c e) id) (hH.2.2 i q hi)⟩
theorem zHp_cl {d : Nat} [zCh] {cA : Nat → ClassId} {h : zH d} {ws : va_W} {b a : Nat} {e : va_E} {c' : zC} (hH : zHp cA h ws) (hq : ws[b]? = some (a, e)) (hc : zCell cA (zad cA ws) c' e) : zHp cA (zset d h.1 b c', h.2) ws := by
  have key := zHp_set hH hq (e' := e) hc
  have hse : ws.set b (a, e) = ws := by
    apply List.ext_getElem?
    intro q
    rw [List.getElem?_set]
    by_cases hq2 : b = q
    · subst hq2
      rw [if_pos rfl, if_pos (List.getElem?_eq_some_iff.mp hq).1, hq]
    · rw [if_neg hq2]
  rw [hse] at key
  exact key
theorem zQc_dn {d : Nat} {P : zP d} {cA cA' : Nat → ClassId} (h : ∀ w, w ≠ 20 → cA w = cA' w) (hle : @LE.le Nat _ (cA 20) (cA' 20)) {D : va_G} {ad0 : zA} {A : Nat → Prop} (e : ad0.2 = cA) {a : Array Value} {st : State} {oc : Outcome} {t : State} (hq : zQc P cA' D (ad0.1, cA') A a st oc t) : zQc P cA D ad0 A a st oc t := by
  obtain ⟨⟨Ch, r, hh, ws, ov, ho, hov, hp, hH, hpre, hP, hD⟩, hF⟩ := hq
  refine ⟨⟨Ch, r, hh, ws, ov, ho, ?_, hp, zHp_dn h hle hH, ⟨hpre.1, e.symm⟩, hP, hD⟩, hF⟩
  rcases hov with z | ⟨x, z1, z2⟩
  · exact Or.inl z
  · exact Or.inr ⟨x, z1, fun G => zRep_T h (z2 G)⟩
theorem W_post {p : Program} {l : Launch} {e : Env} {R : Room} {s : State} {m : MethodId} {args : Array Value} {below : List Frame} {meth : Method} {c : Code} {H : Heap} {locs : List Loc} {cells slots : Nat} {Qc Qc' : Array Value → State → Outcome → State → Prop} {a : Array Value} {mc ms : Nat} {free : Addr → Prop} {g : JFrame} (hq : ∀ o t, Qc a s o t → Qc' a s o t) (hW : W p l e R s m args below meth c H locs cells slots (MQ below Qc a s mc ms free) g) : W p l e R s m args below meth c H locs cells slots (MQ below Qc' a s mc ms free) g := by
  intro T hT X
  obtain ⟨t, h1, o, h2, h3, h4, h5⟩ := hW T hT X
  exact ⟨t, h1, o, h2, h3, hq o t h4, h5⟩
def zcT2 (cA : Nat → Nat) (v : Nat) : Nat → Nat := fun w => if w = 20 then v else cA w
theorem zcT2_20 (cA : Nat → Nat) (v : Nat) : zcT2 cA v 20 = v := if_pos rfl
theorem zcT2_ne (cA : Nat → Nat) (v : Nat) : ∀ w, w ≠ 20 → zcT2 cA v w = cA w := fun _ h => if_neg h
theorem zty_T {cA cA' : Nat → Nat} (h : ∀ w, w ≠ 20 → cA' w = cA w) : zty cA' = zty cA := by
  unfold zty
  rw [h 0 (by decide), h 1 (by decide), h 2 (by decide), h 3 (by decide), h 4 (by decide), h 5 (by decide), h 6 (by decide), h 7 (by decide)]
theorem zCx_T {G G' : zGh} {X : zM} {cA cA' : Nat → ClassId} {D : va_G} {p : Program} {s : State} {m : MethodId} {args : Array Value} {meth : Method} {c : Code} {A : Nat → Prop} (h : ∀ w, w ≠ 20 → cA' w = cA w) (h0 : cA' 20 = @zg G' 0) (Cx : @zCx G X cA D p s m args meth c A) : @zCx G' X cA' D p s m args meth c A := ⟨Cx.1, Cx.2.1, Cx.2.2.1, Cx.2.2.2.1, Cx.2.2.2.2.1, by rw [zty_T h]; exact Cx.2.2.2.2.2.1, Cx.2.2.2.2.2.2.1, Cx.2.2.2.2.2.2.2.1, ⟨Cx.2.2.2.2.2.2.2.2.1.1, h0⟩, Cx.2.2.2.2.2.2.2.2.2⟩
/-- no symbol that is T itself -/
noncomputable def zsf0 (v : zV) : Bool := Sum.rec (motive := fun _ => Bool) (fun n => cond (Nat.ble 4722366482869645213696 n) (Nat.ble 1 (Nat.mod (Nat.div n 4722366482869645213696) 65536)) true) (fun _ => true) v
noncomputable def zsf0L (L : List zV) : Bool := List.rec (motive := fun _ => Bool) true (fun v _ r => cond (zsf0 v) r false) L
theorem zsf0L_t : ∀ {L : List zV}, zsf0L L = true → ∀ v, v ∈ L → zsf0 v = true
  | [], _, v, h => by cases h
  | w :: L, h, v, hv => by
    have h : cond (zsf0 w) (zsf0L L) false = true := h
    obtain ⟨h1, h2⟩ := zcnd_t h
    rcases List.mem_cons.mp hv with rfl | hv
    · exact h1
    · exact zsf0L_t h2 v hv
theorem zRep_G0 {G G' : zGh} {ad : zA} {v : zV} {x : Value} (hG : ∀ m, 0 < m → @zg G' m = @zg G m) (hv : zsf0 v = true) (h : @zRep G ad v x) : @zRep G' ad v x := by
  match v, hv, h with
  | .inl n, hv, ⟨i, h1, h2⟩ =>
    refine ⟨i, h1, h2.1, h2.2.1, h2.2.2.1, fun q => ?_⟩
    have hv : cond (Nat.ble 4722366482869645213696 n) (Nat.ble 1 (Nat.mod (Nat.div n 4722366482869645213696) 65536)) true = true := hv
    rw [Nat.ble_eq_true_of_le q, cond_true] at hv
    rw [hG (n / 4722366482869645213696 % 65536) (Nat.le_of_ble_eq_true hv)]
    exact h2.2.2.2 q
  | .inr (.inl r), _, h => exact h
  | .inr (.inr (.inl n)), _, h => exact h
  | .inr (.inr (.inr n)), _, h => exact h
theorem zRepL_G0 {G G' : zGh} {ad : zA} (hG : ∀ m, 0 < m → @zg G' m = @zg G m) : ∀ {S : List zV} {st : List Value}, zsf0L S = true → @zRepL G ad S st → @zRepL G' ad S st
  | [], [], _, _ => trivial
  | [], _ :: _, _, h => h.elim
  | _ :: _, [], _, h => h.elim
  | v :: S, x :: st, hf, h => by
    have hf : cond (zsf0 v) (zsf0L S) false = true := hf
    obtain ⟨h1, h2⟩ := zcnd_t hf
    exact ⟨zRep_G0 hG h1 h.1, zRepL_G0 hG h2 h.2⟩
theorem zLoc_G0 {G G' : zGh} {ad : zA} (hG : ∀ m, 0 < m → @zg G' m = @zg G m) {nL : Nat} {L : List zV} {ls : Array Slot} (hf : zsf0L L = true) (hL : @zLoc G ad nL L ls) : @zLoc G' ad nL L ls := by
  obtain ⟨a1, lv, a2, a3⟩ := hL
  refine ⟨a1, lv, a2, fun i v hv => ?_⟩
  rcases a3 i v hv with z | ⟨x, hx, hr⟩
  · exact Or.inl z
  · exact Or.inr ⟨x, hx, zRep_G0 hG (zsf0L_t hf v (List.mem_of_getElem? hv)) hr⟩
/-- reading a place on the tape -/
def zgT (w : Nat) : Nat := cond (zrgn w) (cond (Nat.beq w 274877906945) 4294967496 (cond (Nat.beq w 274877906944) 4294967497 (Nat.add 4294967497 (Nat.mul 1099511627776 (Nat.sub w 274877906946))))) w
theorem zrgn_t {w : Nat} (h : zrgn w = true) : 274877906944 ≤ w ∧ w < 549755813888 := by
  unfold zrgn at h
  obtain ⟨h1, h2⟩ := zcnd_t h
  exact ⟨Nat.le_of_ble_eq_true h1, Nat.lt_of_le_of_lt (Nat.le_of_ble_eq_true h2) (by decide)⟩
theorem zbq_f {a b : Nat} (h : Nat.beq a b = false) : a ≠ b := fun e => by rw [e, Nat.beq_refl] at h; cases h
theorem zgT_ok [zGh] {T w : Nat} {i : Int32} (hw : w < 1099511627776) (h1 : zIa w i) (h2 : 274877906944 ≤ w → w < 549755813888 → zTw T w i) : zIs (zgT w) i := by
  unfold zgT
  cases hr : zrgn w
  · exact zIs_a h1 hw
  · obtain ⟨q1, q2⟩ := zrgn_t hr
    obtain ⟨a, b, c, e⟩ := h2 q1 q2
    rw [cond_true]
    cases e1 : Nat.beq w 274877906945
    · rw [cond_false]
      cases e2 : Nat.beq w 274877906944
      · rw [cond_false]
        have n1 := zbq_f e1
        have n2 := zbq_f e2
        have lo := e (by omega)
        show zIs (4294967497 + 1099511627776 * (w - 274877906946)) i
        obtain ⟨v, hv⟩ : ∃ v, v = w - 274877906946 := ⟨_, rfl⟩
        rw [← hv] at lo ⊢
        exact ⟨fun q => absurd q (by omega), fun _ _ => by omega, by omega, fun q => absurd q (by omega)⟩
      · rw [cond_true]
        exact zIs_a ⟨fun q => absurd q (by decide), fun _ _ => by omega⟩ (by decide)
    · rw [cond_true]
      have := c (Nat.eq_of_beq_eq_true e1)
      exact zIs_a ⟨fun q => absurd q (by decide), fun _ _ => by omega⟩ (by decide)
section OPS
variable {d : Nat} {X : zM} {fr : Nat} {P : zP d} {pc pc' tgt : Nat} {off : Int} {k kt kf : zK d}
noncomputable def xgfT (kc n : Nat) (k : zK d) : zK d := fun L S h => zpR S (fun r S => zat h r (fun _ _ _ kd _ x => cond (Nat.beq kd kc) (zF (fun v => k L (zI v :: S) h) (zgT (zwd 40 x n))) false))
theorem sm_getfieldT [G : zGh] {ci kc n index : Nat} {C ref : String} {T : u_T} {N : Nat} (hkc : 16 + ci = kc) (hw : zisR (zfty ci n) = false) (hin : ∀ w ∈ u_ws C T N, w ∈ ztbl) (hc : zcl[ci]? = some (C, T, N)) (hn : n < N) (hN : N = zN ci) (hlink : Cond.fieldLink X.1 index ref (T n).2.1 (T n).2.2.1 ∈ ztbl) (href : (T n).1 = ref) (dg : decode X.2.1 pc = .ok (.getfield index, 3)) (hs : zSim X fr P (pc + 3) k) : zSim X fr P pc (xgfT kc n k) := by
  subst hkc
  intro Ch cA D ad0 A MC MS p l e s m args below meth c ls st H locs cells slots L S h Cx hk R0
  obtain ⟨ws, hHp, hpre, hP, hD, hS, hL, hst, hcb, hsb⟩ := R0
  obtain ⟨r, S, rfl, hk1⟩ := zpR_t hk
  obtain ⟨o, st, rfl, ho, hst2⟩ := zRepL_R hst
  obtain ⟨i, kd, len, x, rfl, hg, hk2⟩ := zat_t hk1
  obtain ⟨a, en, rfl, hwi, hcell⟩ := zat_w hHp ho
  rw [hg] at hcell
  obtain ⟨hb, hk3⟩ := zcnd_t hk2
  clear hk2
  rw [zF_eq] at hk3
  obtain ⟨fs, rfl, hlen, hfl⟩ := zCell_obj hcell (Nat.eq_of_beq_eq_true hb)
  have hlt : n < fs.length := by rw [hlen, ← hN]; exact hn
  have hv : fs[n]? = some fs[n] := List.getElem?_eq_getElem hlt
  have hf := hfl n _ hv
  unfold zFl at hf
  rw [hw, cond_false] at hf
  obtain ⟨iv, e1, e2, -, e4⟩ := hf
  exact va_get (rest := st) Cx.1 Cx.2.1 Cx.2.2.2.2.1 hin Cx.2.2.2.1 Cx.2.2.2.2.2.1 hP i hwi hc n hn (Cx.2.2.2.2.1 _ hlink) (fun x hx => by rw [← href]; exact hx) hv dg (hs Ch cA D ad0 A MC MS p l e s m args below meth c ls _ H locs cells slots L _ h Cx hk3 ⟨ws, hHp, hpre, hP, hD, hS, hL, ⟨⟨iv, e1, zgT_ok (zwd_lt _ _ _) e2.1 e4⟩, hst2⟩, hcb, hsb⟩)
/-- a number that is cut into cases as it is read -/
noncomputable def zcutT {d : Nat} (h : zH d) (j kd len x n : Nat) (K : Nat → zH d → Bool) (m : Nat) : Bool := Nat.rec (motive := fun _ => Bool) true (fun v r => cond (Prod.rec (motive := fun _ => Bool) (fun t u => zF (fun y => zsetK d t j (kd, len, y) (fun t => K v (t, u))) (zup 40 x n v)) h) r false) m
theorem zcutT_t {d : Nat} {h : zH d} {j kd len x n : Nat} {K : Nat → zH d → Bool} : ∀ {m : Nat}, zcutT h j kd len x n K m = true → ∀ v, v < m → K v (zset d h.1 j (kd, len, zup 40 x n v), h.2) = true
  | 0, _, v, hv => absurd hv (Nat.not_lt_zero v)
  | m + 1, hk, v, hv => by
    obtain ⟨t, u⟩ := h
    have hk : cond (zF (fun y => zsetK d t j (kd, len, y) (fun t => K m (t, u))) (zup 40 x n m)) (zcutT (t, u) j kd len x n K m) false = true := hk
    obtain ⟨h1, h2⟩ := zcnd_t hk
    rcases Nat.lt_succ_iff_lt_or_eq.mp hv with q | rfl
    · exact zcutT_t h2 v q
    · rw [zF_eq, zsetK_eq] at h1
      exact h1
noncomputable def xgfC (kc n m : Nat) (k : zK d) : zK d := fun L S h => zpR S (fun r S => zat h r (fun _ _ j kd len x => cond (Nat.beq kd kc) (cond (Nat.ble m 1000) (cond (zcutT h j kd len x n (fun v h => k L (zI v :: S) h) m) (cond (zF (fun c => k L (zI c :: S) h) (Nat.add 6442450944 (Nat.mul 1099511627776 m))) (k L (zI 2361183241439117574144 :: S) h) false) false) false) false))
theorem sm_getfieldC [G : zGh] {ci kc n m0 index : Nat} {C ref : String} {T : u_T} {N : Nat} (hkc : 16 + ci = kc) (hw : zisR (zfty ci n) = false) (hin : ∀ w ∈ u_ws C T N, w ∈ ztbl) (hc : zcl[ci]? = some (C, T, N)) (hn : n < N) (hN : N = zN ci) (hlink : Cond.fieldLink X.1 index ref (T n).2.1 (T n).2.2.1 ∈ ztbl) (href : (T n).1 = ref) (dg : decode X.2.1 pc = .ok (.getfield index, 3)) (hs : zSim X fr P (pc + 3) k) : zSim X fr P pc (xgfC kc n m0 k) := by
  subst hkc
  intro Ch cA D ad0 A MC MS p l e s m args below meth c ls st H locs cells slots L S h Cx hk R0
  obtain ⟨ws, hHp, hpre, hP, hD, hS, hL, hst, hcb, hsb⟩ := R0
  obtain ⟨r, S, rfl, hk1⟩ := zpR_t hk
  obtain ⟨o, st, rfl, ho, hst2⟩ := zRepL_R hst
  obtain ⟨i, kd, len, x, rfl, hg, hk2⟩ := zat_t hk1
  obtain ⟨a, en, rfl, hwi, hcell⟩ := zat_w hHp ho
  rw [hg] at hcell
  obtain ⟨hb, hk2⟩ := zcnd_t hk2
  obtain ⟨hm, hk2⟩ := zcnd_t hk2
  obtain ⟨c1, hk2⟩ := zcnd_t hk2
  obtain ⟨c2, c3⟩ := zcnd_t hk2
  rw [zF_eq] at c2
  have hm := Nat.le_of_ble_eq_true hm
  have ekd := Nat.eq_of_beq_eq_true hb
  obtain ⟨fs, rfl, hlen, hfl⟩ := zCell_obj hcell ekd
  have hlt : n < fs.length := by rw [hlen, ← hN]; exact hn
  have hv : fs[n]? = some fs[n] := List.getElem?_eq_getElem hlt
  have hf := hfl n _ hv
  unfold zFl at hf
  rw [hw, cond_false] at hf
  obtain ⟨iv, e1, e2, -, e4⟩ := hf
  refine va_get (rest := st) Cx.1 Cx.2.1 Cx.2.2.2.2.1 hin Cx.2.2.2.1 Cx.2.2.2.2.2.1 hP i hwi hc n hn (Cx.2.2.2.2.1 _ hlink) (fun x hx => by rw [← href]; exact hx) hv dg ?_
  rcases Nat.lt_or_ge (zi iv) m0 with q | q
  · have hcell2 : zCell cA (zad cA ws) (16 + ci, len, zup 40 x n (zi iv)) (.inr (ci, fs)) := zCell_ok hlen (fun q' v hv' => by
      have hiv := zi_lt iv
      by_cases hq : n = q'
      · subst hq
        rw [zwd_up_same _ _ _ _ (by omega)]
        rw [hv] at hv'
        cases hv'
        unfold zFl
        rw [hw, cond_false]
        exact ⟨iv, e1, ⟨⟨fun _ => rfl, fun z => absurd z (by omega)⟩, fun z => absurd z (by omega)⟩, fun z => absurd z (by omega), fun z => absurd z (by omega)⟩
      · rw [zwd_up_ne _ _ _ _ _ (by omega) hq]
        exact hfl q' v hv')
    rw [← ekd] at hcell2
    exact hs Ch cA D ad0 A MC MS p l e s m args below meth c ls _ H locs cells slots L _ _ Cx (zcutT_t c1 (zi iv) q) ⟨ws, zHp_cl hHp hwi hcell2, hpre, hP, hD, hS, hL, ⟨⟨iv, e1, zIs_e rfl⟩, hst2⟩, hcb, hsb⟩
  · have hlt2 := zi_lt iv
    rcases Nat.lt_or_ge (zi iv) 2147483648 with q2 | q2
    · refine hs Ch cA D ad0 A MC MS p l e s m args below meth c ls _ H locs cells slots L _ h Cx c2 ⟨ws, hHp, hpre, hP, hD, hS, hL, ⟨⟨iv, e1, ?_⟩, hst2⟩, hcb, hsb⟩
      show zIs (6442450944 + 1099511627776 * m0) iv
      exact ⟨fun z => absurd z (by omega), fun _ _ => by omega, by omega, fun z => absurd z (by omega)⟩
    · exact hs Ch cA D ad0 A MC MS p l e s m args below meth c ls _ H locs cells slots L _ h Cx c3 ⟨ws, hHp, hpre, hP, hD, hS, hL, ⟨⟨iv, e1, ⟨fun z => absurd z (by decide), fun z => absurd z (by decide), by omega, fun z => absurd z (by decide)⟩⟩, hst2⟩, hcb, hsb⟩
/-- a local that is cut into cases -/
noncomputable def zcutL (i : Nat) (L : List zV) (K : List zV → Bool) (m : Nat) : Bool := Nat.rec (motive := fun _ => Bool) true (fun v r => cond (zst i (zI v) L K) r false) m
theorem zcutL_t {i : Nat} {L : List zV} {K : List zV → Bool} : ∀ {m : Nat}, zcutL i L K m = true → ∀ v, v < m → zst i (zI v) L K = true
  | 0, _, v, hv => absurd hv (Nat.not_lt_zero v)
  | m + 1, hk, v, hv => by
    have hk : cond (zst i (zI m) L K) (zcutL i L K m) false = true := hk
    obtain ⟨h1, h2⟩ := zcnd_t hk
    rcases Nat.lt_succ_iff_lt_or_eq.mp hv with q | rfl
    · exact zcutL_t h2 v q
    · exact h1
noncomputable def xcutL (i m : Nat) (k : zK d) : zK d := fun L S h => znth i L (fun v => Sum.rec (motive := fun _ => Bool) (fun n => cond (Nat.ble (zhi n) 201) (cond (Nat.ble m 200) (cond (zcutL i L (fun L => k L S h) m) (zF (fun c => zst i (zI c) L (fun L => k L S h)) (Nat.add 4294967497 (Nat.mul 1099511627776 m))) false) false) false) (fun _ => false) v)
theorem zLoc_st [zGh] {ad : zA} {nL i n c : Nat} {L L' : List zV} {ls : Array Slot} (hL : zLoc ad nL L ls) (hi : L[i]? = some (zI n)) (hz : ∀ j, L'[j]? = zsta i (zI c) L j) (hlen : L'.length = L.length) (hc : ∀ iv : Int32, ls[i]? = some (.val (.int iv)) → zIs n iv → zIs c iv) : zLoc ad nL L' ls := by
  obtain ⟨a1, lv, a2, a3⟩ := hL
  refine ⟨by rw [hlen]; exact a1, lv, a2, fun j v hv => ?_⟩
  rw [hz j] at hv
  unfold zsta at hv
  by_cases e1 : j = i
  · subst e1
    rw [if_pos rfl] at hv
    cases hv
    rcases a3 j _ hi with z | ⟨x, hx, iv, rfl, h2⟩
    · cases z
    · exact Or.inr ⟨_, hx, iv, rfl, hc iv (a2.2.2 _ hx) h2⟩
  · rw [if_neg e1] at hv
    by_cases e2 : j + 1 = i
    · rw [if_pos e2] at hv
      obtain ⟨w, hw, hwv⟩ := Option.map_eq_some_iff.mp hv
      match w, hw, hwv with
      | .inl b, hw, hwv => cases hwv; exact a3 j _ hw
      | .inr (.inl b), hw, hwv => cases hwv; exact a3 j _ hw
      | .inr (.inr (.inl b)), hw, hwv => cases hwv; exact Or.inl rfl
      | .inr (.inr (.inr b)), hw, hwv => cases hwv; exact a3 j _ hw
    · rw [if_neg e2] at hv
      exact a3 j v hv
theorem sm_cutL [G : zGh] {i m0 : Nat} (hs : zSim X fr P pc k) : zSim X fr P pc (xcutL i m0 k) := by
  intro Ch cA D ad0 A MC MS p l e s m args below meth c ls st H locs cells slots L S h Cx hk R0
  obtain ⟨ws, hHp, hpre, hP, hD, hS, hL, hst, hcb, hsb⟩ := R0
  obtain ⟨v, hv, hk2⟩ := znth_t i hk
  match v, hv, hk2 with
  | .inl n, hv, hk2 =>
    obtain ⟨b1, hk2⟩ := zcnd_t hk2
    obtain ⟨b2, hk2⟩ := zcnd_t hk2
    obtain ⟨b3, hk2⟩ := zcnd_t hk2
    rw [zF_eq] at hk2
    have b1 := Nat.le_of_ble_eq_true b1
    have b2 := Nat.le_of_ble_eq_true b2
    obtain ⟨iu, hls, hiu⟩ : ∃ iu : Int32, ls[i]? = some (.val (.int iu)) ∧ zIs n iu := by
      obtain ⟨-, lv, hlv, a3⟩ := id hL
      rcases a3 i _ hv with z | ⟨x, hx, iu, rfl, hiu⟩
      · cases z
      · exact ⟨iu, hlv.2.2 _ hx, hiu⟩
    have hh := zhi_ok hiu
    rcases Nat.lt_or_ge (zi iu) m0 with q | q
    · obtain ⟨L', l1, l2, l3, l4⟩ := zst_t i (zcutL_t b3 (zi iu) q)
      exact hs Ch cA D ad0 A MC MS p l e s m args below meth c ls st H locs cells slots L' S h Cx l4 ⟨ws, hHp, hpre, hP, hD, hS, zLoc_st hL hv l3 l1 (fun iv hl _ => by rw [hls] at hl; cases hl; exact zIs_e rfl), hst, hcb, hsb⟩
    · obtain ⟨L', l1, l2, l3, l4⟩ := zst_t i hk2
      exact hs Ch cA D ad0 A MC MS p l e s m args below meth c ls st H locs cells slots L' S h Cx l4 ⟨ws, hHp, hpre, hP, hD, hS, zLoc_st hL hv l3 l1 (fun iv hl _ => by
        rw [hls] at hl
        cases hl
        show zIs (4294967497 + 1099511627776 * m0) iu
        exact ⟨fun z => absurd z (by omega), fun _ _ => by omega, by omega, fun z => absurd z (by omega)⟩), hst, hcb, hsb⟩
/-- a number with a least value into a field -/
def zpT (v : Nat) : Nat := cond (Nat.ble 4294967296 v) (cond (Nat.ble (zhi v) 201) (cond (Nat.beq (zlo v) 0) (zcap v) (Nat.add 274877906946 (Nat.mod (zlo v) 1000))) (zcap v)) v
theorem zpT_lt (v : Nat) : zpT v < 549755813888 := by
  unfold zpT
  cases h1 : Nat.ble 4294967296 v
  · have := zble_f h1
    rw [cond_false]
    omega
  · rw [cond_true]
    cases h2 : Nat.ble (zhi v) 201
    · exact zcap_lt39 v
    · rw [cond_true]
      cases h3 : Nat.beq (zlo v) 0
      · have : zlo v % 1000 < 1000 := Nat.mod_lt _ (by decide)
        show 274877906946 + zlo v % 1000 < 549755813888
        omega
      · exact zcap_lt39 v
theorem zpT_ok [zGh] [zCh] {v : Nat} {i : Int32} {ad : zA} (h : zIs v i) : zRepC ad (zI (zpT v)) (.int i) := by
  have cap : zRepC ad (zI (zcap v)) (.int i) := ⟨i, rfl, ⟨zcap_ok h, fun q => absurd q (Nat.ne_of_lt (zcap_lt39 v))⟩, fun q => absurd q (Nat.not_lt.mpr (Nat.le_of_lt (zcap_lt39 v))), fun q => absurd q (Nat.not_le.mpr (zcap_lt38 v))⟩
  unfold zpT
  cases h1 : Nat.ble 4294967296 v
  · have q1 := zble_f h1
    rw [cond_false]
    exact ⟨i, rfl, ⟨⟨fun _ => h.1 q1, fun q => absurd q (by omega)⟩, fun q => absurd q (by omega)⟩, fun q => absurd q (by omega), fun q => absurd q (by omega)⟩
  · rw [cond_true]
    cases h2 : Nat.ble (zhi v) 201
    · exact cap
    · rw [cond_true]
      cases h3 : Nat.beq (zlo v) 0
      · have q2 := Nat.le_of_ble_eq_true h2
        have hh := zhi_ok h
        have hl := zlo_ok h
        have hm : zlo v % 1000 = zlo v := Nat.mod_eq_of_lt (by omega)
        show zRepC ad (zI (274877906946 + zlo v % 1000)) (.int i)
        rw [hm]
        exact ⟨i, rfl, ⟨⟨fun q => absurd q (by omega), fun _ _ => by omega⟩, fun q => absurd q (by omega)⟩, fun q => absurd q (by omega), fun _ _ => ⟨by omega, fun q => absurd q (by omega), fun q => absurd q (by omega), fun _ => by omega⟩⟩
      · exact cap
noncomputable def xpfT (kc n : Nat) (k : zK d) : zK d := fun L S h => zpI S (fun v S => zpR S (fun r S => zat h r (fun t u j kd len x => cond (Nat.beq kd kc) (zF (fun y => zsetK d t j (kd, len, y) (fun t => k L S (t, u))) (zup 40 x n (zpT v))) false)))
theorem sm_putT [G : zGh] {ci kc n : Nat} {ty : FieldType} (hkc : 16 + ci = kc) (hn : n < zN ci) (hz : zisR (zfty ci n) = false) (hty : ty = .int) (row : zPut X pc ci n ty) (hs : zSim X fr P (pc + 3) k) : zSim X fr P pc (xpfT kc n k) := by
  subst hkc
  subst hty
  intro Ch cA D ad0 A MC MS p l e s m args below meth c ls st H locs cells slots L S h Cx hk R0
  obtain ⟨ws, hHp, hpre, hP, hD, hS, hL, hst, hcb, hsb⟩ := R0
  obtain ⟨v, S, rfl, hk1⟩ := zpI_t hk
  obtain ⟨r, S, rfl, hk2⟩ := zpR_t hk1
  obtain ⟨y, st, rfl, hy, hst1⟩ := zRepL_I hst
  obtain ⟨o, st, rfl, ho, hst2⟩ := zRepL_R hst1
  obtain ⟨j, kd, len, x, rfl, hgt, hk3⟩ := zat_t hk2
  obtain ⟨a, en, rfl, hwi, hcell⟩ := zat_w hHp ho
  rw [hgt] at hcell
  obtain ⟨hb, hk3⟩ := zcnd_t hk3
  have hb2 := Nat.eq_of_beq_eq_true hb
  rw [zF_eq, zsetK_eq, hb2] at hk3
  obtain ⟨fs, rfl, hlen, hfl⟩ := zCell_obj hcell hb2
  refine row Cx hP hD hS hwi rfl rfl (by rw [hlen]; exact hn) (fun H1 locs1 hP1 hD1 hS1 => ?_)
  have hz2 := zad_set (cA := cA) (e' := .inr (ci, fs.set n (.int y))) hwi
  exact hs Ch cA D ad0 A MC MS p l e s m args below meth c ls _ H1 locs1 cells slots L _ _ Cx hk3 ⟨_, zHp_set hHp hwi (zCell_ok (by rw [List.length_set]; exact hlen) (zFl_up (Nat.lt_trans (zpT_lt v) (by decide)) hfl (by unfold zFl; rw [hz, cond_false]; exact zpT_ok hy))), by rw [hz2]; exact hpre, hP1, hD1, hS1, by rw [hz2]; exact hL, by rw [hz2]; exact hst2, hcb, hsb⟩
end OPS
end
section
/-! the place moves on, is compared; loops over it -/
section OPS
variable {d : Nat} {X : zM} {fr : Nat} {P : zP d} {pc pc' tgt : Nat} {off : Int} {k kt kf : zK d}
noncomputable def xai (kc n : Nat) (k : zK d) : zK d := fun L S h => znth 0 L (fun v => Sum.rec (motive := fun _ => Bool) (fun _ => false) (fun u => Sum.rec (motive := fun _ => Bool) (fun r => zat h r (fun t u j kd len x => cond (Nat.beq kd kc) (cond (Nat.beq (zwd 40 x n) 274877906945) (zF (fun y => zsetK d t j (kd, len, y) (fun t => k L S (t, u))) (zup 40 x n 274877906944)) false) false)) (fun _ => false) u) v)
noncomputable def xaiT (kc n : Nat) (k : zK d) : zK d := fun L S h => znth 0 L (fun v => Sum.rec (motive := fun _ => Bool) (fun _ => false) (fun u => Sum.rec (motive := fun _ => Bool) (fun r => zat h r (fun t u j kd len x => cond (Nat.beq kd kc) (cond (Nat.beq (zwd 40 x n) 274877906945) (cond (zsf0L L) (cond (zsf0L S) (zF (fun y => zsetK d t j (kd, len, y) (fun t1 => cond (zngH t1 u.1) (zF (fun z => zsetK d t1 j (kd, len, z) (fun t2 => k L S (t2, u))) (zup 40 y n 274877906944)) false)) (zup 40 x n 4294967296)) false) false) false) false)) (fun _ => false) u) v)
/-- what the six instructions do -/
theorem at_six [G : zGh] {ci n ix1 : Nat} {C rf1 : String} {T : u_T} {N : Nat} {f1 : Fin 4} {n1 : Int} (hin : ∀ w ∈ u_ws C T N, w ∈ ztbl) (hc : zcl[ci]? = some (C, T, N)) (hn : n < N) (hl1 : Cond.fieldLink X.1 ix1 rf1 (T n).2.1 (T n).2.2.1 ∈ ztbl) (hr1 : (T n).1 = rf1)
    (d1 : decode X.2.1 pc = .ok (.aload_n f1, 1)) (e1 : (f1 : Nat) = 0) (d2 : decode X.2.1 (pc + 1) = .ok (.dup, 1)) (d3 : decode X.2.1 (pc + 1 + 1) = .ok (.getfield ix1, 3)) (d4 : decode X.2.1 (pc + 1 + 1 + 3) = .ok (.iconst n1, 1)) (d5 : decode X.2.1 (pc + 1 + 1 + 3 + 1) = .ok (.iadd, 1)) (row : zPut X (pc + 1 + 1 + 3 + 1 + 1) ci n .int)
    {cA : Nat → ClassId} {D : va_G} {p : Program} {l : Launch} {e : Env} {R : Room} {s : State} {m : MethodId} {args : Array Value} {below : List Frame} {meth : Method} {c : Code} {H : Heap} {A : Nat → Prop} {locs : List Loc} {cells slots : Nat} {Q : State → Prop} {ls : Array Slot} {st : List Value} {ws : va_W} {a q0 : Nat} {fs : List Value} {i : Int32}
    (Cx : zCx X cA D p s m args meth c A) (hP : va_P D zcl ws H) (hD : va_D A ws) (hS : va_S A s.heap H locs) (hwi : ws[q0]? = some (a, .inr (ci, fs))) (hv : fs[n]? = some (.int i)) (hx : ls[0]? = some (.val (.ref a)))
    (kk : ∀ (H1 : Heap) (locs1 : List Loc), va_P D zcl (ws.set q0 (a, .inr (ci, fs.set n (.int (i + Int32.ofInt n1))))) H1 → va_D A (ws.set q0 (a, .inr (ci, fs.set n (.int (i + Int32.ofInt n1))))) → va_S A s.heap H1 locs1 → W p l e R s m args below meth c H1 locs1 cells slots Q (F0 m (pc + 1 + 1 + 3 + 1 + 1 + 3) ls st)) : W p l e R s m args below meth c H locs cells slots Q (F0 m pc ls st) := by
  refine lv_aload_n Cx.1 Cx.2.1 d1 e1 hx ?_
  refine lv_dup Cx.1 Cx.2.1 d2 rfl ?_
  refine va_get (rest := .ref a :: st) Cx.1 Cx.2.1 Cx.2.2.2.2.1 hin Cx.2.2.2.1 Cx.2.2.2.2.2.1 hP q0 hwi hc n hn (Cx.2.2.2.2.1 _ hl1) (fun x hx => by rw [← hr1]; exact hx) hv d3 ?_
  refine lv_iconst Cx.1 Cx.2.1 d4 rfl ?_
  refine lv_iadd Cx.1 Cx.2.1 d5 ?_
  exact row Cx hP hD hS hwi rfl rfl (List.getElem?_eq_some_iff.mp hv).1 kk
theorem zi_succ {i j : Int32} (hj : zi j = 1) (hi : zi i ≤ 199) : zi (i + j) = zi i + 1 := by
  rw [zi_add, hj, Nat.mod_eq_of_lt (by omega)]
theorem sm_ai [G : zGh] {ci kc n ix1 : Nat} {C rf1 : String} {T : u_T} {N : Nat} {f1 : Fin 4} {n1 : Int} (hkc : 16 + ci = kc) (hz : zisR (zfty ci n) = false) (hN : N = zN ci) (h1 : zi (Int32.ofInt n1) = 1) (hin : ∀ w ∈ u_ws C T N, w ∈ ztbl) (hc : zcl[ci]? = some (C, T, N)) (hn : n < N) (hl1 : Cond.fieldLink X.1 ix1 rf1 (T n).2.1 (T n).2.2.1 ∈ ztbl) (hr1 : (T n).1 = rf1)
    (d1 : decode X.2.1 pc = .ok (.aload_n f1, 1)) (e1 : (f1 : Nat) = 0) (d2 : decode X.2.1 (pc + 1) = .ok (.dup, 1)) (d3 : decode X.2.1 (pc + 1 + 1) = .ok (.getfield ix1, 3)) (d4 : decode X.2.1 (pc + 1 + 1 + 3) = .ok (.iconst n1, 1)) (d5 : decode X.2.1 (pc + 1 + 1 + 3 + 1) = .ok (.iadd, 1)) (row : zPut X (pc + 1 + 1 + 3 + 1 + 1) ci n .int) (hs : zSim X fr P (pc + 1 + 1 + 3 + 1 + 1 + 3) k) : zSim X fr P pc (xai kc n k) := by
  subst hkc
  intro Ch cA D ad0 A MC MS p l e s m args below meth c ls st H locs cells slots L S h Cx hk R0
  obtain ⟨ws, hHp, hpre, hP, hD, hS, hL, hst, hcb, hsb⟩ := R0
  obtain ⟨v, hv, hk2⟩ := znth_t 0 hk
  match v, hv, hk2 with
  | .inr (.inl r), hv, hk2 =>
    obtain ⟨x0, hx0, o, rfl, ho⟩ := zLoc_at hL hv (by intro q; cases q)
    obtain ⟨j, kd, len, x, rfl, hg, hk3⟩ := zat_t hk2
    obtain ⟨a, en, rfl, hwi, hcell⟩ := zat_w hHp ho
    rw [hg] at hcell
    obtain ⟨hb, hk3⟩ := zcnd_t hk3
    obtain ⟨hw, hk3⟩ := zcnd_t hk3
    rw [zF_eq, zsetK_eq] at hk3
    have ekd := Nat.eq_of_beq_eq_true hb
    have ew := Nat.eq_of_beq_eq_true hw
    obtain ⟨fs, rfl, hlen, hfl⟩ := zCell_obj hcell ekd
    have hlt : n < fs.length := by rw [hlen, ← hN]; exact hn
    have hv1 : fs[n]? = some fs[n] := List.getElem?_eq_getElem hlt
    have hf := hfl n _ hv1
    unfold zFl at hf
    rw [hz, cond_false, ew] at hf
    obtain ⟨i, g1, g2, -, g4⟩ := hf
    obtain ⟨u1, u2, u3, -⟩ := g4 (by decide) (by decide)
    have u2 := u2 (by decide)
    have u3 := u3 rfl
    have hs1 := zi_succ h1 u3
    refine at_six hin hc hn hl1 hr1 d1 e1 d2 d3 d4 d5 row Cx hP hD hS hwi (by rw [hv1, g1]) hx0 (fun H1 locs1 hP1 hD1 hS1 => ?_)
    have hz2 := zad_set (cA := cA) (e' := .inr (ci, fs.set n (.int (i + Int32.ofInt n1)))) hwi
    rw [ekd] at hk3
    have hl2 := zi_lt (i + Int32.ofInt n1)
    exact hs Ch cA D ad0 A MC MS p l e s m args below meth c ls _ H1 locs1 cells slots L _ _ Cx hk3 ⟨_, zHp_set hHp hwi (zCell_ok (by rw [List.length_set]; exact hlen) (zFl_up (by decide) hfl (by unfold zFl; rw [hz, cond_false]; exact ⟨_, rfl, ⟨⟨fun q => absurd q (by decide), fun _ _ => by omega⟩, fun q => absurd q (by decide)⟩, fun q => absurd q (by decide), fun _ _ => ⟨by omega, fun _ => by omega, fun q => absurd q (by decide), fun q => absurd q (by decide)⟩⟩))), by rw [hz2]; exact hpre, hP1, hD1, hS1, by rw [hz2]; exact hL, by rw [hz2]; exact hst, hcb, hsb⟩
/-- T rises with the place -/
theorem sm_aiT [G : zGh] {ci kc n ix1 : Nat} {C rf1 : String} {T : u_T} {N : Nat} {f1 : Fin 4} {n1 : Int} (hkc : 16 + ci = kc) (hz : zisR (zfty ci n) = false) (hN : N = zN ci) (h1 : zi (Int32.ofInt n1) = 1) (hin : ∀ w ∈ u_ws C T N, w ∈ ztbl) (hc : zcl[ci]? = some (C, T, N)) (hn : n < N) (hl1 : Cond.fieldLink X.1 ix1 rf1 (T n).2.1 (T n).2.2.1 ∈ ztbl) (hr1 : (T n).1 = rf1)
    (d1 : decode X.2.1 pc = .ok (.aload_n f1, 1)) (e1 : (f1 : Nat) = 0) (d2 : decode X.2.1 (pc + 1) = .ok (.dup, 1)) (d3 : decode X.2.1 (pc + 1 + 1) = .ok (.getfield ix1, 3)) (d4 : decode X.2.1 (pc + 1 + 1 + 3) = .ok (.iconst n1, 1)) (d5 : decode X.2.1 (pc + 1 + 1 + 3 + 1) = .ok (.iadd, 1)) (row : zPut X (pc + 1 + 1 + 3 + 1 + 1) ci n .int) (hs : ∀ G' : zGh, @zg G' 0 = @zg G 0 + 1 → (∀ m, 0 < m → @zg G' m = @zg G m) → @zSim G' d X fr P (pc + 1 + 1 + 3 + 1 + 1 + 3) k) : zSim X fr P pc (xaiT kc n k) := by
  subst hkc
  intro Ch cA D ad0 A MC MS p l e s m args below meth c ls st H locs cells slots L S h Cx hk R0
  obtain ⟨ws, hHp, hpre, hP, hD, hS, hL, hst, hcb, hsb⟩ := R0
  obtain ⟨v, hv, hk2⟩ := znth_t 0 hk
  match v, hv, hk2 with
  | .inr (.inl r), hv, hk2 =>
    obtain ⟨x0, hx0, o, rfl, ho⟩ := zLoc_at hL hv (by intro q; cases q)
    obtain ⟨j, kd, len, x, rfl, hg, hk3⟩ := zat_t hk2
    obtain ⟨a, en, rfl, hwi, hcell⟩ := zat_w hHp ho
    rw [hg] at hcell
    obtain ⟨hb, hk3⟩ := zcnd_t hk3
    obtain ⟨hw, hk3⟩ := zcnd_t hk3
    obtain ⟨s1, hk3⟩ := zcnd_t hk3
    obtain ⟨s2, hk3⟩ := zcnd_t hk3
    rw [zF_eq, zsetK_eq] at hk3
    obtain ⟨s3, hk3⟩ := zcnd_t hk3
    rw [zF_eq, zsetK_eq] at hk3
    have ekd := Nat.eq_of_beq_eq_true hb
    have ew := Nat.eq_of_beq_eq_true hw
    obtain ⟨fs, rfl, hlen, hfl⟩ := zCell_obj hcell ekd
    have hlt : n < fs.length := by rw [hlen, ← hN]; exact hn
    have hv1 : fs[n]? = some fs[n] := List.getElem?_eq_getElem hlt
    have hf := hfl n _ hv1
    unfold zFl at hf
    rw [hz, cond_false, ew] at hf
    obtain ⟨i, g1, g2, -, g4⟩ := hf
    obtain ⟨u1, u2, u3, -⟩ := g4 (by decide) (by decide)
    have hT0 : @Eq Nat (cA 20) (zg 0) := Cx.2.2.2.2.2.2.2.2.1.2
    have u2 : zg 0 ≤ zi i := by rw [← hT0]; exact u2 (by decide)
    have u3 := u3 rfl
    have hs1 := zi_succ h1 u3
    refine at_six hin hc hn hl1 hr1 d1 e1 d2 d3 d4 d5 row Cx hP hD hS hwi (by rw [hv1, g1]) hx0 (fun H1 locs1 hP1 hD1 hS1 => ?_)
    -- no word of T but this one
    have hcell1 : zCell cA (zad cA ws) (16 + ci, len, zup 40 x n 4294967296) (.inr (ci, fs)) := zCell_ok hlen (fun q v hvq => by
      by_cases hq : n = q
      · subst hq
        rw [zwd_up_same _ _ _ _ (by decide)]
        rw [hv1] at hvq
        cases hvq
        unfold zFl
        rw [hz, cond_false]
        exact ⟨i, g1, ⟨⟨fun z => absurd z (by decide), fun z => absurd z (by decide)⟩, fun z => absurd z (by decide)⟩, fun z => absurd z (by decide), fun z => absurd z (by decide)⟩
      · rw [zwd_up_ne _ _ _ _ _ (by decide) hq]
        exact hfl q v hvq)
    have hH1 := zHp_cl hHp hwi (by rw [ekd]; exact hcell1 : zCell cA (zad cA ws) (kd, len, zup 40 x n 4294967296) (.inr (ci, fs)))
    have hne := zcT2_ne cA (zg 0 + 1)
    have hH2 : zHp (zcT2 cA (zg 0 + 1)) (zset d h.1 j (kd, len, zup 40 x n 4294967296), h.2) ws := zHp_ng hne s3 hH1
    have hcell2 : zCell (zcT2 cA (zg 0 + 1)) (zad (zcT2 cA (zg 0 + 1)) ws) (16 + ci, len, zup 40 x n 4294967296) (.inr (ci, fs)) := by
      have := hH2.2.2 j _ hwi
      have hjl : j < 2 ^ d := Nat.lt_of_lt_of_le (by rw [← hHp.1]; exact (List.getElem?_eq_some_iff.mp hwi).1) hHp.2.1
      rw [zget_set_same d _ _ _ hjl, ekd] at this
      exact this
    obtain ⟨fs', efs, -, hfl2⟩ := zCell_obj hcell2 rfl
    cases efs
    have hl2 := zi_lt (i + Int32.ofInt n1)
    have hH3 := zHp_set (e' := .inr (ci, fs.set n (.int (i + Int32.ofInt n1)))) hH2 hwi (zCell_ok (len := len) (x := zup 40 (zup 40 x n 4294967296) n 274877906944) (by rw [List.length_set]; exact hlen) (zFl_up (by decide) hfl2 (by
      unfold zFl
      rw [hz, cond_false]
      refine ⟨_, rfl, ⟨⟨fun q => absurd q (by decide), fun _ _ => by omega⟩, fun q => absurd q (by decide)⟩, fun q => absurd q (by decide), fun _ _ => ⟨by omega, fun _ => ?_, fun q => absurd q (by decide), fun q => absurd q (by decide)⟩⟩
      show zcT2 cA (zg 0 + 1) 20 ≤ _
      rw [zcT2_20]
      omega)))
    have hz2 := zad_set (cA := zcT2 cA (zg 0 + 1)) (e' := .inr (ci, fs.set n (.int (i + Int32.ofInt n1)))) hwi
    have hg0 : ∀ m, 0 < m → @zg (zgu G 0 (zg 0 + 1)) m = @zg G m := fun m hm => zgu_ne G _ (by omega)
    have e0 : ad0.2 = cA := hpre.2.symm
    refine W_post (fun o t hq => zQc_dn (cA' := zcT2 cA (zg 0 + 1)) (fun w hw => (hne w hw).symm) (by rw [zcT2_20, hT0]; exact Nat.le_succ _) e0 hq) ?_
    rw [ekd] at hk3
    exact hs (zgu G 0 (zg 0 + 1)) (zgu_same G 0 _) hg0 Ch (zcT2 cA (zg 0 + 1)) D (ad0.1, zcT2 cA (zg 0 + 1)) A MC MS p l e s m args below meth c ls _ H1 locs1 cells slots L _ _ (zCx_T hne (by rw [zcT2_20, zgu_same]) Cx) hk3 ⟨_, by rw [ekd] at hH3; exact hH3, by rw [hz2]; exact ⟨hpre.1, rfl⟩, hP1, hD1, hS1, by rw [hz2]; exact zLoc_G0 hg0 s1 (zLoc_T hne hL), by rw [hz2]; exact zRepL_G0 hg0 s2 (zRepL_T hne hst), hcb, hsb⟩
/-- is it still on the tape: behind that it is at most 199 -/
def zisT (w : Nat) : Bool := cond (Nat.ble 274877906944 w) (Nat.ble w 274877906945) false
theorem zisT_t {w : Nat} (h : zisT w = true) : 274877906944 ≤ w ∧ w < 274877906946 := by
  unfold zisT at h
  obtain ⟨h1, h2⟩ := zcnd_t h
  have h2 := Nat.le_of_ble_eq_true h2
  exact ⟨Nat.le_of_ble_eq_true h1, by omega⟩
theorem zlt_T {i1 i2 : Int32} (hq : ¬ i2 ≤ i1) (h1 : zi i1 ≤ 200) (h2 : zi i2 < 201) : zi i1 ≤ 199 := by
  have h := Int32.lt_iff_toInt_lt.mp (Int32.not_le.mp hq)
  rw [zi_toInt, zi_toInt, if_pos (by omega), if_pos (by omega)] at h
  omega
theorem zHp_w1 [zCh] {cA : Nat → ClassId} {h : zH d} {ws : va_W} {j kd ci n len x a : Nat} {fs : List Value} {i : Int32} (hHp : zHp cA h ws) (hwi : ws[j]? = some (a, .inr (ci, fs))) (ekd : kd = 16 + ci) (hlen : fs.length = zN ci) (hfl : ∀ k v, fs[k]? = some v → zFl (zad cA ws) ci k (zwd 40 x k) v) (hz : zisR (zfty ci n) = false) (hv : fs[n]? = some (.int i)) (hw : zisT (zwd 40 x n) = true) (hi : zi i ≤ 199) : zHp cA (zset d h.1 j (kd, len, zup 40 x n 274877906945), h.2) ws := by
  refine zHp_cl hHp hwi ?_
  rw [ekd]
  refine zCell_ok hlen (fun q v hvq => ?_)
  by_cases hq : n = q
  · subst hq
    rw [zwd_up_same _ _ _ _ (by decide)]
    have hf := hfl n _ hv
    rw [hv] at hvq
    cases hvq
    unfold zFl at hf ⊢
    rw [hz, cond_false] at hf ⊢
    obtain ⟨i', g1, g2, -, g4⟩ := hf
    cases g1
    obtain ⟨w1, w2⟩ := zisT_t hw
    obtain ⟨u1, u2, -⟩ := g4 w1 (by omega)
    exact ⟨i, rfl, ⟨⟨fun z => absurd z (by decide), fun _ _ => by omega⟩, fun z => absurd z (by decide)⟩, fun z => absurd z (by decide), fun _ _ => ⟨u1, fun _ => u2 w2, fun _ => hi, fun z => absurd z (by decide)⟩⟩
  · rw [zwd_up_ne _ _ _ _ _ (by decide) hq]
    exact hfl q v hvq
noncomputable def xfcT (kc n1 n2 : Nat) (kt kf : zK d) : zK d := fun L S h => znth 0 L (fun v => Sum.rec (motive := fun _ => Bool) (fun _ => false) (fun u => Sum.rec (motive := fun _ => Bool) (fun r => zat h r (fun t u j kd len x => cond (Nat.beq kd kc) (cond (zisT (zwd 40 x n1)) (cond (Nat.ble (zhi (zwd 40 x n2)) 201) (cond (kt L S h) (zF (fun y => zsetK d t j (kd, len, y) (fun t => kf L S (t, u))) (zup 40 x n1 274877906945)) false) false) false) false)) (fun _ => false) u) v)
theorem sm_fcT [G : zGh] {ci kc n1 n2 ix1 ix2 : Nat} {C rf1 rf2 : String} {T : u_T} {N : Nat} {f1 f2 : Fin 4} (hkc : 16 + ci = kc) (hz1 : zisR (zfty ci n1) = false) (hz2 : zisR (zfty ci n2) = false) (hin : ∀ w ∈ u_ws C T N, w ∈ ztbl) (hc : zcl[ci]? = some (C, T, N)) (hn1 : n1 < N) (hn2 : n2 < N) (hN : N = zN ci) (hl1 : Cond.fieldLink X.1 ix1 rf1 (T n1).2.1 (T n1).2.2.1 ∈ ztbl) (hr1 : (T n1).1 = rf1) (hl2 : Cond.fieldLink X.1 ix2 rf2 (T n2).2.1 (T n2).2.2.1 ∈ ztbl) (hr2 : (T n2).1 = rf2)
    (d1 : decode X.2.1 pc = .ok (.aload_n f1, 1)) (e1 : (f1 : Nat) = 0) (d2 : decode X.2.1 (pc + 1) = .ok (.getfield ix1, 3)) (d3 : decode X.2.1 (pc + 1 + 3) = .ok (.aload_n f2, 1)) (e2 : (f2 : Nat) = 0) (d4 : decode X.2.1 (pc + 1 + 3 + 1) = .ok (.getfield ix2, 3)) (d5 : decode X.2.1 (pc + 1 + 3 + 1 + 3) = .ok (.if_icmp .ge off, 3)) (ht : ((pc + 1 + 3 + 1 + 3 : Nat) : Int) + off = (tgt : Int)) (h1 : zSim X fr P tgt kt) (h2 : zSim X fr P (pc + 1 + 3 + 1 + 3 + 3) kf) : zSim X fr P pc (xfcT kc n1 n2 kt kf) := by
  subst hkc
  intro Ch cA D ad0 A MC MS p l e s m args below meth c ls st H locs cells slots L S h Cx hk R0
  obtain ⟨ws, hHp, hpre, hP, hD, hS, hL, hst, hcb, hsb⟩ := R0
  obtain ⟨v, hv, hk2⟩ := znth_t 0 hk
  match v, hv, hk2 with
  | .inr (.inl r), hv, hk2 =>
    obtain ⟨x0, hx0, o, rfl, ho⟩ := zLoc_at hL hv (by intro q; cases q)
    obtain ⟨j, kd, len, x, rfl, hg, hk3⟩ := zat_t hk2
    obtain ⟨a, en, rfl, hwi, hcell⟩ := zat_w hHp ho
    rw [hg] at hcell
    obtain ⟨hb, hk3⟩ := zcnd_t hk3
    obtain ⟨hw1, hk3⟩ := zcnd_t hk3
    obtain ⟨hw2, hk3⟩ := zcnd_t hk3
    obtain ⟨hkt, hkf⟩ := zcnd_t hk3
    rw [zF_eq, zsetK_eq] at hkf
    have ekd := Nat.eq_of_beq_eq_true hb
    obtain ⟨fs, rfl, hlen, hfl⟩ := zCell_obj hcell ekd
    have fld : ∀ n, n < N → zisR (zfty ci n) = false → ∃ i : Int32, fs[n]? = some (.int i) ∧ zRepC (zad cA ws) (zI (zwd 40 x n)) (.int i) := by
      intro n hn hz
      have hlt : n < fs.length := by rw [hlen, ← hN]; exact hn
      have hv : fs[n]? = some fs[n] := List.getElem?_eq_getElem hlt
      have hf := hfl n _ hv
      unfold zFl at hf
      rw [hz, cond_false] at hf
      obtain ⟨i, e1, e2⟩ := id hf
      exact ⟨i, by rw [hv, e1], by rw [e1] at hf; exact hf⟩
    obtain ⟨i1, v1, z1⟩ := fld n1 hn1 hz1
    obtain ⟨i2, v2, z2⟩ := fld n2 hn2 hz2
    refine lv_aload_n Cx.1 Cx.2.1 d1 e1 hx0 ?_
    refine va_get (rest := st) Cx.1 Cx.2.1 Cx.2.2.2.2.1 hin Cx.2.2.2.1 Cx.2.2.2.2.2.1 hP j hwi hc n1 hn1 (Cx.2.2.2.2.1 _ hl1) (fun x hx => by rw [← hr1]; exact hx) v1 d2 ?_
    refine lv_aload_n Cx.1 Cx.2.1 d3 e2 hx0 ?_
    refine va_get (rest := .int i1 :: st) Cx.1 Cx.2.1 Cx.2.2.2.2.1 hin Cx.2.2.2.1 Cx.2.2.2.2.2.1 hP j hwi hc n2 hn2 (Cx.2.2.2.2.1 _ hl2) (fun x hx => by rw [← hr2]; exact hx) v2 d4 ?_
    refine lv_icmp_ge Cx.1 Cx.2.1 d5 ht (fun hq => ?_) (fun hq => ?_)
    · exact h1 Ch cA D ad0 A MC MS p l e s m args below meth c ls _ H locs cells slots L _ h Cx hkt ⟨ws, hHp, hpre, hP, hD, hS, hL, hst, hcb, hsb⟩
    · obtain ⟨i1', q1, q2, -, q4⟩ := z1
      cases q1
      obtain ⟨w1, w2⟩ := zisT_t hw1
      obtain ⟨u1, -⟩ := q4 w1 (by omega)
      obtain ⟨i2', p1, p2, -, -⟩ := z2
      cases p1
      have hlt2 : zi i2 < 201 := Nat.lt_of_lt_of_le (zhi_ok (zIs_a p2.1 (zwd_lt _ _ _))) (Nat.le_of_ble_eq_true hw2)
      exact h2 Ch cA D ad0 A MC MS p l e s m args below meth c ls _ H locs cells slots L _ _ Cx hkf ⟨ws, zHp_w1 hHp hwi ekd hlen hfl hz1 v1 hw1 (zlt_T hq u1 hlt2), hpre, hP, hD, hS, hL, hst, hcb, hsb⟩
/-- the same, where the length is a field of a field -/
noncomputable def xfcU (kc n1 n2 kc2 n3 : Nat) (kt kf : zK d) : zK d := fun L S h => znth 0 L (fun v => Sum.rec (motive := fun _ => Bool) (fun _ => false) (fun u => Sum.rec (motive := fun _ => Bool) (fun r => zat h r (fun t u j kd len x => cond (Nat.beq kd kc) (cond (zisT (zwd 40 x n1)) (cond (Nat.ble 549755813888 (zwd 40 x n2)) false (zat h (zwd 40 x n2) (fun _ _ _ kd2 _ x2 => cond (Nat.beq kd2 kc2) (cond (Nat.ble (zhi (zwd 40 x2 n3)) 201) (cond (kt L S h) (zF (fun y => zsetK d t j (kd, len, y) (fun t => kf L S (t, u))) (zup 40 x n1 274877906945)) false) false) false))) false) false)) (fun _ => false) u) v)
theorem sm_fcU [G : zGh] {ci kc ci2 kc2 n1 n2 n3 ix1 ix2 ix3 : Nat} {C rf1 rf2 C2 rf3 : String} {T T2 : u_T} {N N2 : Nat} {f1 f2 : Fin 4} (hkc : 16 + ci = kc) (hkc2 : 16 + ci2 = kc2) (hz1 : zisR (zfty ci n1) = false) (hz2 : zisR (zfty ci n2) = true) (hz3 : zisR (zfty ci2 n3) = false) (hin : ∀ w ∈ u_ws C T N, w ∈ ztbl) (hc : zcl[ci]? = some (C, T, N)) (hn1 : n1 < N) (hn2 : n2 < N) (hN : N = zN ci) (hin2 : ∀ w ∈ u_ws C2 T2 N2, w ∈ ztbl) (hc2 : zcl[ci2]? = some (C2, T2, N2)) (hn3 : n3 < N2) (hN2 : N2 = zN ci2) (hl1 : Cond.fieldLink X.1 ix1 rf1 (T n1).2.1 (T n1).2.2.1 ∈ ztbl) (hr1 : (T n1).1 = rf1) (hl2 : Cond.fieldLink X.1 ix2 rf2 (T n2).2.1 (T n2).2.2.1 ∈ ztbl) (hr2 : (T n2).1 = rf2) (hl3 : Cond.fieldLink X.1 ix3 rf3 (T2 n3).2.1 (T2 n3).2.2.1 ∈ ztbl) (hr3 : (T2 n3).1 = rf3)
    (d1 : decode X.2.1 pc = .ok (.aload_n f1, 1)) (e1 : (f1 : Nat) = 0) (d2 : decode X.2.1 (pc + 1) = .ok (.getfield ix1, 3)) (d3 : decode X.2.1 (pc + 1 + 3) = .ok (.aload_n f2, 1)) (e2 : (f2 : Nat) = 0) (d4 : decode X.2.1 (pc + 1 + 3 + 1) = .ok (.getfield ix2, 3)) (d4b : decode X.2.1 (pc + 1 + 3 + 1 + 3) = .ok (.getfield ix3, 3)) (d5 : decode X.2.1 (pc + 1 + 3 + 1 + 3 + 3) = .ok (.if_icmp .ge off, 3)) (ht : ((pc + 1 + 3 + 1 + 3 + 3 : Nat) : Int) + off = (tgt : Int)) (h1 : zSim X fr P tgt kt) (h2 : zSim X fr P (pc + 1 + 3 + 1 + 3 + 3 + 3) kf) : zSim X fr P pc (xfcU kc n1 n2 kc2 n3 kt kf) := by
  subst hkc
  subst hkc2
  intro Ch cA D ad0 A MC MS p l e s m args below meth c ls st H locs cells slots L S h Cx hk R0
  obtain ⟨ws, hHp, hpre, hP, hD, hS, hL, hst, hcb, hsb⟩ := R0
  obtain ⟨v, hv, hk2⟩ := znth_t 0 hk
  match v, hv, hk2 with
  | .inr (.inl r), hv, hk2 =>
    obtain ⟨x0, hx0, o, rfl, ho⟩ := zLoc_at hL hv (by intro q; cases q)
    obtain ⟨j, kd, len, x, rfl, hg, hk3⟩ := zat_t hk2
    obtain ⟨a, en, rfl, hwi, hcell⟩ := zat_w hHp ho
    rw [hg] at hcell
    obtain ⟨hb, hk3⟩ := zcnd_t hk3
    obtain ⟨hw1, hk3⟩ := zcnd_t hk3
    have ekd := Nat.eq_of_beq_eq_true hb
    obtain ⟨fs, rfl, hlen, hfl⟩ := zCell_obj hcell ekd
    cases hbw : Nat.ble 549755813888 (zwd 40 x n2)
    case true => rw [hbw] at hk3; cases hk3
    rw [hbw, cond_false] at hk3
    obtain ⟨j2, kd2, len2, x2, ej2, hg2, hk4⟩ := zat_t hk3
    obtain ⟨hb2, hk4⟩ := zcnd_t hk4
    obtain ⟨hw2, hk4⟩ := zcnd_t hk4
    obtain ⟨hkt, hkf⟩ := zcnd_t hk4
    rw [zF_eq, zsetK_eq] at hkf
    have ekd2 := Nat.eq_of_beq_eq_true hb2
    have hl1' : n1 < fs.length := by rw [hlen, ← hN]; exact hn1
    have hl2' : n2 < fs.length := by rw [hlen, ← hN]; exact hn2
    have f1v : fs[n1]? = some fs[n1] := List.getElem?_eq_getElem hl1'
    have f2v : fs[n2]? = some fs[n2] := List.getElem?_eq_getElem hl2'
    have g1 := hfl n1 _ f1v
    have g2 := hfl n2 _ f2v
    unfold zFl at g1 g2
    rw [hz1, cond_false] at g1
    rw [hz2, cond_true] at g2
    obtain ⟨i1, q1, q2, -, q4⟩ := g1
    obtain ⟨o2, p1, p2⟩ := g2
    rcases p2 with ⟨-, p2⟩ | ⟨p2, -⟩
    case inr => exact absurd p2 (Nat.not_le.mpr (zble_f hbw))
    rw [ej2] at p2
    obtain ⟨a2, en2, rfl, hwi2, hcell2⟩ := zat_w hHp p2
    rw [hg2] at hcell2
    obtain ⟨fs2, rfl, hlen2, hfl2⟩ := zCell_obj hcell2 ekd2
    have hl3' : n3 < fs2.length := by rw [hlen2, ← hN2]; exact hn3
    have f3v : fs2[n3]? = some fs2[n3] := List.getElem?_eq_getElem hl3'
    have g3 := hfl2 n3 _ f3v
    unfold zFl at g3
    rw [hz3, cond_false] at g3
    obtain ⟨i3, r1, r2, -, -⟩ := g3
    refine lv_aload_n Cx.1 Cx.2.1 d1 e1 hx0 ?_
    refine va_get (rest := st) Cx.1 Cx.2.1 Cx.2.2.2.2.1 hin Cx.2.2.2.1 Cx.2.2.2.2.2.1 hP j hwi hc n1 hn1 (Cx.2.2.2.2.1 _ hl1) (fun x hx => by rw [← hr1]; exact hx) (by rw [f1v, q1] : fs[n1]? = some (.int i1)) d2 ?_
    refine lv_aload_n Cx.1 Cx.2.1 d3 e2 hx0 ?_
    refine va_get (rest := .int i1 :: st) Cx.1 Cx.2.1 Cx.2.2.2.2.1 hin Cx.2.2.2.1 Cx.2.2.2.2.2.1 hP j hwi hc n2 hn2 (Cx.2.2.2.2.1 _ hl2) (fun x hx => by rw [← hr2]; exact hx) (by rw [f2v, p1] : fs[n2]? = some (va_rf (some a2))) d4 ?_
    refine va_get (rest := .int i1 :: st) Cx.1 Cx.2.1 Cx.2.2.2.2.1 hin2 Cx.2.2.2.1 Cx.2.2.2.2.2.1 hP j2 hwi2 hc2 n3 hn3 (Cx.2.2.2.2.1 _ hl3) (fun x hx => by rw [← hr3]; exact hx) (by rw [f3v, r1] : fs2[n3]? = some (.int i3)) d4b ?_
    refine lv_icmp_ge Cx.1 Cx.2.1 d5 ht (fun hq => ?_) (fun hq => ?_)
    · exact h1 Ch cA D ad0 A MC MS p l e s m args below meth c ls _ H locs cells slots L _ h Cx hkt ⟨ws, hHp, hpre, hP, hD, hS, hL, hst, hcb, hsb⟩
    · obtain ⟨w1, w2⟩ := zisT_t hw1
      obtain ⟨u1, -⟩ := q4 w1 (by omega)
      have hlt2 : zi i3 < 201 := Nat.lt_of_lt_of_le (zhi_ok (zIs_a r2.1 (zwd_lt _ _ _))) (Nat.le_of_ble_eq_true hw2)
      exact h2 Ch cA D ad0 A MC MS p l e s m args below meth c ls _ H locs cells slots L _ _ Cx hkf ⟨ws, zHp_w1 hHp hwi ekd hlen hfl hz1 (by rw [f1v, q1]) hw1 (zlt_T hq u1 hlt2), hpre, hP, hD, hS, hL, hst, hcb, hsb⟩
/-- known where T has risen -/
def zSimU [G : zGh] {d : Nat} (j : Nat) (X : zM) (fr : Nat) (P : zP d) (pc : Nat) (k : zK d) : Prop := ∀ G2 : zGh, @zg G 0 < @zg G2 0 → (∀ m, 0 < m → m < j → @zg G2 m = @zg G m) → @zSim G2 d X fr P pc k
theorem zSimU.mv {G G' : zGh} {j j' : Nat} (h : @zSimU G d j X fr P pc k) (hG : ∀ m, m < j' → @zg G' m = @zg G m) (hj : j ≤ j') (h0 : 0 < j := by decide) : @zSimU G' d j X fr P pc k := fun G2 h2 h3 => h G2 (by rw [← hG 0 (by omega)]; exact h2) (fun m m0 mj => (h3 m m0 mj).trans (hG m (by omega)))
theorem zSimU.up {G G' : zGh} {j : Nat} (h : @zSimU G d j X fr P pc k) (h0 : @zg G' 0 = @zg G 0 + 1) (hm : ∀ m, 0 < m → @zg G' m = @zg G m) (hj : 0 < j := by decide) : @zSimJ G' d j X fr P pc k := fun G3 h3 => h G3 (by rw [h3 0 hj, h0]; omega) (fun m m0 mj => (h3 m mj).trans (hm m m0))
/-- a cell with a word that speaks of T -/
noncomputable def zatw (kc n b : Nat) (h : zH d) : Bool := cond (Nat.ble (Nat.succ b) h.2.1) (Prod.rec (motive := fun _ => Bool) (fun kd v => Prod.rec (motive := fun _ => Bool) (fun _ x => cond (Nat.beq kd kc) (zisT (zwd 40 x n)) false) v) (zget d h.1 b)) false
theorem zatw_t [zCh] {ci kc n b : Nat} {h : zH d} {cA : Nat → ClassId} {ws : va_W} (hkc : 16 + ci = kc) (hz : zisR (zfty ci n) = false) (hn : n < zN ci) (hk : zatw kc n b h = true) (hH : zHp cA h ws) : @LE.le Nat _ (cA 20) 200 := by
  obtain ⟨h1, hk⟩ := zcnd_t hk
  have hb : b < ws.length := by rw [hH.1]; exact Nat.le_of_ble_eq_true h1
  have hc := hH.2.2 b _ (List.getElem?_eq_getElem hb)
  generalize zget d h.1 b = cc at hk hc
  obtain ⟨kd, len, x⟩ := cc
  have hk : cond (Nat.beq kd kc) (zisT (zwd 40 x n)) false = true := hk
  obtain ⟨h2, h3⟩ := zcnd_t hk
  obtain ⟨fs, e1, hlen, hfl⟩ := zCell_obj (ci := ci) hc (by rw [hkc]; exact Nat.eq_of_beq_eq_true h2)
  have hlt : n < fs.length := by rw [hlen]; exact hn
  have hf := hfl n _ (List.getElem?_eq_getElem hlt)
  unfold zFl at hf
  rw [hz, cond_false] at hf
  obtain ⟨i, -, -, -, g4⟩ := hf
  obtain ⟨w1, w2⟩ := zisT_t h3
  obtain ⟨u1, u2, -⟩ := g4 w1 (by omega)
  have u2 : cA 20 ≤ zi i := u2 w2
  exact Nat.le_trans u2 u1
noncomputable def zat0 (L : List zV) (K : Nat → Bool) : Bool := znth 0 L (fun v => Sum.rec (motive := fun _ => Bool) (fun _ => false) (fun u => Sum.rec (motive := fun _ => Bool) (fun r => Nat.rec (motive := fun _ => Bool) false (fun b _ => K b) r) (fun _ => false) u) v)
theorem zat0_t {L : List zV} {K : Nat → Bool} (h : zat0 L K = true) : ∃ b, K b = true := by
  obtain ⟨v, -, hk⟩ := znth_t 0 h
  match v, hk with
  | .inr (.inl (b + 1)), hk => exact ⟨b, hk⟩
noncomputable def xlpA (kc n : Nat) (wk : zWk d) (body : zK d → zK d) : zK d := fun L S h => List.rec (motive := fun _ => Bool) (wk L h (fun L0 h0 => cond (zsubL true L L0) (cond (zsubH h h0) (cond (zat0 L0 (fun b => zatw kc n b h0)) (body (xchk L0 [] h0) L0 [] h0) false) false) false)) (fun _ _ _ => false) S
/-- a loop in each turn of which the place moves on -/
theorem sm_lpA [G : zGh] {ci kc n : Nat} {wk : zWk d} {body : zK d → zK d} (hkc : 16 + ci = kc) (hz : zisR (zfty ci n) = false) (hn : n < zN ci) (hwk : zWkOK wk) (hb : ∀ (G' : zGh) (r : zK d), @zSimU G' d 1 X fr P pc r → @zSim G' d X fr P pc (body r)) : zSim X fr P pc (xlpA kc n wk body) := by
  intro Ch cA D ad0 A MC MS p l e s m args below meth c ls st H locs cells slots L S h Cx hk R
  match S, hk, R with
  | [], hk, R =>
    obtain ⟨L0, h0, hk⟩ := hwk _ _ _ hk
    obtain ⟨c1, hk⟩ := zcnd_t hk
    obtain ⟨c2, hk⟩ := zcnd_t hk
    obtain ⟨c3, hk⟩ := zcnd_t hk
    obtain ⟨b, c3⟩ := zat0_t c3
    have claim : ∀ (N : Nat) (G' : zGh), 201 ≤ @zg G' 0 + N → @zSim G' d X fr P pc (xchk L0 [] h0) := by
      intro N
      induction N with
      | zero =>
        intro G' hN Ch cA D ad0 A MC MS p l e s m args below meth c ls st H locs cells slots L S h Cx hk R
        obtain ⟨-, hk⟩ := zcnd_t hk
        obtain ⟨-, hk⟩ := zcnd_t hk
        obtain ⟨ws, hHp, -⟩ := R
        have q := zatw_t hkc hz hn c3 (zsubH_ok hk hHp)
        have q2 : cA 20 = @zg G' 0 := Cx.2.2.2.2.2.2.2.2.1.2
        rw [q2] at q
        omega
      | succ N ih =>
        intro G' hN
        exact @sm_chk d X fr P pc _ G' L0 [] h0 (hb G' (xchk L0 [] h0) (fun G2 hlt _ => ih G2 (by omega))) hk
    refine claim 201 G (by omega) Ch cA D ad0 A MC MS p l e s m args below meth c ls st H locs cells slots L [] h Cx ?_ R
    show cond (zsubL true L L0) (cond (zsubL false [] []) (zsubH h h0) false) false = true
    rw [c1, c2]
    rfl
end OPS
end
section
/-! a loop that counts its turns; contracts: from a bound to T and back, several ends -/
section OPS
variable {d : Nat} {X : zM} {fr : Nat} {P : zP d} {pc pc' tgt : Nat} {off : Int} {k kt kf : zK d}
noncomputable def xlpS (i j kc n : Nat) (wk : zWk d) (body : zK d → zK d) : zK d := fun L S h => List.rec (motive := fun _ => Bool) (znth i L (fun v => Sum.rec (motive := fun _ => Bool) (fun n0 => cond (Nat.beq n0 0) (wk L h (fun L1 h0 => zex i L1 (fun R0 => zex i L (fun R => cond (zsubL true R R0) (cond (zsfL j R0) (cond (zsubH h h0) (zF (fun c => zin i (zI c) R0 (fun L0 => cond (zat0 L0 (fun b => zatw kc n b h0)) (body (zbk i j 8589934592 R0 h0) L0 [] h0) false)) (zsy j 0 201)) false) false) false)))) false) (fun _ => false) v)) (fun _ _ _ => false) S
theorem lpS_claim {ci kc n i j b : Nat} {R0 L0 : List zV} {h0 : zH d} {body : zK d → zK d} (hj0 : 0 < j) (hj : j < 65536) (hkc : 16 + ci = kc) (hz : zisR (zfty ci n) = false) (hn : n < zN ci) (c3 : zatw kc n b h0 = true) (q1 : L0.length = R0.length + 1) (q2 : L0[i]? = some (zI (zsy j 0 201))) (q3 : ∀ m : Nat, m < i → L0[m]? = R0[m]?) (q4 : ∀ m : Nat, i ≤ m → L0[m + 1]? = R0[m]?) (hf : zsfL j R0 = true)
    (hb : ∀ (G' : zGh) (r : zK d), @zSimU G' d (j + 1) X fr P pc r → @zSim G' d X fr P pc (body r)) (hk0 : body (zbk i j 8589934592 R0 h0) L0 [] h0 = true) : ∀ (N : Nat) (G' : zGh), 201 ≤ @zg G' 0 + N → @zg G' j ≤ @zg G' 0 →
    ∀ (Ch : zCh) (cA : Nat → ClassId) (D : va_G) (ad0 : zA) (A : Nat → Prop) (MC MS : Nat) (p : Program) (l : Launch) (e : Env) (s : State) (m : MethodId) (args : Array Value) (below : List Frame) (meth : Method) (c : Code) (ls : Array Slot) (st : List Value) (H : Heap) (locs : List Loc) (cells slots : Nat),
    @zCx G' X cA D p s m args meth c A → @zRel G' Ch d cA D ad0 A MC MS s X.2.2.1 L0 [] h0 ls st H locs cells slots → W p l e (zRm fr MC MS) s m args below meth c H locs cells slots (MQ below (zQc P cA D ad0 A) args s MC MS A) (F0 m pc ls st) := by
  intro N
  induction N with
  | zero =>
    intro G' hN _ Ch cA D ad0 A MC MS p l e s m args below meth c ls st H locs cells slots Cx R
    obtain ⟨ws, hHp, -⟩ := R
    have q := zatw_t hkc hz hn c3 hHp
    have q2 : cA 20 = @zg G' 0 := Cx.2.2.2.2.2.2.2.2.1.2
    rw [q2] at q
    omega
  | succ N ih =>
    intro G' hN hle Ch cA D ad0 A MC MS p l e s m args below meth c ls st H locs cells slots Cx R
    refine hb G' (zbk i j 8589934592 R0 h0) ?_ Ch cA D ad0 A MC MS p l e s m args below meth c ls st H locs cells slots L0 [] h0 Cx hk0 R
    intro G2 hlt hm Ch2 cA2 D2 ad2 A2 MC2 MS2 p2 l2 e2 s2 m2 args2 below2 meth2 c2 ls2 st2 H2 locs2 cells2 slots2 L S h Cx2 hk R2
    obtain ⟨rfl, nn, R1, g1, g2, -, g4, g5, g6, g7, g8⟩ := zbk_t hk
    obtain ⟨ws, hHp, hpre, hP, hD, hS, hL, hst, hcb, hsb⟩ := R2
    have hH0 := zsubH_ok g8 hHp
    have q200 := zatw_t hkc hz hn c3 hH0
    have qT : cA2 20 = @zg G2 0 := Cx2.2.2.2.2.2.2.2.2.1.2
    rw [qT] at q200
    have ej : @zg G2 j = @zg G' j := hm j hj0 (Nat.lt_succ_self j)
    have hval : ∀ iv : Int32, @zIs G2 nn iv → zi iv = @zg G2 j + 1 := by
      intro iv hzz
      have hnn : 4722366482869645213696 ≤ nn := by omega
      have e1 := hzz.2.2.2 hnn
      have e2 : (j + 65536) % 65536 = j := by omega
      have e3 : (j + 65536) / 65536 = 1 := by omega
      rw [g2, e2, e3] at e1
      exact e1
    have hG3 : ∀ m, m < j → @zg (zgu G2 j (@zg G2 j + 1)) m = @zg G2 m := fun m hm => zgu_ne G2 _ (by omega)
    have z0 : @zg (zgu G2 j (@zg G2 j + 1)) 0 = @zg G2 0 := hG3 0 hj0
    have zj : @zg (zgu G2 j (@zg G2 j + 1)) j = @zg G2 j + 1 := zgu_same G2 j _
    obtain ⟨-, z2, z3, -⟩ := zsubH_t g8
    match st2, hst with
    | [], _ =>
      exact ih (zgu G2 j (@zg G2 j + 1)) (by rw [z0]; omega) (by rw [z0, zj]; omega) Ch2 cA2 D2 ad2 A2 MC2 MS2 p2 l2 e2 s2 m2 args2 below2 meth2 c2 ls2 [] H2 locs2 cells2 slots2 (zCx_G z0 Cx2)
        ⟨ws, hH0, hpre, hP, hD, hS, zLoc_new hL g4 g5 g6 q1 q2 q3 q4 g7 hf hG3 g1 (fun iv _ hzz => by
          have y1 := hval iv hzz
          exact @zsy_ok (zgu G2 j (@zg G2 j + 1)) j 0 201 iv (Nat.zero_le _) (by omega) (by decide) (by rw [Nat.mod_eq_of_lt hj, Nat.div_eq_of_lt hj, zj]; exact y1)), trivial, by omega, by omega⟩
theorem sm_lpS [G : zGh] {ci kc n i j : Nat} {wk : zWk d} {body : zK d → zK d} (hj0 : 0 < j) (hj : j < 65536) (hkc : 16 + ci = kc) (hz : zisR (zfty ci n) = false) (hn : n < zN ci) (hwk : zWkOK wk) (hb : ∀ (G' : zGh) (r : zK d), @zSimU G' d (j + 1) X fr P pc r → @zSim G' d X fr P pc (body r)) : zSim X fr P pc (xlpS i j kc n wk body) := by
  intro Ch cA D ad0 A MC MS p l e s m args below meth c ls st H locs cells slots L S h Cx hk R
  obtain ⟨ws, hHp, hpre, hP, hD, hS, hL, hst, hcb, hsb⟩ := R
  match S, hk, hst with
  | [], hk, hst =>
    obtain ⟨v, hv, hk2⟩ := znth_t i hk
    match v, hv, hk2 with
    | .inl n0, hv, hk2 =>
      obtain ⟨e0, hk3⟩ := zcnd_t hk2
      obtain ⟨L1, h0, hk4⟩ := hwk _ _ _ hk3
      obtain ⟨R0, hk5, -⟩ := zex_t i hk4
      obtain ⟨R, hk6, r1, r2, r3⟩ := zex_t i hk5
      obtain ⟨h3, hk6⟩ := zcnd_t hk6
      obtain ⟨h4, hk6⟩ := zcnd_t hk6
      obtain ⟨h5, hk6⟩ := zcnd_t hk6
      rw [zF_eq] at hk6
      obtain ⟨L0, hk7, q1, q2, q3, q4⟩ := zin_t i hk6
      obtain ⟨c3, hk7⟩ := zcnd_t hk7
      obtain ⟨b, c3⟩ := zat0_t c3
      obtain ⟨-, z2, z3, -⟩ := zsubH_t h5
      have e0 := Nat.eq_of_beq_eq_true e0
      have hz0 : ∀ iu : Int32, zIs n0 iu → zi iu = 0 := fun iu hiu => by
        have := hiu.1 (by omega)
        omega
      have hg0 : @zg (zgu G j 0) 0 = @zg G 0 := zgu_ne G _ (by omega)
      match st, hst with
      | [], _ =>
        exact lpS_claim hj0 hj hkc hz hn c3 q1 q2 q3 q4 h4 hb hk7 201 (zgu G j 0) (by omega) (by rw [zgu_same]; exact Nat.zero_le _) Ch cA D ad0 A MC MS p l e s m args below meth c ls [] H locs cells slots (zCx_G hg0 Cx)
          ⟨ws, zsubH_ok h5 hHp, hpre, hP, hD, hS, zLoc_new hL r1 r2 r3 q1 q2 q3 q4 h3 h4 (fun m hm => zgu_ne G 0 (by omega)) hv (fun iv _ hzz => by
            have y1 := hz0 iv hzz
            exact @zsy_ok (zgu G j 0) j 0 201 iv (Nat.zero_le _) (by omega) (by decide) (by rw [Nat.mod_eq_of_lt hj, Nat.div_eq_of_lt hj, zgu_same]; exact y1)), trivial, by omega, by omega⟩
end OPS
section MET
variable {d : Nat}
/-- several ends -/
noncomputable def zrkL (outs : List (zV × zH d)) : zP d := fun r h => List.rec (motive := fun _ => Bool) false (fun e _ rr => Prod.rec (motive := fun _ => Bool) (fun r1 h1 => cond (zrk r1 h1 r h) true rr) e) outs
noncomputable def zoall (P : zP d) (outs : List (zV × zH d)) : Bool := List.rec (motive := fun _ => Bool) true (fun e _ rr => Prod.rec (motive := fun _ => Bool) (fun r1 h1 => cond (P r1 h1) rr false) e) outs
theorem zrkL_t {P : zP d} {r : zV} {h : zH d} : ∀ {outs : List (zV × zH d)}, zrkL outs r h = true → zoall P outs = true → ∃ r1 h1, zrk r1 h1 r h = true ∧ P r1 h1 = true
  | [], hk, _ => by cases hk
  | (r1, h1) :: outs, hk, ha => by
    have hk : cond (zrk r1 h1 r h) true (zrkL outs r h) = true := hk
    have ha : cond (P r1 h1) (zoall P outs) false = true := ha
    obtain ⟨a1, a2⟩ := zcnd_t ha
    cases q : zrk r1 h1 r h
    · rw [q, cond_false] at hk
      exact zrkL_t hk a2
    · exact ⟨r1, h1, q, a1⟩
noncomputable def zocs (as0 : List zV) (h0 : zH d) (outs : List (zV × zH d)) : List zV → zH d → zP d → Bool := fun as h P => cond (zsubL false as as0) (cond (Nat.beq h0.2.2.1 h.2.2.1) (cond (Nat.beq h0.2.2.2 h.2.2.2) (cond (zsubH h h0) (zoall P outs) false) false) false) false
theorem zMet_oc {X : zM} {y : MethodName} {fr : Nat} {f : List zV → zH d → zP d → Bool} (hM : zMet X y fr f) {as0 : List zV} {h0 : zH d} {outs : List (zV × zH d)} (hev : f as0 h0 (zrkL outs) = true) : zMet X y fr (zocs as0 h0 outs) := by
  intro G Ch l cA D ws av as h P sz hg has hH hT
  obtain ⟨c1, hg⟩ := zcnd_t hg
  obtain ⟨c2, hg⟩ := zcnd_t hg
  obtain ⟨c3, hg⟩ := zcnd_t hg
  obtain ⟨c4, hg⟩ := zcnd_t hg
  have e2 := Nat.eq_of_beq_eq_true c2
  have e3 := Nat.eq_of_beq_eq_true c3
  have hm := hM l cA D ws av as0 h0 (zrkL outs) sz hev (zsubL_S c1 has) (zsubH_ok c4 hH) hT
  rw [e2, e3] at hm
  refine Met_mono hm (fun _ _ q => q) ?_ (fun _ q => q)
  rintro b st o t - ⟨⟨Ch', r, hh, ws', ov, rfl, hov, hk, hHp', hpre', hP', hD'⟩, hF⟩
  obtain ⟨r1, h1, hk1, hp1⟩ := zrkL_t hk hg
  obtain ⟨hsb, hrr⟩ := zrk_t hk1
  refine ⟨⟨Ch', r1, h1, ws', ov, rfl, ?_, hp1, zsubH_ok hsb hHp', hpre', hP', hD'⟩, hF⟩
  rcases hrr with ⟨g1, g2⟩ | ⟨g1, g2⟩
  · subst g2
    rw [g1]
    exact hov
  · rcases hov with ⟨-, z⟩ | ⟨x, z1, z2⟩
    · rw [z] at g2
      exact absurd g2 (fun q => zsubV_nU q)
    · refine Or.inr ⟨x, z1, fun G' => ?_⟩
      rcases @zsubV_ok G' false _ _ _ _ g2 (z2 G') with ⟨q, -⟩ | q
      · cases q
      · exact q
/-- a bound becomes a word of T, and a bound again -/
noncomputable def zent (kc n j : Nat) (K : zH d → Bool) (h : zH d) : Bool := Prod.rec (motive := fun _ => Bool) (fun t u => Prod.rec (motive := fun _ => Bool) (fun kd v => Prod.rec (motive := fun _ => Bool) (fun len x => cond (Nat.ble (Nat.succ j) u.1) (cond (Nat.beq kd kc) (cond (zisT (zwd 40 x n)) (zF (fun y => zsetK d t j (kd, len, y) (fun t => cond (zngH t u.1) (K (t, u)) false)) (zup 40 x n (zgT (zwd 40 x n)))) false) false) false) v) (zget d t j)) h
theorem zent_t {kc n j : Nat} {K : zH d → Bool} {h : zH d} (hk : zent kc n j K h = true) : ∃ len x, j < h.2.1 ∧ zget d h.1 j = (kc, len, x) ∧ zisT (zwd 40 x n) = true ∧ zngH (zset d h.1 j (kc, len, zup 40 x n (zgT (zwd 40 x n)))) h.2.1 = true ∧ K (zset d h.1 j (kc, len, zup 40 x n (zgT (zwd 40 x n))), h.2) = true := by
  obtain ⟨t, u⟩ := h
  have hk : Prod.rec (motive := fun _ => Bool) (fun kd v => Prod.rec (motive := fun _ => Bool) (fun len x => cond (Nat.ble (Nat.succ j) u.1) (cond (Nat.beq kd kc) (cond (zisT (zwd 40 x n)) (zF (fun y => zsetK d t j (kd, len, y) (fun t => cond (zngH t u.1) (K (t, u)) false)) (zup 40 x n (zgT (zwd 40 x n)))) false) false) false) v) (zget d t j) = true := hk
  generalize hg : zget d t j = cc at hk
  obtain ⟨kd, len, x⟩ := cc
  have hk : cond (Nat.ble (Nat.succ j) u.1) (cond (Nat.beq kd kc) (cond (zisT (zwd 40 x n)) (zF (fun y => zsetK d t j (kd, len, y) (fun t => cond (zngH t u.1) (K (t, u)) false)) (zup 40 x n (zgT (zwd 40 x n)))) false) false) false = true := hk
  obtain ⟨c1, hk1⟩ := zcnd_t hk
  obtain ⟨c2, hk2⟩ := zcnd_t hk1
  obtain ⟨c3, hk3⟩ := zcnd_t hk2
  rw [zF_eq, zsetK_eq] at hk3
  obtain ⟨c4, hk4⟩ := zcnd_t hk3
  have e2 := Nat.eq_of_beq_eq_true c2
  subst e2
  exact ⟨len, x, Nat.le_of_ble_eq_true c1, rfl, c3, c4, hk4⟩
noncomputable def zenT (kc n : Nat) (f : List zV → zH d → zP d → Bool) : List zV → zH d → zP d → Bool := fun as h P => zpR as (fun r _ => zat h r (fun t u j kd len x => cond (Nat.beq kd kc) (cond (zsfL 0 as) (cond (zngH t u.1) (cond (Nat.ble (zhi (zwd 40 x n)) 201) (zF (fun y => zsetK d t j (kd, len, y) (fun t => f as (t, u) (fun r h => zent kc n j (P r) h))) (zup 40 x n 274877906944)) false) false) false) false))
theorem zMet_en {X : zM} {y : MethodName} {fr ci kc n : Nat} {f : List zV → zH d → zP d → Bool} (hkc : 16 + ci = kc) (hz : zisR (zfty ci n) = false) (hn : n < zN ci) (hM : zMet X y fr f) : zMet X y fr (zenT kc n f) := by
  subst hkc
  intro G Ch l cA D ws av as h P sz hg has hH hT
  obtain ⟨r, as', rfl, hg⟩ := zpR_t hg
  obtain ⟨o, av', rfl, ho, has'⟩ := zRepL_R has
  obtain ⟨j, kd, len, x, rfl, hgt, hg⟩ := zat_t hg
  obtain ⟨a, en, rfl, hwi, hcell⟩ := zat_w hH ho
  rw [hgt] at hcell
  obtain ⟨c1, hg⟩ := zcnd_t hg
  obtain ⟨c2, hg⟩ := zcnd_t hg
  obtain ⟨c3, hg⟩ := zcnd_t hg
  obtain ⟨c4, hg⟩ := zcnd_t hg
  rw [zF_eq, zsetK_eq] at hg
  have ekd := Nat.eq_of_beq_eq_true c1
  have c4 := Nat.le_of_ble_eq_true c4
  have hne := zcT2_ne cA 0
  have hH2 : zHp (zcT2 cA 0) h ws := zHp_ng hne c3 hH
  have hcell2 := hH2.2.2 j _ hwi
  rw [hgt] at hcell2
  obtain ⟨fs, rfl, hlen, hfl⟩ := zCell_obj hcell2 ekd
  have hH3 : zHp (zcT2 cA 0) (zset d h.1 j (kd, len, zup 40 x n 274877906944), h.2) ws := by
    refine zHp_cl hH2 hwi ?_
    rw [ekd]
    refine zCell_ok hlen (fun q v hvq => ?_)
    by_cases hq : n = q
    · subst hq
      rw [zwd_up_same _ _ _ _ (by decide)]
      have hf := hfl n _ hvq
      unfold zFl at hf ⊢
      rw [hz, cond_false] at hf ⊢
      obtain ⟨i, g1, g2, -, -⟩ := hf
      have hlt : zi i < 201 := Nat.lt_of_lt_of_le (@zhi_ok G _ _ (@zIs_a G _ _ g2.1 (zwd_lt _ _ _))) c4
      refine ⟨i, g1, ⟨⟨fun z => absurd z (by decide), fun _ _ => by omega⟩, fun z => absurd z (by decide)⟩, fun z => absurd z (by decide), fun _ _ => ⟨by omega, fun _ => ?_, fun z => absurd z (by decide), fun z => absurd z (by decide)⟩⟩
      show zcT2 cA 0 20 ≤ zi i
      rw [zcT2_20]
      exact Nat.zero_le _
    · rw [zwd_up_ne _ _ _ _ _ (by decide) hq]
      exact hfl q v hvq
  have has2 : @zRepL (zgu G 0 0) (zad (zcT2 cA 0) ws) (zR (j + 1) :: as') (va_rf (some a) :: av') := zRepL_G (G := G) (fun m hm => absurd hm (Nat.not_lt_zero m)) c2 (zRepL_T hne has)
  have hm := @hM (zgu G 0 0) Ch l (zcT2 cA 0) D ws (va_rf (some a) :: av') (zR (j + 1) :: as') (zset d h.1 j (kd, len, zup 40 x n 274877906944), h.2) (fun r h => zent (16 + ci) n j (P r) h) sz hg has2 hH3 (by rw [zcT2_20, zgu_same])
  refine Met_mono hm ?_ ?_ (fun _ q => q)
  · rintro a s ⟨e0, e1, hP, hK, hD, hst, hex⟩
    exact ⟨e0, e1, hP, by rw [zty_T hne]; exact hK, hD, hst, hex⟩
  · rintro b st o t - ⟨⟨Ch', r, hh, ws', ov, rfl, hov, hk, hHp', hpre', hP', hD'⟩, hF⟩
    obtain ⟨len2, x2, k1, k2, k3, k4, k5⟩ := zent_t hk
    have hjw : j < ws'.length := by rw [hHp'.1]; exact k1
    obtain ⟨a', e'⟩ : Nat × va_E := ws'[j]
    have hwj : ∃ a' e', ws'[j]? = some (a', e') := ⟨ws'[j].1, ws'[j].2, List.getElem?_eq_getElem hjw⟩
    obtain ⟨a', e', hwj⟩ := hwj
    have hc := hHp'.2.2 j _ hwj
    rw [k2] at hc
    obtain ⟨fs2, rfl, hlen2, hfl2⟩ := @zCell_obj Ch' _ _ _ _ _ ci _ hc rfl
    have hH5 : @zHp Ch' d (zcT2 cA 0) (zset d hh.1 j (16 + ci, len2, zup 40 x2 n (zgT (zwd 40 x2 n))), hh.2) ws' := by
      refine @zHp_cl d Ch' _ _ _ _ _ _ _ hHp' hwj ?_
      refine @zCell_ok Ch' _ _ _ _ _ _ hlen2 (fun q v hvq => ?_)
      have hw40 : zgT (zwd 40 x2 n) < 2 ^ 40 ∧ (zgT (zwd 40 x2 n) = 4294967496 ∨ zgT (zwd 40 x2 n) = 4294967497) := by
        obtain ⟨w1, w2⟩ := zisT_t k3
        have : zwd 40 x2 n = 274877906944 ∨ zwd 40 x2 n = 274877906945 := by omega
        rcases this with e | e
        · rw [e]; exact ⟨by decide, Or.inr rfl⟩
        · rw [e]; exact ⟨by decide, Or.inl rfl⟩
      by_cases hq : n = q
      · subst hq
        rw [zwd_up_same _ _ _ _ hw40.1]
        have hf := hfl2 n _ hvq
        unfold zFl at hf ⊢
        rw [hz, cond_false] at hf ⊢
        obtain ⟨i, g1, g2, -, g4⟩ := hf
        have hzi := @zgT_ok G _ _ i (zwd_lt _ _ _) g2.1 g4
        obtain ⟨hw1, hw2⟩ := hw40
        rcases hw2 with e | e
        · rw [e] at hzi ⊢
          exact ⟨i, g1, ⟨⟨hzi.1, fun _ _ => hzi.2.1 (by decide) (by decide)⟩, fun z => absurd z (by decide)⟩, fun z => absurd z (by decide), fun z => absurd z (by decide)⟩
        · rw [e] at hzi ⊢
          exact ⟨i, g1, ⟨⟨hzi.1, fun _ _ => hzi.2.1 (by decide) (by decide)⟩, fun z => absurd z (by decide)⟩, fun z => absurd z (by decide), fun z => absurd z (by decide)⟩
      · rw [zwd_up_ne _ _ _ _ _ hw40.1 hq]
        exact hfl2 q v hvq
    have hH6 : @zHp Ch' d cA (zset d hh.1 j (16 + ci, len2, zup 40 x2 n (zgT (zwd 40 x2 n))), hh.2) ws' := @zHp_ng Ch' d (zcT2 cA 0) cA (fun w hw => (hne w hw).symm) _ _ k4 hH5
    refine ⟨⟨Ch', r, _, ws', ov, rfl, ?_, k5, hH6, ⟨hpre'.1, rfl⟩, hP', hD'⟩, hF⟩
    rcases hov with z | ⟨x, z1, z2⟩
    · exact Or.inl z
    · exact Or.inr ⟨x, z1, fun G => zRep_T (fun w hw => (hne w hw).symm) (z2 G)⟩
end MET
end
section
/-! summaries with several ends, whose words may speak of T -/
noncomputable def zsubiT (wb ws : Nat) : Bool := cond (zisT ws) (cond (Nat.beq wb ws) true (zsubG wb ws)) (zsubi wb ws)
noncomputable def zmwT (φ : List Nat) (t : Nat) (isR : Bool) (x x0 j : Nat) : Bool := cond (Nat.beq (zwd 40 x0 j) (zoc t j)) (Nat.ble j 63) (cond isR (Nat.rec (motive := fun _ => Bool) (Nat.beq (zwd 40 x j) 0) (fun p _ => ztab φ p (fun b => Nat.beq (zwd 40 x j) (Nat.succ b))) (zwd 40 x0 j)) (zsubiT (zwd 40 x j) (zwd 40 x0 j)))
noncomputable def zmtT (φ : List Nat) (t : Nat) (c c0 : zC) : Bool := Prod.rec (motive := fun _ => Bool) (fun kd v => Prod.rec (motive := fun _ => Bool) (fun len x => Prod.rec (motive := fun _ => Bool) (fun kd0 v0 => Prod.rec (motive := fun _ => Bool) (fun len0 x0 => cond (Nat.beq kd kd0) (cond (Nat.beq len len0) (cond (Nat.ble kd 2) (cond (Nat.beq x x0) true (zsubX kd len x x0)) (cond (Nat.ble kd 7) (zall len (zmwT φ t true x x0)) (cond (Nat.ble 16 kd) (zall (zN (Nat.sub kd 16)) (fun j => zmwT φ t (zisR (zfty (Nat.sub kd 16) j)) x x0 j)) (cond (Nat.beq kd 12) (zm12 φ x x0) false)))) false) false) v0) c0) v) c
section WORLD
variable {cA : Nat → ClassId} {ws wss : va_W} {φ : List Nat}
theorem zmwT_ref {t x x0 j : Nat} (h : zmwT φ t true x x0 j = true) : zmw φ t true x x0 j = true := h
theorem zmw_IT [zCh] {t x x0 j : Nat} {q : Nat × va_E} {v : Value} (hq : wss[t]? = some q) (hg : zgv q.2 j = zcv v) (h : zmwT φ t false x x0 j = true) (hr : zRepC (zad cA ws) (zI (zwd 40 x j)) v) : zRepC (zad (zcg cA wss) wss) (zI (zwd 40 x0 j)) v := by
  cases hT : zisT (zwd 40 x0 j)
  · refine zmw_I (φ := φ) hq hg ?_ hr
    unfold zmwT zsubiT at h
    rw [hT] at h
    exact h
  · obtain ⟨w1, w2⟩ := zisT_t hT
    unfold zmwT zsubiT at h
    rw [hT, cond_true] at h
    cases h1 : Nat.beq (zwd 40 x0 j) (zoc t j)
    · rw [h1, cond_false, cond_false] at h
      have e20 : (zad (zcg cA wss) wss).2 20 = (zad cA ws).2 20 := zcg_lo (cA := cA) (wss := wss) (w := 20) (by decide)
      cases hq1 : Nat.beq (zwd 40 x j) (zwd 40 x0 j)
      · rw [hq1, cond_false] at h
        unfold zsubG at h
        obtain ⟨a1, a2⟩ := zcnd_t h
        have e1 := Nat.eq_of_beq_eq_true a1
        have e2 := Nat.eq_of_beq_eq_true a2
        rw [e1] at hr
        rw [e2]
        obtain ⟨i, r1, r2, r3, r4⟩ := hr
        obtain ⟨u1, u2, -⟩ := r4 (by decide) (by decide)
        have hlt := zi_lt i
        refine ⟨i, r1, ⟨⟨fun z => absurd z (by decide), fun _ _ => by omega⟩, fun z => absurd z (by decide)⟩, fun z => absurd z (by decide), fun _ _ => ⟨u1, fun _ => ?_, fun z => absurd z (by decide), fun z => absurd z (by decide)⟩⟩
        rw [e20]
        exact u2 (by decide)
      have e := Nat.eq_of_beq_eq_true hq1
      rw [e] at hr
      obtain ⟨i, r1, r2, r3, r4⟩ := hr
      refine ⟨i, r1, ⟨r2.1, fun z => absurd z (by omega)⟩, fun z => absurd z (by omega), fun q1 q2 => ?_⟩
      rw [e20]
      exact r4 q1 q2
    · have e := Nat.eq_of_beq_eq_true h1
      rw [zoc_n] at e
      omega
theorem zmt_okT [zCh] {t a : Nat} {c c0 : zC} {e : va_E} (hφ : ∀ (p b : Nat), φ[p]? = some b → b < 549755813887 ∧ p < 549755813887 ∧ ∃ q, ws[b]? = some q ∧ wss[p]? = some q) (hq : wss[t]? = some (a, e)) (hc : zCell cA (zad cA ws) c e) (hm : zmtT φ t c c0 = true) : zCell (zcg cA wss) (zad (zcg cA wss) wss) c0 e := by
  obtain ⟨kd, len, x⟩ := c
  obtain ⟨kd0, len0, x0⟩ := c0
  replace hm : cond (Nat.beq kd kd0) (cond (Nat.beq len len0) (cond (Nat.ble kd 2) (cond (Nat.beq x x0) true (zsubX kd len x x0)) (cond (Nat.ble kd 7) (zall len (zmwT φ t true x x0)) (cond (Nat.ble 16 kd) (zall (zN (Nat.sub kd 16)) (fun j => zmwT φ t (zisR (zfty (Nat.sub kd 16) j)) x x0 j)) (cond (Nat.beq kd 12) (zm12 φ x x0) false)))) false) false = true := hm
  cases h1 : Nat.beq kd kd0
  · rw [h1] at hm; cases hm
  cases h2 : Nat.beq len len0
  · rw [h1, h2] at hm; cases hm
  rw [h1, h2, cond_true, cond_true] at hm
  have e1 := Nat.eq_of_beq_eq_true h1
  have e2 := Nat.eq_of_beq_eq_true h2
  subst e1
  subst e2
  cases h3 : Nat.ble kd 2
  · rw [h3, cond_false] at hm
    have q3 := zble_f h3
    cases h4 : Nat.ble kd 7
    · rw [h4, cond_false] at hm
      cases h5 : Nat.ble 16 kd
      · rw [h5, cond_false] at hm
        obtain ⟨h12, hm12⟩ := zcnd_t hm
        have e12 := Nat.eq_of_beq_eq_true h12
        clear hm
        subst e12
        obtain ⟨hl, f, rfl, hf⟩ : len < 2147483648 ∧ ∃ f : Nat → Option Nat, e = .inl (cA 3, len, .inr (.inr (.inr (.inr f)))) ∧ zRs (zad cA ws) len x f := by
          rcases hc with ⟨g, -⟩ | ⟨g, -⟩ | ⟨-, -, g3, ⟨g4, -⟩ | ⟨-, f, g5, g6⟩⟩ | ⟨-, g, -⟩ | ⟨g, -⟩
          · exact absurd (show 12 < 2 from g) (by decide)
          · exact absurd (show 12 = 2 from g) (by decide)
          · exact absurd (show 12 < 12 from g4) (by decide)
          · exact ⟨g3, f, g5, g6⟩
          · exact absurd (show 12 < 8 from g) (by decide)
          · exact absurd (show 16 ≤ 12 from g) (by decide)
        obtain ⟨hd, hm⟩ := zcnd_t hm12
        have hd : x / 1048576 - x % 1048576 = x0 / 1048576 - x0 % 1048576 := Nat.eq_of_beq_eq_true hd
        refine Or.inr (Or.inr (Or.inl ⟨(by decide : 8 ≤ 12), (by decide : 12 < 16), hl, Or.inr ⟨rfl, f, by rw [zcg_lo (by decide)], fun j hj => ?_⟩⟩))
        obtain ⟨k, a', z1, z2, z3, z4⟩ := hf j hj
        have hk : k - x % 1048576 < x / 1048576 - x % 1048576 := by omega
        obtain ⟨b, hb, hb2⟩ := ztab_t φ _ (zall_t hm (k - x % 1048576) hk)
        have eb : b = x % 1048576 + (k - x % 1048576) := Nat.eq_of_beq_eq_true hb2
        have ebk : b = k := by omega
        subst ebk
        obtain ⟨-, -, q', g1, g2⟩ := hφ _ b hb
        refine ⟨x0 % 1048576 + (b - x % 1048576), a', by show x0 % 1048576 ≤ _; omega, by show _ < x0 / 1048576; omega, ?_, z4⟩
        have z3 : (ws.map (fun q => q.1))[b]? = some a' := z3
        show (wss.map (fun q => q.1))[x0 % 1048576 + (b - x % 1048576)]? = some a'
        have g2 : wss[x0 % 1048576 + (b - x % 1048576)]? = some q' := g2
        rw [List.getElem?_map, g1] at z3
        rw [List.getElem?_map, g2]
        exact z3
      rw [h5, cond_true] at hm
      have q5 := Nat.le_of_ble_eq_true h5
      obtain ⟨fs, rfl, hl, hf⟩ := zCell_obj (ci := kd - 16) hc (by omega)
      have hek : kd = 16 + (kd - 16) := by omega
      have hw := zall_t hm
      have key : zCell (zcg cA wss) (zad (zcg cA wss) wss) (16 + (kd - 16), len, x0) (.inr (kd - 16, fs)) := zCell_ok hl (fun j v hv => by
        have hj : j < zN (kd - 16) := by rw [← hl]; exact (List.getElem?_eq_some_iff.mp hv).1
        have hwj : zmwT φ t (zisR (zfty (kd - 16) j)) x x0 j = true := hw j hj
        have hfj := hf j v hv
        unfold zFl at hfj ⊢
        cases hz : zisR (zfty (kd - 16) j)
        · rw [hz] at hwj
          rw [hz, cond_false] at hfj
          rw [cond_false]
          exact zmw_IT hq (by show (match fs[j]? with | some v => zcv v | none => 0) = zcv v; rw [hv]) hwj hfj
        · rw [hz] at hwj
          rw [hz, cond_true] at hfj
          rw [cond_true]
          obtain ⟨o, rfl, ho⟩ := hfj
          exact ⟨o, rfl, zmw_R hφ hq (by show (match fs[j]? with | some v => zcv v | none => 0) = zcv (va_rf o); rw [hv]) hwj ho⟩)
      rw [← hek] at key
      exact key
    · rw [h4, cond_true] at hm
      have q4 := Nat.le_of_ble_eq_true h4
      obtain ⟨hl, f, rfl, hf⟩ := zCell_r hc (by omega) (by omega)
      have hw := zall_t hm
      have key := zCell_rk (cA := zcg cA wss) (ad := zad (zcg cA wss) wss) (x := x0) (f := f) (kd := kd) (by omega) (by omega) hl (fun j hj => zmw_R hφ hq rfl (hw j hj) (hf j hj))
      rw [zcg_lo (by omega)] at key
      exact key
  · rw [h3, cond_true] at hm
    have q3 := Nat.le_of_ble_eq_true h3
    have key : zCell cA (zad cA ws) (kd, len, x0) e := by
      cases h4 : Nat.beq x x0
      · rw [h4, cond_false] at hm
        exact zsubX_ok hm hc
      · rw [← Nat.eq_of_beq_eq_true h4]
        exact hc
    exact zCell_lo q3 key (fun i hi => zcg_lo (by omega))
end WORLD
noncomputable def zwbT {d : Nat} (φ ρ : List Nat) (t : zT d) (isR : Bool) (w : Nat) (K : Nat → Bool) : Bool := cond (Nat.ble 549755813889 w) (ztab φ (Nat.div (Nat.sub w 549755813889) 64) (fun b => Prod.rec (motive := fun _ => Bool) (fun kd v => Prod.rec (motive := fun _ => Bool) (fun len x => cond (zlr kd len (Nat.mod (Nat.sub w 549755813889) 64) isR) (zF K (zwd 40 x (Nat.mod (Nat.sub w 549755813889) 64))) false) v) (zget d t b))) (cond (zisT w) (cond isR false (K w)) (cond (Nat.ble 274877906944 w) false (cond isR (Nat.rec (motive := fun _ => Bool) (K 0) (fun p _ => ztab ρ p (fun b => zF K (Nat.succ b))) w) (K w))))
def zWBT {d : Nat} (φ ρ : List Nat) (t : zT d) (isR : Bool) (w w' : Nat) : Prop :=
  (549755813889 ≤ w ∧ ∃ b kd len x : Nat, φ[(w - 549755813889) / 64]? = some b ∧ zget d t b = (kd, len, x) ∧ zlr kd len ((w - 549755813889) % 64) isR = true ∧ w' = zwd 40 x ((w - 549755813889) % 64)) ∨
  (w < 274877906944 ∧ isR = true ∧ ((w = 0 ∧ w' = 0) ∨ ∃ p b : Nat, w = p + 1 ∧ ρ[p]? = some b ∧ w' = b + 1)) ∨
  (w < 274877906944 ∧ isR = false ∧ w' = w) ∨
  (zisT w = true ∧ isR = false ∧ w' = w)
theorem zwb_tT {d : Nat} {φ ρ : List Nat} {t : zT d} {isR : Bool} {w : Nat} {K : Nat → Bool} (h : zwbT φ ρ t isR w K = true) : ∃ w', K w' = true ∧ zWBT φ ρ t isR w w' := by
  unfold zwbT at h
  cases h1 : Nat.ble 549755813889 w
  · rw [h1, cond_false] at h
    have q1 := zble_f h1
    cases hT : zisT w
    case true =>
      rw [hT, cond_true] at h
      cases isR
      · exact ⟨w, h, Or.inr (Or.inr (Or.inr ⟨hT, rfl, rfl⟩))⟩
      · cases h
    rw [hT, cond_false] at h
    cases h2 : Nat.ble 274877906944 w
    · rw [h2, cond_false] at h
      have q2 := zble_f h2
      cases isR
      · exact ⟨w, h, Or.inr (Or.inr (Or.inl ⟨by omega, rfl, rfl⟩))⟩
      · rw [cond_true] at h
        cases w with
        | zero => exact ⟨0, h, Or.inr (Or.inl ⟨by omega, rfl, Or.inl ⟨rfl, rfl⟩⟩)⟩
        | succ p =>
          have h : ztab ρ p (fun b => zF K (Nat.succ b)) = true := h
          obtain ⟨b, hb, hb2⟩ := ztab_t ρ p h
          rw [zF_eq] at hb2
          exact ⟨b + 1, hb2, Or.inr (Or.inl ⟨by omega, rfl, Or.inr ⟨p, b, rfl, hb, rfl⟩⟩)⟩
    · rw [h2] at h; cases h
  · rw [h1, cond_true] at h
    obtain ⟨b, hb, hb2⟩ := ztab_t φ _ h
    generalize hc : zget d t b = c at hb2
    obtain ⟨kd, len, x⟩ := c
    have hb2 : cond (zlr kd len (Nat.mod (Nat.sub w 549755813889) 64) isR) (zF K (zwd 40 x (Nat.mod (Nat.sub w 549755813889) 64))) false = true := hb2
    cases h3 : zlr kd len (Nat.mod (Nat.sub w 549755813889) 64) isR
    · rw [h3] at hb2; cases hb2
    rw [h3, cond_true, zF_eq] at hb2
    exact ⟨_, hb2, Or.inl ⟨Nat.le_of_ble_eq_true h1, b, kd, len, x, hb, hc, h3, rfl⟩⟩
theorem zWB_ltT {d : Nat} {φ ρ : List Nat} {t : zT d} {isR : Bool} {w w' : Nat} (hρ : ∀ (p b : Nat), ρ[p]? = some b → b < 549755813887) (h : zWBT φ ρ t isR w w') : w' < 2 ^ 40 := by
  rcases h with ⟨-, b, kd, len, x, -, -, -, h5⟩ | ⟨-, -, ⟨-, h5⟩ | ⟨p, b, -, hb, h5⟩⟩ | ⟨h, -, h5⟩ | ⟨h, -, h5⟩
  · rw [h5]; exact zwd_lt _ _ _
  · rw [h5]; decide
  · rw [h5]
    have := hρ p b hb
    exact Nat.lt_of_lt_of_le (show b + 1 < 549755813888 by omega) (by decide)
  · rw [h5]; exact Nat.lt_of_lt_of_le h (by decide)
  · rw [h5]; exact Nat.lt_of_lt_of_le (zisT_t h).2 (by decide)
noncomputable def zrnWT {d : Nat} (φ ρ : List Nat) (t : zT d) (isR : Nat → Bool) (x n : Nat) : Nat → (Nat → Bool) → Bool := Nat.rec (motive := fun _ => Nat → (Nat → Bool) → Bool) (fun acc K => K acc) (fun j r acc K => zwbT φ ρ t (isR j) (zwd 40 x j) (fun w => zF (fun acc => r acc K) (zup 40 acc j w))) n
theorem zrnW_tT {d : Nat} {φ ρ : List Nat} {t : zT d} {isR : Nat → Bool} {x : Nat} (hρ : ∀ (p b : Nat), ρ[p]? = some b → b < 549755813887) : ∀ (n acc : Nat) {K : Nat → Bool}, zrnWT φ ρ t isR x n acc K = true → ∃ y, K y = true ∧ (∀ j, j < n → zWBT φ ρ t (isR j) (zwd 40 x j) (zwd 40 y j)) ∧ ∀ j, n ≤ j → zwd 40 y j = zwd 40 acc j
  | 0, acc, K, h => ⟨acc, h, fun j hj => absurd hj (Nat.not_lt_zero j), fun _ _ => rfl⟩
  | n + 1, acc, K, h => by
    have h : zwbT φ ρ t (isR n) (zwd 40 x n) (fun w => zF (fun acc => zrnWT φ ρ t isR x n acc K) (zup 40 acc n w)) = true := h
    obtain ⟨w, hw, hb⟩ := zwb_tT h
    rw [zF_eq] at hw
    obtain ⟨y, h1, h2, h3⟩ := zrnW_tT hρ n _ hw
    have hlt := zWB_ltT hρ hb
    refine ⟨y, h1, fun j hj => ?_, fun j hj => ?_⟩
    · rcases Nat.lt_succ_iff_lt_or_eq.mp hj with q | rfl
      · exact h2 j q
      · rw [h3 j (Nat.le_refl j), zwd_up_same _ _ _ _ hlt]
        exact hb
    · rw [h3 j (by omega), zwd_up_ne _ _ _ _ _ hlt (by omega)]
noncomputable def zrenT {d : Nat} (φ ρ : List Nat) (t : zT d) (c : zC) (K : zC → Bool) : Bool := Prod.rec (motive := fun _ => Bool) (fun kd v => Prod.rec (motive := fun _ => Bool) (fun len x => cond (Nat.ble kd 2) (K (kd, len, x)) (cond (Nat.ble kd 7) (zrnWT φ ρ t (fun _ => true) x len 0 (fun y => K (kd, len, y))) (cond (Nat.ble 16 kd) (zrnWT φ ρ t (fun j => zisR (zfty (Nat.sub kd 16) j)) x (zN (Nat.sub kd 16)) 0 (fun y => K (kd, len, y))) (cond (Nat.beq kd 12) (zr12 ρ x (fun y => K (kd, len, y))) false)))) v) c
def zRNT {d : Nat} (φ ρ : List Nat) (t : zT d) (c c' : zC) : Prop := ∃ kd len x y : Nat, c = (kd, len, x) ∧ c' = (kd, len, y) ∧ ((kd ≤ 2 ∧ y = x) ∨ (3 ≤ kd ∧ kd ≤ 7 ∧ ∀ j, j < len → zWBT φ ρ t true (zwd 40 x j) (zwd 40 y j)) ∨ (16 ≤ kd ∧ ∀ j, j < zN (kd - 16) → zWBT φ ρ t (zisR (zfty (kd - 16) j)) (zwd 40 x j) (zwd 40 y j)) ∨ (kd = 12 ∧ ∃ b, b ≤ 1000000 ∧ y = b + 1048576 * (b + (x / 1048576 - x % 1048576)) ∧ ∀ i, i < x / 1048576 - x % 1048576 → ρ[x % 1048576 + i]? = some (b + i)))
theorem zren_tT {d : Nat} {φ ρ : List Nat} {t : zT d} {c : zC} {K : zC → Bool} (hρ : ∀ (p b : Nat), ρ[p]? = some b → b < 549755813887) (h : zrenT φ ρ t c K = true) : ∃ c', K c' = true ∧ zRNT φ ρ t c c' := by
  obtain ⟨kd, len, x⟩ := c
  replace h : cond (Nat.ble kd 2) (K (kd, len, x)) (cond (Nat.ble kd 7) (zrnWT φ ρ t (fun _ => true) x len 0 (fun y => K (kd, len, y))) (cond (Nat.ble 16 kd) (zrnWT φ ρ t (fun j => zisR (zfty (Nat.sub kd 16) j)) x (zN (Nat.sub kd 16)) 0 (fun y => K (kd, len, y))) (cond (Nat.beq kd 12) (zr12 ρ x (fun y => K (kd, len, y))) false))) = true := h
  cases h1 : Nat.ble kd 2
  · rw [h1, cond_false] at h
    have q1 := zble_f h1
    cases h2 : Nat.ble kd 7
    · rw [h2, cond_false] at h
      cases h3 : Nat.ble 16 kd
      · rw [h3, cond_false] at h
        obtain ⟨h4, h⟩ := zcnd_t h
        obtain ⟨b, g1, g2, g3⟩ := zr12_t h
        exact ⟨_, g2, kd, len, x, _, rfl, rfl, Or.inr (Or.inr (Or.inr ⟨Nat.eq_of_beq_eq_true h4, b, g1, rfl, g3⟩))⟩
      rw [h3, cond_true] at h
      obtain ⟨y, g1, g2, -⟩ := zrnW_tT hρ _ _ h
      exact ⟨_, g1, kd, len, x, y, rfl, rfl, Or.inr (Or.inr (Or.inl ⟨Nat.le_of_ble_eq_true h3, g2⟩))⟩
    · rw [h2, cond_true] at h
      obtain ⟨y, g1, g2, -⟩ := zrnW_tT hρ _ _ h
      exact ⟨_, g1, kd, len, x, y, rfl, rfl, Or.inr (Or.inl ⟨by omega, Nat.le_of_ble_eq_true h2, g2⟩)⟩
  · rw [h1, cond_true] at h
    exact ⟨_, h, kd, len, x, x, rfl, rfl, Or.inl ⟨Nat.le_of_ble_eq_true h1, rfl⟩⟩
section BACK
variable {d : Nat} {cA cB : Nat → ClassId} {ws ws' wss' : va_W} {φ ρ : List Nat} {T : zT d}
theorem zWB_RT [zCh] {w w' : Nat} {o : Option Nat} (hop : zOp cA cB ws φ T) (hpre : zPre (zad cA ws) (zad cA ws')) (hρ : ∀ (p b : Nat), ρ[p]? = some b → b < 549755813887) (hρa : ∀ (p b a : Nat), ρ[p]? = some b → (zad cB wss').1[p]? = some a → (zad cA ws').1[b]? = some a) (hw : zWBT φ ρ T true w w') (hr : zRw (zad cB wss') w o) : zRw (zad cA ws') w' o := by
  rcases hw with ⟨h1, b, kd, len, x, h2, h3, h4, h5⟩ | ⟨h1, -, ⟨rfl, h5⟩ | ⟨p, b, rfl, h2, h5⟩⟩ | ⟨-, h, -⟩ | ⟨-, h, -⟩
  · rw [h5]
    have key := (hop _ b kd len x _ h2 h3 (Nat.mod_lt _ (by decide))).1 h4
    rw [zoc_of h1] at key
    rcases hr with ⟨z, -⟩ | ⟨-, z⟩
    · omega
    · rw [z]
      exact zRw_mono hpre key
  · rw [h5]
    rcases hr with ⟨-, ⟨-, z⟩ | ⟨k, a, z, -⟩⟩ | ⟨z, -⟩
    · exact Or.inl ⟨by decide, Or.inl ⟨rfl, z⟩⟩
    · cases z
    · exact absurd z (by decide)
  · rw [h5]
    have hb := hρ p b h2
    rcases hr with ⟨-, ⟨z, -⟩ | ⟨k, a, z1, z2, z3⟩⟩ | ⟨z, -⟩
    · cases z
    · have ek : p = k := by omega
      subst ek
      exact Or.inl ⟨by omega, Or.inr ⟨b, a, rfl, hρa p b a h2 z2, z3⟩⟩
    · omega
  · cases h
  · cases h
theorem zWB_IT {C1 C2 : zCh} {w w' : Nat} {v : Value} (h20 : cB 20 = cA 20) (hop : @zOp d C2 cA cB ws φ T) (hpre : zPre (zad cA ws) (zad cA ws')) (hw : zWBT φ ρ T false w w') (hr : @zRepC C1 (zad cB wss') (zI w) v) : @zRepC C2 (zad cA ws') (zI w') v := by
  obtain ⟨i, rfl, r1, r2⟩ := hr
  rcases hw with ⟨h1, b, kd, len, x, h2, h3, h4, h5⟩ | ⟨-, h, -⟩ | ⟨h1, -, h5⟩ | ⟨h1, -, h5⟩
  · rw [h5]
    have key := (hop _ b kd len x _ h2 h3 (Nat.mod_lt _ (by decide))).2 h4 i (by rw [zoc_of h1]; exact r2.1 (by omega))
    exact @zRepC_mono C2 _ _ hpre _ _ key
  · cases h
  · rw [h5]
    exact ⟨i, rfl, ⟨r1.1, fun z => absurd z (by omega)⟩, fun z => absurd z (by omega), fun z => absurd z (by omega)⟩
  · rw [h5]
    obtain ⟨w1, w2⟩ := zisT_t h1
    refine ⟨i, rfl, ⟨r1.1, fun z => absurd z (by omega)⟩, fun z => absurd z (by omega), fun q1 q2 => ?_⟩
    have e20 : (zad cA ws').2 20 = (zad cB wss').2 20 := h20.symm
    rw [e20]
    exact r2.2 q1 q2
theorem zRN_okT {C1 C2 : zCh} {c c' : zC} {e : va_E} (hB : ∀ i, i < 8 → cB i = cA i) (h20 : cB 20 = cA 20) (hop : @zOp d C2 cA cB ws φ T) (hpre : zPre (zad cA ws) (zad cA ws')) (hρ : ∀ (p b : Nat), ρ[p]? = some b → b < 549755813887) (hρa : ∀ (p b a : Nat), ρ[p]? = some b → (zad cB wss').1[p]? = some a → (zad cA ws').1[b]? = some a) (hc : @zCell C1 cB (zad cB wss') c e) (hn : zRNT φ ρ T c c') : @zCell C2 cA (zad cA ws') c' e := by
  obtain ⟨kd, len, x, y, rfl, rfl, ⟨h1, rfl⟩ | ⟨h1, h2, h3⟩ | ⟨h1, h2⟩ | ⟨h1, b, h2, h3, h4⟩⟩ := hn
  · exact zCell_lo h1 hc (fun i hi => (hB i (by omega)).symm)
  · obtain ⟨hl, f, rfl, hf⟩ := @zCell_r C1 cB _ kd len x e hc h1 (by omega)
    rw [hB kd (by omega)]
    exact @zCell_rk C2 cA _ kd len y f h1 (by omega) hl (fun j hj => @zWB_RT d cA cB ws ws' wss' φ ρ T C2 _ _ _ hop hpre hρ hρa (h3 j hj) (hf j hj))
  · obtain ⟨fs, rfl, hl, hf⟩ := @zCell_obj C1 cB _ kd len x (kd - 16) e hc (by omega)
    have hek : kd = 16 + (kd - 16) := by omega
    have key : @zCell C2 cA (zad cA ws') (16 + (kd - 16), len, y) (.inr (kd - 16, fs)) := @zCell_ok C2 cA _ (kd - 16) len y fs hl (fun j v hv => by
      have hj : j < zN (kd - 16) := by rw [← hl]; exact (List.getElem?_eq_some_iff.mp hv).1
      have hwj := h2 j hj
      have hfj := hf j v hv
      unfold zFl at hfj ⊢
      cases hz : zisR (zfty (kd - 16) j)
      · rw [hz] at hwj
        rw [hz, cond_false] at hfj
        rw [cond_false]
        exact zWB_IT h20 hop hpre hwj hfj
      · rw [hz] at hwj
        rw [hz, cond_true] at hfj
        rw [cond_true]
        obtain ⟨o, rfl, ho⟩ := hfj
        exact ⟨o, rfl, @zWB_RT d cA cB ws ws' wss' φ ρ T C2 _ _ _ hop hpre hρ hρa hwj ho⟩)
    rw [← hek] at key
    exact key
  · subst h1
    obtain ⟨hl, f, rfl, hf⟩ : len < 2147483648 ∧ ∃ f : Nat → Option Nat, e = .inl (cB 3, len, .inr (.inr (.inr (.inr f)))) ∧ zRs (zad cB wss') len x f := by
      rcases hc with ⟨g, -⟩ | ⟨g, -⟩ | ⟨-, -, g3, ⟨g4, -⟩ | ⟨-, f, g5, g6⟩⟩ | ⟨-, g, -⟩ | ⟨g, -⟩
      · exact absurd (show 12 < 2 from g) (by decide)
      · exact absurd (show 12 = 2 from g) (by decide)
      · exact absurd (show 12 < 12 from g4) (by decide)
      · exact ⟨g3, f, g5, g6⟩
      · exact absurd (show 12 < 8 from g) (by decide)
      · exact absurd (show 16 ≤ 12 from g) (by decide)
    have m1 : y % 1048576 = b := by omega
    have m2 : y / 1048576 = b + (x / 1048576 - x % 1048576) := by omega
    refine Or.inr (Or.inr (Or.inl ⟨(by decide : 8 ≤ 12), (by decide : 12 < 16), hl, Or.inr ⟨rfl, f, by rw [hB 3 (by decide)], fun j hj => ?_⟩⟩))
    obtain ⟨k, a', z1, z2, z3, z4⟩ := hf j hj
    have hk := h4 (k - x % 1048576) (by omega)
    rw [show x % 1048576 + (k - x % 1048576) = k by omega] at hk
    exact ⟨b + (k - x % 1048576), a', by show y % 1048576 ≤ _; rw [m1]; omega, by show _ < y / 1048576; rw [m2]; omega, hρa k _ a' hk z3, z4⟩
end BACK
noncomputable def zstsT {d ds : Nat} (φ ρ : List Nat) (T0 : zT d) (hs : zT ds) (l : List Nat) : Nat → zT d → (zT d → Bool) → Bool := List.rec (motive := fun _ => Nat → zT d → (zT d → Bool) → Bool) (fun _ T K => K T) (fun b _ r t T K => zrenT φ ρ T0 (zget ds hs t) (fun c => zsetK d T b c (fun T => r (Nat.succ t) T K))) l
theorem zsts_tT {d ds : Nat} {φ ρ : List Nat} {T0 : zT d} {hs : zT ds} (hρ : ∀ (p b : Nat), ρ[p]? = some b → b < 549755813887) : ∀ (l : List Nat) (t : Nat) (T : zT d) {K : zT d → Bool}, (∀ i ∈ l, i < 2 ^ d) → zstsT φ ρ T0 hs l t T K = true → ∃ T' : zT d, K T' = true ∧ (∀ i, i < 2 ^ d → i ∉ l → zget d T' i = zget d T i) ∧ ((∀ (u v i : Nat), l[u]? = some i → l[v]? = some i → u = v) → ∀ (u i : Nat), l[u]? = some i → zRNT φ ρ T0 (zget ds hs (t + u)) (zget d T' i))
  | [], t, T, K, _, h => ⟨T, h, fun _ _ _ => rfl, fun _ u i hu => by simp at hu⟩
  | b :: l, t, T, K, hl, h => by
    have h : zrenT φ ρ T0 (zget ds hs t) (fun c => zsetK d T b c (fun T => zstsT φ ρ T0 hs l (Nat.succ t) T K)) = true := h
    obtain ⟨c, hc, hn⟩ := zren_tT hρ h
    rw [zsetK_eq] at hc
    obtain ⟨T', h1, h2, h3⟩ := zsts_tT hρ l (t + 1) (zset d T b c) (fun i hi => hl i (List.mem_cons_of_mem _ hi)) hc
    have hb : b < 2 ^ d := hl b List.mem_cons_self
    refine ⟨T', h1, fun i hi hni => ?_, fun hinj u i hu => ?_⟩
    · rw [h2 i hi (fun q => hni (List.mem_cons_of_mem _ q)), zget_set_ne d _ _ _ _ hb hi (fun q => hni (by rw [q]; exact List.mem_cons_self))]
    · cases u with
      | zero =>
        have e : b = i := by simpa using hu
        subst e
        have hni : b ∉ l := fun q => by
          obtain ⟨v, hv⟩ := List.getElem?_of_mem q
          have := hinj 0 (v + 1) b rfl (by simpa using hv)
          omega
        rw [h2 b hb hni, zget_set_same d _ _ _ hb]
        exact hn
      | succ u =>
        have key := h3 (fun u v i hu hv => by have := hinj (u + 1) (v + 1) i (by simpa using hu) (by simpa using hv); omega) u i (by simpa using hu)
        rw [show t + (u + 1) = t + 1 + u by omega]
        exact key
noncomputable def zmtLT {d ds : Nat} (φ : List Nat) (T : zT d) (hs : zT ds) (l : List Nat) : Nat → Bool := List.rec (motive := fun _ => Nat → Bool) (fun _ => true) (fun b _ r t => cond (zmtT φ t (zget d T b) (zget ds hs t)) (r (Nat.succ t)) false) l
theorem zmtL_tT {d ds : Nat} {φ : List Nat} {T : zT d} {hs : zT ds} : ∀ (l : List Nat) (t : Nat), zmtLT φ T hs l t = true → ∀ (u b : Nat), l[u]? = some b → zmtT φ (t + u) (zget d T b) (zget ds hs (t + u)) = true
  | [], t, _, u, b, hu => by simp at hu
  | c :: l, t, h, u, b, hu => by
    have h : cond (zmtT φ t (zget d T c) (zget ds hs t)) (zmtLT φ T hs l (Nat.succ t)) false = true := h
    cases h1 : zmtT φ t (zget d T c) (zget ds hs t)
    · rw [h1] at h; cases h
    rw [h1, cond_true] at h
    cases u with
    | zero =>
      have e : c = b := by simpa using hu
      subst e
      exact h1
    | succ u =>
      have key := zmtL_tT l (t + 1) h u b (by simpa using hu)
      rw [show t + (u + 1) = t + 1 + u by omega]
      exact key
noncomputable def zrvT {d : Nat} (φ ρ : List Nat) (T : zT d) (r1 : zV) (K : zV → Bool) : Bool := Sum.rec (motive := fun _ => Bool) (fun n => cond (Nat.ble 1099511627776 n) false (K (zI n))) (fun u => Sum.rec (motive := fun _ => Bool) (fun w => cond (Nat.ble 549755813888 w) false (zwbT φ ρ T true w (fun w' => cond (Nat.ble 549755813888 w') false (K (zR w'))))) (fun v => Sum.rec (motive := fun _ => Bool) (fun n => K (zL n)) (fun n => cond (Nat.beq n 0) (K zU) false) v) u) r1
theorem zrv_tT {d : Nat} {φ ρ : List Nat} {T : zT d} {r1 : zV} {K : zV → Bool} (h : zrvT φ ρ T r1 K = true) : ∃ r', K r' = true ∧ ((∃ n, n < 1099511627776 ∧ r1 = zI n ∧ r' = zI n) ∨ (∃ w w', w < 549755813888 ∧ w' < 549755813888 ∧ r1 = zR w ∧ r' = zR w' ∧ zWBT φ ρ T true w w') ∨ (∃ n, r1 = zL n ∧ r' = zL n) ∨ (r1 = zU ∧ r' = zU)) := by
  match r1, h with
  | .inl n, h =>
    have h : cond (Nat.ble 1099511627776 n) false (K (zI n)) = true := h
    cases h1 : Nat.ble 1099511627776 n
    · rw [h1, cond_false] at h
      exact ⟨_, h, Or.inl ⟨n, zble_f h1, rfl, rfl⟩⟩
    · rw [h1] at h; cases h
  | .inr (.inl w), h =>
    have h : cond (Nat.ble 549755813888 w) false (zwbT φ ρ T true w (fun w' => cond (Nat.ble 549755813888 w') false (K (zR w')))) = true := h
    cases h1 : Nat.ble 549755813888 w
    · rw [h1, cond_false] at h
      obtain ⟨w', hw, hb⟩ := zwb_tT h
      cases h2 : Nat.ble 549755813888 w'
      · rw [h2, cond_false] at hw
        exact ⟨_, hw, Or.inr (Or.inl ⟨w, w', zble_f h1, zble_f h2, rfl, rfl, hb⟩)⟩
      · rw [h2] at hw; cases hw
    · rw [h1] at h; cases h
  | .inr (.inr (.inl n)), h => exact ⟨_, h, Or.inr (Or.inr (Or.inl ⟨n, rfl, rfl⟩))⟩
  | .inr (.inr (.inr 0)), h => exact ⟨_, h, Or.inr (Or.inr (Or.inr ⟨rfl, rfl⟩))⟩
  | .inr (.inr (.inr (n + 1))), h => cases h
noncomputable def zsm1 {d ds : Nat} (φ : List Nat) (n0 : Nat) (h : zH d) (P : zP d) (r1 : zV) (hs1 : zH ds) : Bool := cond (Nat.ble n0 hs1.2.1) (cond (Nat.ble (Nat.add h.2.1 (Nat.sub hs1.2.1 n0)) (Nat.pow 2 d)) (cond (Nat.ble (Nat.add h.2.1 (Nat.add n0 (Nat.sub hs1.2.1 n0))) 1000000) (zsqK (Nat.sub hs1.2.1 n0) h.2.1 (fun l => zapL φ l (fun ρ => zrvT φ ρ h.1 r1 (fun r' => zstsT φ ρ h.1 hs1.1 ρ 0 h.1 (fun T => zF (fun N => P r' (T, (N, hs1.2.2))) (Nat.add h.2.1 (Nat.sub hs1.2.1 n0))))))) false) false) false
noncomputable def zsmL {d ds : Nat} (φ : List Nat) (n0 : Nat) (h : zH d) (P : zP d) (outs : List (zV × zH ds)) : Bool := List.rec (motive := fun _ => Bool) true (fun e _ r => Prod.rec (motive := fun _ => Bool) (fun r1 hs1 => cond (zsm1 φ n0 h P r1 hs1) r false) e) outs
theorem zsmL_t {d ds : Nat} {φ : List Nat} {n0 : Nat} {h : zH d} {P : zP d} {r : zV} {hh : zH ds} : ∀ {outs : List (zV × zH ds)}, zrkL outs r hh = true → zsmL φ n0 h P outs = true → ∃ r1 hs1, zrk r1 hs1 r hh = true ∧ zsm1 φ n0 h P r1 hs1 = true
  | [], hk, _ => by cases hk
  | (r1, h1) :: outs, hk, ha => by
    have hk : cond (zrk r1 h1 r hh) true (zrkL outs r hh) = true := hk
    have ha : cond (zsm1 φ n0 h P r1 h1) (zsmL φ n0 h P outs) false = true := ha
    obtain ⟨a1, a2⟩ := zcnd_t ha
    cases q : zrk r1 h1 r hh
    · rw [q, cond_false] at hk
      exact zsmL_t hk a2
    · exact ⟨r1, h1, q, a1⟩
noncomputable def zsmyL {d ds : Nat} (fp : List (Nat × Nat)) (as0 : List zV) (hs0 : zH ds) (outs : List (zV × zH ds)) : List zV → zH d → zP d → Bool := fun as h P => zfp fp as h.1 [] (fun φ => cond (Nat.ble hs0.2.1 (Nat.pow 2 ds)) (cond (Nat.beq (zlen φ) hs0.2.1) (cond (Nat.beq hs0.2.2.1 h.2.2.1) (cond (Nat.beq hs0.2.2.2 h.2.2.2) (cond (znd h.2.1 φ) (cond (zma φ as as0) (cond (zmtLT φ h.1 hs0.1 φ 0) (cond (Nat.ble (Nat.add h.2.1 hs0.2.1) 1000000) (zsmL φ hs0.2.1 h P outs) false) false) false) false) false) false) false) false)
theorem zMet_smL {d ds : Nat} {X : zM} {y : MethodName} {fr : Nat} {f : List zV → zH ds → zP ds → Bool} (hM : zMet X y fr f) {fp : List (Nat × Nat)} {as0 : List zV} {hs0 : zH ds} {outs : List (zV × zH ds)} (hev : f as0 hs0 (zrkL outs) = true) : zMet (d := d) X y fr (zsmyL fp as0 hs0 outs) := by
  intro G Ch l cA D ws av as h P sz hg has hH hT
  obtain ⟨φ, hg⟩ := zfp_t fp [] hg
  obtain ⟨c0, hg⟩ := zcnd_t hg
  obtain ⟨c1, hg⟩ := zcnd_t hg
  obtain ⟨c5, hg⟩ := zcnd_t hg
  obtain ⟨c6, hg⟩ := zcnd_t hg
  obtain ⟨c7, hg⟩ := zcnd_t hg
  obtain ⟨c8, hg⟩ := zcnd_t hg
  obtain ⟨c9, hg⟩ := zcnd_t hg
  obtain ⟨c10, hgg⟩ := zcnd_t hg
  have m0 : hs0.2.1 ≤ 2 ^ ds := Nat.le_of_ble_eq_true c0
  have m1 : φ.length = hs0.2.1 := by rw [← zlen_eq]; exact Nat.eq_of_beq_eq_true c1
  have m5 : hs0.2.2.1 = h.2.2.1 := Nat.eq_of_beq_eq_true c5
  have m6 : hs0.2.2.2 = h.2.2.2 := Nat.eq_of_beq_eq_true c6
  obtain ⟨n1, n2⟩ := znd_t c7
  have hN : ws.length = h.2.1 := hH.1
  have m4' : h.2.1 + hs0.2.1 ≤ 1000000 := Nat.le_of_ble_eq_true c10
  have hwl : (φ.map (fun b => (ws[b]?).getD ((0, .inr (0, [])) : Nat × va_E))).length = φ.length := List.length_map ..
  have hφ : ∀ (p b : Nat), φ[p]? = some b → b < 549755813887 ∧ p < 549755813887 ∧ ∃ q, ws[b]? = some q ∧ (φ.map (fun b => (ws[b]?).getD ((0, .inr (0, [])) : Nat × va_E)))[p]? = some q := by
    intro p b hp
    have hb := n1 p b hp
    have hpl := (List.getElem?_eq_some_iff.mp hp).1
    have e : ws[b]? = some ws[b] := List.getElem?_eq_getElem (by omega)
    refine ⟨by omega, by omega, ws[b], e, ?_⟩
    rw [List.getElem?_map, hp]
    simp [e]
  generalize φ.map (fun b => (ws[b]?).getD ((0, .inr (0, [])) : Nat × va_E)) = wss at hwl hφ
  have hφr : ∀ (p : Nat) (q : Nat × va_E), wss[p]? = some q → ∃ b, φ[p]? = some b ∧ ws[b]? = some q := by
    intro p q hp
    have hpl := (List.getElem?_eq_some_iff.mp hp).1
    have e : φ[p]? = some φ[p] := List.getElem?_eq_getElem (by omega)
    obtain ⟨-, -, q', g1, g2⟩ := hφ p _ e
    rw [hp] at g2
    cases g2
    exact ⟨_, e, g1⟩
  have hsub : ∀ q, va_A wss sz q → va_A ws sz q := by
    rintro q (⟨k', e, hk'⟩ | z)
    · obtain ⟨b, -, hb⟩ := hφr k' _ hk'
      exact Or.inl ⟨b, e, hb⟩
    · exact Or.inr z
  have hHs : zHp (zcg cA wss) hs0 wss := by
    refine ⟨by omega, m0, fun i q hi => ?_⟩
    obtain ⟨b, hb, hq⟩ := hφr i q hi
    have hm := zmtL_tT φ 0 c9 i b hb
    rw [Nat.zero_add] at hm
    obtain ⟨qa, qe⟩ := q
    exact zmt_okT hφ hi (hH.2.2 b _ hq) hm
  have hm := hM l (zcg cA wss) D wss av as0 hs0 (zrkL outs) sz hev (zma_ok hφ c8 has) hHs (by rw [zcg_lo (by decide)]; exact hT)
  rw [m5, m6] at hm
  refine Met_mono hm ?_ ?_ hsub
  · rintro a s ⟨rfl, e1, hP, hK, hD, hst, hex⟩
    refine ⟨rfl, e1, fun k' q hk' => ?_, by rw [zcg_ty]; exact hK, ⟨fun i j p q hi hj hpq => ?_, fun _ _ _ => trivial⟩, zStat_to hst va_S.rf hsub rfl (Vm.Alike.refl s.vm), hex⟩
    · obtain ⟨b, -, hq⟩ := hφr k' q hk'
      exact hP b q hq
    · obtain ⟨b1, g1, g2⟩ := hφr i p hi
      obtain ⟨b2, g3, g4⟩ := hφr j q hj
      have e := hD.1 b1 b2 p q g2 g4 hpq
      subst e
      exact n2 i j b1 g1 g3
  · rintro a st o t ⟨rfl, e1, hP, hK, hD, hst, hex⟩ ⟨⟨Ch', r, hh, wss', ov, rfl, hov, hk2, hHp', hpre', hP', hD'⟩, hF⟩
    obtain ⟨r1, hs1, hk3, hg⟩ := zsmL_t hk2 hgg
    obtain ⟨c2, hg⟩ := zcnd_t hg
    obtain ⟨c3, hg⟩ := zcnd_t hg
    obtain ⟨c4, hg⟩ := zcnd_t hg
    have hg := zapL_t φ _ (zsqK_t _ _ hg)
    simp only [zsub_n, zadd_n] at hg
    have m2 : hs0.2.1 ≤ hs1.2.1 := Nat.le_of_ble_eq_true c2
    have m3 : h.2.1 + (hs1.2.1 - hs0.2.1) ≤ 2 ^ d := Nat.le_of_ble_eq_true c3
    have m4 : h.2.1 + (hs0.2.1 + (hs1.2.1 - hs0.2.1)) ≤ 1000000 := Nat.le_of_ble_eq_true c4
    generalize hk : hs1.2.1 - hs0.2.1 = k at *
    have hρ0 : ∀ (p i : Nat), (φ ++ List.range' h.2.1 k)[p]? = some i ↔ (p < φ.length ∧ φ[p]? = some i) ∨ (φ.length ≤ p ∧ p < φ.length + k ∧ i = h.2.1 + (p - φ.length)) := by
      intro p i
      by_cases hp : p < φ.length
      · rw [List.getElem?_append_left hp]
        exact ⟨fun z => Or.inl ⟨hp, z⟩, fun z => z.elim (fun z => z.2) (fun z => absurd z.1 (by omega))⟩
      · rw [List.getElem?_append_right (by omega)]
        constructor
        · intro z
          obtain ⟨z1, z2⟩ := List.getElem?_eq_some_iff.mp z
          rw [List.length_range'] at z1
          rw [List.getElem_range'] at z2
          exact Or.inr ⟨by omega, by omega, by omega⟩
        · rintro (z | ⟨z1, z2, z3⟩)
          · exact absurd z.1 hp
          · rw [List.getElem?_eq_getElem (by rw [List.length_range']; omega), List.getElem_range', z3]
            simp
    generalize hρe : φ ++ List.range' h.2.1 k = ρ at hg hρ0
    obtain ⟨r', hg, hr'⟩ := zrv_tT hg
    have hρ : ∀ (p b : Nat), ρ[p]? = some b → b < 549755813887 := by
      intro p b hp
      rcases (hρ0 p b).mp hp with ⟨-, z⟩ | ⟨z1, z2, z3⟩
      · have := n1 p b z
        omega
      · omega
    have hρN : ∀ (p b : Nat), ρ[p]? = some b → b < h.2.1 + k := by
      intro p b hp
      rcases (hρ0 p b).mp hp with ⟨-, z⟩ | ⟨z1, z2, z3⟩
      · have := n1 p b z
        omega
      · omega
    obtain ⟨T', hg, hT1, hT2⟩ := zsts_tT hρ ρ 0 h.1 (fun i hi => by
      obtain ⟨p, hp⟩ := List.getElem?_of_mem hi
      have := hρN p i hp
      omega) hg
    have hρi : ∀ (u v i : Nat), ρ[u]? = some i → ρ[v]? = some i → u = v := by
      intro u v i hu hv
      rcases (hρ0 u i).mp hu with ⟨a1, a2⟩ | ⟨a1, a2, a3⟩ <;> rcases (hρ0 v i).mp hv with ⟨b1, b2⟩ | ⟨b1, b2, b3⟩
      · exact n2 u v i a2 b2
      · have := n1 u i a2
        omega
      · have := n1 v i b2
        omega
      · omega
    have hT2 := hT2 hρi
    rw [zF_eq] at hg
    obtain ⟨hsb, hrr⟩ := zrk_t hk3
    have hH1 : @zHp Ch' ds (zcg cA wss) hs1 wss' := zsubH_ok hsb hHp'
    have hl1 : wss'.length = hs1.2.1 := hH1.1
    obtain ⟨⟨tt, htt⟩, -⟩ := hpre'
    have htt : wss'.map (fun q => q.1) = wss.map (fun q => q.1) ++ tt := htt
    have hadr : ∀ (p : Nat) (q q' : Nat × va_E), wss[p]? = some q → wss'[p]? = some q' → q'.1 = q.1 := by
      intro p q q' h1 h2
      have e := congrArg (fun z => z[p]?) htt
      have e : (wss'.map (fun q => q.1))[p]? = (wss.map (fun q => q.1) ++ tt)[p]? := e
      rw [List.getElem?_append_left (by rw [List.length_map]; exact (List.getElem?_eq_some_iff.mp h1).1), List.getElem?_map, List.getElem?_map, h1, h2] at e
      exact Option.some.inj e
    have hρl : ∀ (p i : Nat), ρ[p]? = some i → ∃ q, wss'[p]? = some q := by
      intro p i hp
      have hpl : p < wss'.length := by
        rcases (hρ0 p i).mp hp with ⟨z, -⟩ | ⟨z1, z2, z3⟩ <;> omega
      exact ⟨_, List.getElem?_eq_getElem hpl⟩
    obtain ⟨ws', hwl', hin, hout⟩ : ∃ ws' : va_W, ws'.length = h.2.1 + k ∧ (∀ (p i : Nat) (q : Nat × va_E), ρ[p]? = some i → wss'[p]? = some q → ws'[i]? = some q) ∧ ∀ (i : Nat) (q : Nat × va_E), i ∉ ρ → ws[i]? = some q → ws'[i]? = some q := by
      refine ⟨(List.range (h.2.1 + k)).map (fun i => @dite _ (∃ q : Nat × va_E, ∃ p : Nat, ρ[p]? = some i ∧ wss'[p]? = some q) (Classical.propDecidable _) (fun hx => Classical.choose hx) (fun _ => (ws[i]?).getD (0, .inr (0, [])))), by rw [List.length_map, List.length_range], fun p i q hp hq => ?_, fun i q hi hq => ?_⟩
      · have hx : ∃ q : Nat × va_E, ∃ p : Nat, ρ[p]? = some i ∧ wss'[p]? = some q := ⟨q, p, hp, hq⟩
        rw [List.getElem?_map, List.getElem?_range (hρN p i hp)]
        show some (@dite _ _ (Classical.propDecidable _) _ _) = some q
        rw [dif_pos hx]
        obtain ⟨p', z1, z2⟩ := Classical.choose_spec hx
        have e := hρi p' p i z1 hp
        subst e
        rw [z2] at hq
        exact hq
      · have hx : ¬ ∃ q : Nat × va_E, ∃ p : Nat, ρ[p]? = some i ∧ wss'[p]? = some q := fun ⟨_, p, hp, _⟩ => hi (List.mem_of_getElem? hp)
        have hil := (List.getElem?_eq_some_iff.mp hq).1
        rw [List.getElem?_map, List.getElem?_range (by omega)]
        show some (@dite _ _ (Classical.propDecidable _) _ _) = some q
        rw [dif_neg hx, hq]
        rfl
    have hrev : ∀ (i : Nat) (q : Nat × va_E), ws'[i]? = some q → (∃ p : Nat, ρ[p]? = some i ∧ wss'[p]? = some q) ∨ (i ∉ ρ ∧ ws[i]? = some q) := by
      intro i q hi
      by_cases hm : i ∈ ρ
      · obtain ⟨p, hp⟩ := List.getElem?_of_mem hm
        obtain ⟨q', hq'⟩ := hρl p i hp
        have := hin p i q' hp hq'
        rw [hi] at this
        cases this
        exact Or.inl ⟨p, hp, hq'⟩
      · have hil := (List.getElem?_eq_some_iff.mp hi).1
        have hiN : i < h.2.1 := by
          rcases Nat.lt_or_ge i h.2.1 with z | z
          · exact z
          · exact absurd (List.mem_of_getElem? ((hρ0 (φ.length + (i - h.2.1)) i).mpr (Or.inr ⟨by omega, by omega, by omega⟩))) hm
        have e : ws[i]? = some ws[i] := List.getElem?_eq_getElem (by omega)
        have := hout i _ hm e
        rw [hi] at this
        cases this
        exact Or.inr ⟨hm, e⟩
    have hfst : ∀ (i : Nat) (q : Nat × va_E), ws[i]? = some q → ∃ q', ws'[i]? = some q' ∧ q'.1 = q.1 := by
      intro i q hi
      by_cases hm : i ∈ ρ
      · obtain ⟨p, hp⟩ := List.getElem?_of_mem hm
        obtain ⟨q', hq'⟩ := hρl p i hp
        have hil := (List.getElem?_eq_some_iff.mp hi).1
        rcases (hρ0 p i).mp hp with ⟨z1, z2⟩ | ⟨z1, z2, z3⟩
        · obtain ⟨-, -, q2, g1, g2⟩ := hφ p i z2
          rw [hi] at g1
          cases g1
          exact ⟨q', hin p i q' hp hq', hadr p _ _ g2 hq'⟩
        · omega
      · exact ⟨q, hout i q hm hi, rfl⟩
    have hpreB : zPre (zad cA ws) (zad cA ws') := by
      refine ⟨⟨(ws'.map (fun q => q.1)).drop ws.length, ?_⟩, rfl⟩
      show ws'.map (fun q => q.1) = ws.map (fun q => q.1) ++ (ws'.map (fun q => q.1)).drop ws.length
      have key : (ws'.map (fun q => q.1)).take ws.length = ws.map (fun q => q.1) := by
        apply List.ext_getElem?
        intro i
        rw [List.getElem?_take]
        by_cases hi : i < ws.length
        · rw [if_pos hi]
          obtain ⟨q', g1, g2⟩ := hfst i _ (List.getElem?_eq_getElem hi)
          rw [List.getElem?_map, List.getElem?_map, g1, List.getElem?_eq_getElem hi]
          show some q'.1 = some _
          rw [g2]
        · rw [if_neg hi, List.getElem?_eq_none (by rw [List.length_map]; omega)]
      rw [← key]
      exact (List.take_append_drop _ _).symm
    have hρa : ∀ (p b a : Nat), ρ[p]? = some b → (zad (zcg cA wss) wss').1[p]? = some a → (zad cA ws').1[b]? = some a := by
      intro p b a hp ha
      have ha : (wss'.map (fun q => q.1))[p]? = some a := ha
      show (ws'.map (fun q => q.1))[b]? = some a
      rw [List.getElem?_map] at ha ⊢
      obtain ⟨q, hq, hqa⟩ := Option.map_eq_some_iff.mp ha
      rw [hin p b q hp hq]
      exact congrArg some hqa
    have hop := @zOp_of Ch d cA h ws wss φ hH hφ
    have hB : ∀ i, i < 8 → zcg cA wss i = cA i := fun i hi => zcg_lo (by omega)
    refine ⟨⟨Ch, r', (T', (h.2.1 + k, hs1.2.2)), ws', ov, rfl, ?_, hg, ⟨hwl', m3, fun i q hi => ?_⟩, hpreB, fun i q hi => ?_, ⟨fun i j p q hi hj hpq => ?_, fun i q hi => ?_⟩⟩, hF.1, fun q hq hnq => hF.2 q hq (fun z => hnq (hsub q z))⟩
    · rcases hrr with ⟨g1, g2⟩ | ⟨g1, g2⟩
      · subst g2
        rcases hov with ⟨z, -⟩ | ⟨x, z1, z2⟩
        · refine Or.inl ⟨z, ?_⟩
          rw [g1] at hr'
          rcases hr' with ⟨n, -, e, -⟩ | ⟨w, w', -, -, e, -⟩ | ⟨n, e, -⟩ | ⟨-, e⟩
          · cases e
          · cases e
          · cases e
          · exact e
        · exact absurd (z2 G) (fun q => @zRep_U G _ _ q)
      · rcases hov with ⟨-, z⟩ | ⟨x, z1, z2⟩
        · rw [z] at g2
          exact absurd g2 (fun q => zsubV_nU q)
        · refine Or.inr ⟨x, z1, fun G' => ?_⟩
          have hx : @zRep G' (zad (zcg cA wss) wss') r1 x := by
            rcases @zsubV_ok G' false _ _ _ _ g2 (z2 G') with ⟨q, -⟩ | q
            · cases q
            · exact q
          rcases hr' with ⟨n, -, e, e'⟩ | ⟨w, w', w1, w2, e, e', hb⟩ | ⟨n, e, e'⟩ | ⟨e, -⟩
          · rw [e] at hx
            rw [e']
            exact hx
          · rw [e] at hx
            rw [e']
            obtain ⟨ox, ho, hrf⟩ := hx
            refine ⟨ox, ho, ?_⟩
            rcases @zWB_RT d cA (zcg cA wss) ws ws' wss' φ ρ h.1 Ch w w' ox hop hpreB hρ hρa hb (Or.inl ⟨w1, hrf⟩) with ⟨-, q⟩ | ⟨q, -⟩
            · exact q
            · omega
          · rw [e] at hx
            rw [e']
            exact hx
          · rw [e, zisU_f] at g1
            cases g1
    · rcases hrev i q hi with ⟨p, hp, hq⟩ | ⟨hm, hq⟩
      · have hn := hT2 p i hp
        rw [Nat.zero_add] at hn
        exact zRN_okT hB (zcg_lo (by decide)) hop hpreB hρ hρa (hH1.2.2 p q hq) hn
      · have hil := (List.getElem?_eq_some_iff.mp hq).1
        show @zCell Ch cA (zad cA ws') (zget d T' i) q.2
        rw [hT1 i (by omega) hm]
        exact @zCell_mono Ch cA _ _ hpreB _ _ (hH.2.2 i q hq)
    · rcases hrev i q hi with ⟨p, hp, hq⟩ | ⟨hm, hq⟩
      · exact hP' p q hq
      · have hlt := (hP i q hq).lt
        refine (hP i q hq).kept (hF.2 q.1 hlt ?_)
        rintro (⟨k', e, hk'⟩ | z)
        · obtain ⟨b, hb, hq2⟩ := hφr k' _ hk'
          have e := hD.1 b i _ q hq2 hq rfl
          subst e
          exact hm (List.mem_of_getElem? ((hρ0 k' b).mpr (Or.inl ⟨(List.getElem?_eq_some_iff.mp hb).1, hb⟩)))
        · omega
    · have mixed : ∀ (i j : Nat) (p q : Nat × va_E) (u : Nat), ρ[u]? = some i → wss'[u]? = some p → j ∉ ρ → ws[j]? = some q → p.1 = q.1 → False := by
        intro i j p q u hu hp hjm hq hpq
        have hlt := (hP j q hq).lt
        rcases hD'.2 u p hp with ⟨k', e, hk'⟩ | z
        · obtain ⟨b, hb, hq2⟩ := hφr k' _ hk'
          have e2 := hD.1 b j _ q hq2 hq hpq
          subst e2
          exact hjm (List.mem_of_getElem? ((hρ0 k' b).mpr (Or.inl ⟨(List.getElem?_eq_some_iff.mp hb).1, hb⟩)))
        · omega
      rcases hrev i p hi with ⟨u, hu, hp⟩ | ⟨hm, hp⟩ <;> rcases hrev j q hj with ⟨v, hv, hq⟩ | ⟨hm2, hq⟩
      · have e := hD'.1 u v p q hp hq hpq
        subst e
        rw [hu] at hv
        cases hv
        rfl
      · exact absurd (mixed i j p q u hu hp hm2 hq hpq) id
      · exact absurd (mixed j i q p v hv hq hm hp hpq.symm) id
      · exact hD.1 i j p q hp hq hpq
    · rcases hrev i q hi with ⟨p, hp, hq⟩ | ⟨hm, hq⟩
      · exact hsub _ (hD'.2 p q hq)
      · exact Or.inl ⟨i, q.2, hq⟩
end
section
/-! bounds of longs; a switch past its ends; regions of numbers -/
def zjr (lo hi : Nat) : Nat := Nat.add (Nat.mul 4722366482869645213696 lo) (Nat.mul 87112285931760246646623899502532662132736 hi)
theorem zjr_ok {lo hi : Nat} {i : Int64} (h1 : lo ≤ zj i) (h2 : zj i < hi) : zJs (zjr lo hi) i := by
  have h3 := zj_lt i
  have e : zjr lo hi = 4722366482869645213696 * lo + 87112285931760246646623899502532662132736 * hi := rfl
  rw [e]
  exact ⟨fun q => absurd q (by omega), fun _ => ⟨by omega, by omega⟩⟩
theorem zj_ext (x : Int32) : zj x.toInt64 = if zi x < 2147483648 then zi x else zi x + 18446744069414584320 := by
  have hlt := zi_lt x
  have h := zi2l_ok (a := zi x) (x := x) (fun _ => rfl)
  by_cases q : zi x < 2147483648
  · rw [if_pos q]
    have e : zi2l (zi x) = zi x := by unfold zi2l; rw [zble_lt q]; rfl
    rw [e] at h
    exact h (by omega)
  · rw [if_neg q]
    have e : zi2l (zi x) = zi x + 18446744069414584320 := by unfold zi2l; rw [Nat.ble_eq_true_of_le (show 2147483648 ≤ zi x by omega), zble_lt hlt]; rfl
    rw [e] at h
    exact h (by omega)
def zi2lR (a : Nat) : Nat := cond (Nat.ble 4294967296 a) (cond (Nat.ble (zhi a) 2147483648) (zjr (zlo a) (zhi a)) (cond (Nat.ble 2147483648 (zlo a)) (zjr (Nat.add (zlo a) 18446744069414584320) (Nat.add (zhi a) 18446744069414584320)) 18446744073709551616)) (zi2l a)
theorem zi2lR_ok [zGh] {a : Nat} {x : Int32} (hx : zIs a x) : zJs (zi2lR a) x.toInt64 := by
  unfold zi2lR
  have hl := zlo_ok hx
  have hh := zhi_ok hx
  have hv := zj_ext x
  cases h1 : Nat.ble 4294967296 a
  · rw [cond_false]
    exact zJs_of (zi2l_ok hx.1) (zi2l_lt _)
  · rw [cond_true]
    cases h2 : Nat.ble (zhi a) 2147483648
    · rw [cond_false]
      cases h3 : Nat.ble 2147483648 (zlo a)
      · rw [cond_false]
        exact zJs_of (fun q => absurd q (Nat.lt_irrefl _)) (by decide)
      · rw [cond_true]
        have q3 := Nat.le_of_ble_eq_true h3
        rw [if_neg (by omega)] at hv
        exact zjr_ok (by rw [hv]; exact Nat.add_le_add_right hl _) (by rw [hv]; exact Nat.add_lt_add_right hh _)
    · rw [cond_true]
      have q2 := Nat.le_of_ble_eq_true h2
      rw [if_pos (by omega)] at hv
      exact zjr_ok (by rw [hv]; exact hl) (by rw [hv]; exact hh)
def zjl (n : Nat) : Nat := cond (Nat.ble 18446744073709551616 n) (cond (Nat.ble 4722366482869645213696 n) (Nat.mod (Nat.div n 4722366482869645213696) 18446744073709551616) 0) n
def zjh (n : Nat) : Nat := cond (Nat.ble 18446744073709551616 n) (cond (Nat.ble 4722366482869645213696 n) (Nat.div n 87112285931760246646623899502532662132736) 18446744073709551616) (Nat.succ n)
theorem zjlh_ok {n : Nat} {i : Int64} (h : zJs n i) : zjl n ≤ zj i ∧ zj i < zjh n := by
  have h3 := zj_lt i
  unfold zjl zjh
  cases h1 : Nat.ble 18446744073709551616 n
  · rw [cond_false, cond_false]
    have e := h.1 (zble_f h1)
    exact ⟨by omega, by show zj i < n + 1; omega⟩
  · rw [cond_true, cond_true]
    cases h2 : Nat.ble 4722366482869645213696 n
    · exact ⟨Nat.zero_le _, h3⟩
    · exact h.2 (Nat.le_of_ble_eq_true h2)
def zjsl (n : Nat) : Nat := cond (Nat.ble (zjh n) 9223372036854775808) (Nat.add (zjl n) 9223372036854775808) (cond (Nat.ble 9223372036854775808 (zjl n)) (Nat.sub (zjl n) 9223372036854775808) 0)
def zjsh (n : Nat) : Nat := cond (Nat.ble (zjh n) 9223372036854775808) (Nat.add (zjh n) 9223372036854775808) (cond (Nat.ble 9223372036854775808 (zjl n)) (Nat.sub (zjh n) 9223372036854775808) 18446744073709551616)
def zjs (i : Int64) : Nat := (zj i + 9223372036854775808) % 18446744073709551616
theorem zjs_in {n : Nat} {i : Int64} (h : zJs n i) : zjsl n ≤ zjs i ∧ zjs i < zjsh n := by
  obtain ⟨h1, h2⟩ := zjlh_ok h
  have h3 := zj_lt i
  unfold zjsl zjsh zjs
  generalize zjl n = lo at h1 ⊢
  generalize zjh n = hi at h2 ⊢
  cases q1 : Nat.ble hi 9223372036854775808
  · rw [cond_false, cond_false]
    cases q2 : Nat.ble 9223372036854775808 lo
    · exact ⟨Nat.zero_le _, Nat.mod_lt _ (by decide)⟩
    · have q2 := Nat.le_of_ble_eq_true q2
      rw [cond_true, cond_true]
      exact ⟨by show lo - 9223372036854775808 ≤ _; omega, by show _ < hi - 9223372036854775808; omega⟩
  · have q1 := Nat.le_of_ble_eq_true q1
    rw [cond_true, cond_true]
    exact ⟨by show lo + 9223372036854775808 ≤ _; omega, by show _ < hi + 9223372036854775808; omega⟩
theorem zjs_le {x y : Int64} : zjs x ≤ zjs y ↔ x ≤ y := by
  rw [Int64.le_iff_toInt_le]
  have h1 := zj_lt x
  have h2 := zj_lt y
  unfold zjs
  rcases zj_cases x with ⟨c1, c2⟩ | ⟨c1, c2⟩ <;> rcases zj_cases y with ⟨d1, d2⟩ | ⟨d1, d2⟩ <;> omega
def zlcmpR (a b : Nat) : Nat := cond (Nat.ble 18446744073709551616 (Nat.lor a b)) (cond (Nat.ble (zjsh a) (zjsl b)) 4294967295 (cond (Nat.ble (zjsh b) (zjsl a)) 1 4294967296)) (zlcmp a b)
theorem zlcmpR_ok [zGh] {a b : Nat} {x y : Int64} (hx : zJs a x) (hy : zJs b y) : zIs (zlcmpR a b) (lg_cmp x y) := by
  unfold zlcmpR
  cases h1 : Nat.ble 18446744073709551616 (Nat.lor a b)
  · rw [cond_false]
    exact zIs_of (zlcmp_ok hx.1 hy.1) (zlcmp_le _ _)
  · rw [cond_true]
    obtain ⟨x1, x2⟩ := zjs_in hx
    obtain ⟨y1, y2⟩ := zjs_in hy
    cases h2 : Nat.ble (zjsh a) (zjsl b)
    · rw [cond_false]
      cases h3 : Nat.ble (zjsh b) (zjsl a)
      · exact zIs_u _
      · have q3 := Nat.le_of_ble_eq_true h3
        have hn : ¬ x ≤ y := fun q => by have := zjs_le.mpr q; omega
        have e : lg_cmp x y = 1 := by unfold lg_cmp; rw [if_pos (Int64.not_le.mp hn)]
        rw [e]
        exact zIs_e zi_p1
    · have q2 := Nat.le_of_ble_eq_true h2
      have hn : x ≤ y := zjs_le.mp (by omega)
      have hne : ¬ x = y := fun q => by rw [q] at x1 x2; omega
      have e : lg_cmp x y = -1 := by unfold lg_cmp; rw [if_neg (Int64.not_lt.mpr hn), if_neg hne]
      rw [e]
      exact zIs_e zi_m1
section OPS
variable {d : Nat} {X : zM} {fr : Nat} {P : zP d} {pc : Nat} {k : zK d}
noncomputable def xi2lR (k : zK d) : zK d := fun L S h => zpI S (fun a S => zF (fun v => k L (zL v :: S) h) (zi2lR a))
theorem sm_i2lR [G : zGh] (dg : decode X.2.1 pc = .ok (.i2l, 1)) (hs : zSim X fr P (pc + 1) k) : zSim X fr P pc (xi2lR k) := sm_go (fun ad L S h st hk hst => by
  obtain ⟨a, S, rfl, hk2⟩ := zpI_t hk
  obtain ⟨x, st, rfl, hx, hst⟩ := zRepL_I hst
  have hk : zF (fun v => k L (zL v :: S) h) (zi2lR a) = true := hk2
  rw [zF_eq] at hk
  exact ⟨_, [.int x], [.long x.toInt64], st, hk, rfl, (fun hx hb kk => lv_i2l hx hb dg rfl kk), ⟨⟨_, rfl, zi2lR_ok hx⟩, hst⟩⟩) hs
noncomputable def xlcmpR (k : zK d) : zK d := fun L S h => zpL S (fun b S => zpL S (fun a S => zF (fun v => k L (zI v :: S) h) (zlcmpR a b)))
theorem sm_lcmpR [G : zGh] (dg : decode X.2.1 pc = .ok (.lcmp, 1)) (hs : zSim X fr P (pc + 1) k) : zSim X fr P pc (xlcmpR k) := sm_go (fun ad L S h st hk hst => by
  obtain ⟨b, S, rfl, hk1⟩ := zpL_t hk
  obtain ⟨a, S, rfl, hk2⟩ := zpL_t hk1
  obtain ⟨y, st, rfl, hy, hst⟩ := zRepL_L hst
  obtain ⟨x, st, rfl, hx, hst⟩ := zRepL_L hst
  have hk : zF (fun v => k L (zI v :: S) h) (zlcmpR a b) = true := hk2
  rw [zF_eq] at hk
  exact ⟨_, [.long y, .long x], [.int (lg_cmp x y)], st, hk, rfl, (fun hx hb kk => W.lcmp hx hb dg kk), ⟨⟨_, rfl, zlcmpR_ok hx hy⟩, hst⟩⟩) hs
noncomputable def zkI (S : List zV) : Bool := zpI S (fun a _ => Nat.ble a 4294967295)
noncomputable def xtsO (n : Nat) (kd : zK d) : zK d := fun L S h => zpI S (fun a S => cond (Nat.ble (Nat.succ n) (zlo a)) (kd L S h) false)
noncomputable def xtswR (n : Nat) (ks : List (zK d)) (kd : zK d) : zK d := fun L S h => cond (zkI S) (xtsw ks kd L S h) (xtsO n kd L S h)
theorem sm_tsO [G : zGh] {n len tdf : Nat} {dflt hi : Int} {offs : Array Int} {kd : zK d} (hhi : hi = (n : Int)) (hn : n < 1000) (dg : decode X.2.1 pc = .ok (.tableswitch dflt 0 hi offs, len)) (hdf : (pc : Int) + dflt = (tdf : Int)) (hkd : zSim X fr P tdf kd) : zSim X fr P pc (xtsO n kd) := by
  subst hhi
  intro Ch cA D ad0 A MC MS p l e s m args below meth c ls st H locs cells slots L S h Cx hk R0
  obtain ⟨ws, hHp, hpre, hP, hD, hS, hL, hst, hcb, hsb⟩ := R0
  obtain ⟨a, S, rfl, hk1⟩ := zpI_t hk
  obtain ⟨x, st, rfl, hx, hst1⟩ := zRepL_I hst
  obtain ⟨h1, h2⟩ := zcnd_t hk1
  have h1 : n + 1 ≤ zlo a := Nat.le_of_ble_eq_true h1
  have hl := zlo_ok hx
  refine lv_tableOut (tgt := tdf) Cx.1 Cx.2.1 dg ?_ hdf (hkd Ch cA D ad0 A MC MS p l e s m args below meth c ls _ H locs cells slots L _ h Cx h2 ⟨ws, hHp, hpre, hP, hD, hS, hL, hst1, hcb, hsb⟩)
  have hlt := zi_lt x
  rcases zi_cases x with ⟨c1, c2⟩ | ⟨c1, c2⟩ <;> omega
theorem sm_tswR [G : zGh] {n len tdf : Nat} {dflt hi : Int} {offs : Array Int} {ks : List (zK d)} {kd : zK d} (tg : List Nat) (hhi : hi = (n : Int)) (hn : n < 1000) (dg : decode X.2.1 pc = .ok (.tableswitch dflt 0 hi offs, len)) (hl : ks.length = n + 1) (hoff : (List.range (n + 1)).all (fun i => ztg offs tg pc i) = true) (hdf : (pc : Int) + dflt = (tdf : Int)) (hkd : zSim X fr P tdf kd) (hks : zSims X fr P tg ks) : zSim X fr P pc (xtswR n ks kd) := sm_or (sm_tsw3 tg hhi hn dg hl hoff hdf hkd hks) (sm_tsO hhi hn dg hdf hkd)
end OPS
/-- regions: one of them holds each number -/
noncomputable def zrgs (Rs : List Nat) (K : Nat → Bool) : Bool := List.rec (motive := fun _ => Bool) true (fun r _ rr => cond (K r) rr false) Rs
theorem zrgs_t {K : Nat → Bool} : ∀ {Rs : List Nat}, zrgs Rs K = true → ∀ r, r ∈ Rs → K r = true
  | [], _, r, hr => by cases hr
  | q :: Rs, h, r, hr => by
    have h : cond (K q) (zrgs Rs K) false = true := h
    obtain ⟨h1, h2⟩ := zcnd_t h
    rcases List.mem_cons.mp hr with rfl | hr
    · exact h1
    · exact zrgs_t h2 r hr
def zcvr : List Nat → Nat → Bool
  | [], a => Nat.ble 4294967296 a
  | r :: Rs, a => cond (Nat.ble (zlo r) a) (cond (Nat.ble (Nat.succ r) 4722366482869645213696) (zcvr Rs (Nat.max a (zhi r))) false) false
theorem zcvr_t : ∀ {Rs : List Nat} {a : Nat}, zcvr Rs a = true → ∀ v, a ≤ v → v < 4294967296 → ∃ r, r ∈ Rs ∧ r < 4722366482869645213696 ∧ zlo r ≤ v ∧ v < zhi r
  | [], a, h, v, h1, h2 => by
    have h := Nat.le_of_ble_eq_true h
    omega
  | r :: Rs, a, h, v, h1, h2 => by
    obtain ⟨g1, g2⟩ := zcnd_t h
    obtain ⟨g3, g4⟩ := zcnd_t g2
    have g1 := Nat.le_of_ble_eq_true g1
    by_cases q : v < zhi r
    · exact ⟨r, List.mem_cons_self, Nat.le_of_ble_eq_true g3, by omega, q⟩
    · obtain ⟨r', a1, a2, a3, a4⟩ := zcvr_t g4 v (Nat.max_le.mpr ⟨h1, by omega⟩) h2
      exact ⟨r', List.mem_cons_of_mem _ a1, a2, a3, a4⟩
theorem zIs_rg [zGh] {r : Nat} {i : Int32} (h0 : r < 4722366482869645213696) (h1 : zlo r ≤ zi i) (h2 : zi i < zhi r) : zIs r i := by
  cases q : Nat.ble 4294967296 r
  · have e1 : zlo r = r := by unfold zlo; rw [q, cond_false]
    have e2 : zhi r = Nat.succ r := by unfold zhi; rw [q, cond_false]
    rw [e1] at h1
    rw [e2] at h2
    exact zIs_e (Nat.le_antisymm (Nat.le_of_lt_succ h2) h1)
  · have e1 : zlo r = r / 1099511627776 % 4294967296 := by unfold zlo; rw [q, cond_true, zmod_n, zdiv_n]
    have q := Nat.le_of_ble_eq_true q
    rw [e1] at h1
    refine ⟨fun z => absurd z (Nat.not_lt.mpr q), fun z1 z2 => ?_, h1, fun z => absurd z (Nat.not_le.mpr h0)⟩
    have e2 : zhi r = r % 1099511627776 - 4294967296 := by
      unfold zhi zhc
      rw [Nat.ble_eq_true_of_le q, cond_true, zmod_n, zble_lt z1, cond_false, zble_lt z2, cond_false, zsub_n]
    rw [e2] at h2
    exact h2
theorem zrgs_i [zGh] {Rs : List Nat} {K : Nat → Bool} (hc : zcvr Rs 0 = true) (h : zrgs Rs K = true) (i : Int32) : ∃ r, zIs r i ∧ K r = true := by
  obtain ⟨r, h1, h2, h3, h4⟩ := zcvr_t hc (zi i) (Nat.zero_le _) (zi_lt i)
  exact ⟨r, zIs_rg h2 h3 h4, zrgs_t h r h1⟩
end
section
/-! abs of a long that isn't 0 -/
def zabsN (a : Nat) : Nat := cond (Nat.beq a 1606938044258990275541962092341162602527285592350703190540288) 1606938044258990275541962092341162602527285592350703190540288 (zabsj a)
theorem zabsN_ok {a : Nat} {x : Int64} (hx : zJs a x) : zJs (zabsN a) (if 0 < x then x else -x) := by
  unfold zabsN
  cases hb : Nat.beq a 1606938044258990275541962092341162602527285592350703190540288
  · exact zJs_of (zabsj_ok hx.1) (zabsj_lt _)
  · rw [cond_true]
    rw [Nat.eq_of_beq_eq_true hb] at hx
    have h0 := (hx.2 (by decide)).1
    have h0 : 1 ≤ zj x := h0
    refine ⟨fun q => absurd q (by decide), fun _ => ?_⟩
    have hl := zj_lt (if 0 < x then x else -x)
    refine ⟨?_, by show zj (if 0 < x then x else -x) < 18446744073709551616; exact hl⟩
    show 1 ≤ zj (if 0 < x then x else -x)
    have hne : (if 0 < x then x else -x) ≠ 0 := by
      by_cases q : 0 < x
      · rw [if_pos q]
        intro e
        rw [e] at h0
        exact absurd h0 (by decide)
      · rw [if_neg q]
        intro e
        have : x = 0 := by
          have e2 : -(-x) = -(0 : Int64) := by rw [e]
          simpa using e2
        rw [this] at h0
        exact absurd h0 (by decide)
    exact Nat.pos_of_ne_zero (fun z => hne (zj_inj (by rw [z]; rfl)))
section OPS
variable {d : Nat} {X : zM} {fr : Nat} {P : zP d} {pc : Nat} {k : zK d}
noncomputable def xabsN (k : zK d) : zK d := fun L S h => zpL S (fun a S => zle4 S (zF (fun v => k L (zL v :: S) h) (zabsN a)))
theorem sm_mabsN [G : zGh] {index : Nat} (hlink : Cond.methodLink X.1 index Lib.MathLoose.abs_long.x ∈ ztbl) (hstat : Cond.static Lib.MathLoose.abs_long.x ∈ ztbl) (hini : Cond.initialized "java/lang/Math" ∈ ztbl) (hcode : Cond.code Lib.MathLoose.abs_long.x Lib.MathLoose.abs_long.code 2 (some .long) ∈ ztbl) (hfr : 1 ≤ fr) (dg : decode X.2.1 pc = .ok (.invokestatic index, 3)) (hs : zSim X fr P (pc + 3) k) : zSim X fr P pc (xabsN k) := by
  intro Ch cA D ad0 A MC MS p l e s m args below meth c ls st H locs cells slots L S h Cx hk R0
  obtain ⟨ws, hHp, hpre, hP, hD, hS, hL, hst, hcb, hsb⟩ := R0
  obtain ⟨a, S, rfl, hk2⟩ := zpL_t hk
  obtain ⟨x, st, rfl, hx, hst2⟩ := zRepL_L hst
  obtain ⟨h4, hk3⟩ := zle4_t hk2
  have hk3 : zF (fun v => k L (zL v :: S) h) (zabsN a) = true := hk3
  rw [zF_eq] at hk3
  have hcat := zcat hst2
  exact va_mabs_long Cx.1 Cx.2.1 (by rw [Cx.2.2.1]; exact hL.2.choose_spec.1.1.symm) Cx.2.2.2.1 (Cx.2.2.2.2.1 _ hlink) (Cx.2.2.2.2.1 _ hstat) (Cx.2.2.2.2.1 _ hini) (Cx.2.2.2.2.1 _ hcode) hfr (by show (st.map fun v => v.category).sum + 13 ≤ 64 * fr; omega) (by show cells ≤ MC; omega) (by show slots ≤ MS; omega) dg (hs Ch cA D ad0 A MC MS p l e s m args below meth c ls _ H locs cells slots L _ h Cx hk3 ⟨ws, hHp, hpre, hP, hD, hS, hL, ⟨⟨_, rfl, zabsN_ok hx⟩, hst2⟩, hcb, hsb⟩)
end OPS
end
section
/-! the right summary by a key -/
noncomputable def hsK {d : Nat} (hs1 hs2 : zHs d) : zHs d := fun L h K => hs1 L h (fun a => hs2 L h (fun b => zF K (Nat.add (Nat.mul 1024 a) b)))
theorem hsK_ok {d : Nat} {hs1 hs2 : zHs d} (h1 : zHsOK hs1) (h2 : zHsOK hs2) : zHsOK (hsK hs1 hs2) := fun L h K hk => by
  obtain ⟨a, ha⟩ := h1 L h _ hk
  obtain ⟨b, hb⟩ := h2 L h _ ha
  rw [zF_eq] at hb
  exact ⟨_, hb⟩
noncomputable def zwtl {d : Nat} (k : Nat) (as : List zV) (h : zH d) (P : zP d) (l : List (Nat × (List zV → zH d → zP d → Bool))) : Bool := List.rec (motive := fun _ => Bool) false (fun e _ r => Prod.rec (motive := fun _ => Bool) (fun w g => cond (Nat.beq k w) (g as h P) r) e) l
theorem zwtl_t {d : Nat} {k : Nat} {as : List zV} {h : zH d} {P : zP d} : ∀ {l : List (Nat × (List zV → zH d → zP d → Bool))}, zwtl k as h P l = true → ∃ e, e ∈ l ∧ e.2 as h P = true
  | [], h => by cases h
  | (w, g) :: l, hk => by
    have hk : cond (Nat.beq k w) (g as h P) (zwtl k as h P l) = true := hk
    cases hb : Nat.beq k w
    · rw [hb, cond_false] at hk
      obtain ⟨e, he, hx⟩ := zwtl_t hk
      exact ⟨e, List.mem_cons_of_mem _ he, hx⟩
    · rw [hb, cond_true] at hk
      exact ⟨(w, g), List.mem_cons_self, hk⟩
noncomputable def zwt {d : Nat} (hs : zHs d) (l : List (Nat × (List zV → zH d → zP d → Bool))) : List zV → zH d → zP d → Bool := fun as h P => hs as h (fun k => zwtl k as h P l)
theorem zMet_wt {d : Nat} {X : zM} {y : MethodName} {fr : Nat} {hs : zHs d} {l : List (Nat × (List zV → zH d → zP d → Bool))} (ho : zHsOK hs) (hl : ∀ e, e ∈ l → zMet X y fr e.2) : zMet X y fr (zwt hs l) := fun l' cA D ws av as h P sz hk => by
  obtain ⟨k, hk⟩ := ho as h _ hk
  obtain ⟨e, he, hx⟩ := zwtl_t hk
  exact hl e he l' cA D ws av as h P sz hx
theorem zwt_n {d : Nat} {X : zM} {y : MethodName} {fr : Nat} : ∀ e, e ∈ ([] : List (Nat × (List zV → zH d → zP d → Bool))) → zMet X y fr e.2 := fun e he => by cases he
theorem zwt_c {d : Nat} {X : zM} {y : MethodName} {fr : Nat} {w : Nat} {g : List zV → zH d → zP d → Bool} {l : List (Nat × (List zV → zH d → zP d → Bool))} (hg : zMet X y fr g) (hl : ∀ e, e ∈ l → zMet X y fr e.2) : ∀ e, e ∈ (w, g) :: l → zMet X y fr e.2 := fun e he => by
  rcases List.mem_cons.mp he with rfl | he
  · exact hg
  · exact hl e he
end
section
/-! an argument cut into cases -/
noncomputable def zsa (i c : Nat) : List zV → (List zV → Bool) → Bool := Nat.rec (motive := fun _ => List zV → (List zV → Bool) → Bool) (fun as K => List.rec (motive := fun _ => Bool) false (fun _ t _ => K (zI c :: t)) as) (fun _ r as K => List.rec (motive := fun _ => Bool) false (fun v t _ => r t (fun t => K (v :: t))) as) i
noncomputable def zga (i : Nat) : List zV → (Nat → Bool) → Bool := Nat.rec (motive := fun _ => List zV → (Nat → Bool) → Bool) (fun as K => List.rec (motive := fun _ => Bool) false (fun v _ _ => Sum.rec (motive := fun _ => Bool) (fun n => K n) (fun _ => false) v) as) (fun _ r as K => List.rec (motive := fun _ => Bool) false (fun _ t _ => r t K) as) i
theorem zga_t [zGh] {ad : zA} : ∀ (i : Nat) {as : List zV} {av : List Value} {K : Nat → Bool}, zga i as K = true → zRepL ad as av → ∃ (n : Nat) (iv : Int32), K n = true ∧ zIs n iv ∧ ∀ (c : Nat) (K' : List zV → Bool), zIs c iv → zsa i c as K' = true → ∃ as', K' as' = true ∧ zRepL ad as' av
  | 0, [], av, K, h, _ => by cases h
  | 0, .inl n :: as, [], K, h, hr => hr.elim
  | 0, .inl n :: as, x :: av, K, h, hr => by
    obtain ⟨i, e, hi⟩ := hr.1
    exact ⟨n, i, h, hi, fun c K' hc hk => ⟨zI c :: as, hk, ⟨i, e, hc⟩, hr.2⟩⟩
  | 0, .inr u :: as, av, K, h, _ => by cases h
  | i + 1, [], av, K, h, _ => by cases h
  | i + 1, v :: as, [], K, h, hr => hr.elim
  | i + 1, v :: as, x :: av, K, h, hr => by
    have h : zga i as K = true := h
    obtain ⟨n, iv, h1, h2, h3⟩ := zga_t i h hr.2
    refine ⟨n, iv, h1, h2, fun c K' hc hk => ?_⟩
    have hk : zsa i c as (fun t => K' (v :: t)) = true := hk
    obtain ⟨as', g1, g2⟩ := h3 c _ hc hk
    exact ⟨v :: as', g1, hr.1, g2⟩
section CUT
variable {d : Nat}
/-- below m: each of them -/
noncomputable def zcutA (i m : Nat) (f : List zV → zH d → zP d → Bool) : List zV → zH d → zP d → Bool := fun as h P => zga i as (fun n => cond (Nat.ble (zhi n) m) (zall m (fun v => zsa i v as (fun as => f as h P))) false)
theorem zMet_cutA {X : zM} {y : MethodName} {fr i m : Nat} {f : List zV → zH d → zP d → Bool} (hM : zMet X y fr f) : zMet X y fr (zcutA i m f) := by
  intro G Ch l cA D ws av as h P sz hg has hH hT
  obtain ⟨n, iv, h1, h2, h3⟩ := zga_t i hg has
  obtain ⟨c1, c2⟩ := zcnd_t h1
  have hlt : zi iv < m := Nat.lt_of_lt_of_le (zhi_ok h2) (Nat.le_of_ble_eq_true c1)
  obtain ⟨as', g1, g2⟩ := h3 (zi iv) _ (zIs_e rfl) (zall_t c2 (zi iv) hlt)
  exact hM l cA D ws av as' h P sz g1 g2 hH hT
/-- any number: each below m, those from m on, those below 0 -/
noncomputable def zcutR (i m : Nat) (f : List zV → zH d → zP d → Bool) : List zV → zH d → zP d → Bool := fun as h P => zga i as (fun _ => cond (Nat.ble m 1000) (cond (zall m (fun v => zsa i v as (fun as => f as h P))) (cond (zF (fun c => zsa i c as (fun as => f as h P)) (Nat.add 6442450944 (Nat.mul 1099511627776 m))) (zsa i 2361183241439117574144 as (fun as => f as h P)) false) false) false)
theorem zMet_cutR {X : zM} {y : MethodName} {fr i m : Nat} {f : List zV → zH d → zP d → Bool} (hM : zMet X y fr f) : zMet X y fr (zcutR i m f) := by
  intro G Ch l cA D ws av as h P sz hg has hH hT
  obtain ⟨n, iv, h1, h2, h3⟩ := zga_t i hg has
  obtain ⟨c1, h1⟩ := zcnd_t h1
  obtain ⟨c2, h1⟩ := zcnd_t h1
  obtain ⟨c3, c4⟩ := zcnd_t h1
  rw [zF_eq] at c3
  have c1 := Nat.le_of_ble_eq_true c1
  have hlt2 := zi_lt iv
  rcases Nat.lt_or_ge (zi iv) m with q | q
  · obtain ⟨as', g1, g2⟩ := h3 (zi iv) _ (zIs_e rfl) (zall_t c2 (zi iv) q)
    exact hM l cA D ws av as' h P sz g1 g2 hH hT
  · rcases Nat.lt_or_ge (zi iv) 2147483648 with q2 | q2
    · obtain ⟨as', g1, g2⟩ := h3 (6442450944 + 1099511627776 * m) _ ⟨fun z => absurd z (by omega), fun _ _ => by omega, by omega, fun z => absurd z (by omega)⟩ c3
      exact hM l cA D ws av as' h P sz g1 g2 hH hT
    · obtain ⟨as', g1, g2⟩ := h3 2361183241439117574144 _ ⟨fun z => absurd z (by decide), fun z => absurd z (by decide), by omega, fun z => absurd z (by decide)⟩ c4
      exact hM l cA D ws av as' h P sz g1 g2 hH hT
end CUT
end
section
/-! a product's test: a[i] != 0 && abs(b[i]) > LIMIT / abs(a[i]) -/
theorem zabs_ne {x : Int64} (h : ¬ x = 0) : ¬ (if 0 < x then x else -x) = 0 := by
  by_cases q : 0 < x
  · rw [if_pos q]
    exact h
  · rw [if_neg q]
    intro e
    have e2 : -(-x) = -(0 : Int64) := by rw [e]
    exact h (by simpa using e2)
section OPS
variable {d : Nat} {X : zM} {fr : Nat} {P : zP d} {pc tgt : Nat} {off off2 : Int} {k kt kf : zK d}
noncomputable def xmck (n1 n2 n3 : Nat) (kt kf : zK d) : zK d := fun L S h => List.rec (motive := fun _ => Bool) (znth n1 L (fun v => zpR [v] (fun r1 _ => zat h r1 (fun _ _ _ kd1 len1 _ => cond (Nat.beq kd1 2) (znth n2 L (fun v => zpR [v] (fun r2 _ => zat h r2 (fun _ _ _ kd2 len2 _ => cond (Nat.beq kd2 2) (znth n3 L (fun v => zpI [v] (fun i _ => cond (Nat.ble len1 i) false (cond (Nat.ble len2 i) false (cond (kt L [] h) (kf L [] h) false))))) false)))) false)))) (fun _ _ _ => false) S
theorem sm_mck [G : zGh] {n1 n2 n3 ix ixl : Nat} {f1 f2 f3 f4 f5 f6 : Fin 4} {z0 : Fin 2} {w : Int64}
    (d1 : decode X.2.1 pc = .ok (.aload_n f1, 1)) (e1 : (f1 : Nat) = n1) (d2 : decode X.2.1 (pc + 1) = .ok (.iload_n f2, 1)) (e2 : (f2 : Nat) = n3) (d3 : decode X.2.1 (pc + 1 + 1) = .ok (.laload, 1)) (d4 : decode X.2.1 (pc + 1 + 1 + 1) = .ok (.lconst z0, 1)) (ez : (z0 : Nat) = 0) (d5 : decode X.2.1 (pc + 1 + 1 + 1 + 1) = .ok (.lcmp, 1)) (d6 : decode X.2.1 (pc + 1 + 1 + 1 + 1 + 1) = .ok (.ifCond .eq off, 3)) (ht : ((pc + 1 + 1 + 1 + 1 + 1 : Nat) : Int) + off = (tgt : Int))
    (d7 : decode X.2.1 (pc + 1 + 1 + 1 + 1 + 1 + 3) = .ok (.aload_n f3, 1)) (e3 : (f3 : Nat) = n2) (d8 : decode X.2.1 (pc + 1 + 1 + 1 + 1 + 1 + 3 + 1) = .ok (.iload_n f4, 1)) (e4 : (f4 : Nat) = n3) (d9 : decode X.2.1 (pc + 1 + 1 + 1 + 1 + 1 + 3 + 1 + 1) = .ok (.laload, 1)) (d10 : decode X.2.1 (pc + 1 + 1 + 1 + 1 + 1 + 3 + 1 + 1 + 1) = .ok (.invokestatic ix, 3)) (d11 : decode X.2.1 (pc + 1 + 1 + 1 + 1 + 1 + 3 + 1 + 1 + 1 + 3) = .ok (.ldc2_w ixl, 3)) (hc : Jvm.Cond.constantLong X.1 ixl w ∈ ztbl)
    (d12 : decode X.2.1 (pc + 1 + 1 + 1 + 1 + 1 + 3 + 1 + 1 + 1 + 3 + 3) = .ok (.aload_n f5, 1)) (e5 : (f5 : Nat) = n1) (d13 : decode X.2.1 (pc + 1 + 1 + 1 + 1 + 1 + 3 + 1 + 1 + 1 + 3 + 3 + 1) = .ok (.iload_n f6, 1)) (e6 : (f6 : Nat) = n3) (d14 : decode X.2.1 (pc + 1 + 1 + 1 + 1 + 1 + 3 + 1 + 1 + 1 + 3 + 3 + 1 + 1) = .ok (.laload, 1)) (d15 : decode X.2.1 (pc + 1 + 1 + 1 + 1 + 1 + 3 + 1 + 1 + 1 + 3 + 3 + 1 + 1 + 1) = .ok (.invokestatic ix, 3)) (d16 : decode X.2.1 (pc + 1 + 1 + 1 + 1 + 1 + 3 + 1 + 1 + 1 + 3 + 3 + 1 + 1 + 1 + 3) = .ok (.ldiv, 1)) (d17 : decode X.2.1 (pc + 1 + 1 + 1 + 1 + 1 + 3 + 1 + 1 + 1 + 3 + 3 + 1 + 1 + 1 + 3 + 1) = .ok (.lcmp, 1)) (d18 : decode X.2.1 (pc + 1 + 1 + 1 + 1 + 1 + 3 + 1 + 1 + 1 + 3 + 3 + 1 + 1 + 1 + 3 + 1 + 1) = .ok (.ifCond .le off2, 3)) (ht2 : ((pc + 1 + 1 + 1 + 1 + 1 + 3 + 1 + 1 + 1 + 3 + 3 + 1 + 1 + 1 + 3 + 1 + 1 : Nat) : Int) + off2 = (tgt : Int))
    (hlink : Cond.methodLink X.1 ix Lib.MathLoose.abs_long.x ∈ ztbl) (hstat : Cond.static Lib.MathLoose.abs_long.x ∈ ztbl) (hini : Cond.initialized "java/lang/Math" ∈ ztbl) (hcode : Cond.code Lib.MathLoose.abs_long.x Lib.MathLoose.abs_long.code 2 (some .long) ∈ ztbl) (hfr : 1 ≤ fr)
    (h1 : zSim X fr P tgt kt) (h2 : zSim X fr P (pc + 1 + 1 + 1 + 1 + 1 + 3 + 1 + 1 + 1 + 3 + 3 + 1 + 1 + 1 + 3 + 1 + 1 + 3) kf) : zSim X fr P pc (xmck n1 n2 n3 kt kf) := by
  intro Ch cA D ad0 A MC MS p l e s m args below meth c ls st H locs cells slots L S h Cx hk R0
  obtain ⟨ws, hHp, hpre, hP, hD, hS, hL, hst, hcb, hsb⟩ := R0
  match S, hk, st, hst with
  | [], hk, [], _ =>
    obtain ⟨v1, hv1, k1⟩ := znth_t n1 hk
    obtain ⟨r1, t1, q1, k2⟩ := zpR_t k1
    cases q1
    obtain ⟨j1, kd1, len1, x1, rfl, hg1, k3⟩ := zat_t k2
    obtain ⟨b1, k4⟩ := zcnd_t k3
    obtain ⟨v2, hv2, k5⟩ := znth_t n2 k4
    obtain ⟨r2, t2, q2, k6⟩ := zpR_t k5
    cases q2
    obtain ⟨j2, kd2, len2, x2, rfl, hg2, k7⟩ := zat_t k6
    obtain ⟨b2, k8⟩ := zcnd_t k7
    obtain ⟨v3, hv3, k9⟩ := znth_t n3 k8
    obtain ⟨iv, t3, q3, k10⟩ := zpI_t k9
    cases q3
    clear k1 k2 k3 k4 k5 k6 k7 k8 k9
    cases bl1 : Nat.ble len1 iv
    case true => rw [bl1] at k10; cases k10
    rw [bl1, cond_false] at k10
    cases bl2 : Nat.ble len2 iv
    case true => rw [bl2] at k10; cases k10
    rw [bl2, cond_false] at k10
    obtain ⟨hkt, hkf⟩ := zcnd_t k10
    clear k10 hk
    have eb1 := Nat.eq_of_beq_eq_true b1
    have eb2 := Nat.eq_of_beq_eq_true b2
    subst eb1
    subst eb2
    obtain ⟨y1, hy1, o1, rfl, ho1⟩ := zLoc_at hL hv1 (by intro q; cases q)
    obtain ⟨y2, hy2, o2, rfl, ho2⟩ := zLoc_at hL hv2 (by intro q; cases q)
    obtain ⟨y3, hy3, i, rfl, hi⟩ := zLoc_at hL hv3 (by intro q; cases q)
    obtain ⟨a1, en1, rfl, hw1, hc1⟩ := zat_w hHp ho1
    obtain ⟨a2, en2, rfl, hw2, hc2⟩ := zat_w hHp ho2
    rw [hg1] at hc1
    rw [hg2] at hc2
    obtain ⟨hl1, g1, rfl, -⟩ := zCell_j hc1
    obtain ⟨hl2, g2, rfl, -⟩ := zCell_j hc2
    obtain ⟨i1, i2, i3⟩ := zi_idx hi.1 hl1 bl1
    obtain ⟨k1, k2, k3⟩ := zi_idx hi.1 hl2 bl2
    have yes : W p l e (zRm fr MC MS) s m args below meth c H locs cells slots (MQ below (zQc P cA D ad0 A) args s MC MS A) (F0 m tgt ls []) := h1 Ch cA D ad0 A MC MS p l e s m args below meth c ls _ H locs cells slots L _ h Cx hkt ⟨ws, hHp, hpre, hP, hD, hS, hL, trivial, hcb, hsb⟩
    have hml : c.maxLocals = ls.size := by rw [Cx.2.2.1]; exact hL.2.choose_spec.1.1.symm
    have e0 : Int64.ofNat ((z0 : Nat)) = 0 := by rw [ez]; rfl
    refine lv_aload_n Cx.1 Cx.2.1 d1 e1 hy1 ?_
    refine lv_iload_n Cx.1 Cx.2.1 d2 e2 hy3 ?_
    refine va_lald Cx.1 Cx.2.1 Cx.2.2.2.2.2.1 hP j1 2 hw1 rfl i1 d3 ?_
    refine lv_lconst Cx.1 Cx.2.1 d4 rfl ?_
    refine W.lcmp Cx.1 Cx.2.1 d5 ?_
    refine lv_if_eq Cx.1 Cx.2.1 d6 ht (fun _ => yes) (fun hq => ?_)
    have hz : ¬ g1 i.toNatClampNeg = 0 := fun q => hq (by
      rw [e0, q]
      rfl)
    refine lv_aload_n Cx.1 Cx.2.1 d7 e3 hy2 ?_
    refine lv_iload_n Cx.1 Cx.2.1 d8 e4 hy3 ?_
    refine va_lald Cx.1 Cx.2.1 Cx.2.2.2.2.2.1 hP j2 2 hw2 rfl k1 d9 ?_
    refine va_mabs_long Cx.1 Cx.2.1 hml Cx.2.2.2.1 (Cx.2.2.2.2.1 _ hlink) (Cx.2.2.2.2.1 _ hstat) (Cx.2.2.2.2.1 _ hini) (Cx.2.2.2.2.1 _ hcode) hfr (by show 0 + 13 ≤ 64 * fr; omega) (by show cells ≤ MC; omega) (by show slots ≤ MS; omega) d10 ?_
    refine lv_ldc2 Cx.1 Cx.2.1 Cx.2.2.2.1 (Cx.2.2.2.2.1 _ hc) d11 ?_
    refine lv_aload_n Cx.1 Cx.2.1 d12 e5 hy1 ?_
    refine lv_iload_n Cx.1 Cx.2.1 d13 e6 hy3 ?_
    refine va_lald Cx.1 Cx.2.1 Cx.2.2.2.2.2.1 hP j1 2 hw1 rfl i1 d14 ?_
    refine va_mabs_long Cx.1 Cx.2.1 hml Cx.2.2.2.1 (Cx.2.2.2.2.1 _ hlink) (Cx.2.2.2.2.1 _ hstat) (Cx.2.2.2.2.1 _ hini) (Cx.2.2.2.2.1 _ hcode) hfr (by show 2 + (2 + 0) + 13 ≤ 64 * fr; omega) (by show cells ≤ MC; omega) (by show slots ≤ MS; omega) d15 ?_
    refine lv_ldiv Cx.1 Cx.2.1 d16 (zabs_ne hz) ?_
    refine W.lcmp Cx.1 Cx.2.1 d17 ?_
    refine lv_if_le Cx.1 Cx.2.1 d18 ht2 (fun _ => yes) (fun _ => ?_)
    exact h2 Ch cA D ad0 A MC MS p l e s m args below meth c ls _ H locs cells slots L _ h Cx hkf ⟨ws, hHp, hpre, hP, hD, hS, hL, trivial, hcb, hsb⟩
/-- a local below m cut into cases -/
noncomputable def xcutE (i m : Nat) (k : zK d) : zK d := fun L S h => znth i L (fun v => Sum.rec (motive := fun _ => Bool) (fun n => cond (Nat.ble (zhi n) m) (zF (fun c => zcutL i L (fun L => k L S h) c) (zhi n)) false) (fun _ => false) v)
theorem sm_cutE [G : zGh] {i m0 : Nat} (hs : zSim X fr P pc k) : zSim X fr P pc (xcutE i m0 k) := by
  intro Ch cA D ad0 A MC MS p l e s m args below meth c ls st H locs cells slots L S h Cx hk R0
  obtain ⟨ws, hHp, hpre, hP, hD, hS, hL, hst, hcb, hsb⟩ := R0
  obtain ⟨v, hv, hk2⟩ := znth_t i hk
  match v, hv, hk2 with
  | .inl n, hv, hk2 =>
    obtain ⟨b1, b3⟩ := zcnd_t hk2
    rw [zF_eq] at b3
    obtain ⟨iu, hls, hiu⟩ : ∃ iu : Int32, ls[i]? = some (.val (.int iu)) ∧ zIs n iu := by
      obtain ⟨-, lv, hlv, a3⟩ := id hL
      rcases a3 i _ hv with z | ⟨x, hx, iu, rfl, hiu⟩
      · cases z
      · exact ⟨iu, hlv.2.2 _ hx, hiu⟩
    have q : zi iu < zhi n := zhi_ok hiu
    obtain ⟨L', l1, l2, l3, l4⟩ := zst_t i (zcutL_t b3 (zi iu) q)
    exact hs Ch cA D ad0 A MC MS p l e s m args below meth c ls st H locs cells slots L' S h Cx l4 ⟨ws, hHp, hpre, hP, hD, hS, zLoc_st hL hv l3 l1 (fun iv hl _ => by rw [hls] at hl; cases hl; exact zIs_e rfl), hst, hcb, hsb⟩
end OPS
section OPS
variable {d : Nat} {X : zM} {fr : Nat} {P : zP d} {pc : Nat} {k : zK d}
/-- a switch whose number isn't known: all ways -/
noncomputable def zlsA (L S : List zV) (h : zH d) (ks : List (Nat × zK d)) : Bool := List.rec (motive := fun _ => Bool) true (fun q _ r => cond (q.2 L S h) r false) ks
theorem zlsA_t {a : Nat} {b : Bool} {L S : List zV} {h : zH d} (hb : b = true) : ∀ {ks : List (Nat × zK d)}, zlsA L S h ks = true → zls a b L S h ks = true
  | [], _ => hb
  | (n, k) :: ks, hk => by
    have hk : cond (k L S h) (zlsA L S h ks) false = true := hk
    obtain ⟨h1, h2⟩ := zcnd_t hk
    show cond (Nat.beq a n) (k L S h) (zls a b L S h ks) = true
    cases Nat.beq a n
    · exact zlsA_t hb h2
    · exact h1
noncomputable def xlswU (ks : List (Nat × zK d)) (kd : zK d) : zK d := fun L S h => zpI S (fun a S => cond (kd L S h) (zlsA L S h ks) false)
theorem sm_lswU [G : zGh] {len tdf : Nat} {dflt : Int} {ps : Array (Int × Int)} {ks : List (Nat × zK d)} {kd : zK d} (ts : List (Nat × Nat)) (dg : decode X.2.1 pc = .ok (.lookupswitch dflt ps, len)) (hinc : (ps.toList.zip (ps.toList.drop 1)).all (fun (a, next) => a.1 < next.1) = true) (hlk : zlk pc ps.toList ts = true) (hkey : ks.map (fun q => q.1) = ts.map (fun q => q.1)) (hdf : (pc : Int) + dflt = (tdf : Int)) (hkd : zSim X fr P tdf kd) (hks : ∀ (i n t : Nat) (k : zK d), ts[i]? = some (n, t) → ks[i]? = some (n, k) → zSim X fr P t k) : zSim X fr P pc (xlswU ks kd) := by
  intro Ch cA D ad0 A MC MS p l e s m args below meth c ls st H locs cells slots L S h Cx hk R0
  obtain ⟨ws, hHp, hpre, hP, hD, hS, hL, hst, hcb, hsb⟩ := R0
  obtain ⟨a, S, rfl, hk1⟩ := zpI_t hk
  obtain ⟨x, st, rfl, hx, hst1⟩ := zRepL_I hst
  obtain ⟨h1, h2⟩ := zcnd_t hk1
  obtain ⟨tgt, k, g1, g2, g3⟩ := zls_t (a := zi x) rfl hdf hkd ps.toList ts ks hlk hkey hks (zlsA_t h1 h2)
  exact lv_lookup Cx.1 Cx.2.1 dg hinc rfl g1 (g2 Ch cA D ad0 A MC MS p l e s m args below meth c ls _ H locs cells slots L _ h Cx g3 ⟨ws, hHp, hpre, hP, hD, hS, hL, hst1, hcb, hsb⟩)
/-- a local of any number cut into cases -/
noncomputable def xcutLR (i m : Nat) (k : zK d) : zK d := fun L S h => znth i L (fun v => Sum.rec (motive := fun _ => Bool) (fun _ => cond (Nat.ble m 1000) (cond (zcutL i L (fun L => k L S h) m) (cond (zF (fun c => zst i (zI c) L (fun L => k L S h)) (Nat.add 6442450944 (Nat.mul 1099511627776 m))) (zst i (zI 2361183241439117574144) L (fun L => k L S h)) false) false) false) (fun _ => false) v)
theorem sm_cutLR [G : zGh] {i m0 : Nat} (hs : zSim X fr P pc k) : zSim X fr P pc (xcutLR i m0 k) := by
  intro Ch cA D ad0 A MC MS p l e s m args below meth c ls st H locs cells slots L S h Cx hk R0
  obtain ⟨ws, hHp, hpre, hP, hD, hS, hL, hst, hcb, hsb⟩ := R0
  obtain ⟨v, hv, hk2⟩ := znth_t i hk
  match v, hv, hk2 with
  | .inl n, hv, hk2 =>
    obtain ⟨b0, hk2⟩ := zcnd_t hk2
    obtain ⟨b1, hk2⟩ := zcnd_t hk2
    obtain ⟨b2, b3⟩ := zcnd_t hk2
    rw [zF_eq] at b2
    have b0 := Nat.le_of_ble_eq_true b0
    obtain ⟨iu, hls, hiu⟩ : ∃ iu : Int32, ls[i]? = some (.val (.int iu)) ∧ zIs n iu := by
      obtain ⟨-, lv, hlv, a3⟩ := id hL
      rcases a3 i _ hv with z | ⟨x, hx, iu, rfl, hiu⟩
      · cases z
      · exact ⟨iu, hlv.2.2 _ hx, hiu⟩
    have hlt2 := zi_lt iu
    rcases Nat.lt_or_ge (zi iu) m0 with q | q
    · obtain ⟨L', l1, l2, l3, l4⟩ := zst_t i (zcutL_t b1 (zi iu) q)
      exact hs Ch cA D ad0 A MC MS p l e s m args below meth c ls st H locs cells slots L' S h Cx l4 ⟨ws, hHp, hpre, hP, hD, hS, zLoc_st hL hv l3 l1 (fun iv hl _ => by rw [hls] at hl; cases hl; exact zIs_e rfl), hst, hcb, hsb⟩
    · rcases Nat.lt_or_ge (zi iu) 2147483648 with q2 | q2
      · obtain ⟨L', l1, l2, l3, l4⟩ := zst_t i b2
        exact hs Ch cA D ad0 A MC MS p l e s m args below meth c ls st H locs cells slots L' S h Cx l4 ⟨ws, hHp, hpre, hP, hD, hS, zLoc_st hL hv l3 l1 (fun iv hl _ => by
          rw [hls] at hl
          cases hl
          show zIs (6442450944 + 1099511627776 * m0) iu
          exact ⟨fun z => absurd z (by omega), fun _ _ => by omega, by omega, fun z => absurd z (by omega)⟩), hst, hcb, hsb⟩
      · obtain ⟨L', l1, l2, l3, l4⟩ := zst_t i b3
        exact hs Ch cA D ad0 A MC MS p l e s m args below meth c ls st H locs cells slots L' S h Cx l4 ⟨ws, hHp, hpre, hP, hD, hS, zLoc_st hL hv l3 l1 (fun iv hl _ => by
          rw [hls] at hl
          cases hl
          exact ⟨fun z => absurd z (by decide), fun z => absurd z (by decide), by omega, fun z => absurd z (by decide)⟩), hst, hcb, hsb⟩
end OPS
section OPS
variable {d : Nat} {X : zM} {fr : Nat} {P : zP d} {pc : Nat} {k : zK d}
noncomputable def xlswV (ks : List (Nat × zK d)) (kd : zK d) : zK d := fun L S h => zpI S (fun a _ => cond (Nat.ble 4294967296 a) (xlswU ks kd L S h) (xlsw ks kd L S h))
theorem sm_lswV [G : zGh] {len tdf : Nat} {dflt : Int} {ps : Array (Int × Int)} {ks : List (Nat × zK d)} {kd : zK d} (ts : List (Nat × Nat)) (dg : decode X.2.1 pc = .ok (.lookupswitch dflt ps, len)) (hinc : (ps.toList.zip (ps.toList.drop 1)).all (fun (a, next) => a.1 < next.1) = true) (hlk : zlk pc ps.toList ts = true) (hkey : ks.map (fun q => q.1) = ts.map (fun q => q.1)) (hdf : (pc : Int) + dflt = (tdf : Int)) (hkd : zSim X fr P tdf kd) (hks : ∀ (i n t : Nat) (k : zK d), ts[i]? = some (n, t) → ks[i]? = some (n, k) → zSim X fr P t k) : zSim X fr P pc (xlswV ks kd) := by
  intro Ch cA D ad0 A MC MS p l e s m args below meth c ls st H locs cells slots L S h Cx hk R0
  obtain ⟨a, S', rfl, hk1⟩ := zpI_t hk
  cases hb : Nat.ble 4294967296 a
  · rw [hb, cond_false] at hk1
    exact sm_lsw ts dg hinc hlk hkey hdf hkd hks Ch cA D ad0 A MC MS p l e s m args below meth c ls st H locs cells slots L _ h Cx hk1 R0
  · rw [hb, cond_true] at hk1
    exact sm_lswU ts dg hinc hlk hkey hdf hkd hks Ch cA D ad0 A MC MS p l e s m args below meth c ls st H locs cells slots L _ h Cx hk1 R0
end OPS
end
section
/-! a run in pieces: one state, one end -/
/-- a word n times -/
def zrpw (w n : Nat) : Nat := Nat.mul w (Nat.div (Nat.sub (Nat.pow 2 (Nat.mul 40 n)) 1) 1099511627775)
noncomputable def zatP {d : Nat} (as0 : List zV) (h0 : zH d) (P0 : zP d) : List zV → zH d → zP d → Bool := fun as h P => @decide (as = as0 ∧ h = h0 ∧ P = P0) (Classical.propDecidable _)
theorem zatP_t {d : Nat} {as0 : List zV} {h0 : zH d} {P0 : zP d} : zatP as0 h0 P0 as0 h0 P0 = true := @decide_eq_true _ (Classical.propDecidable _) ⟨rfl, rfl, rfl⟩
theorem zMet_at {d : Nat} {X : zM} {y : MethodName} {fr : Nat} {k : zK d} {as0 : List zV} {h0 : zH d} {P0 : zP d} (hy : plainName y.cls = true) (h1 : X.1 = y.cls) (h2 : X.2.2.2.2 = y.name) (hs : ∀ [zGh], zSim X fr P0 0 k) (hk : zfn X.2.2.1 (fun _ => k) as0 h0 P0 = true) : zMet X y fr (zatP as0 h0 P0) := by
  classical
  have hm : zMet X y fr (zfn X.2.2.1 (fun P => if P = P0 then k else fun _ _ _ => false)) := zmet_mk hy h1 h2 (fun P => by
    by_cases e : P = P0
    · subst e
      rw [if_pos rfl]
      exact hs
    · rw [if_neg e]
      intro Ch cA D ad0 A MC MS p l e s m args below meth c0 ls st H locs cells slots L S h Cx hk R
      cases hk)
  have key : ∀ as h P, zatP as0 h0 P0 as h P = true → zfn X.2.2.1 (fun P => if P = P0 then k else fun _ _ _ => false) as h P = true := fun as h P hg => by
    obtain ⟨rfl, rfl, rfl⟩ := @of_decide_eq_true _ (Classical.propDecidable _) hg
    have hk : zen as X.2.2.1 (fun L => k L [] h) = true := hk
    show zen as X.2.2.1 (fun L => (if P = P then k else fun _ _ _ => false) L [] h) = true
    rw [if_pos rfl]
    exact hk
  intro G C l cA D ws av as hh P sz hg
  exact hm l cA D ws av as hh P sz (key as hh P hg)
end
