/-! a method's summary over a small world serves in every larger one -/
theorem zcnd_t {a b : Bool} (h : cond a b false = true) : a = true ∧ b = true := by
  cases a
  · cases h
  · exact ⟨rfl, h⟩
theorem Met_mono {l : Launch} {y : MethodName} {ws : List Cond} {rm : Room} {Pc Pc' : Array Value → State → Prop} {Qc Qc' : Array Value → State → Outcome → State → Prop} {mc ms : Nat} {free free' : Addr → Prop} (h : Met l y ws rm Pc Qc mc ms free) (hp : ∀ a s, Pc' a s → Pc a s) (hq : ∀ a s o t, Pc' a s → Qc a s o t → Qc' a s o t) (hf : ∀ q, free q → free' q) : Met l y ws rm Pc' Qc' mc ms free' := by
  intro p e h1 h2 h3 s m args below hfr hap hP hK
  obtain ⟨n, o, a1, a2, a3, hq1, L, hL, hfree⟩ := h p e h1 h2 h3 s m args below hfr hap (hp _ _ hP) hK
  exact ⟨n, o, a1, a2, a3, hq _ _ _ _ hP hq1, L, hL, fun q hq => hf _ (hfree q hq)⟩
/-- the word of what isn't looked at: field j of the small world's cell t -/
def zoc (t j : Nat) : Nat := Nat.add 549755813889 (Nat.add (Nat.mul 64 t) j)
theorem zoc_n (t j : Nat) : zoc t j = 549755813889 + (64 * t + j) := rfl
def zcv (v : Value) : Nat := match v with
  | .int i => zi i
  | .ref a => a + 1
  | _ => 0
def zgv (e : va_E) (j : Nat) : Nat := match e with
  | .inr (_, fs) => match fs[j]? with
    | some v => zcv v
    | none => 0
  | .inl (_, _, .inr (.inr (.inr (.inr g)))) => zcv (va_rf (g j))
  | _ => 0
def zcg (cA : Nat → ClassId) (wss : va_W) : Nat → ClassId := fun w => if w < 549755813889 then cA w else match wss[(w - 549755813889) / 64]? with
  | some q => zgv q.2 ((w - 549755813889) % 64)
  | none => 0
theorem zcg_lo {cA : Nat → ClassId} {wss : va_W} {w : Nat} (h : w < 549755813889) : zcg cA wss w = cA w := if_pos h
theorem zcg_oc {cA : Nat → ClassId} {wss : va_W} {t j : Nat} {q : Nat × va_E} (hj : j < 64) (hq : wss[t]? = some q) : zcg cA wss (zoc t j) = zgv q.2 j := by
  unfold zcg
  rw [zoc_n, if_neg (by omega), show (549755813889 + (64 * t + j) - 549755813889) / 64 = t by omega, show (549755813889 + (64 * t + j) - 549755813889) % 64 = j by omega, hq]
theorem zop_cv {g : Nat → Nat} {w : Nat} {o : Option Nat} (hw : 21 ≤ w) (h : g w = zcv (va_rf o)) : zop g w = o := by
  unfold zop
  rw [Nat.max_eq_left hw]
  cases o with
  | none => rw [if_pos (by rw [h]; rfl)]
  | some a =>
    have e : g w = a + 1 := h
    rw [if_neg (by omega), e]
    rfl
theorem zoc_20 (t j : Nat) : 21 ≤ zoc t j := by
  rw [zoc_n]
  omega
theorem zcg_ty {cA : Nat → ClassId} {wss : va_W} : zty (zcg cA wss) = zty cA := by
  unfold zty
  rw [zcg_lo (w := 0) (by decide), zcg_lo (w := 1) (by decide), zcg_lo (w := 2) (by decide), zcg_lo (w := 3) (by decide), zcg_lo (w := 4) (by decide), zcg_lo (w := 5) (by decide), zcg_lo (w := 6) (by decide), zcg_lo (w := 7) (by decide)]
noncomputable def zsubi (wb ws : Nat) : Bool := cond (Nat.ble 274877906944 ws) false (cond (Nat.beq wb ws) true (cond (Nat.ble 549755813888 wb) (Nat.beq ws 4294967296) (zsubI wb ws)))
theorem zsubi_ok {wb ws : Nat} {i : Int32} (h : zsubi wb ws = true) (hb : wb < 1099511627776) (hi : zIa wb i) : ws < 274877906944 ∧ zIa ws i := by
  unfold zsubi at h
  cases h1 : Nat.ble 274877906944 ws
  · rw [h1, cond_false] at h
    have q1 := zble_f h1
    refine ⟨q1, ?_⟩
    cases h2 : Nat.beq wb ws
    · rw [h2, cond_false] at h
      cases h3 : Nat.ble 549755813888 wb
      · rw [h3, cond_false] at h
        exact zsubI_a hb (by omega) h hi
      · rw [h3, cond_true] at h
        rw [Nat.eq_of_beq_eq_true h]
        exact ⟨fun q => absurd q (Nat.lt_irrefl _), fun q => absurd q (Nat.lt_irrefl _)⟩
    · rw [← Nat.eq_of_beq_eq_true h2]
      exact hi
  · rw [h1] at h; cases h
noncomputable def zmw (φ : List Nat) (t : Nat) (isR : Bool) (x x0 j : Nat) : Bool := cond (Nat.beq (zwd 40 x0 j) (zoc t j)) (Nat.ble j 63) (cond isR (Nat.rec (motive := fun _ => Bool) (Nat.beq (zwd 40 x j) 0) (fun p _ => ztab φ p (fun b => Nat.beq (zwd 40 x j) (Nat.succ b))) (zwd 40 x0 j)) (zsubi (zwd 40 x j) (zwd 40 x0 j)))
/-- rows side by side, on both sides -/
noncomputable def zm12 (φ : List Nat) (x x0 : Nat) : Bool := cond (Nat.beq (Nat.sub (Nat.div x 1048576) (Nat.mod x 1048576)) (Nat.sub (Nat.div x0 1048576) (Nat.mod x0 1048576))) (zall (Nat.sub (Nat.div x 1048576) (Nat.mod x 1048576)) (fun i => ztab φ (Nat.add (Nat.mod x0 1048576) i) (fun b => Nat.beq b (Nat.add (Nat.mod x 1048576) i)))) false
noncomputable def zmt (φ : List Nat) (t : Nat) (c c0 : zC) : Bool := Prod.rec (motive := fun _ => Bool) (fun kd v => Prod.rec (motive := fun _ => Bool) (fun len x => Prod.rec (motive := fun _ => Bool) (fun kd0 v0 => Prod.rec (motive := fun _ => Bool) (fun len0 x0 => cond (Nat.beq kd kd0) (cond (Nat.beq len len0) (cond (Nat.ble kd 2) (cond (Nat.beq x x0) true (zsubX kd len x x0)) (cond (Nat.ble kd 7) (zall len (zmw φ t true x x0)) (cond (Nat.ble 16 kd) (zall (zN (Nat.sub kd 16)) (fun j => zmw φ t (zisR (zfty (Nat.sub kd 16) j)) x x0 j)) (cond (Nat.beq kd 12) (zm12 φ x x0) false)))) false) false) v0) c0) v) c
theorem zCell_lo {C1 C2 : zCh} {cA cB : Nat → ClassId} {ad ad' : zA} {kd len x : Nat} {e : va_E} (hk : kd ≤ 2) (hc : @zCell C1 cA ad (kd, len, x) e) (hB : ∀ i, i < 3 → cB i = cA i) : @zCell C2 cB ad' (kd, len, x) e := by
  by_cases q : kd = 2
  · subst q
    obtain ⟨hl, f, rfl, hf⟩ := @zCell_j C1 cA ad len x e hc
    rw [← hB 2 (by decide)]
    exact @zCell_jk C2 cB ad' len x f hl hf
  · obtain ⟨hl, f, rfl, hf⟩ := @zCell_i C1 cA ad kd len x e hc (by omega)
    rw [← hB kd (by omega)]
    exact @zCell_ik C2 cB ad' kd len x f (by omega) hl hf
section WORLD
variable {cA : Nat → ClassId} {ws wss : va_W} {φ : List Nat}
theorem zmw_R {t x x0 j : Nat} {q : Nat × va_E} {o : Option Nat} (hφ : ∀ (p b : Nat), φ[p]? = some b → b < 549755813887 ∧ p < 549755813887 ∧ ∃ q, ws[b]? = some q ∧ wss[p]? = some q) (hq : wss[t]? = some q) (hg : zgv q.2 j = zcv (va_rf o)) (h : zmw φ t true x x0 j = true) (hr : zRw (zad cA ws) (zwd 40 x j) o) : zRw (zad (zcg cA wss) wss) (zwd 40 x0 j) o := by
  unfold zmw at h
  cases h1 : Nat.beq (zwd 40 x0 j) (zoc t j)
  · rw [h1, cond_false, cond_true] at h
    generalize zwd 40 x0 j = w at h ⊢
    cases w with
    | zero =>
      have e : zwd 40 x j = 0 := Nat.eq_of_beq_eq_true h
      rw [e] at hr
      rcases hr with ⟨-, ⟨-, z⟩ | ⟨k, a, z, -⟩⟩ | ⟨z, -⟩
      · exact Or.inl ⟨by decide, Or.inl ⟨rfl, z⟩⟩
      · cases z
      · exact absurd z (by decide)
    | succ p =>
      have h : ztab φ p (fun b => Nat.beq (zwd 40 x j) (Nat.succ b)) = true := h
      obtain ⟨b, hb, hb2⟩ := ztab_t φ p h
      have e : zwd 40 x j = b + 1 := Nat.eq_of_beq_eq_true hb2
      obtain ⟨b1, b2, q', g1, g2⟩ := hφ p b hb
      rw [e] at hr
      rcases hr with ⟨-, ⟨z, -⟩ | ⟨k, a, z1, z2, z3⟩⟩ | ⟨z, -⟩
      · cases z
      · have ek : b = k := by omega
        subst ek
        refine Or.inl ⟨by omega, Or.inr ⟨p, a, rfl, ?_, z3⟩⟩
        have z2 : (ws.map (fun q => q.1))[b]? = some a := z2
        show (wss.map (fun q => q.1))[p]? = some a
        rw [List.getElem?_map, g1] at z2
        rw [List.getElem?_map, g2]
        exact z2
      · omega
  · rw [h1, cond_true] at h
    have hj := Nat.le_of_ble_eq_true h
    rw [Nat.eq_of_beq_eq_true h1]
    exact Or.inr ⟨by rw [zoc_n]; omega, (zop_cv (g := zcg cA wss) (zoc_20 _ _) (by rw [zcg_oc (by omega) hq]; exact hg)).symm⟩
theorem zmw_I [zCh] {t x x0 j : Nat} {q : Nat × va_E} {v : Value} (hq : wss[t]? = some q) (hg : zgv q.2 j = zcv v) (h : zmw φ t false x x0 j = true) (hr : zRepC (zad cA ws) (zI (zwd 40 x j)) v) : zRepC (zad (zcg cA wss) wss) (zI (zwd 40 x0 j)) v := by
  unfold zmw at h
  obtain ⟨i, rfl, r1, r2⟩ := hr
  cases h1 : Nat.beq (zwd 40 x0 j) (zoc t j)
  · rw [h1, cond_false, cond_false] at h
    obtain ⟨g1, g2⟩ := zsubi_ok h (zwd_lt _ _ _) r1.1
    exact ⟨i, rfl, ⟨g2, fun z => absurd z (by omega)⟩, fun z => absurd z (by omega), fun z => absurd z (by omega)⟩
  · rw [h1, cond_true] at h
    have hj := Nat.le_of_ble_eq_true h
    rw [Nat.eq_of_beq_eq_true h1]
    refine ⟨i, rfl, ⟨⟨fun z => absurd z (by rw [zoc_n]; omega), fun _ z => absurd z (by rw [zoc_n]; omega)⟩, fun z => absurd z (by rw [zoc_n]; omega)⟩, fun _ => ?_, fun _ z => absurd z (by rw [zoc_n]; omega)⟩
    show zi i = zcg cA wss (zoc t j)
    rw [zcg_oc (by omega) hq, hg]
    rfl
theorem zmt_ok [zCh] {t a : Nat} {c c0 : zC} {e : va_E} (hφ : ∀ (p b : Nat), φ[p]? = some b → b < 549755813887 ∧ p < 549755813887 ∧ ∃ q, ws[b]? = some q ∧ wss[p]? = some q) (hq : wss[t]? = some (a, e)) (hc : zCell cA (zad cA ws) c e) (hm : zmt φ t c c0 = true) : zCell (zcg cA wss) (zad (zcg cA wss) wss) c0 e := by
  obtain ⟨kd, len, x⟩ := c
  obtain ⟨kd0, len0, x0⟩ := c0
  replace hm : cond (Nat.beq kd kd0) (cond (Nat.beq len len0) (cond (Nat.ble kd 2) (cond (Nat.beq x x0) true (zsubX kd len x x0)) (cond (Nat.ble kd 7) (zall len (zmw φ t true x x0)) (cond (Nat.ble 16 kd) (zall (zN (Nat.sub kd 16)) (fun j => zmw φ t (zisR (zfty (Nat.sub kd 16) j)) x x0 j)) (cond (Nat.beq kd 12) (zm12 φ x x0) false)))) false) false = true := hm
  cases h1 : Nat.beq kd kd0
  · rw [h1] at hm; cases hm
  cases h2 : Nat.beq len len0
  · rw [h1, h2] at hm; cases hm
  rw [h1, h2, cond_true, cond_true] at hm
  have e1 := Nat.eq_of_beq_eq_true h1
  have e2 := Nat.eq_of_beq_eq_true h2
  subst e1
  subst e2
  cases h3 : Nat.ble kd 2
  · rw [h3, cond_false] at hm
    have q3 := zble_f h3
    cases h4 : Nat.ble kd 7
    · rw [h4, cond_false] at hm
      cases h5 : Nat.ble 16 kd
      · rw [h5, cond_false] at hm
        obtain ⟨h12, hm12⟩ := zcnd_t hm
        have e12 := Nat.eq_of_beq_eq_true h12
        clear hm
        subst e12
        obtain ⟨hl, f, rfl, hf⟩ : len < 2147483648 ∧ ∃ f : Nat → Option Nat, e = .inl (cA 3, len, .inr (.inr (.inr (.inr f)))) ∧ zRs (zad cA ws) len x f := by
          rcases hc with ⟨g, -⟩ | ⟨g, -⟩ | ⟨-, -, g3, ⟨g4, -⟩ | ⟨-, f, g5, g6⟩⟩ | ⟨-, g, -⟩ | ⟨g, -⟩
          · exact absurd (show 12 < 2 from g) (by decide)
          · exact absurd (show 12 = 2 from g) (by decide)
          · exact absurd (show 12 < 12 from g4) (by decide)
          · exact ⟨g3, f, g5, g6⟩
          · exact absurd (show 12 < 8 from g) (by decide)
          · exact absurd (show 16 ≤ 12 from g) (by decide)
        obtain ⟨hd, hm⟩ := zcnd_t hm12
        have hd : x / 1048576 - x % 1048576 = x0 / 1048576 - x0 % 1048576 := Nat.eq_of_beq_eq_true hd
        refine Or.inr (Or.inr (Or.inl ⟨(by decide : 8 ≤ 12), (by decide : 12 < 16), hl, Or.inr ⟨rfl, f, by rw [zcg_lo (by decide)], fun j hj => ?_⟩⟩))
        obtain ⟨k, a', z1, z2, z3, z4⟩ := hf j hj
        have hk : k - x % 1048576 < x / 1048576 - x % 1048576 := by omega
        obtain ⟨b, hb, hb2⟩ := ztab_t φ _ (zall_t hm (k - x % 1048576) hk)
        have eb : b = x % 1048576 + (k - x % 1048576) := Nat.eq_of_beq_eq_true hb2
        have ebk : b = k := by omega
        subst ebk
        obtain ⟨-, -, q', g1, g2⟩ := hφ _ b hb
        refine ⟨x0 % 1048576 + (b - x % 1048576), a', by show x0 % 1048576 ≤ _; omega, by show _ < x0 / 1048576; omega, ?_, z4⟩
        have z3 : (ws.map (fun q => q.1))[b]? = some a' := z3
        show (wss.map (fun q => q.1))[x0 % 1048576 + (b - x % 1048576)]? = some a'
        have g2 : wss[x0 % 1048576 + (b - x % 1048576)]? = some q' := g2
        rw [List.getElem?_map, g1] at z3
        rw [List.getElem?_map, g2]
        exact z3
      rw [h5, cond_true] at hm
      have q5 := Nat.le_of_ble_eq_true h5
      obtain ⟨fs, rfl, hl, hf⟩ := zCell_obj (ci := kd - 16) hc (by omega)
      have hek : kd = 16 + (kd - 16) := by omega
      have hw := zall_t hm
      have key : zCell (zcg cA wss) (zad (zcg cA wss) wss) (16 + (kd - 16), len, x0) (.inr (kd - 16, fs)) := zCell_ok hl (fun j v hv => by
        have hj : j < zN (kd - 16) := by rw [← hl]; exact (List.getElem?_eq_some_iff.mp hv).1
        have hwj : zmw φ t (zisR (zfty (kd - 16) j)) x x0 j = true := hw j hj
        have hfj := hf j v hv
        unfold zFl at hfj ⊢
        cases hz : zisR (zfty (kd - 16) j)
        · rw [hz] at hwj
          rw [hz, cond_false] at hfj
          rw [cond_false]
          exact zmw_I hq (by show (match fs[j]? with | some v => zcv v | none => 0) = zcv v; rw [hv]) hwj hfj
        · rw [hz] at hwj
          rw [hz, cond_true] at hfj
          rw [cond_true]
          obtain ⟨o, rfl, ho⟩ := hfj
          exact ⟨o, rfl, zmw_R hφ hq (by show (match fs[j]? with | some v => zcv v | none => 0) = zcv (va_rf o); rw [hv]) hwj ho⟩)
      rw [← hek] at key
      exact key
    · rw [h4, cond_true] at hm
      have q4 := Nat.le_of_ble_eq_true h4
      obtain ⟨hl, f, rfl, hf⟩ := zCell_r hc (by omega) (by omega)
      have hw := zall_t hm
      have key := zCell_rk (cA := zcg cA wss) (ad := zad (zcg cA wss) wss) (x := x0) (f := f) (kd := kd) (by omega) (by omega) hl (fun j hj => zmw_R hφ hq rfl (hw j hj) (hf j hj))
      rw [zcg_lo (by omega)] at key
      exact key
  · rw [h3, cond_true] at hm
    have q3 := Nat.le_of_ble_eq_true h3
    have key : zCell cA (zad cA ws) (kd, len, x0) e := by
      cases h4 : Nat.beq x x0
      · rw [h4, cond_false] at hm
        exact zsubX_ok hm hc
      · rw [← Nat.eq_of_beq_eq_true h4]
        exact hc
    exact zCell_lo q3 key (fun i hi => zcg_lo (by omega))
end WORLD
/-! and back -/
noncomputable def zlr (kd len j : Nat) (isR : Bool) : Bool := cond (Nat.ble kd 7) (cond (Nat.ble 3 kd) (cond (Nat.ble len j) false isR) false) (cond (Nat.ble 16 kd) (cond (Nat.ble (zN (Nat.sub kd 16)) j) false (cond (zisR (zfty (Nat.sub kd 16) j)) isR (cond isR false true))) false)
noncomputable def zwb {d : Nat} (φ ρ : List Nat) (t : zT d) (isR : Bool) (w : Nat) (K : Nat → Bool) : Bool := cond (Nat.ble 549755813889 w) (ztab φ (Nat.div (Nat.sub w 549755813889) 64) (fun b => Prod.rec (motive := fun _ => Bool) (fun kd v => Prod.rec (motive := fun _ => Bool) (fun len x => cond (zlr kd len (Nat.mod (Nat.sub w 549755813889) 64) isR) (zF K (zwd 40 x (Nat.mod (Nat.sub w 549755813889) 64))) false) v) (zget d t b))) (cond (Nat.ble 274877906944 w) false (cond isR (Nat.rec (motive := fun _ => Bool) (K 0) (fun p _ => ztab ρ p (fun b => zF K (Nat.succ b))) w) (K w)))
def zWB {d : Nat} (φ ρ : List Nat) (t : zT d) (isR : Bool) (w w' : Nat) : Prop :=
  (549755813889 ≤ w ∧ ∃ b kd len x : Nat, φ[(w - 549755813889) / 64]? = some b ∧ zget d t b = (kd, len, x) ∧ zlr kd len ((w - 549755813889) % 64) isR = true ∧ w' = zwd 40 x ((w - 549755813889) % 64)) ∨
  (w < 274877906944 ∧ isR = true ∧ ((w = 0 ∧ w' = 0) ∨ ∃ p b : Nat, w = p + 1 ∧ ρ[p]? = some b ∧ w' = b + 1)) ∨
  (w < 274877906944 ∧ isR = false ∧ w' = w)
theorem zwb_t {d : Nat} {φ ρ : List Nat} {t : zT d} {isR : Bool} {w : Nat} {K : Nat → Bool} (h : zwb φ ρ t isR w K = true) : ∃ w', K w' = true ∧ zWB φ ρ t isR w w' := by
  unfold zwb at h
  cases h1 : Nat.ble 549755813889 w
  · rw [h1, cond_false] at h
    have q1 := zble_f h1
    cases h2 : Nat.ble 274877906944 w
    · rw [h2, cond_false] at h
      have q2 := zble_f h2
      cases isR
      · exact ⟨w, h, Or.inr (Or.inr ⟨by omega, rfl, rfl⟩)⟩
      · rw [cond_true] at h
        cases w with
        | zero => exact ⟨0, h, Or.inr (Or.inl ⟨by omega, rfl, Or.inl ⟨rfl, rfl⟩⟩)⟩
        | succ p =>
          have h : ztab ρ p (fun b => zF K (Nat.succ b)) = true := h
          obtain ⟨b, hb, hb2⟩ := ztab_t ρ p h
          rw [zF_eq] at hb2
          exact ⟨b + 1, hb2, Or.inr (Or.inl ⟨by omega, rfl, Or.inr ⟨p, b, rfl, hb, rfl⟩⟩)⟩
    · rw [h2] at h; cases h
  · rw [h1, cond_true] at h
    obtain ⟨b, hb, hb2⟩ := ztab_t φ _ h
    generalize hc : zget d t b = c at hb2
    obtain ⟨kd, len, x⟩ := c
    have hb2 : cond (zlr kd len (Nat.mod (Nat.sub w 549755813889) 64) isR) (zF K (zwd 40 x (Nat.mod (Nat.sub w 549755813889) 64))) false = true := hb2
    cases h3 : zlr kd len (Nat.mod (Nat.sub w 549755813889) 64) isR
    · rw [h3] at hb2; cases hb2
    rw [h3, cond_true, zF_eq] at hb2
    exact ⟨_, hb2, Or.inl ⟨Nat.le_of_ble_eq_true h1, b, kd, len, x, hb, hc, h3, rfl⟩⟩
theorem zWB_lt {d : Nat} {φ ρ : List Nat} {t : zT d} {isR : Bool} {w w' : Nat} (hρ : ∀ (p b : Nat), ρ[p]? = some b → b < 549755813887) (h : zWB φ ρ t isR w w') : w' < 2 ^ 40 := by
  rcases h with ⟨-, b, kd, len, x, -, -, -, h5⟩ | ⟨-, -, ⟨-, h5⟩ | ⟨p, b, -, hb, h5⟩⟩ | ⟨h, -, h5⟩
  · rw [h5]; exact zwd_lt _ _ _
  · rw [h5]; decide
  · rw [h5]
    have := hρ p b hb
    exact Nat.lt_of_lt_of_le (show b + 1 < 549755813888 by omega) (by decide)
  · rw [h5]; exact Nat.lt_of_lt_of_le h (by decide)
noncomputable def zrnW {d : Nat} (φ ρ : List Nat) (t : zT d) (isR : Nat → Bool) (x n : Nat) : Nat → (Nat → Bool) → Bool := Nat.rec (motive := fun _ => Nat → (Nat → Bool) → Bool) (fun acc K => K acc) (fun j r acc K => zwb φ ρ t (isR j) (zwd 40 x j) (fun w => zF (fun acc => r acc K) (zup 40 acc j w))) n
theorem zrnW_t {d : Nat} {φ ρ : List Nat} {t : zT d} {isR : Nat → Bool} {x : Nat} (hρ : ∀ (p b : Nat), ρ[p]? = some b → b < 549755813887) : ∀ (n acc : Nat) {K : Nat → Bool}, zrnW φ ρ t isR x n acc K = true → ∃ y, K y = true ∧ (∀ j, j < n → zWB φ ρ t (isR j) (zwd 40 x j) (zwd 40 y j)) ∧ ∀ j, n ≤ j → zwd 40 y j = zwd 40 acc j
  | 0, acc, K, h => ⟨acc, h, fun j hj => absurd hj (Nat.not_lt_zero j), fun _ _ => rfl⟩
  | n + 1, acc, K, h => by
    have h : zwb φ ρ t (isR n) (zwd 40 x n) (fun w => zF (fun acc => zrnW φ ρ t isR x n acc K) (zup 40 acc n w)) = true := h
    obtain ⟨w, hw, hb⟩ := zwb_t h
    rw [zF_eq] at hw
    obtain ⟨y, h1, h2, h3⟩ := zrnW_t hρ n _ hw
    have hlt := zWB_lt hρ hb
    refine ⟨y, h1, fun j hj => ?_, fun j hj => ?_⟩
    · rcases Nat.lt_succ_iff_lt_or_eq.mp hj with q | rfl
      · exact h2 j q
      · rw [h3 j (Nat.le_refl j), zwd_up_same _ _ _ _ hlt]
        exact hb
    · rw [h3 j (by omega), zwd_up_ne _ _ _ _ _ hlt (by omega)]
noncomputable def zr12 (ρ : List Nat) (x : Nat) (K : Nat → Bool) : Bool := ztab ρ (Nat.mod x 1048576) (fun b => cond (Nat.ble b 1000000) (cond (zall (Nat.sub (Nat.div x 1048576) (Nat.mod x 1048576)) (fun i => ztab ρ (Nat.add (Nat.mod x 1048576) i) (fun c => Nat.beq c (Nat.add b i)))) (zF K (Nat.add b (Nat.mul 1048576 (Nat.add b (Nat.sub (Nat.div x 1048576) (Nat.mod x 1048576)))))) false) false)
theorem zr12_t {ρ : List Nat} {x : Nat} {K : Nat → Bool} (h : zr12 ρ x K = true) : ∃ b, b ≤ 1000000 ∧ K (b + 1048576 * (b + (x / 1048576 - x % 1048576))) = true ∧ ∀ i, i < x / 1048576 - x % 1048576 → ρ[x % 1048576 + i]? = some (b + i) := by
  obtain ⟨b, -, h⟩ := ztab_t ρ _ h
  obtain ⟨h1, h⟩ := zcnd_t h
  obtain ⟨h2, h⟩ := zcnd_t h
  rw [zF_eq] at h
  refine ⟨b, Nat.le_of_ble_eq_true h1, h, fun i hi => ?_⟩
  obtain ⟨c, hc, hc2⟩ := ztab_t ρ _ (zall_t h2 i hi)
  have e : c = b + i := Nat.eq_of_beq_eq_true hc2
  rw [e] at hc
  exact hc
noncomputable def zren {d : Nat} (φ ρ : List Nat) (t : zT d) (c : zC) (K : zC → Bool) : Bool := Prod.rec (motive := fun _ => Bool) (fun kd v => Prod.rec (motive := fun _ => Bool) (fun len x => cond (Nat.ble kd 2) (K (kd, len, x)) (cond (Nat.ble kd 7) (zrnW φ ρ t (fun _ => true) x len 0 (fun y => K (kd, len, y))) (cond (Nat.ble 16 kd) (zrnW φ ρ t (fun j => zisR (zfty (Nat.sub kd 16) j)) x (zN (Nat.sub kd 16)) 0 (fun y => K (kd, len, y))) (cond (Nat.beq kd 12) (zr12 ρ x (fun y => K (kd, len, y))) false)))) v) c
def zRN {d : Nat} (φ ρ : List Nat) (t : zT d) (c c' : zC) : Prop := ∃ kd len x y : Nat, c = (kd, len, x) ∧ c' = (kd, len, y) ∧ ((kd ≤ 2 ∧ y = x) ∨ (3 ≤ kd ∧ kd ≤ 7 ∧ ∀ j, j < len → zWB φ ρ t true (zwd 40 x j) (zwd 40 y j)) ∨ (16 ≤ kd ∧ ∀ j, j < zN (kd - 16) → zWB φ ρ t (zisR (zfty (kd - 16) j)) (zwd 40 x j) (zwd 40 y j)) ∨ (kd = 12 ∧ ∃ b, b ≤ 1000000 ∧ y = b + 1048576 * (b + (x / 1048576 - x % 1048576)) ∧ ∀ i, i < x / 1048576 - x % 1048576 → ρ[x % 1048576 + i]? = some (b + i)))
theorem zren_t {d : Nat} {φ ρ : List Nat} {t : zT d} {c : zC} {K : zC → Bool} (hρ : ∀ (p b : Nat), ρ[p]? = some b → b < 549755813887) (h : zren φ ρ t c K = true) : ∃ c', K c' = true ∧ zRN φ ρ t c c' := by
  obtain ⟨kd, len, x⟩ := c
  replace h : cond (Nat.ble kd 2) (K (kd, len, x)) (cond (Nat.ble kd 7) (zrnW φ ρ t (fun _ => true) x len 0 (fun y => K (kd, len, y))) (cond (Nat.ble 16 kd) (zrnW φ ρ t (fun j => zisR (zfty (Nat.sub kd 16) j)) x (zN (Nat.sub kd 16)) 0 (fun y => K (kd, len, y))) (cond (Nat.beq kd 12) (zr12 ρ x (fun y => K (kd, len, y))) false))) = true := h
  cases h1 : Nat.ble kd 2
  · rw [h1, cond_false] at h
    have q1 := zble_f h1
    cases h2 : Nat.ble kd 7
    · rw [h2, cond_false] at h
      cases h3 : Nat.ble 16 kd
      · rw [h3, cond_false] at h
        obtain ⟨h4, h⟩ := zcnd_t h
        obtain ⟨b, g1, g2, g3⟩ := zr12_t h
        exact ⟨_, g2, kd, len, x, _, rfl, rfl, Or.inr (Or.inr (Or.inr ⟨Nat.eq_of_beq_eq_true h4, b, g1, rfl, g3⟩))⟩
      rw [h3, cond_true] at h
      obtain ⟨y, g1, g2, -⟩ := zrnW_t hρ _ _ h
      exact ⟨_, g1, kd, len, x, y, rfl, rfl, Or.inr (Or.inr (Or.inl ⟨Nat.le_of_ble_eq_true h3, g2⟩))⟩
    · rw [h2, cond_true] at h
      obtain ⟨y, g1, g2, -⟩ := zrnW_t hρ _ _ h
      exact ⟨_, g1, kd, len, x, y, rfl, rfl, Or.inr (Or.inl ⟨by omega, Nat.le_of_ble_eq_true h2, g2⟩)⟩
  · rw [h1, cond_true] at h
    exact ⟨_, h, kd, len, x, x, rfl, rfl, Or.inl ⟨Nat.le_of_ble_eq_true h1, rfl⟩⟩
section BACK
variable {d : Nat} {cA cB : Nat → ClassId} {ws ws' wss' : va_W} {φ ρ : List Nat} {T : zT d}
/-- what a word that isn't looked at stands for, over the large world -/
def zOp [zCh] (cA cB : Nat → ClassId) (ws : va_W) (φ : List Nat) (T : zT d) : Prop := ∀ (t b kd len x j : Nat), φ[t]? = some b → zget d T b = (kd, len, x) → j < 64 → (zlr kd len j true = true → zRw (zad cA ws) (zwd 40 x j) (zop cB (zoc t j))) ∧ (zlr kd len j false = true → ∀ i : Int32, zi i = cB (zoc t j) → zRepC (zad cA ws) (zI (zwd 40 x j)) (.int i))
theorem zoc_of {w : Nat} (h : 549755813889 ≤ w) : zoc ((w - 549755813889) / 64) ((w - 549755813889) % 64) = w := by
  rw [zoc_n]
  omega
theorem zWB_R [zCh] {w w' : Nat} {o : Option Nat} (hop : zOp cA cB ws φ T) (hpre : zPre (zad cA ws) (zad cA ws')) (hρ : ∀ (p b : Nat), ρ[p]? = some b → b < 549755813887) (hρa : ∀ (p b a : Nat), ρ[p]? = some b → (zad cB wss').1[p]? = some a → (zad cA ws').1[b]? = some a) (hw : zWB φ ρ T true w w') (hr : zRw (zad cB wss') w o) : zRw (zad cA ws') w' o := by
  rcases hw with ⟨h1, b, kd, len, x, h2, h3, h4, h5⟩ | ⟨h1, -, ⟨rfl, h5⟩ | ⟨p, b, rfl, h2, h5⟩⟩ | ⟨-, h, -⟩
  · rw [h5]
    have key := (hop _ b kd len x _ h2 h3 (Nat.mod_lt _ (by decide))).1 h4
    rw [zoc_of h1] at key
    rcases hr with ⟨z, -⟩ | ⟨-, z⟩
    · omega
    · rw [z]
      exact zRw_mono hpre key
  · rw [h5]
    rcases hr with ⟨-, ⟨-, z⟩ | ⟨k, a, z, -⟩⟩ | ⟨z, -⟩
    · exact Or.inl ⟨by decide, Or.inl ⟨rfl, z⟩⟩
    · cases z
    · exact absurd z (by decide)
  · rw [h5]
    have hb := hρ p b h2
    rcases hr with ⟨-, ⟨z, -⟩ | ⟨k, a, z1, z2, z3⟩⟩ | ⟨z, -⟩
    · cases z
    · have ek : p = k := by omega
      subst ek
      exact Or.inl ⟨by omega, Or.inr ⟨b, a, rfl, hρa p b a h2 z2, z3⟩⟩
    · omega
  · cases h
theorem zWB_I {C1 C2 : zCh} {w w' : Nat} {v : Value} (hop : @zOp d C2 cA cB ws φ T) (hpre : zPre (zad cA ws) (zad cA ws')) (hw : zWB φ ρ T false w w') (hr : @zRepC C1 (zad cB wss') (zI w) v) : @zRepC C2 (zad cA ws') (zI w') v := by
  obtain ⟨i, rfl, r1, r2⟩ := hr
  rcases hw with ⟨h1, b, kd, len, x, h2, h3, h4, h5⟩ | ⟨-, h, -⟩ | ⟨h1, -, h5⟩
  · rw [h5]
    have key := (hop _ b kd len x _ h2 h3 (Nat.mod_lt _ (by decide))).2 h4 i (by rw [zoc_of h1]; exact r2.1 (by omega))
    exact @zRepC_mono C2 _ _ hpre _ _ key
  · cases h
  · rw [h5]
    exact ⟨i, rfl, ⟨r1.1, fun z => absurd z (by omega)⟩, fun z => absurd z (by omega), fun z => absurd z (by omega)⟩
theorem zRN_ok {C1 C2 : zCh} {c c' : zC} {e : va_E} (hB : ∀ i, i < 8 → cB i = cA i) (hop : @zOp d C2 cA cB ws φ T) (hpre : zPre (zad cA ws) (zad cA ws')) (hρ : ∀ (p b : Nat), ρ[p]? = some b → b < 549755813887) (hρa : ∀ (p b a : Nat), ρ[p]? = some b → (zad cB wss').1[p]? = some a → (zad cA ws').1[b]? = some a) (hc : @zCell C1 cB (zad cB wss') c e) (hn : zRN φ ρ T c c') : @zCell C2 cA (zad cA ws') c' e := by
  obtain ⟨kd, len, x, y, rfl, rfl, ⟨h1, rfl⟩ | ⟨h1, h2, h3⟩ | ⟨h1, h2⟩ | ⟨h1, b, h2, h3, h4⟩⟩ := hn
  · exact zCell_lo h1 hc (fun i hi => (hB i (by omega)).symm)
  · obtain ⟨hl, f, rfl, hf⟩ := @zCell_r C1 cB _ kd len x e hc h1 (by omega)
    rw [hB kd (by omega)]
    exact @zCell_rk C2 cA _ kd len y f h1 (by omega) hl (fun j hj => @zWB_R d cA cB ws ws' wss' φ ρ T C2 _ _ _ hop hpre hρ hρa (h3 j hj) (hf j hj))
  · obtain ⟨fs, rfl, hl, hf⟩ := @zCell_obj C1 cB _ kd len x (kd - 16) e hc (by omega)
    have hek : kd = 16 + (kd - 16) := by omega
    have key : @zCell C2 cA (zad cA ws') (16 + (kd - 16), len, y) (.inr (kd - 16, fs)) := @zCell_ok C2 cA _ (kd - 16) len y fs hl (fun j v hv => by
      have hj : j < zN (kd - 16) := by rw [← hl]; exact (List.getElem?_eq_some_iff.mp hv).1
      have hwj := h2 j hj
      have hfj := hf j v hv
      unfold zFl at hfj ⊢
      cases hz : zisR (zfty (kd - 16) j)
      · rw [hz] at hwj
        rw [hz, cond_false] at hfj
        rw [cond_false]
        exact zWB_I hop hpre hwj hfj
      · rw [hz] at hwj
        rw [hz, cond_true] at hfj
        rw [cond_true]
        obtain ⟨o, rfl, ho⟩ := hfj
        exact ⟨o, rfl, @zWB_R d cA cB ws ws' wss' φ ρ T C2 _ _ _ hop hpre hρ hρa hwj ho⟩)
    rw [← hek] at key
    exact key
  · subst h1
    obtain ⟨hl, f, rfl, hf⟩ : len < 2147483648 ∧ ∃ f : Nat → Option Nat, e = .inl (cB 3, len, .inr (.inr (.inr (.inr f)))) ∧ zRs (zad cB wss') len x f := by
      rcases hc with ⟨g, -⟩ | ⟨g, -⟩ | ⟨-, -, g3, ⟨g4, -⟩ | ⟨-, f, g5, g6⟩⟩ | ⟨-, g, -⟩ | ⟨g, -⟩
      · exact absurd (show 12 < 2 from g) (by decide)
      · exact absurd (show 12 = 2 from g) (by decide)
      · exact absurd (show 12 < 12 from g4) (by decide)
      · exact ⟨g3, f, g5, g6⟩
      · exact absurd (show 12 < 8 from g) (by decide)
      · exact absurd (show 16 ≤ 12 from g) (by decide)
    have m1 : y % 1048576 = b := by omega
    have m2 : y / 1048576 = b + (x / 1048576 - x % 1048576) := by omega
    refine Or.inr (Or.inr (Or.inl ⟨(by decide : 8 ≤ 12), (by decide : 12 < 16), hl, Or.inr ⟨rfl, f, by rw [hB 3 (by decide)], fun j hj => ?_⟩⟩))
    obtain ⟨k, a', z1, z2, z3, z4⟩ := hf j hj
    have hk := h4 (k - x % 1048576) (by omega)
    rw [show x % 1048576 + (k - x % 1048576) = k by omega] at hk
    exact ⟨b + (k - x % 1048576), a', by show y % 1048576 ≤ _; rw [m1]; omega, by show _ < y / 1048576; rw [m2]; omega, hρa k _ a' hk z3, z4⟩
end BACK
