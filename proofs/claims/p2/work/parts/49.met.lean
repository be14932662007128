/-! a summary gives a contract -/
theorem zsubV_nU : ∀ {w : zV}, zsubV false zU w = true → False
  | .inr (.inr (.inr 0)), h => by cases h
  | .inr (.inr (.inr (n + 1))), h => by
    have e : 0 = n + 1 := Nat.eq_of_beq_eq_true h
    cases e
theorem zOp_of [zCh] {d : Nat} {cA : Nat → ClassId} {h : zH d} {ws wss : va_W} {φ : List Nat} (hH : zHp cA h ws) (hφ : ∀ (p b : Nat), φ[p]? = some b → b < 549755813887 ∧ p < 549755813887 ∧ ∃ q, ws[b]? = some q ∧ wss[p]? = some q) : zOp cA (zcg cA wss) ws φ h.1 := by
  intro t b kd len x j ht hget hj
  obtain ⟨-, -, q, q1, q2⟩ := hφ t b ht
  have hc := hH.2.2 b q q1
  rw [hget] at hc
  obtain ⟨a, e⟩ := q
  have hcg : zcg cA wss (zoc t j) = zgv e j := zcg_oc hj q2
  refine ⟨fun hl => ?_, fun hl i hi => ?_⟩
  · unfold zlr at hl
    cases h7 : Nat.ble kd 7
    · rw [h7, cond_false] at hl
      obtain ⟨h16, hl⟩ := zcnd_t hl
      cases hN : Nat.ble (zN (Nat.sub kd 16)) j
      · rw [hN, cond_false] at hl
        cases hz : zisR (zfty (kd - 16) j)
        · rw [show zisR (zfty (Nat.sub kd 16) j) = false from hz, cond_false] at hl; cases hl
        obtain ⟨fs, rfl, hlen, hf⟩ := zCell_obj (ci := kd - 16) hc (by have := Nat.le_of_ble_eq_true h16; omega)
        have hjl : j < fs.length := by rw [hlen]; exact zble_f hN
        have hv : fs[j]? = some fs[j] := List.getElem?_eq_getElem hjl
        have hfj := hf j _ hv
        unfold zFl at hfj
        rw [hz, cond_true] at hfj
        obtain ⟨o, ho, hr⟩ := hfj
        rw [zop_cv (g := zcg cA wss) (o := o) (zoc_20 _ _) (by rw [hcg]; show (match fs[j]? with | some v => zcv v | none => 0) = zcv (va_rf o); rw [hv, ho])]
        exact hr
      · rw [hN] at hl; cases hl
    · rw [h7, cond_true] at hl
      obtain ⟨h3, hl⟩ := zcnd_t hl
      cases hjl : Nat.ble len j
      · obtain ⟨hlen, f, rfl, hf⟩ := zCell_r hc (Nat.le_of_ble_eq_true h3) (by have := Nat.le_of_ble_eq_true h7; omega)
        rw [zop_cv (g := zcg cA wss) (o := f j) (zoc_20 _ _) (by rw [hcg]; rfl)]
        exact hf j (zble_f hjl)
      · rw [hjl] at hl; cases hl
  · unfold zlr at hl
    cases h7 : Nat.ble kd 7
    · rw [h7, cond_false] at hl
      obtain ⟨h16, hl⟩ := zcnd_t hl
      cases hN : Nat.ble (zN (Nat.sub kd 16)) j
      · rw [hN, cond_false] at hl
        cases hz : zisR (zfty (kd - 16) j)
        · obtain ⟨fs, rfl, hlen, hf⟩ := zCell_obj (ci := kd - 16) hc (by have := Nat.le_of_ble_eq_true h16; omega)
          have hjl : j < fs.length := by rw [hlen]; exact zble_f hN
          have hv : fs[j]? = some fs[j] := List.getElem?_eq_getElem hjl
          have hfj := hf j _ hv
          unfold zFl at hfj
          rw [hz, cond_false] at hfj
          obtain ⟨i0, hi0, hr⟩ := id hfj
          have ei : i = i0 := zi_inj (by
            rw [hi, hcg]
            show (match fs[j]? with | some v => zcv v | none => 0) = zi i0
            rw [hv, hi0]
            rfl)
          rw [hi0] at hfj
          rw [ei]
          exact hfj
        · rw [show zisR (zfty (Nat.sub kd 16) j) = true from hz, cond_true] at hl; cases hl
      · rw [hN] at hl; cases hl
    · rw [h7, cond_true] at hl
      obtain ⟨-, hl⟩ := zcnd_t hl
      cases hjl : Nat.ble len j
      · rw [hjl] at hl; cases hl
      · rw [hjl] at hl; cases hl
theorem zMet_sm {d ds : Nat} {X : zM} {y : MethodName} {fr : Nat} {f : List zV → zH ds → zP ds → Bool} (hM : zMet X y fr f) {fp : List (Nat × Nat)} {as0 : List zV} {hs0 : zH ds} {r1 : zV} {hs1 : zH ds} (hev : f as0 hs0 (zrk r1 hs1) = true) : zMet (d := d) X y fr (zsmy fp as0 hs0 r1 hs1) := by
  intro G Ch l cA D ws av as h P sz hg has hH hT
  obtain ⟨φ, hg⟩ := zfp_t fp [] hg
  obtain ⟨c0, hg⟩ := zcnd_t hg
  obtain ⟨c1, hg⟩ := zcnd_t hg
  obtain ⟨c2, hg⟩ := zcnd_t hg
  obtain ⟨c3, hg⟩ := zcnd_t hg
  obtain ⟨c4, hg⟩ := zcnd_t hg
  obtain ⟨c5, hg⟩ := zcnd_t hg
  obtain ⟨c6, hg⟩ := zcnd_t hg
  obtain ⟨c7, hg⟩ := zcnd_t hg
  obtain ⟨c8, hg⟩ := zcnd_t hg
  obtain ⟨c9, hg⟩ := zcnd_t hg
  have hg := zapL_t φ _ (zsqK_t _ _ hg)
  simp only [zsub_n, zadd_n] at hg
  have m0 : hs0.2.1 ≤ 2 ^ ds := Nat.le_of_ble_eq_true c0
  have m1 : φ.length = hs0.2.1 := by rw [← zlen_eq]; exact Nat.eq_of_beq_eq_true c1
  have m2 : hs0.2.1 ≤ hs1.2.1 := Nat.le_of_ble_eq_true c2
  have m3 : h.2.1 + (hs1.2.1 - hs0.2.1) ≤ 2 ^ d := Nat.le_of_ble_eq_true c3
  have m4 : h.2.1 + (hs0.2.1 + (hs1.2.1 - hs0.2.1)) ≤ 1000000 := Nat.le_of_ble_eq_true c4
  have m5 : hs0.2.2.1 = h.2.2.1 := Nat.eq_of_beq_eq_true c5
  have m6 : hs0.2.2.2 = h.2.2.2 := Nat.eq_of_beq_eq_true c6
  obtain ⟨n1, n2⟩ := znd_t c7
  have hN : ws.length = h.2.1 := hH.1
  generalize hk : hs1.2.1 - hs0.2.1 = k at *
  have hρ0 : ∀ (p i : Nat), (φ ++ List.range' h.2.1 k)[p]? = some i ↔ (p < φ.length ∧ φ[p]? = some i) ∨ (φ.length ≤ p ∧ p < φ.length + k ∧ i = h.2.1 + (p - φ.length)) := by
    intro p i
    by_cases hp : p < φ.length
    · rw [List.getElem?_append_left hp]
      exact ⟨fun z => Or.inl ⟨hp, z⟩, fun z => z.elim (fun z => z.2) (fun z => absurd z.1 (by omega))⟩
    · rw [List.getElem?_append_right (by omega)]
      constructor
      · intro z
        obtain ⟨z1, z2⟩ := List.getElem?_eq_some_iff.mp z
        rw [List.length_range'] at z1
        rw [List.getElem_range'] at z2
        exact Or.inr ⟨by omega, by omega, by omega⟩
      · rintro (z | ⟨z1, z2, z3⟩)
        · exact absurd z.1 hp
        · rw [List.getElem?_eq_getElem (by rw [List.length_range']; omega), List.getElem_range', z3]
          simp
  generalize hρe : φ ++ List.range' h.2.1 k = ρ at hg hρ0
  obtain ⟨r', hg, hr'⟩ := zrv_t hg
  have hρ : ∀ (p b : Nat), ρ[p]? = some b → b < 549755813887 := by
    intro p b hp
    rcases (hρ0 p b).mp hp with ⟨-, z⟩ | ⟨z1, z2, z3⟩
    · have := n1 p b z
      omega
    · omega
  have hρN : ∀ (p b : Nat), ρ[p]? = some b → b < h.2.1 + k := by
    intro p b hp
    rcases (hρ0 p b).mp hp with ⟨-, z⟩ | ⟨z1, z2, z3⟩
    · have := n1 p b z
      omega
    · omega
  obtain ⟨T', hg, hT1, hT2⟩ := zsts_t hρ ρ 0 h.1 (fun i hi => by
    obtain ⟨p, hp⟩ := List.getElem?_of_mem hi
    have := hρN p i hp
    omega) hg
  have hρi : ∀ (u v i : Nat), ρ[u]? = some i → ρ[v]? = some i → u = v := by
    intro u v i hu hv
    rcases (hρ0 u i).mp hu with ⟨a1, a2⟩ | ⟨a1, a2, a3⟩ <;> rcases (hρ0 v i).mp hv with ⟨b1, b2⟩ | ⟨b1, b2, b3⟩
    · exact n2 u v i a2 b2
    · have := n1 u i a2
      omega
    · have := n1 v i b2
      omega
    · omega
  have hT2 := hT2 hρi
  rw [zF_eq] at hg
  have hwl : (φ.map (fun b => (ws[b]?).getD ((0, .inr (0, [])) : Nat × va_E))).length = φ.length := List.length_map ..
  have hφ : ∀ (p b : Nat), φ[p]? = some b → b < 549755813887 ∧ p < 549755813887 ∧ ∃ q, ws[b]? = some q ∧ (φ.map (fun b => (ws[b]?).getD ((0, .inr (0, [])) : Nat × va_E)))[p]? = some q := by
    intro p b hp
    have hb := n1 p b hp
    have hpl := (List.getElem?_eq_some_iff.mp hp).1
    have e : ws[b]? = some ws[b] := List.getElem?_eq_getElem (by omega)
    refine ⟨by omega, by omega, ws[b], e, ?_⟩
    rw [List.getElem?_map, hp]
    simp [e]
  generalize φ.map (fun b => (ws[b]?).getD ((0, .inr (0, [])) : Nat × va_E)) = wss at hwl hφ
  have hφr : ∀ (p : Nat) (q : Nat × va_E), wss[p]? = some q → ∃ b, φ[p]? = some b ∧ ws[b]? = some q := by
    intro p q hp
    have hpl := (List.getElem?_eq_some_iff.mp hp).1
    have e : φ[p]? = some φ[p] := List.getElem?_eq_getElem (by omega)
    obtain ⟨-, -, q', g1, g2⟩ := hφ p _ e
    rw [hp] at g2
    cases g2
    exact ⟨_, e, g1⟩
  have hsub : ∀ q, va_A wss sz q → va_A ws sz q := by
    rintro q (⟨k', e, hk'⟩ | z)
    · obtain ⟨b, -, hb⟩ := hφr k' _ hk'
      exact Or.inl ⟨b, e, hb⟩
    · exact Or.inr z
  have hHs : zHp (zcg cA wss) hs0 wss := by
    refine ⟨by omega, m0, fun i q hi => ?_⟩
    obtain ⟨b, hb, hq⟩ := hφr i q hi
    have hm := zmtL_t φ 0 c9 i b hb
    rw [Nat.zero_add] at hm
    obtain ⟨qa, qe⟩ := q
    exact zmt_ok hφ hi (hH.2.2 b _ hq) hm
  have hm := hM l (zcg cA wss) D wss av as0 hs0 (zrk r1 hs1) sz hev (zma_ok hφ c8 has) hHs (by rw [zcg_lo (by decide)]; exact hT)
  rw [m5, m6] at hm
  refine Met_mono hm ?_ ?_ hsub
  · rintro a s ⟨rfl, e1, hP, hK, hD, hst, hex⟩
    refine ⟨rfl, e1, fun k' q hk' => ?_, by rw [zcg_ty]; exact hK, ⟨fun i j p q hi hj hpq => ?_, fun _ _ _ => trivial⟩, zStat_to hst va_S.rf hsub rfl (Vm.Alike.refl s.vm), hex⟩
    · obtain ⟨b, -, hq⟩ := hφr k' q hk'
      exact hP b q hq
    · obtain ⟨b1, g1, g2⟩ := hφr i p hi
      obtain ⟨b2, g3, g4⟩ := hφr j q hj
      have e := hD.1 b1 b2 p q g2 g4 hpq
      subst e
      exact n2 i j b1 g1 g3
  · rintro a st o t ⟨rfl, e1, hP, hK, hD, hst, hex⟩ ⟨⟨Ch', r, hh, wss', ov, rfl, hov, hk2, hHp', hpre', hP', hD'⟩, hF⟩
    obtain ⟨hsb, hrr⟩ := zrk_t hk2
    have hH1 : @zHp Ch' ds (zcg cA wss) hs1 wss' := zsubH_ok hsb hHp'
    have hl1 : wss'.length = hs1.2.1 := hH1.1
    obtain ⟨⟨tt, htt⟩, -⟩ := hpre'
    have htt : wss'.map (fun q => q.1) = wss.map (fun q => q.1) ++ tt := htt
    have hadr : ∀ (p : Nat) (q q' : Nat × va_E), wss[p]? = some q → wss'[p]? = some q' → q'.1 = q.1 := by
      intro p q q' h1 h2
      have e := congrArg (fun z => z[p]?) htt
      have e : (wss'.map (fun q => q.1))[p]? = (wss.map (fun q => q.1) ++ tt)[p]? := e
      rw [List.getElem?_append_left (by rw [List.length_map]; exact (List.getElem?_eq_some_iff.mp h1).1), List.getElem?_map, List.getElem?_map, h1, h2] at e
      exact Option.some.inj e
    have hρl : ∀ (p i : Nat), ρ[p]? = some i → ∃ q, wss'[p]? = some q := by
      intro p i hp
      have hpl : p < wss'.length := by
        rcases (hρ0 p i).mp hp with ⟨z, -⟩ | ⟨z1, z2, z3⟩ <;> omega
      exact ⟨_, List.getElem?_eq_getElem hpl⟩
    obtain ⟨ws', hwl', hin, hout⟩ : ∃ ws' : va_W, ws'.length = h.2.1 + k ∧ (∀ (p i : Nat) (q : Nat × va_E), ρ[p]? = some i → wss'[p]? = some q → ws'[i]? = some q) ∧ ∀ (i : Nat) (q : Nat × va_E), i ∉ ρ → ws[i]? = some q → ws'[i]? = some q := by
      refine ⟨(List.range (h.2.1 + k)).map (fun i => @dite _ (∃ q : Nat × va_E, ∃ p : Nat, ρ[p]? = some i ∧ wss'[p]? = some q) (Classical.propDecidable _) (fun hx => Classical.choose hx) (fun _ => (ws[i]?).getD (0, .inr (0, [])))), by rw [List.length_map, List.length_range], fun p i q hp hq => ?_, fun i q hi hq => ?_⟩
      · have hx : ∃ q : Nat × va_E, ∃ p : Nat, ρ[p]? = some i ∧ wss'[p]? = some q := ⟨q, p, hp, hq⟩
        rw [List.getElem?_map, List.getElem?_range (hρN p i hp)]
        show some (@dite _ _ (Classical.propDecidable _) _ _) = some q
        rw [dif_pos hx]
        obtain ⟨p', z1, z2⟩ := Classical.choose_spec hx
        have e := hρi p' p i z1 hp
        subst e
        rw [z2] at hq
        exact hq
      · have hx : ¬ ∃ q : Nat × va_E, ∃ p : Nat, ρ[p]? = some i ∧ wss'[p]? = some q := fun ⟨_, p, hp, _⟩ => hi (List.mem_of_getElem? hp)
        have hil := (List.getElem?_eq_some_iff.mp hq).1
        rw [List.getElem?_map, List.getElem?_range (by omega)]
        show some (@dite _ _ (Classical.propDecidable _) _ _) = some q
        rw [dif_neg hx, hq]
        rfl
    have hrev : ∀ (i : Nat) (q : Nat × va_E), ws'[i]? = some q → (∃ p : Nat, ρ[p]? = some i ∧ wss'[p]? = some q) ∨ (i ∉ ρ ∧ ws[i]? = some q) := by
      intro i q hi
      by_cases hm : i ∈ ρ
      · obtain ⟨p, hp⟩ := List.getElem?_of_mem hm
        obtain ⟨q', hq'⟩ := hρl p i hp
        have := hin p i q' hp hq'
        rw [hi] at this
        cases this
        exact Or.inl ⟨p, hp, hq'⟩
      · have hil := (List.getElem?_eq_some_iff.mp hi).1
        have hiN : i < h.2.1 := by
          rcases Nat.lt_or_ge i h.2.1 with z | z
          · exact z
          · exact absurd (List.mem_of_getElem? ((hρ0 (φ.length + (i - h.2.1)) i).mpr (Or.inr ⟨by omega, by omega, by omega⟩))) hm
        have e : ws[i]? = some ws[i] := List.getElem?_eq_getElem (by omega)
        have := hout i _ hm e
        rw [hi] at this
        cases this
        exact Or.inr ⟨hm, e⟩
    have hfst : ∀ (i : Nat) (q : Nat × va_E), ws[i]? = some q → ∃ q', ws'[i]? = some q' ∧ q'.1 = q.1 := by
      intro i q hi
      by_cases hm : i ∈ ρ
      · obtain ⟨p, hp⟩ := List.getElem?_of_mem hm
        obtain ⟨q', hq'⟩ := hρl p i hp
        have hil := (List.getElem?_eq_some_iff.mp hi).1
        rcases (hρ0 p i).mp hp with ⟨z1, z2⟩ | ⟨z1, z2, z3⟩
        · obtain ⟨-, -, q2, g1, g2⟩ := hφ p i z2
          rw [hi] at g1
          cases g1
          exact ⟨q', hin p i q' hp hq', hadr p _ _ g2 hq'⟩
        · omega
      · exact ⟨q, hout i q hm hi, rfl⟩
    have hpreB : zPre (zad cA ws) (zad cA ws') := by
      refine ⟨⟨(ws'.map (fun q => q.1)).drop ws.length, ?_⟩, rfl⟩
      show ws'.map (fun q => q.1) = ws.map (fun q => q.1) ++ (ws'.map (fun q => q.1)).drop ws.length
      have key : (ws'.map (fun q => q.1)).take ws.length = ws.map (fun q => q.1) := by
        apply List.ext_getElem?
        intro i
        rw [List.getElem?_take]
        by_cases hi : i < ws.length
        · rw [if_pos hi]
          obtain ⟨q', g1, g2⟩ := hfst i _ (List.getElem?_eq_getElem hi)
          rw [List.getElem?_map, List.getElem?_map, g1, List.getElem?_eq_getElem hi]
          show some q'.1 = some _
          rw [g2]
        · rw [if_neg hi, List.getElem?_eq_none (by rw [List.length_map]; omega)]
      rw [← key]
      exact (List.take_append_drop _ _).symm
    have hρa : ∀ (p b a : Nat), ρ[p]? = some b → (zad (zcg cA wss) wss').1[p]? = some a → (zad cA ws').1[b]? = some a := by
      intro p b a hp ha
      have ha : (wss'.map (fun q => q.1))[p]? = some a := ha
      show (ws'.map (fun q => q.1))[b]? = some a
      rw [List.getElem?_map] at ha ⊢
      obtain ⟨q, hq, hqa⟩ := Option.map_eq_some_iff.mp ha
      rw [hin p b q hp hq]
      exact congrArg some hqa
    have hop := @zOp_of Ch d cA h ws wss φ hH hφ
    have hB : ∀ i, i < 8 → zcg cA wss i = cA i := fun i hi => zcg_lo (by omega)
    refine ⟨⟨Ch, r', (T', (h.2.1 + k, hs1.2.2)), ws', ov, rfl, ?_, hg, ⟨hwl', m3, fun i q hi => ?_⟩, hpreB, fun i q hi => ?_, ⟨fun i j p q hi hj hpq => ?_, fun i q hi => ?_⟩⟩, hF.1, fun q hq hnq => hF.2 q hq (fun z => hnq (hsub q z))⟩
    · rcases hrr with ⟨g1, g2⟩ | ⟨g1, g2⟩
      · subst g2
        rcases hov with ⟨z, -⟩ | ⟨x, z1, z2⟩
        · refine Or.inl ⟨z, ?_⟩
          rw [g1] at hr'
          rcases hr' with ⟨n, -, e, -⟩ | ⟨w, w', -, -, e, -⟩ | ⟨n, e, -⟩ | ⟨-, e⟩
          · cases e
          · cases e
          · cases e
          · exact e
        · exact absurd (z2 G) (fun q => @zRep_U G _ _ q)
      · rcases hov with ⟨-, z⟩ | ⟨x, z1, z2⟩
        · rw [z] at g2
          exact absurd g2 (fun q => zsubV_nU q)
        · refine Or.inr ⟨x, z1, fun G' => ?_⟩
          have hx : @zRep G' (zad (zcg cA wss) wss') r1 x := by
            rcases @zsubV_ok G' false _ _ _ _ g2 (z2 G') with ⟨q, -⟩ | q
            · cases q
            · exact q
          rcases hr' with ⟨n, -, e, e'⟩ | ⟨w, w', w1, w2, e, e', hb⟩ | ⟨n, e, e'⟩ | ⟨e, -⟩
          · rw [e] at hx
            rw [e']
            exact hx
          · rw [e] at hx
            rw [e']
            obtain ⟨ox, ho, hrf⟩ := hx
            refine ⟨ox, ho, ?_⟩
            rcases @zWB_R d cA (zcg cA wss) ws ws' wss' φ ρ h.1 Ch w w' ox hop hpreB hρ hρa hb (Or.inl ⟨w1, hrf⟩) with ⟨-, q⟩ | ⟨q, -⟩
            · exact q
            · omega
          · rw [e] at hx
            rw [e']
            exact hx
          · rw [e, zisU_f] at g1
            cases g1
    · rcases hrev i q hi with ⟨p, hp, hq⟩ | ⟨hm, hq⟩
      · have hn := hT2 p i hp
        rw [Nat.zero_add] at hn
        exact zRN_ok hB hop hpreB hρ hρa (hH1.2.2 p q hq) hn
      · have hil := (List.getElem?_eq_some_iff.mp hq).1
        show @zCell Ch cA (zad cA ws') (zget d T' i) q.2
        rw [hT1 i (by omega) hm]
        exact @zCell_mono Ch cA _ _ hpreB _ _ (hH.2.2 i q hq)
    · rcases hrev i q hi with ⟨p, hp, hq⟩ | ⟨hm, hq⟩
      · exact hP' p q hq
      · have hlt := (hP i q hq).lt
        refine (hP i q hq).kept (hF.2 q.1 hlt ?_)
        rintro (⟨k', e, hk'⟩ | z)
        · obtain ⟨b, hb, hq2⟩ := hφr k' _ hk'
          have e := hD.1 b i _ q hq2 hq rfl
          subst e
          exact hm (List.mem_of_getElem? ((hρ0 k' b).mpr (Or.inl ⟨(List.getElem?_eq_some_iff.mp hb).1, hb⟩)))
        · omega
    · have mixed : ∀ (i j : Nat) (p q : Nat × va_E) (u : Nat), ρ[u]? = some i → wss'[u]? = some p → j ∉ ρ → ws[j]? = some q → p.1 = q.1 → False := by
        intro i j p q u hu hp hjm hq hpq
        have hlt := (hP j q hq).lt
        rcases hD'.2 u p hp with ⟨k', e, hk'⟩ | z
        · obtain ⟨b, hb, hq2⟩ := hφr k' _ hk'
          have e2 := hD.1 b j _ q hq2 hq hpq
          subst e2
          exact hjm (List.mem_of_getElem? ((hρ0 k' b).mpr (Or.inl ⟨(List.getElem?_eq_some_iff.mp hb).1, hb⟩)))
        · omega
      rcases hrev i p hi with ⟨u, hu, hp⟩ | ⟨hm, hp⟩ <;> rcases hrev j q hj with ⟨v, hv, hq⟩ | ⟨hm2, hq⟩
      · have e := hD'.1 u v p q hp hq hpq
        subst e
        rw [hu] at hv
        cases hv
        rfl
      · exact absurd (mixed i j p q u hu hp hm2 hq hpq) id
      · exact absurd (mixed j i q p v hv hq hm hp hpq.symm) id
      · exact hD.1 i j p q hp hq hpq
    · rcases hrev i q hi with ⟨p, hp, hq⟩ | ⟨hm, hq⟩
      · exact hsub _ (hD'.2 p q hq)
      · exact Or.inl ⟨i, q.2, hq⟩
