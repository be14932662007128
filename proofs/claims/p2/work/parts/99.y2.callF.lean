/-! a call of the law: what lies outside its world stays -/
section CALLF
variable {p : Program} {l : Launch} {e : Env} {R : Room} {s : State} {m : MethodId} {args : Array Value} {below : List Frame} {meth : Method} {c : Code} {H : Heap} {locs : List Loc} {cells slots : Nat} {Q : State → Prop}
variable {pc : Nat} {ls : Array Slot} {rest st0 : List Value} {a : Array Value} {A0 A1 : Nat → Prop} {mc ms : Nat} {free : Addr → Prop}
theorem zrunF {d : Nat} {P : zP d} {cA : Nat → ClassId} {D : va_G} {ad : zA} (hr : va_Run p l e R s m args below meth c H locs cells slots mc ms (F0 m pc ls st0) rest (zQc P cA D ad A1 a) free) (hS : va_S A0 s.heap H locs) (hA : ∀ q, q < H.size → A1 q → A0 q) (hf : ∀ q, free q → A0 q)
    (kk : ∀ [zCh] (r : zV) (h : zH d) (ws : va_W) (ov : Option Value) (H1 : Heap) (locs1 : List Loc), ((ov = none ∧ r = zU) ∨ ∃ x, ov = some x ∧ ∀ (_ : zGh), zRep (zad cA ws) r x) → P r h = true → zHp cA h ws → zPre ad (zad cA ws) → va_P D zcl ws H1 → va_D A1 ws → va_S A0 s.heap H1 locs1 → H.size ≤ H1.size → (∀ q, q < H.size → ¬ A1 q → H1[q]? = H[q]?) → W p l e R s m args below meth c H1 locs1 (cells + mc) (slots + ms) Q (F0 m (pc + 3) ls (ov.toList ++ rest))) : W p l e R s m args below meth c H locs cells slots Q (F0 m pc ls st0) := by
  intro T hT X
  obtain ⟨v, st₀, t, T', L, h0, X', hL, e1, e2, ⟨⟨Ch, r, h, ws, ov, hv, hp, hb, hh, hpr, hP, hD⟩, hz, hk⟩, st⟩ := hr T hT X
  cases hv
  rw [h0] at hz hk
  obtain ⟨t2, a1, b1⟩ := kk r h ws v T'.heap (locs ++ L) hp hb hh hpr (by rw [e1]; exact hP) hD
    ⟨Nat.le_trans hS.1 (by rw [e1]; exact hz), fun q h1 h2 => by rw [e1, hk q (Nat.lt_of_lt_of_le h1 hS.1) (fun z => h2 (hA q (Nat.lt_of_lt_of_le h1 hS.1) z))]; exact hS.2.1 q h1 h2, fun q hq => by
      rcases List.mem_append.mp hq with h | h
      · exact hS.2.2 q h
      · exact hf _ (hL q h)⟩ (by rw [e1]; exact hz) (fun q h1 h2 => by rw [e1]; exact hk q h1 h2) T' rfl X'
  exact ⟨t2, st t2 a1, b1⟩
end CALLF
theorem pt_callF [G : zGh] {Ch : zCh} {d : Nat} {X Xc : zM} {yc : MethodName} {fr frc pc n mc ms : Nat} {f : List zV → zH d → zP d → Bool} {recv : va_W → List Value → Prop} {cA : Nat → ClassId} {D : va_G} {A : Nat → Prop} {MC MS : Nat} {p : Program} {l : Launch} {e : Env} {s : State} {m : MethodId} {args : Array Value} {below : List Frame} {meth : Method} {c : Code} {Q : State → Prop} {ls : Array Slot} {H : Heap} {locs : List Loc} {cells slots : Nat} {as : List zV} {st av : List Value} {h : zH d} {ws : va_W} {P : zP d}
    (hM : zMet Xc yc frc f) (run : zRun X Xc yc fr frc pc n mc ms recv) (Cx : zCx X cA D p s m args meth c A) (hmc : h.2.2.1 = mc) (hms : h.2.2.2 = ms) (hk : f as h P = true) (hHp : @zHp Ch d cA h ws) (hP : va_P D zcl ws H) (hD : va_D A ws) (hS : va_S A s.heap H locs) (hls : ls.size = X.2.2.1) (has : zRepL (zad cA ws) as av) (hcat : (st.map fun v => v.category).sum ≤ 8) (hn : av.length = n) (hrc : recv ws av) (hcb : cells + mc ≤ MC) (hsb : slots + ms ≤ MS)
    (kk : ∀ (Ch' : zCh) (r : zV) (h' : zH d) (ws' : va_W) (ov : Option Value) (H1 : Heap) (locs1 : List Loc), ((ov = none ∧ r = zU) ∨ ∃ x, ov = some x ∧ ∀ (_ : zGh), zRep (zad cA ws') r x) → P r h' = true → @zHp Ch' d cA h' ws' → zPre (zad cA ws) (zad cA ws') → va_P D zcl ws' H1 → va_D (va_A ws H.size) ws' → va_S A s.heap H1 locs1 → H.size ≤ H1.size → (∀ q, q < H.size → ¬ va_A ws H.size q → H1[q]? = H[q]?) → W p l e (zRm fr MC MS) s m args below meth c H1 locs1 (cells + mc) (slots + ms) Q (F0 m (pc + 3) ls (ov.toList ++ st))) :
    W p l e (zRm fr MC MS) s m args below meth c H locs cells slots Q (F0 m pc ls (av.reverse ++ st)) := by
  have hF := zfree hD hS Cx.2.2.2.2.2.2.1
  have hMet := @hM G Ch l cA D ws av as h P H.size hk has hHp Cx.2.2.2.2.2.2.2.2.1.2
  rw [hmc, hms] at hMet
  refine zrunF (run (l := l) (e := e) (below := below) (MC := MC) (MS := MS) (locs := locs) (cells := cells) (slots := slots) (ls := ls) (rest := st) Cx hP hrc hMet zPc_blind (fun U hU hW => ⟨rfl, by rw [hU], by rw [hU]; exact hP, va_K.moved hW.alike Cx.2.2.2.2.2.1, hD.weaken (fun _ _ _ _ => trivial), zStat_to Cx.2.2.2.2.2.2.2.2.2.2.1 hS hF hU hW.alike, zEx_moved hW Cx.2.2.2.2.2.2.2.2.2.2.2⟩) hn hls hcat (by omega) (by omega)) hS (fun q _ h => hF q h) hF (@fun Ch' r h' ws' ov H1 locs1 hov hPk hHp' hpre' hP' hD' hS' hz hfr => ?_)
  exact kk Ch' r h' ws' ov H1 locs1 hov hPk hHp' hpre' hP' hD' hS' hz hfr
/-- cells that a call doesn't reach -/
theorem va_P_kept {D : va_G} {ws wB : va_W} {H H1 : Heap} (hfr : ∀ q, q < H.size → ¬ va_A ws H.size q → H1[q]? = H[q]?) (hdis : ∀ (i k : Nat) (x y : Nat × va_E), wB[i]? = some x → ws[k]? = some y → x.1 ≠ y.1) (hP : va_P D zcl wB H) : va_P D zcl wB H1 := by
  intro i q hq
  have hlt := (hP i q hq).lt
  refine (hP i q hq).kept (hfr q.1 hlt ?_)
  rintro (⟨k', e, hk'⟩ | z)
  · exact hdis i k' q (q.1, e) hq hk' rfl
  · omega
