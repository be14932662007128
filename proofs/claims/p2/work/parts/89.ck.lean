/-! a run in pieces: one state, one end -/
/-- a word n times -/
def zrpw (w n : Nat) : Nat := Nat.mul w (Nat.div (Nat.sub (Nat.pow 2 (Nat.mul 40 n)) 1) 1099511627775)
noncomputable def zatP {d : Nat} (as0 : List zV) (h0 : zH d) (P0 : zP d) : List zV → zH d → zP d → Bool := fun as h P => @decide (as = as0 ∧ h = h0 ∧ P = P0) (Classical.propDecidable _)
theorem zatP_t {d : Nat} {as0 : List zV} {h0 : zH d} {P0 : zP d} : zatP as0 h0 P0 as0 h0 P0 = true := @decide_eq_true _ (Classical.propDecidable _) ⟨rfl, rfl, rfl⟩
theorem zMet_at {d : Nat} {X : zM} {y : MethodName} {fr : Nat} {k : zK d} {as0 : List zV} {h0 : zH d} {P0 : zP d} (hy : plainName y.cls = true) (h1 : X.1 = y.cls) (h2 : X.2.2.2.2 = y.name) (hs : ∀ [zGh], zSim X fr P0 0 k) (hk : zfn X.2.2.1 (fun _ => k) as0 h0 P0 = true) : zMet X y fr (zatP as0 h0 P0) := by
  classical
  have hm : zMet X y fr (zfn X.2.2.1 (fun P => if P = P0 then k else fun _ _ _ => false)) := zmet_mk hy h1 h2 (fun P => by
    by_cases e : P = P0
    · subst e
      rw [if_pos rfl]
      exact hs
    · rw [if_neg e]
      intro Ch cA D ad0 A MC MS p l e s m args below meth c0 ls st H locs cells slots L S h Cx hk R
      cases hk)
  have key : ∀ as h P, zatP as0 h0 P0 as h P = true → zfn X.2.2.1 (fun P => if P = P0 then k else fun _ _ _ => false) as h P = true := fun as h P hg => by
    obtain ⟨rfl, rfl, rfl⟩ := @of_decide_eq_true _ (Classical.propDecidable _) hg
    have hk : zen as X.2.2.1 (fun L => k L [] h) = true := hk
    show zen as X.2.2.1 (fun L => (if P = P then k else fun _ _ _ => false) L [] h) = true
    rw [if_pos rfl]
    exact hk
  intro G C l cA D ws av as hh P sz hg
  exact hm l cA D ws av as hh P sz (key as hh P hg)
