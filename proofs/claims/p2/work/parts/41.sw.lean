/-! a switch, its targets one after another -/
def zSims [zGh] {d : Nat} (X : zM) (fr : Nat) (P : zP d) : List Nat → List (zK d) → Prop
  | [], [] => True
  | t :: tg, k :: ks => zSim X fr P t k ∧ zSims X fr P tg ks
  | _, _ => False
theorem zSims_at [G : zGh] {d : Nat} {X : zM} {fr : Nat} {P : zP d} : ∀ {tg : List Nat} {ks : List (zK d)}, zSims X fr P tg ks → ∀ (i : Nat) (k : zK d) (t : Nat), ks[i]? = some k → tg[i]? = some t → zSim X fr P t k
  | [], [], _, i, k, t, h, _ => by simp at h
  | t0 :: tg, k0 :: ks, hs, 0, k, t, h1, h2 => by
    have e1 : k0 = k := by simpa using h1
    have e2 : t0 = t := by simpa using h2
    subst e1
    subst e2
    exact hs.1
  | t0 :: tg, k0 :: ks, hs, i + 1, k, t, h1, h2 => zSims_at hs.2 i k t (by simpa using h1) (by simpa using h2)
theorem sm_tsw3 [G : zGh] {d : Nat} {X : zM} {fr : Nat} {P : zP d} {pc : Nat} {n len tdf : Nat} {dflt hi : Int} {offs : Array Int} {ks : List (zK d)} {kd : zK d} (tg : List Nat) (hhi : hi = (n : Int)) (hn : n < 1000) (dg : decode X.2.1 pc = .ok (.tableswitch dflt 0 hi offs, len)) (hl : ks.length = n + 1) (hoff : (List.range (n + 1)).all (fun i => ztg offs tg pc i) = true) (hdf : (pc : Int) + dflt = (tdf : Int)) (hkd : zSim X fr P tdf kd) (hks : zSims X fr P tg ks) : zSim X fr P pc (xtsw ks kd) := sm_tsw2 tg hhi hn dg hl hoff hdf hkd (zSims_at hks)
