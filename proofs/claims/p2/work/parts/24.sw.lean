/-! a switch, its targets by a list -/
def ztg (offs : Array Int) (tg : List Nat) (pc i : Nat) : Bool := match offs[i]?, tg[i]? with
  | some off, some t => decide ((pc : Int) + off = (t : Int))
  | _, _ => false
theorem ztg_t {offs : Array Int} {tg : List Nat} {pc i : Nat} (h : ztg offs tg pc i = true) : ∃ off t, offs[i]? = some off ∧ tg[i]? = some t ∧ (pc : Int) + off = (t : Int) := by
  unfold ztg at h
  split at h
  · next off t h1 h2 => exact ⟨off, t, h1, h2, of_decide_eq_true h⟩
  · cases h
section OPS
variable {d : Nat} {X : zM} {fr : Nat} {P : zP d} {pc : Nat} {k : zK d}
theorem sm_tsw2 [G : zGh] {n len tdf : Nat} {dflt hi : Int} {offs : Array Int} {ks : List (zK d)} {kd : zK d} (tg : List Nat) (hhi : hi = (n : Int)) (hn : n < 1000) (dg : decode X.2.1 pc = .ok (.tableswitch dflt 0 hi offs, len)) (hl : ks.length = n + 1) (hoff : (List.range (n + 1)).all (fun i => ztg offs tg pc i) = true) (hdf : (pc : Int) + dflt = (tdf : Int)) (hkd : zSim X fr P tdf kd) (hks : ∀ (i : Nat) (k : zK d) (t : Nat), ks[i]? = some k → tg[i]? = some t → zSim X fr P t k) : zSim X fr P pc (xtsw ks kd) := sm_tsw hhi hn dg hl (fun i hi => ztg_t (List.all_eq_true.mp hoff i (List.mem_range.mpr hi))) hdf hks hkd
end OPS
