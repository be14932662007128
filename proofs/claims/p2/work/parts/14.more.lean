/-! Object's constructor; words by their places -/
theorem zmem {w : Cond} (i : Nat) (h : lw_tbl[i]? = some w) (hg : goodWord w = true) : w ∈ ztbl := List.mem_filter.mpr ⟨List.mem_of_getElem? h, hg⟩
theorem zmemT {w : Cond} (i : Nat) (h : tables_1[i]? = some w) (hg : goodWord w = true) : w ∈ ztbl := List.mem_filter.mpr ⟨show w ∈ k2_sels lw_privs ++ tables_1 from List.mem_append_right _ (List.mem_of_getElem? h), hg⟩
theorem zlays {C : String} {T : u_T} {N : Nat} (is : List Nat) (h : ∀ k, k < N → (is[k]?).bind (fun i => lw_tbl[i]?) = some (u_lay C T k)) (hg : ∀ k, k < N → goodWord (u_lay C T k) = true) : ∀ w ∈ u_ws C T N, w ∈ ztbl := by
  intro w hw
  obtain ⟨k, hk, rfl⟩ := List.mem_map.mp hw
  have hk2 := List.mem_range.mp hk
  obtain ⟨i, -, hi⟩ := Option.bind_eq_some_iff.mp (h k hk2)
  exact zmem i hi (hg k hk2)
section OPS
variable {d : Nat} {X : zM} {fr : Nat} {P : zP d} {pc : Nat} {k : zK d}
noncomputable def xobj (k : zK d) : zK d := fun L S h => zpR S (fun r S => zat h r (fun _ _ _ _ _ _ => zle4 S (k L S h)))
theorem sm_objinit [G : zGh] {idx : Nat} (hl : Cond.methodLink X.1 idx Lib.objectInit ∈ ztbl) (hin : Cond.instanceMethod Lib.objectInit ∈ ztbl) (hc : Cond.code Lib.objectInit ⟨#[0xb1]⟩ 1 none ∈ ztbl) (hfr : 1 ≤ fr) (dg : decode X.2.1 pc = .ok (.invokespecial idx, 3)) (hs : zSim X fr P (pc + 3) k) : zSim X fr P pc (xobj k) := by
  intro Ch cA D ad0 A MC MS p l e s m args below meth c ls st H locs cells slots L S h Cx hk R0
  obtain ⟨ws, hHp, hpre, hP, hD, hS, hL, hst, hcb, hsb⟩ := R0
  obtain ⟨r, S, rfl, hk1⟩ := zpR_t hk
  obtain ⟨o, st, rfl, ho, hst2⟩ := zRepL_R hst
  obtain ⟨i, kd, len, x, rfl, hg, hk2⟩ := zat_t hk1
  obtain ⟨a, en, rfl, hwi, hcell⟩ := zat_w hHp ho
  obtain ⟨h4, hk3⟩ := zle4_t hk2
  have hcat := zcat hst2
  refine W.objInit (g := F0 m pc ls (.ref a :: st)) Cx.1 Cx.2.1 Cx.2.2.2.1 (Cx.2.2.2.2.1 _ hl) (Cx.2.2.2.2.1 _ hin) (Cx.2.2.2.2.1 _ hc) rfl (by show ls.size = c.maxLocals; rw [Cx.2.2.1]; exact hL.2.choose_spec.1.1) rfl dg hfr ?_ ?_
  · have := lv_room (m := m) (pc := pc) (ls := ls) (rest := .ref a :: st) (st := st) (by omega)
    show 2 * (F0 m pc ls (.ref a :: st)).monitorRoom + (st.map fun v => v.category).sum + 12 ≤ 64 * fr
    omega
  · exact hs Ch cA D ad0 A MC MS p l e s m args below meth c ls _ H locs cells slots L _ h Cx hk3 ⟨ws, hHp, hpre, hP, hD, hS, hL, hst2, hcb, hsb⟩
end OPS
