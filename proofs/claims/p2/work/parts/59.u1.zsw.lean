/-! the right summary by a key -/
noncomputable def hsK {d : Nat} (hs1 hs2 : zHs d) : zHs d := fun L h K => hs1 L h (fun a => hs2 L h (fun b => zF K (Nat.add (Nat.mul 1024 a) b)))
theorem hsK_ok {d : Nat} {hs1 hs2 : zHs d} (h1 : zHsOK hs1) (h2 : zHsOK hs2) : zHsOK (hsK hs1 hs2) := fun L h K hk => by
  obtain ⟨a, ha⟩ := h1 L h _ hk
  obtain ⟨b, hb⟩ := h2 L h _ ha
  rw [zF_eq] at hb
  exact ⟨_, hb⟩
noncomputable def zwtl {d : Nat} (k : Nat) (as : List zV) (h : zH d) (P : zP d) (l : List (Nat × (List zV → zH d → zP d → Bool))) : Bool := List.rec (motive := fun _ => Bool) false (fun e _ r => Prod.rec (motive := fun _ => Bool) (fun w g => cond (Nat.beq k w) (g as h P) r) e) l
theorem zwtl_t {d : Nat} {k : Nat} {as : List zV} {h : zH d} {P : zP d} : ∀ {l : List (Nat × (List zV → zH d → zP d → Bool))}, zwtl k as h P l = true → ∃ e, e ∈ l ∧ e.2 as h P = true
  | [], h => by cases h
  | (w, g) :: l, hk => by
    have hk : cond (Nat.beq k w) (g as h P) (zwtl k as h P l) = true := hk
    cases hb : Nat.beq k w
    · rw [hb, cond_false] at hk
      obtain ⟨e, he, hx⟩ := zwtl_t hk
      exact ⟨e, List.mem_cons_of_mem _ he, hx⟩
    · rw [hb, cond_true] at hk
      exact ⟨(w, g), List.mem_cons_self, hk⟩
noncomputable def zwt {d : Nat} (hs : zHs d) (l : List (Nat × (List zV → zH d → zP d → Bool))) : List zV → zH d → zP d → Bool := fun as h P => hs as h (fun k => zwtl k as h P l)
theorem zMet_wt {d : Nat} {X : zM} {y : MethodName} {fr : Nat} {hs : zHs d} {l : List (Nat × (List zV → zH d → zP d → Bool))} (ho : zHsOK hs) (hl : ∀ e, e ∈ l → zMet X y fr e.2) : zMet X y fr (zwt hs l) := fun l' cA D ws av as h P sz hk => by
  obtain ⟨k, hk⟩ := ho as h _ hk
  obtain ⟨e, he, hx⟩ := zwtl_t hk
  exact hl e he l' cA D ws av as h P sz hx
theorem zwt_n {d : Nat} {X : zM} {y : MethodName} {fr : Nat} : ∀ e, e ∈ ([] : List (Nat × (List zV → zH d → zP d → Bool))) → zMet X y fr e.2 := fun e he => by cases he
theorem zwt_c {d : Nat} {X : zM} {y : MethodName} {fr : Nat} {w : Nat} {g : List zV → zH d → zP d → Bool} {l : List (Nat × (List zV → zH d → zP d → Bool))} (hg : zMet X y fr g) (hl : ∀ e, e ∈ l → zMet X y fr e.2) : ∀ e, e ∈ (w, g) :: l → zMet X y fr e.2 := fun e he => by
  rcases List.mem_cons.mp he with rfl | he
  · exact hg
  · exact hl e he
