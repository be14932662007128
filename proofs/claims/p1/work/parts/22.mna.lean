/-! new int[n][m], new long[n][m] -/
/-- numbers from a on, n of them, packed -/
noncomputable def zseq (a n : Nat) : Nat := Nat.rec (motive := fun _ => Nat) 0 (fun i x => zup 40 x i (Nat.add a i)) n
theorem zseq_wd (a : Nat) : ∀ (n i : Nat), i < n → a + n < 2 ^ 40 → zwd 40 (zseq a n) i = a + i
  | 0, i, h, _ => absurd h (by omega)
  | n + 1, i, h, hb => by
    show zwd 40 (zup 40 (zseq a n) n (a + n)) i = a + i
    by_cases q : i = n
    · subst q
      rw [zwd_up_same _ _ _ _ (by omega)]
    · rw [zwd_up_ne _ _ _ _ _ (by omega) (fun z => q z.symm)]
      exact zseq_wd a n i (by omega) (by omega)
noncomputable def zrow {d : Nat} (ki m : Nat) (n : Nat) : zH d → (zH d → Bool) → Bool := Nat.rec (motive := fun _ => zH d → (zH d → Bool) → Bool) (fun h k => k h) (fun _ r h k => zmk h m (ki, m, 0) (fun _ h => r h k)) n
theorem zrow_t {d : Nat} {cA : Nat → ClassId} {ki m : Nat} {e : va_E} (he : ∀ ad, zCell cA ad (ki, m, 0) e) : ∀ (n : Nat) (h : zH d) (ws : va_W) (qs : List Nat) {k : zH d → Bool}, qs.length = n → zHp cA h ws → zrow ki m n h k = true → n ≤ h.2.2.1 ∧ n * m ≤ h.2.2.2 ∧ ∃ h' : zH d, k h' = true ∧ zHp cA h' (ws ++ qs.map (fun a => (a, e))) ∧ h'.2.2.1 = h.2.2.1 - n ∧ h'.2.2.2 = h.2.2.2 - n * m
  | 0, h, ws, [], k, _, hH, hk => ⟨Nat.zero_le _, by omega, h, hk, by simpa using hH, rfl, by simp⟩
  | n + 1, h, ws, q :: qs, k, hl, hH, hk => by
    obtain ⟨h1, h2, h3, hk⟩ := zmk_t hk
    have hH2 := zHp_push (q := q) (e := e) (c := (ki, m, 0)) (b := (h.2.2.1 - 1, h.2.2.2 - m)) hH h3 (he _)
    obtain ⟨g1, g2, h', g3, g4, g5, g6⟩ := zrow_t he n _ (ws ++ [(q, e)]) qs (by simpa using hl) hH2 hk
    have g1 : n ≤ h.2.2.1 - 1 := g1
    have g2 : n * m ≤ h.2.2.2 - m := g2
    have g5 : h'.2.2.1 = h.2.2.1 - 1 - n := g5
    have g6 : h'.2.2.2 = h.2.2.2 - m - n * m := g6
    refine ⟨by omega, by rw [Nat.succ_mul]; omega, h', g3, ?_, by omega, by rw [Nat.succ_mul]; omega⟩
    rw [List.map_cons, List.append_cons]
    exact g4
section OPS
variable {d : Nat} {X : zM} {fr : Nat} {P : zP d} {pc : Nat} {k : zK d}
noncomputable def xmna (kc ki : Nat) (k : zK d) : zK d := fun L S h => zpI S (fun m S => zpI S (fun n S => cond (Nat.ble n 1000) (cond (Nat.ble m 1000) (zF (fun x => zmk h n (kc, n, x) (fun r h => zrow ki m n h (fun h => k L (zR r :: S) h))) (zseq (Nat.add h.2.1 2) n)) false) false))
end OPS
