/-! a weaker heap behind a making: the places' array at one stroke -/
noncomputable def zbc (k : Nat) : Nat → Bool := Nat.rec (motive := fun _ => Nat → Bool) (fun x => Nat.ble x 720) (fun k r x => cond (Nat.beq x 0) true (zF (fun a => zF (fun b => cond (r a) (r b) false) (Nat.shiftRight x (Nat.mul 40 (Nat.pow 2 k)))) (Nat.mod x (Nat.pow 2 (Nat.mul 40 (Nat.pow 2 k)))))) k
theorem zwd_low (x k j : Nat) (hj : j < 2 ^ k) : zwd 40 (x % 2 ^ (40 * 2 ^ k)) j = zwd 40 x j := by
  refine zwd_ext (zwd_lt _ _ _) (zwd_lt _ _ _) (fun t ht => ?_)
  rw [zwd_bit _ _ _ _ ht, zwd_bit _ _ _ _ ht, Nat.testBit_mod_two_pow]
  have h1 : 40 * (j + 1) ≤ 40 * 2 ^ k := Nat.mul_le_mul_left 40 hj
  have h : 40 * j + t < 40 * 2 ^ k := by omega
  simp [h]
theorem zwd_high (x k j : Nat) : zwd 40 (x >>> (40 * 2 ^ k)) j = zwd 40 x (j + 2 ^ k) := by
  refine zwd_ext (zwd_lt _ _ _) (zwd_lt _ _ _) (fun t ht => ?_)
  rw [zwd_bit _ _ _ _ ht, zwd_bit _ _ _ _ ht, Nat.testBit_shiftRight]
  have e : 40 * 2 ^ k + (40 * j + t) = 40 * (j + 2 ^ k) + t := by rw [Nat.mul_add]; omega
  rw [e]
theorem zbc_t : ∀ (k x : Nat), zbc k x = true → ∀ j, j < 2 ^ k → zwd 40 x j ≤ 720
  | 0, x, h, j, hj => by
    have h : x ≤ 720 := Nat.le_of_ble_eq_true h
    have e : j = 0 := by have : (2 : Nat) ^ 0 = 1 := rfl; omega
    subst e
    show (x >>> (40 * 0)) % 2 ^ 40 ≤ 720
    rw [Nat.mul_zero, Nat.shiftRight_zero]
    exact Nat.le_trans (Nat.mod_le _ _) h
  | k + 1, x, h, j, hj => by
    have h : cond (Nat.beq x 0) true (zF (fun a => zF (fun b => cond (zbc k a) (zbc k b) false) (Nat.shiftRight x (Nat.mul 40 (Nat.pow 2 k)))) (Nat.mod x (Nat.pow 2 (Nat.mul 40 (Nat.pow 2 k))))) = true := h
    cases hx : Nat.beq x 0
    · rw [hx, cond_false, zF_eq, zF_eq] at h
      obtain ⟨h1, h2⟩ := zcnd_t h
      by_cases q : j < 2 ^ k
      · have := zbc_t k _ h1 j q
        rw [← zwd_low x k j q]
        exact this
      · have := zbc_t k _ h2 (j - 2 ^ k) (by rw [Nat.pow_succ] at hj; omega)
        have e := zwd_high x k (j - 2 ^ k)
        rw [show j - 2 ^ k + 2 ^ k = j by omega] at e
        rw [← e]
        exact this
    · have e := Nat.eq_of_beq_eq_true hx
      rw [e, zwd_zero]
      exact Nat.zero_le _
section WK
variable {d : Nat}
noncomputable def zwkH (b : Nat) (h hW : zH d) : Bool := Prod.rec (motive := fun _ => Bool) (fun kd v => Prod.rec (motive := fun _ => Bool) (fun len x => cond (Nat.beq kd 0) (cond (Nat.ble len 65536) (cond (Nat.ble (Nat.succ b) h.2.1) (cond (zbc 16 x) (zF (fun y => zsetK d h.1 b (0, len, y) (fun T => zsubH (T, h.2) hW)) (zun 40 len 4294968017)) false) false) false) false) v) (zget d h.1 b)
theorem zwkH_ok {C : zCh} {cA : Nat → ClassId} {b : Nat} {h hW : zH d} {ws : va_W} (hk : zwkH b h hW = true) (hH : @zHp C d cA h ws) : @zHp C d cA hW ws := by
  unfold zwkH at hk
  generalize hg : zget d h.1 b = c at hk
  obtain ⟨kd, len, x⟩ := c
  have hk : cond (Nat.beq kd 0) (cond (Nat.ble len 65536) (cond (Nat.ble (Nat.succ b) h.2.1) (cond (zbc 16 x) (zF (fun y => zsetK d h.1 b (0, len, y) (fun T => zsubH (T, h.2) hW)) (zun 40 len 4294968017)) false) false) false) false = true := hk
  obtain ⟨h1, hk⟩ := zcnd_t hk
  obtain ⟨h2, hk⟩ := zcnd_t hk
  obtain ⟨h3, hk⟩ := zcnd_t hk
  obtain ⟨h4, hk5⟩ := zcnd_t hk
  clear hk
  rw [zF_eq, zsetK_eq] at hk5
  have e1 := Nat.eq_of_beq_eq_true h1
  subst e1
  have e2 := Nat.le_of_ble_eq_true h2
  have e3 : b < h.2.1 := Nat.le_of_ble_eq_true h3
  have hbw : b < ws.length := by rw [hH.1]; exact e3
  have hq := List.getElem?_eq_getElem hbw
  have hc := hH.2.2 b _ hq
  rw [hg] at hc
  obtain ⟨hl, f, hf1, hf2⟩ := @zCell_i C cA _ 0 len x _ hc (by decide)
  refine zsubH_ok hk5 (zHp_cell hH hq ?_)
  rw [hf1]
  refine @zCell_ik C cA _ 0 len _ f (by decide) hl (fun j hj => ?_)
  rw [zun_wd 40 len 4294968017 j (by decide) (by decide) hj]
  have hw := hf2 j hj
  have hz := zbc_t 16 x h4 j (Nat.lt_of_lt_of_le hj e2)
  have hv := hw.1 (by omega)
  exact ⟨fun q => absurd q (by decide), fun _ _ => by rw [hv]; omega⟩
theorem zMet_wk {X : zM} {y : MethodName} {fr : Nat} {f : List zV → zH d → zP d → Bool} (b : Nat) (hW : zH d) (hM : zMet X y fr f) : zMet X y fr (fun as h P => f as h (fun r h' => cond (zwkH b h' hW) (P r hW) false)) :=
  zMet_ex hM (fun C cA ws as h P hg hH => ⟨C, h, _, rfl, hH, hg, fun C2 ws2 r h2 hp hH2 => by
    obtain ⟨g1, g2⟩ := zcnd_t hp
    exact ⟨C2, r, hW, g2, zwkH_ok g1 hH2, fun q => q, fun x hx => hx⟩⟩)
end WK
