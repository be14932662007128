/-! from the law's entry to its end -/
set_option maxRecDepth 100000 in
set_option maxHeartbeats 8000000 in
theorem whole_start {p : Program} {e : Env} {s : State} {m : MethodId} {below : List Frame} {meth : Method} {c : Code} (l : Launch) (hflags : l.flags = flags0) {b L : Nat} {xs : Nat → Int32} (hL : L ≤ 3072) (C0 : lw_At p s m meth c b L xs) : W p l e room_1 s m #[Value.ref b] below meth c s.heap [] 0 0 (lw_Z below #[Value.ref b] s) (entryFrame m ([Value.ref b] : List Value).toArray 4) := by
  obtain ⟨G, hG⟩ : ∃ G : zGh, @zg G 0 = 0 := ⟨⟨(fun _ => 0 : Nat → Nat)⟩, rfl⟩
  obtain ⟨cA, D, Cx⟩ := lw_ctx hG C0
  obtain ⟨hx, hb, hr, hml, hown, hts, hX, hbl, hlk, hgv⟩ := C0
  refine W_room (R := zRm 1000 600000 7302250) (Nat.le_of_ble_eq_true rfl) (Nat.le_of_ble_eq_true rfl) (Nat.le_of_ble_eq_true rfl) (Nat.le_of_ble_eq_true rfl) ?_
  have hl := lv_entry [Value.ref b] (n := 4) (Nat.le_of_ble_eq_true rfl)
  rw [lg_entry_eq]
  generalize (lg_sl [Value.ref b] ++ List.replicate (4 - (lg_sl [Value.ref b]).length) Slot.unset).toArray = ls at hl ⊢
  have hl : lv_has ls 4 [(0, .ref b)] := hl
  obtain ⟨Ch, -⟩ : ∃ Ch : zCh, True := ⟨⟨((fun _ _ => 0, 0) : (Nat → Nat → Int32) × Nat)⟩, trivial⟩
  refine pt_new (X := X_lw meth.name) (pc := 0) (ci := 8) (C := RX8) (T := TX8) (N := 8) (ty0 := tyX8) (h := hS_lw) (ws := []) (kr := krA) rfl (fun _ _ => rfl) lw_all8 inz8 tyX8_ok rfl wd_15 wd_16 wd_1 (by rw [X_lw_c]; exact dl_0) Cx ev_make2 (lw_e0 Ch) (fun k q h => by simp at h) ⟨fun i j p q h => by simp at h, fun k q h => by simp at h⟩ va_S.rf (by rw [hS_c]; exact Nat.le_of_ble_eq_true rfl) (by rw [hS_s]; exact Nat.le_of_ble_eq_true rfl) (fun ax fs1 H1 hk1 hHp1 hax1 hwx1 hP1 hD1 hS1 _ _ _ => ?_)
  generalize zset 10 hS_lw.1 hS_lw.2.1 (16 + 8, 8, 0) = T1 at hk1 hHp1
  rw [hS_n, hS_c, hS_s] at hk1 hHp1
  rw [hS_n] at hax1 hwx1
  refine lv_dup (pc := 3) hx hb dl_3 rfl ?_
  refine pt_call (X := X_lw meth.name) (pc := 4) (h := (T1, (0 + 1, (10000 - 1, 1000000 - 8)))) (kr := krB) (av := [.ref ax]) (st := [.ref ax]) mg_X8_init_0 lr_x Cx (krA_t hk1) hHp1 hP1 hD1 hS1 hl.1 ⟨⟨some ax, rfl, Or.inr ⟨0, ax, rfl, hax1, rfl⟩⟩, trivial⟩ (Nat.le_of_ble_eq_true rfl) rfl ⟨ax, [], 0, fs1, rfl, hwx1⟩ (show 0 + 1 + (10000 - 1) ≤ 600000 from Nat.le_of_ble_eq_true rfl) (show 0 + 8 + (1000000 - 8) ≤ 7302250 from Nat.le_of_ble_eq_true rfl) (fun Ch2 r2 h2 ws2 ov2 H2 locs2 hov2 hk2 hHp2 hpre2 hP2 hD2 hS2 => ?_)
  obtain ⟨hu2, hn2, hk3⟩ := krB_t hk2
  have hn2 : h2.2.1 = 165 := hn2
  obtain ⟨T2, n2, w2⟩ := h2
  have hn2 : n2 = 165 := hn2
  subst hn2
  have e2 : ov2 = none := by
    rcases hov2 with ⟨z, -⟩ | ⟨x, -, z⟩
    · exact z
    · rw [hu2] at z
      exact absurd (z G) (fun q => @zRep_U G _ _ q)
  subst e2
  have hax2 := zPre_at hpre2 hax1
  clear hk1 hk2 hHp1
  refine lv_astore_n (pc := 7) hx hb dl_7 rfl hl (by decide) rfl (fun ls1 hl1 => ?_)
  refine pt_new (X := X_lw meth.name) (pc := 8) (ci := 9) (C := RX9) (T := TX9) (N := 63) (ty0 := tyX9) (h := (T2, (165, (10000 - 1 - 1100, 1000000 - 8 - 82000)))) (kr := krC) rfl (fun _ _ => rfl) lw_all9 inz9 tyX9_ok rfl wd_902 wd_903 wd_14 (by rw [X_lw_c]; exact dl_8) Cx hk3 hHp2 hP2 hD2 hS2 (show 0 + 1 + 1100 + (10000 - 1 - 1100) ≤ 600000 from Nat.le_of_ble_eq_true rfl) (show 0 + 8 + 82000 + (1000000 - 8 - 82000) ≤ 7302250 from Nat.le_of_ble_eq_true rfl) (fun am fs3 H3 hk4 hHp3 ham3 hwm3 hP3 hD3 hS3 hpre3 _ _ => ?_)
  have hax3 := zPre_at hpre3 hax2
  generalize zset 10 (T2, (165, (10000 - 1 - 1100, 1000000 - 8 - 82000))).1 (T2, (165, (10000 - 1 - 1100, 1000000 - 8 - 82000))).2.1 (16 + 9, 63, 0) = T3 at hk4 hHp3
  refine lv_dup (pc := 11) hx hb dl_11 rfl ?_
  refine pt_call (X := X_lw meth.name) (pc := 12) (h := (T3, (165 + 1, (10000 - 1 - 1100 - 1, 1000000 - 8 - 82000 - 63)))) (kr := krD) (av := [.ref am]) (st := [.ref am]) mg_X9_init_0 lr_m Cx (krC_t hk4) hHp3 hP3 hD3 hS3 hl1.1 ⟨⟨some am, rfl, Or.inr ⟨165, am, rfl, ham3, rfl⟩⟩, trivial⟩ (Nat.le_of_ble_eq_true rfl) rfl ⟨am, [], 165, fs3, rfl, hwm3⟩ (show 0 + 1 + 1100 + 1 + (10000 - 1 - 1100 - 1) ≤ 600000 from Nat.le_of_ble_eq_true rfl) (show 0 + 8 + 82000 + 63 + (1000000 - 8 - 82000 - 63) ≤ 7302250 from Nat.le_of_ble_eq_true rfl) (fun Ch5 r5 h5 ws5 ov5 H5 locs5 hov5 hk5 hHp5 hpre5 hP5 hD5 hS5 => ?_)
  obtain ⟨hu5, hk6⟩ := krD_t hk5
  have e5 : ov5 = none := by
    rcases hov5 with ⟨z, -⟩ | ⟨x, -, z⟩
    · exact z
    · rw [hu5] at z
      exact absurd (z G) (fun q => @zRep_U G _ _ q)
  subst e5
  have hB := zsubH_ok hk6 hHp5
  have hax5 := zPre_at hpre5 hax3
  have ham5 : (zad cA ws5).1[165]? = some am := zPre_at hpre5 ham3
  clear hk3 hk4 hk5 hk6 hHp2 hHp3 hHp5
  refine lv_astore_n (pc := 15) hx hb dl_15 rfl hl1 (by decide) rfl (fun ls2 hl2 => ?_)
  refine lv_iconst (pc := 16) (v := 0) hx hb dl_16 rfl ?_
  refine lv_istore_n (pc := 17) hx hb dl_17 rfl hl2 (by decide) rfl (fun ls3 hl3 => ?_)
  have hl3 : lv_has ls3 4 [(3, .int 0), (2, .ref am), (1, .ref ax), (0, .ref b)] := hl3
  obtain ⟨own, w0, wR, I0⟩ := q_begin hB hP5 hD5 hax5 ham5
  have hm := qMis_le w0
  exact lw_loop Cx hX hbl hL hr hlk 512 0 (by omega) (by omega) (by decide) I0 hS5 hl3 (Nat.le_trans (Nat.add_le_add_left (Nat.mul_le_mul_left 1000 hm) _) (Nat.le_of_ble_eq_true rfl)) (Nat.le_trans (Nat.add_le_add_left (Nat.mul_le_mul_left 80000 hm) _) (Nat.le_of_ble_eq_true rfl))
