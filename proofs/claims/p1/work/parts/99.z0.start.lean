/-! from the law's entry to its end -/
set_option maxRecDepth 100000 in
set_option maxHeartbeats 8000000 in
theorem whole_start {p : Program} {e : Env} {s : State} {m : MethodId} {below : List Frame} {meth : Method} {c : Code} (l : Launch) (hflags : l.flags = flags0) {b L : Nat} {xs : Nat → Int32} (hL : L ≤ 6) (C0 : lw_At p s m meth c b L xs) : W p l e room_1 s m #[Value.ref b] below meth c s.heap [] 0 0 (lw_Z below #[Value.ref b] s) (entryFrame m ([Value.ref b] : List Value).toArray 4) := by
  obtain ⟨cA, D, Cx⟩ := lw_ctx C0
  obtain ⟨hx, hb, hr, hml, hown, hts, hX, hbl, hlk, hgv⟩ := C0
  have G : zGh := ⟨(fun _ => 0 : Nat → Nat)⟩
  refine W_room (R := zRm 1000 600000 7302250) (by decide) (by decide) (by decide) (by decide) ?_
  have hl := lv_entry [Value.ref b] (n := 4) (by decide)
  rw [lg_entry_eq]
  generalize (lg_sl [Value.ref b] ++ List.replicate (4 - (lg_sl [Value.ref b]).length) Slot.unset).toArray = ls at hl ⊢
  have hl : lv_has ls 4 [(0, .ref b)] := hl
  obtain ⟨Ch, -⟩ : ∃ Ch : zCh, True := ⟨⟨((fun _ _ => 0, 0) : (Nat → Nat → Int32) × Nat)⟩, trivial⟩
  have hHp0 : @zHp Ch 10 cA hS_lw [] := ⟨rfl, by decide, fun i q h => by simp at h⟩
  refine pt_new (X := X_lw meth.name) (pc := 0) (ci := 8) (C := RX8) (T := TX8) (N := 8) (ty0 := tyX8) (h := hS_lw) (ws := []) rfl (by decide) (by decide) inz8 tyX8_ok rfl wd_15 wd_16 wd_1 (by rw [X_lw_c]; exact dl_0) Cx ev_make hHp0 (fun k q h => by simp at h) ⟨fun i j p q h => by simp at h, fun k q h => by simp at h⟩ va_S.rf (Nat.le_of_ble_eq_true rfl) (Nat.le_of_ble_eq_true rfl) (fun ax fs1 H1 hk1 hHp1 hax1 hwx1 hP1 hD1 hS1 _ _ _ => ?_)
  refine lv_dup (pc := 3) hx hb dl_3 rfl ?_
  refine pt_call (X := X_lw meth.name) (pc := 4) (av := [.ref ax]) (st := [.ref ax]) mg_X8_init_0 lr_x Cx hk1 hHp1 hP1 hD1 hS1 hl.1 ⟨⟨some ax, rfl, Or.inr ⟨0, ax, rfl, hax1, rfl⟩⟩, trivial⟩ (by decide) rfl ⟨ax, [], 0, fs1, rfl, hwx1⟩ (Nat.le_of_ble_eq_true rfl) (Nat.le_of_ble_eq_true rfl) (fun Ch2 r2 h2 ws2 ov2 H2 locs2 hov2 hk2 hHp2 hpre2 hP2 hD2 hS2 => ?_)
  obtain ⟨hu2, hk2⟩ := zcnd_t hk2
  obtain ⟨hn2, hk3⟩ := zcnd_t hk2
  have hn2 : h2.2.1 = 165 := Nat.eq_of_beq_eq_true hn2
  have e2 : ov2 = none := by
    rcases hov2 with ⟨z, -⟩ | ⟨x, -, z⟩
    · exact z
    · rw [zisU_t hu2] at z
      exact absurd (z G) (fun q => @zRep_U G _ _ q)
  subst e2
  have hax2 := zPre_at hpre2 hax1
  refine lv_astore_n (pc := 7) hx hb dl_7 rfl hl (by decide) rfl (fun ls1 hl1 => ?_)
  refine pt_new (X := X_lw meth.name) (pc := 8) (ci := 9) (C := RX9) (T := TX9) (N := 63) (ty0 := tyX9) rfl (by decide) (by decide) inz9 tyX9_ok rfl wd_902 wd_903 wd_14 (by rw [X_lw_c]; exact dl_8) Cx hk3 hHp2 hP2 hD2 hS2 (Nat.le_of_ble_eq_true rfl) (Nat.le_of_ble_eq_true rfl) (fun am fs3 H3 hk4 hHp3 ham3 hwm3 hP3 hD3 hS3 hpre3 _ _ => ?_)
  have hax3 := zPre_at hpre3 hax2
  refine lv_dup (pc := 11) hx hb dl_11 rfl ?_
  refine pt_call (X := X_lw meth.name) (pc := 12) (av := [.ref am]) (st := [.ref am]) mg_X9_init_0 lr_m Cx hk4 hHp3 hP3 hD3 hS3 hl1.1 ⟨⟨some am, rfl, Or.inr ⟨h2.2.1, am, rfl, ham3, rfl⟩⟩, trivial⟩ (by decide) rfl ⟨am, [], h2.2.1, fs3, rfl, hwm3⟩ (Nat.le_of_ble_eq_true rfl) (Nat.le_of_ble_eq_true rfl) (fun Ch5 r5 h5 ws5 ov5 H5 locs5 hov5 hk5 hHp5 hpre5 hP5 hD5 hS5 => ?_)
  obtain ⟨hu5, hk6⟩ := zcnd_t hk5
  have e5 : ov5 = none := by
    rcases hov5 with ⟨z, -⟩ | ⟨x, -, z⟩
    · exact z
    · rw [zisU_t hu5] at z
      exact absurd (z G) (fun q => @zRep_U G _ _ q)
  subst e5
  have hB := zsubH_ok hk6 hHp5
  have hax5 := zPre_at hpre5 hax3
  have ham5 := zPre_at hpre5 ham3
  have ham5 : (zad cA ws5).1[165]? = some am := by rw [← hn2]; exact ham5
  refine lv_astore_n (pc := 15) hx hb dl_15 rfl hl1 (by decide) rfl (fun ls2 hl2 => ?_)
  refine lv_iconst (pc := 16) (v := 0) hx hb dl_16 rfl ?_
  refine lv_istore_n (pc := 17) hx hb dl_17 rfl hl2 (by decide) rfl (fun ls3 hl3 => ?_)
  have hl3 : lv_has ls3 4 [(3, .int 0), (2, .ref am), (1, .ref ax), (0, .ref b)] := hl3
  clear hk1 hk2 hk3 hk4 hk5 hk6 hHp0 hHp1 hHp2 hHp3 hHp5
  have done : ∀ (H1 : Heap) (locs1 : List Loc) (cells1 slots1 : Nat) (lsx : Array Slot), va_S (fun q => s.heap.size ≤ q) s.heap H1 locs1 → cells1 ≤ 600000 → slots1 ≤ 7302250 → W p l e (zRm 1000 600000 7302250) s m #[Value.ref b] below meth c H1 locs1 cells1 slots1 (lw_Z below #[Value.ref b] s) (F0 m 995 lsx []) := by
    intro H1 locs1 cells1 slots1 lsx hSx hc1 hs1
    refine lv_iconst (pc := 995) (v := 1) hx hb dl_995 rfl ?_
    refine va_forget (fun q hq => hSx.2.2 q hq) ?_
    refine W.widen hc1 hs1 ?_
    exact lw_retR (pc := 996) hx hb hr hlk dl_996
  refine lv_iload_n (pc := 18) hx hb dl_18 rfl (lv_at hl3 0 rfl) ?_
  refine lv_aload_n (pc := 19) hx hb dl_19 rfl (lv_at hl3 3 rfl) ?_
  refine va_slen (pc := 20) hx hb hX hbl (Nat.not_le.mpr hbl) hS5 dl_20 ?_
  refine lv_bipush (pc := 21) (v := 6) hx hb dl_21 rfl ?_
  refine lv_isub (pc := 23) hx hb dl_23 ?_
  refine lv_icmp_gt (pc := 24) (tgt := 995) hx hb dl_24 (by decide) (fun _ => done _ _ _ _ _ hS5 (Nat.le_of_ble_eq_true rfl) (Nat.le_of_ble_eq_true rfl)) (fun hgt => ?_)
  have hL6 : L = 6 := by
    have hc : L = 0 ∨ L = 1 ∨ L = 2 ∨ L = 3 ∨ L = 4 ∨ L = 5 ∨ L = 6 := by omega
    rcases hc with rfl | rfl | rfl | rfl | rfl | rfl | rfl
    · exact absurd (by decide) hgt
    · exact absurd (by decide) hgt
    · exact absurd (by decide) hgt
    · exact absurd (by decide) hgt
    · exact absurd (by decide) hgt
    · exact absurd (by decide) hgt
    · rfl
  subst hL6
  have fin : ∀ (H1 : Heap) (locs1 : List Loc) (cells1 slots1 : Nat), va_S (fun q => s.heap.size ≤ q) s.heap H1 locs1 → cells1 ≤ 600000 → slots1 ≤ 7302250 → W p l e (zRm 1000 600000 7302250) s m #[Value.ref b] below meth c H1 locs1 cells1 slots1 (lw_Z below #[Value.ref b] s) (F0 m 989 ls3 []) := by
    intro H1 locs1 cells1 slots1 hSx hc1 hs1
    refine lv_iinc (pc := 989) (k := 0) (v := 6) hx hb dl_989 hl3 rfl (by decide) (by decide) rfl (fun ls4 hl4 => ?_)
    refine lv_goto (pc := 992) (tgt := 18) hx hb dl_992 (by decide) ?_
    refine lv_iload_n (pc := 18) (x := 6) hx hb dl_18 rfl (lv_at hl4 0 rfl) ?_
    refine lv_aload_n (pc := 19) (x := b) hx hb dl_19 rfl (lv_at hl4 3 rfl) ?_
    refine va_slen (pc := 20) hx hb hX hbl (Nat.not_le.mpr hbl) hSx dl_20 ?_
    refine lv_bipush (pc := 21) (v := 6) hx hb dl_21 rfl ?_
    refine lv_isub (pc := 23) hx hb dl_23 ?_
    exact lv_icmp_gt (pc := 24) (tgt := 995) hx hb dl_24 (by decide) (fun _ => done _ _ _ _ _ hSx hc1 hs1) (fun h => absurd (by decide) h)
  refine lv_aload_n (pc := 27) hx hb dl_27 rfl (lv_at hl3 3 rfl) ?_
  refine lv_iload_n (pc := 28) hx hb dl_28 rfl (lv_at hl3 0 rfl) ?_
  refine va_sld (pc := 29) hx hb hX hbl (Nat.not_le.mpr hbl) hS5 (i := 0) (by unfold vp_in; decide) dl_29 ?_
  refine lv_bipush (pc := 30) (v := 31) hx hb dl_30 rfl ?_
  refine lv_iand (pc := 32) hx hb dl_32 ?_
  generalize (xs (Int32.toNatClampNeg 0) &&& 31) = y
  by_cases hy : y.toInt < 0 ∨ 23 < y.toInt
  · exact lv_tableOut (pc := 33) (tgt := 989) hx hb dl_33 hy (by decide) (fin _ _ _ _ hS5 (Nat.le_of_ble_eq_true rfl) (Nat.le_of_ble_eq_true rfl))
  · have h1 : ¬ y.toInt < 0 := fun z => hy (Or.inl z)
    have h2 : ¬ (23 : Int) < y.toInt := fun z => hy (Or.inr z)
    obtain ⟨n, hn⟩ : ∃ n : Nat, y.toInt = (n : Int) := ⟨y.toInt.toNat, by omega⟩
    have hn24 : n < 24 := by omega
    have hc : n = 0 ∨ n = 1 ∨ n = 2 ∨ n = 3 ∨ n = 4 ∨ n = 5 ∨ n = 6 ∨ n = 7 ∨ n = 8 ∨ n = 9 ∨ n = 10 ∨ n = 11 ∨ n = 12 ∨ n = 13 ∨ n = 14 ∨ n = 15 ∨ n = 16 ∨ n = 17 ∨ n = 18 ∨ n = 19 ∨ n = 20 ∨ n = 21 ∨ n = 22 ∨ n = 23 := by omega
    rcases hc with rfl | rfl | rfl | rfl | rfl | rfl | rfl | rfl | rfl | rfl | rfl | rfl | rfl | rfl | rfl | rfl | rfl | rfl | rfl | rfl | rfl | rfl | rfl | rfl
    · refine lv_tableIn (pc := 33) (off := 111) (tgt := 144) hx hb dl_33 h1 h2 (by rw [hn]; rfl) (by decide) ?_
      exact lw_c_group Cx hX hbl hB hP5 hD5 hS5 hl3 hax5 ham5 (Nat.le_of_ble_eq_true rfl) (Nat.le_of_ble_eq_true rfl) fin
    · refine lv_tableIn (pc := 33) (off := 144) (tgt := 177) hx hb dl_33 h1 h2 (by rw [hn]; rfl) (by decide) ?_
      exact lw_c_feed Cx hX hbl hB hP5 hD5 hS5 hl3 hax5 ham5 (Nat.le_of_ble_eq_true rfl) (Nat.le_of_ble_eq_true rfl) fin
    · refine lv_tableIn (pc := 33) (off := 207) (tgt := 240) hx hb dl_33 h1 h2 (by rw [hn]; rfl) (by decide) ?_
      exact lw_c_end Cx hX hbl hB hP5 hD5 hS5 hl3 hax5 ham5 (Nat.le_of_ble_eq_true rfl) (Nat.le_of_ble_eq_true rfl) fin
    · refine lv_tableIn (pc := 33) (off := 230) (tgt := 263) hx hb dl_33 h1 h2 (by rw [hn]; rfl) (by decide) ?_
      exact lw_c_text Cx hX hbl hB hP5 hD5 hS5 hl3 hax5 ham5 (Nat.le_of_ble_eq_true rfl) (Nat.le_of_ble_eq_true rfl) fin
    · refine lv_tableIn (pc := 33) (off := 253) (tgt := 286) hx hb dl_33 h1 h2 (by rw [hn]; rfl) (by decide) ?_
      exact lw_c_fault Cx hX hbl hB hP5 hD5 hS5 hl3 hax5 ham5 (Nat.le_of_ble_eq_true rfl) (Nat.le_of_ble_eq_true rfl) fin
    · refine lv_tableIn (pc := 33) (off := 276) (tgt := 309) hx hb dl_33 h1 h2 (by rw [hn]; rfl) (by decide) ?_
      exact lw_c_partition Cx hX hbl hB hP5 hD5 hS5 hl3 hax5 ham5 (Nat.le_of_ble_eq_true rfl) (Nat.le_of_ble_eq_true rfl) fin
    · refine lv_tableIn (pc := 33) (off := 309) (tgt := 342) hx hb dl_33 h1 h2 (by rw [hn]; rfl) (by decide) ?_
      exact lw_c_of Cx hX hbl hB hP5 hD5 hS5 hl3 hax5 ham5 (Nat.le_of_ble_eq_true rfl) (Nat.le_of_ble_eq_true rfl) fin
    · refine lv_tableIn (pc := 33) (off := 342) (tgt := 375) hx hb dl_33 h1 h2 (by rw [hn]; rfl) (by decide) ?_
      exact lw_c_core Cx hX hbl hB hP5 hD5 hS5 hl3 hax5 ham5 (Nat.le_of_ble_eq_true rfl) (Nat.le_of_ble_eq_true rfl) fin
    · refine lv_tableIn (pc := 33) (off := 375) (tgt := 408) hx hb dl_33 h1 h2 (by rw [hn]; rfl) (by decide) ?_
      exact lw_c_hook Cx hX hbl hB hP5 hD5 hS5 hl3 hax5 ham5 (Nat.le_of_ble_eq_true rfl) (Nat.le_of_ble_eq_true rfl) fin
    · refine lv_tableIn (pc := 33) (off := 418) (tgt := 451) hx hb dl_33 h1 h2 (by rw [hn]; rfl) (by decide) ?_
      exact lw_c_classOf Cx hX hbl hB hP5 hD5 hS5 hl3 hax5 ham5 (Nat.le_of_ble_eq_true rfl) (Nat.le_of_ble_eq_true rfl) fin
    · refine lv_tableIn (pc := 33) (off := 451) (tgt := 484) hx hb dl_33 h1 h2 (by rw [hn]; rfl) (by decide) ?_
      exact lw_c_character Cx hX hbl hB hP5 hD5 hS5 hl3 hax5 ham5 (Nat.le_of_ble_eq_true rfl) (Nat.le_of_ble_eq_true rfl) fin
    · refine lv_tableIn (pc := 33) (off := 484) (tgt := 517) hx hb dl_33 h1 h2 (by rw [hn]; rfl) (by decide) ?_
      exact lw_c_modular Cx hX hbl hB hP5 hD5 hS5 hl3 hax5 ham5 (Nat.le_of_ble_eq_true rfl) (Nat.le_of_ble_eq_true rfl) fin
    · refine lv_tableIn (pc := 33) (off := 517) (tgt := 550) hx hb dl_33 h1 h2 (by rw [hn]; rfl) (by decide) ?_
      exact lw_c_projective Cx hX hbl hB hP5 hD5 hS5 hl3 hax5 ham5 (Nat.le_of_ble_eq_true rfl) (Nat.le_of_ble_eq_true rfl) fin
    · refine lv_tableIn (pc := 33) (off := 550) (tgt := 583) hx hb dl_33 h1 h2 (by rw [hn]; rfl) (by decide) ?_
      exact lw_c_decomposition Cx hX hbl hB hP5 hD5 hS5 hl3 hax5 ham5 (Nat.le_of_ble_eq_true rfl) (Nat.le_of_ble_eq_true rfl) fin
    · refine lv_tableIn (pc := 33) (off := 583) (tgt := 616) hx hb dl_33 h1 h2 (by rw [hn]; rfl) (by decide) ?_
      exact lw_c_cartan Cx hX hbl hB hP5 hD5 hS5 hl3 hax5 ham5 (Nat.le_of_ble_eq_true rfl) (Nat.le_of_ble_eq_true rfl) fin
    · refine lv_tableIn (pc := 33) (off := 616) (tgt := 649) hx hb dl_33 h1 h2 (by rw [hn]; rfl) (by decide) ?_
      exact lw_c_tableau Cx hX hbl hB hP5 hD5 hS5 hl3 hax5 ham5 (Nat.le_of_ble_eq_true rfl) (Nat.le_of_ble_eq_true rfl) fin
    · refine lv_tableIn (pc := 33) (off := 669) (tgt := 702) hx hb dl_33 h1 h2 (by rw [hn]; rfl) (by decide) ?_
      exact lw_c_gram Cx hX hbl hB hP5 hD5 hS5 hl3 hax5 ham5 (Nat.le_of_ble_eq_true rfl) (Nat.le_of_ble_eq_true rfl) fin
    · refine lv_tableIn (pc := 33) (off := 712) (tgt := 745) hx hb dl_33 h1 h2 (by rw [hn]; rfl) (by decide) ?_
      exact lw_c_block Cx hX hbl hB hP5 hD5 hS5 hl3 hax5 ham5 (Nat.le_of_ble_eq_true rfl) (Nat.le_of_ble_eq_true rfl) fin
    · refine lv_tableIn (pc := 33) (off := 745) (tgt := 778) hx hb dl_33 h1 h2 (by rw [hn]; rfl) (by decide) ?_
      exact lw_c_value Cx hX hbl hB hP5 hD5 hS5 hl3 hax5 ham5 (Nat.le_of_ble_eq_true rfl) (Nat.le_of_ble_eq_true rfl) fin
    · refine lv_tableIn (pc := 33) (off := 779) (tgt := 812) hx hb dl_33 h1 h2 (by rw [hn]; rfl) (by decide) ?_
      exact lw_c_parts Cx hX hbl hB hP5 hD5 hS5 hl3 hax5 ham5 (Nat.le_of_ble_eq_true rfl) (Nat.le_of_ble_eq_true rfl) fin
    · refine lv_tableIn (pc := 33) (off := 823) (tgt := 856) hx hb dl_33 h1 h2 (by rw [hn]; rfl) (by decide) ?_
      exact lw_c_inner Cx hX hbl hB hP5 hD5 hS5 hl3 hax5 ham5 (Nat.le_of_ble_eq_true rfl) (Nat.le_of_ble_eq_true rfl) fin
    · refine lv_tableIn (pc := 33) (off := 857) (tgt := 890) hx hb dl_33 h1 h2 (by rw [hn]; rfl) (by decide) ?_
      exact lw_c_kind Cx hX hbl hB hP5 hD5 hS5 hl3 hax5 ham5 (Nat.le_of_ble_eq_true rfl) (Nat.le_of_ble_eq_true rfl) fin
    · refine lv_tableIn (pc := 33) (off := 890) (tgt := 923) hx hb dl_33 h1 h2 (by rw [hn]; rfl) (by decide) ?_
      exact lw_c_cut Cx hX hbl hB hP5 hD5 hS5 hl3 hax5 ham5 (Nat.le_of_ble_eq_true rfl) (Nat.le_of_ble_eq_true rfl) fin
    · refine lv_tableIn (pc := 33) (off := 933) (tgt := 966) hx hb dl_33 h1 h2 (by rw [hn]; rfl) (by decide) ?_
      exact lw_c_look Cx hX hbl hB hP5 hD5 hS5 hl3 hax5 ham5 (Nat.le_of_ble_eq_true rfl) (Nat.le_of_ble_eq_true rfl) fin
