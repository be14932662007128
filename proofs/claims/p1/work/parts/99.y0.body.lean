/-! from the law's entry to its end -/
set_option maxRecDepth 100000 in
set_option maxHeartbeats 8000000 in
theorem lw_body {p : Program} {l : Launch} {e : Env} {s : State} {m : MethodId} {below : List Frame} {meth : Method} {c : Code} {b L : Nat} {xs : Nat → Int32} {cA : Nat → ClassId} {D : va_G} {Ch : zCh} {ls3 : Array Slot} {H5 : Heap} {locs5 : List Loc} {ws5 : va_W} {ax am cells slots : Nat}
  (hL : L ≤ 6) (Cx : zCx (X_lw meth.name) cA D p s m #[Value.ref b] meth c (fun q => s.heap.size ≤ q)) (hx : p.tables.exec = Jvm.exec) (hb : c.code = code) (hr : meth.sig.returnType = ret) (hlk : meth.locks = false) (hX : va_X b L xs s s.heap) (hbl : b < s.heap.size) (hB : @zHp Ch 10 cA hB_lw ws5) (hP5 : va_P D zcl ws5 H5) (hD5 : va_D (fun q => s.heap.size ≤ q) ws5) (hS5 : va_S (fun q => s.heap.size ≤ q) s.heap H5 locs5)
  (hl3 : lv_has ls3 4 [(3, .int 0), (2, .ref am), (1, .ref ax), (0, .ref b)]) (hax5 : (zad cA ws5).1[0]? = some ax) (ham5 : (zad cA ws5).1[165]? = some am) (hcb : cells + 2000 ≤ 600000) (hsb : slots + 200000 ≤ 7302250) :
  W p l e (zRm 1000 600000 7302250) s m #[Value.ref b] below meth c H5 locs5 cells slots (lw_Z below #[Value.ref b] s) (F0 m 18 ls3 []) := by
  have hc0 : cells ≤ 600000 := Nat.le_trans (Nat.le_add_right _ _) hcb
  have hs0 : slots ≤ 7302250 := Nat.le_trans (Nat.le_add_right _ _) hsb
  have done : ∀ (H1 : Heap) (locs1 : List Loc) (cells1 slots1 : Nat) (lsx : Array Slot), va_S (fun q => s.heap.size ≤ q) s.heap H1 locs1 → cells1 ≤ 600000 → slots1 ≤ 7302250 → W p l e (zRm 1000 600000 7302250) s m #[Value.ref b] below meth c H1 locs1 cells1 slots1 (lw_Z below #[Value.ref b] s) (F0 m 995 lsx []) := by
    intro H1 locs1 cells1 slots1 lsx hSx hc1 hs1
    refine lv_iconst (pc := 995) (v := 1) hx hb dl_995 rfl ?_
    refine va_forget (fun q hq => hSx.2.2 q hq) ?_
    refine W.widen hc1 hs1 ?_
    exact lw_retR (pc := 996) hx hb hr hlk dl_996
  refine lv_iload_n (pc := 18) hx hb dl_18 rfl (lv_at hl3 0 rfl) ?_
  refine lv_aload_n (pc := 19) hx hb dl_19 rfl (lv_at hl3 3 rfl) ?_
  refine va_slen (pc := 20) hx hb hX hbl (Nat.not_le.mpr hbl) hS5 dl_20 ?_
  refine lv_bipush (pc := 21) (v := 6) hx hb dl_21 rfl ?_
  refine lv_isub (pc := 23) hx hb dl_23 ?_
  refine lv_icmp_gt (pc := 24) (tgt := 995) hx hb dl_24 (by decide) (fun _ => done _ _ _ _ _ hS5 hc0 hs0) (fun hgt => ?_)
  have hL6 : L = 6 := by
    have hc : L = 0 ∨ L = 1 ∨ L = 2 ∨ L = 3 ∨ L = 4 ∨ L = 5 ∨ L = 6 := by omega
    rcases hc with rfl | rfl | rfl | rfl | rfl | rfl | rfl
    · exact absurd (by decide) hgt
    · exact absurd (by decide) hgt
    · exact absurd (by decide) hgt
    · exact absurd (by decide) hgt
    · exact absurd (by decide) hgt
    · exact absurd (by decide) hgt
    · rfl
  subst hL6
  have fin : ∀ (H1 : Heap) (locs1 : List Loc) (cells1 slots1 : Nat), va_S (fun q => s.heap.size ≤ q) s.heap H1 locs1 → cells1 ≤ 600000 → slots1 ≤ 7302250 → W p l e (zRm 1000 600000 7302250) s m #[Value.ref b] below meth c H1 locs1 cells1 slots1 (lw_Z below #[Value.ref b] s) (F0 m 989 ls3 []) := by
    intro H1 locs1 cells1 slots1 hSx hc1 hs1
    refine lv_iinc (pc := 989) (k := 0) (v := 6) hx hb dl_989 hl3 rfl (by decide) (by decide) rfl (fun ls4 hl4 => ?_)
    refine lv_goto (pc := 992) (tgt := 18) hx hb dl_992 (by decide) ?_
    refine lv_iload_n (pc := 18) (x := 6) hx hb dl_18 rfl (lv_at hl4 0 rfl) ?_
    refine lv_aload_n (pc := 19) (x := b) hx hb dl_19 rfl (lv_at hl4 3 rfl) ?_
    refine va_slen (pc := 20) hx hb hX hbl (Nat.not_le.mpr hbl) hSx dl_20 ?_
    refine lv_bipush (pc := 21) (v := 6) hx hb dl_21 rfl ?_
    refine lv_isub (pc := 23) hx hb dl_23 ?_
    exact lv_icmp_gt (pc := 24) (tgt := 995) hx hb dl_24 (by decide) (fun _ => done _ _ _ _ _ hSx hc1 hs1) (fun h => absurd (by decide) h)
  refine lv_aload_n (pc := 27) hx hb dl_27 rfl (lv_at hl3 3 rfl) ?_
  refine lv_iload_n (pc := 28) hx hb dl_28 rfl (lv_at hl3 0 rfl) ?_
  refine va_sld (pc := 29) hx hb hX hbl (Nat.not_le.mpr hbl) hS5 (i := 0) (by unfold vp_in; decide) dl_29 ?_
  refine lv_bipush (pc := 30) (v := 31) hx hb dl_30 rfl ?_
  refine lv_iand (pc := 32) hx hb dl_32 ?_
  generalize (xs (Int32.toNatClampNeg 0) &&& 31) = y
  by_cases hy : y.toInt < 0 ∨ 23 < y.toInt
  · exact lv_tableOut (pc := 33) (tgt := 989) hx hb dl_33 hy (by decide) (fin _ _ _ _ hS5 hc0 hs0)
  · have h1 : ¬ y.toInt < 0 := fun z => hy (Or.inl z)
    have h2 : ¬ (23 : Int) < y.toInt := fun z => hy (Or.inr z)
    obtain ⟨n, hn⟩ : ∃ n : Nat, y.toInt = (n : Int) := ⟨y.toInt.toNat, by omega⟩
    have hn24 : n < 24 := by omega
    have hc : n = 0 ∨ n = 1 ∨ n = 2 ∨ n = 3 ∨ n = 4 ∨ n = 5 ∨ n = 6 ∨ n = 7 ∨ n = 8 ∨ n = 9 ∨ n = 10 ∨ n = 11 ∨ n = 12 ∨ n = 13 ∨ n = 14 ∨ n = 15 ∨ n = 16 ∨ n = 17 ∨ n = 18 ∨ n = 19 ∨ n = 20 ∨ n = 21 ∨ n = 22 ∨ n = 23 := by omega
    rcases hc with rfl | rfl | rfl | rfl | rfl | rfl | rfl | rfl | rfl | rfl | rfl | rfl | rfl | rfl | rfl | rfl | rfl | rfl | rfl | rfl | rfl | rfl | rfl | rfl
    · refine lv_tableIn (pc := 33) (off := 111) (tgt := 144) hx hb dl_33 h1 h2 (by rw [hn]; rfl) (by decide) ?_
      exact lw_c_group Cx hX hbl hB hP5 hD5 hS5 hl3 hax5 ham5 hcb hsb fin
    · refine lv_tableIn (pc := 33) (off := 144) (tgt := 177) hx hb dl_33 h1 h2 (by rw [hn]; rfl) (by decide) ?_
      exact lw_c_feed Cx hX hbl hB hP5 hD5 hS5 hl3 hax5 ham5 hcb hsb fin
    · refine lv_tableIn (pc := 33) (off := 207) (tgt := 240) hx hb dl_33 h1 h2 (by rw [hn]; rfl) (by decide) ?_
      exact lw_c_end Cx hX hbl hB hP5 hD5 hS5 hl3 hax5 ham5 hcb hsb fin
    · refine lv_tableIn (pc := 33) (off := 230) (tgt := 263) hx hb dl_33 h1 h2 (by rw [hn]; rfl) (by decide) ?_
      exact lw_c_text Cx hX hbl hB hP5 hD5 hS5 hl3 hax5 ham5 hcb hsb fin
    · refine lv_tableIn (pc := 33) (off := 253) (tgt := 286) hx hb dl_33 h1 h2 (by rw [hn]; rfl) (by decide) ?_
      exact lw_c_fault Cx hX hbl hB hP5 hD5 hS5 hl3 hax5 ham5 hcb hsb fin
    · refine lv_tableIn (pc := 33) (off := 276) (tgt := 309) hx hb dl_33 h1 h2 (by rw [hn]; rfl) (by decide) ?_
      exact lw_c_partition Cx hX hbl hB hP5 hD5 hS5 hl3 hax5 ham5 hcb hsb fin
    · refine lv_tableIn (pc := 33) (off := 309) (tgt := 342) hx hb dl_33 h1 h2 (by rw [hn]; rfl) (by decide) ?_
      exact lw_c_of Cx hX hbl hB hP5 hD5 hS5 hl3 hax5 ham5 hcb hsb fin
    · refine lv_tableIn (pc := 33) (off := 342) (tgt := 375) hx hb dl_33 h1 h2 (by rw [hn]; rfl) (by decide) ?_
      exact lw_c_core Cx hX hbl hB hP5 hD5 hS5 hl3 hax5 ham5 hcb hsb fin
    · refine lv_tableIn (pc := 33) (off := 375) (tgt := 408) hx hb dl_33 h1 h2 (by rw [hn]; rfl) (by decide) ?_
      exact lw_c_hook Cx hX hbl hB hP5 hD5 hS5 hl3 hax5 ham5 hcb hsb fin
    · refine lv_tableIn (pc := 33) (off := 418) (tgt := 451) hx hb dl_33 h1 h2 (by rw [hn]; rfl) (by decide) ?_
      exact lw_c_classOf Cx hX hbl hB hP5 hD5 hS5 hl3 hax5 ham5 hcb hsb fin
    · refine lv_tableIn (pc := 33) (off := 451) (tgt := 484) hx hb dl_33 h1 h2 (by rw [hn]; rfl) (by decide) ?_
      exact lw_c_character Cx hX hbl hB hP5 hD5 hS5 hl3 hax5 ham5 hcb hsb fin
    · refine lv_tableIn (pc := 33) (off := 484) (tgt := 517) hx hb dl_33 h1 h2 (by rw [hn]; rfl) (by decide) ?_
      exact lw_c_modular Cx hX hbl hB hP5 hD5 hS5 hl3 hax5 ham5 hcb hsb fin
    · refine lv_tableIn (pc := 33) (off := 517) (tgt := 550) hx hb dl_33 h1 h2 (by rw [hn]; rfl) (by decide) ?_
      exact lw_c_projective Cx hX hbl hB hP5 hD5 hS5 hl3 hax5 ham5 hcb hsb fin
    · refine lv_tableIn (pc := 33) (off := 550) (tgt := 583) hx hb dl_33 h1 h2 (by rw [hn]; rfl) (by decide) ?_
      exact lw_c_decomposition Cx hX hbl hB hP5 hD5 hS5 hl3 hax5 ham5 hcb hsb fin
    · refine lv_tableIn (pc := 33) (off := 583) (tgt := 616) hx hb dl_33 h1 h2 (by rw [hn]; rfl) (by decide) ?_
      exact lw_c_cartan Cx hX hbl hB hP5 hD5 hS5 hl3 hax5 ham5 hcb hsb fin
    · refine lv_tableIn (pc := 33) (off := 616) (tgt := 649) hx hb dl_33 h1 h2 (by rw [hn]; rfl) (by decide) ?_
      exact lw_c_tableau Cx hX hbl hB hP5 hD5 hS5 hl3 hax5 ham5 hcb hsb fin
    · refine lv_tableIn (pc := 33) (off := 669) (tgt := 702) hx hb dl_33 h1 h2 (by rw [hn]; rfl) (by decide) ?_
      exact lw_c_gram Cx hX hbl hB hP5 hD5 hS5 hl3 hax5 ham5 hcb hsb fin
    · refine lv_tableIn (pc := 33) (off := 712) (tgt := 745) hx hb dl_33 h1 h2 (by rw [hn]; rfl) (by decide) ?_
      exact lw_c_block Cx hX hbl hB hP5 hD5 hS5 hl3 hax5 ham5 hcb hsb fin
    · refine lv_tableIn (pc := 33) (off := 745) (tgt := 778) hx hb dl_33 h1 h2 (by rw [hn]; rfl) (by decide) ?_
      exact lw_c_value Cx hX hbl hB hP5 hD5 hS5 hl3 hax5 ham5 hcb hsb fin
    · refine lv_tableIn (pc := 33) (off := 779) (tgt := 812) hx hb dl_33 h1 h2 (by rw [hn]; rfl) (by decide) ?_
      exact lw_c_parts Cx hX hbl hB hP5 hD5 hS5 hl3 hax5 ham5 hcb hsb fin
    · refine lv_tableIn (pc := 33) (off := 823) (tgt := 856) hx hb dl_33 h1 h2 (by rw [hn]; rfl) (by decide) ?_
      exact lw_c_inner Cx hX hbl hB hP5 hD5 hS5 hl3 hax5 ham5 hcb hsb fin
    · refine lv_tableIn (pc := 33) (off := 857) (tgt := 890) hx hb dl_33 h1 h2 (by rw [hn]; rfl) (by decide) ?_
      exact lw_c_kind Cx hX hbl hB hP5 hD5 hS5 hl3 hax5 ham5 hcb hsb fin
    · refine lv_tableIn (pc := 33) (off := 890) (tgt := 923) hx hb dl_33 h1 h2 (by rw [hn]; rfl) (by decide) ?_
      exact lw_c_cut Cx hX hbl hB hP5 hD5 hS5 hl3 hax5 ham5 hcb hsb fin
    · refine lv_tableIn (pc := 33) (off := 933) (tgt := 966) hx hb dl_33 h1 h2 (by rw [hn]; rfl) (by decide) ?_
      exact lw_c_look Cx hX hbl hB hP5 hD5 hS5 hl3 hax5 ham5 hcb hsb fin
