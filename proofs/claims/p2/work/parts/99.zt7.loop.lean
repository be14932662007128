/-! the loop, by program -/
set_option maxRecDepth 100000 in
set_option maxHeartbeats 8000000 in
theorem lw_turn [G : zGh] {p : Program} {l : Launch} {e : Env} {s : State} {m : MethodId} {below : List Frame} {meth : Method} {c : Code} {b L i0 : Nat} {xs : Nat → Int32} {cA : Nat → ClassId} {D : va_G} {Q : State → Prop} {ls : Array Slot} {H : Heap} {locs : List Loc} {own : Nat → Nat} {ax am g cells slots : Nat} {w0 wR : va_W}
  (Cx : zCx (X_lw meth.name) cA D p s m #[Value.ref b] meth c (fun q => s.heap.size ≤ q)) (hX : va_X b L xs s s.heap) (hbl : b < s.heap.size) (hL : i0 + 6 ≤ L) (hLm : L ≤ 3072) (hg : g < 24) (I0 : qI cA D (fun q => s.heap.size ≤ q) H own ax am g w0 wR) (hS : va_S (fun q => s.heap.size ≤ q) s.heap H locs)
  (hl : lv_has ls 4 [(3, .int (nI i0)), (2, .ref am), (1, .ref ax), (0, .ref b)]) (hcb : cells + 1000 * qMis w0 ≤ 600000) (hsb : slots + 80000 * qMis w0 ≤ 7302250)
  (fin : ∀ (H1 : Heap) (locs1 : List Loc) (own1 : Nat → Nat) (g1 : Nat) (w1 wR1 : va_W) (cells1 slots1 : Nat), g1 < 24 → qI cA D (fun q => s.heap.size ≤ q) H1 own1 ax am g1 w1 wR1 → va_S (fun q => s.heap.size ≤ q) s.heap H1 locs1 → cells1 + 1000 * qMis w1 ≤ 600000 → slots1 + 80000 * qMis w1 ≤ 7302250 → W p l e (zRm 1000 600000 7302250) s m #[Value.ref b] below meth c H1 locs1 cells1 slots1 Q (F0 m 986 ls [])) :
  W p l e (zRm 1000 600000 7302250) s m #[Value.ref b] below meth c H locs cells slots Q (F0 m 27 ls []) := by
  have hb : c.code = code := Cx.2.1.trans (X_lw_c _)
  refine lv_aload_n (pc := 27) Cx.1 hb dl_27 rfl (lv_at hl 3 rfl) ?_
  refine lv_iload_n (pc := 28) Cx.1 hb dl_28 rfl (lv_at hl 0 rfl) ?_
  refine va_sld (pc := 29) Cx.1 hb hX hbl (Nat.not_le.mpr hbl) hS (vp_in_nI (by omega) (by omega)) dl_29 ?_
  refine lv_bipush (pc := 30) (v := 31) Cx.1 hb dl_30 rfl ?_
  refine lv_iand (pc := 32) Cx.1 hb dl_32 ?_
  generalize (xs (Int32.toNatClampNeg (nI i0)) &&& 31) = y
  by_cases hy : y.toInt < 0 ∨ 23 < y.toInt
  · exact lv_tableOut (pc := 33) (tgt := 986) Cx.1 hb dl_33 hy (by decide) (fin _ _ _ _ _ _ _ _ hg I0 hS hcb hsb)
  · have h1 : ¬ y.toInt < 0 := fun z => hy (Or.inl z)
    have h2 : ¬ (23 : Int) < y.toInt := fun z => hy (Or.inr z)
    obtain ⟨n, hn⟩ : ∃ n : Nat, y.toInt = (n : Int) := ⟨y.toInt.toNat, by omega⟩
    have hn24 : n < 24 := by omega
    have hc : n = 0 ∨ n = 1 ∨ n = 2 ∨ n = 3 ∨ n = 4 ∨ n = 5 ∨ n = 6 ∨ n = 7 ∨ n = 8 ∨ n = 9 ∨ n = 10 ∨ n = 11 ∨ n = 12 ∨ n = 13 ∨ n = 14 ∨ n = 15 ∨ n = 16 ∨ n = 17 ∨ n = 18 ∨ n = 19 ∨ n = 20 ∨ n = 21 ∨ n = 22 ∨ n = 23 := by omega
    rcases hc with rfl | rfl | rfl | rfl | rfl | rfl | rfl | rfl | rfl | rfl | rfl | rfl | rfl | rfl | rfl | rfl | rfl | rfl | rfl | rfl | rfl | rfl | rfl | rfl
    · refine lv_tableIn (pc := 33) (off := 111) (tgt := 144) Cx.1 hb dl_33 h1 h2 (by rw [hn]; rfl) (by decide) ?_
      exact lw_c_group Cx hX hbl hL hLm hg I0 hS hl hcb hsb fin
    · refine lv_tableIn (pc := 33) (off := 144) (tgt := 177) Cx.1 hb dl_33 h1 h2 (by rw [hn]; rfl) (by decide) ?_
      exact lw_c_feed Cx hX hbl hL hLm hg I0 hS hl hcb hsb fin
    · refine lv_tableIn (pc := 33) (off := 207) (tgt := 240) Cx.1 hb dl_33 h1 h2 (by rw [hn]; rfl) (by decide) ?_
      exact lw_c_end Cx hX hbl hL hLm hg I0 hS hl hcb hsb fin
    · refine lv_tableIn (pc := 33) (off := 230) (tgt := 263) Cx.1 hb dl_33 h1 h2 (by rw [hn]; rfl) (by decide) ?_
      exact lw_c_text Cx hX hbl hL hLm hg I0 hS hl hcb hsb fin
    · refine lv_tableIn (pc := 33) (off := 253) (tgt := 286) Cx.1 hb dl_33 h1 h2 (by rw [hn]; rfl) (by decide) ?_
      exact lw_c_fault Cx hX hbl hL hLm hg I0 hS hl hcb hsb fin
    · refine lv_tableIn (pc := 33) (off := 276) (tgt := 309) Cx.1 hb dl_33 h1 h2 (by rw [hn]; rfl) (by decide) ?_
      exact lw_c_partition Cx hX hbl hL hLm hg I0 hS hl hcb hsb fin
    · refine lv_tableIn (pc := 33) (off := 309) (tgt := 342) Cx.1 hb dl_33 h1 h2 (by rw [hn]; rfl) (by decide) ?_
      exact lw_c_of Cx hX hbl hL hLm hg I0 hS hl hcb hsb fin
    · refine lv_tableIn (pc := 33) (off := 342) (tgt := 375) Cx.1 hb dl_33 h1 h2 (by rw [hn]; rfl) (by decide) ?_
      exact lw_c_core Cx hX hbl hL hLm hg I0 hS hl hcb hsb fin
    · refine lv_tableIn (pc := 33) (off := 375) (tgt := 408) Cx.1 hb dl_33 h1 h2 (by rw [hn]; rfl) (by decide) ?_
      exact lw_c_hook Cx hX hbl hL hLm hg I0 hS hl hcb hsb fin
    · refine lv_tableIn (pc := 33) (off := 418) (tgt := 451) Cx.1 hb dl_33 h1 h2 (by rw [hn]; rfl) (by decide) ?_
      exact lw_c_classOf Cx hX hbl hL hLm hg I0 hS hl hcb hsb fin
    · refine lv_tableIn (pc := 33) (off := 451) (tgt := 484) Cx.1 hb dl_33 h1 h2 (by rw [hn]; rfl) (by decide) ?_
      exact lw_c_character Cx hX hbl hL hLm hg I0 hS hl hcb hsb fin
    · refine lv_tableIn (pc := 33) (off := 484) (tgt := 517) Cx.1 hb dl_33 h1 h2 (by rw [hn]; rfl) (by decide) ?_
      exact lw_c_modular Cx hX hbl hL hLm hg I0 hS hl hcb hsb fin
    · refine lv_tableIn (pc := 33) (off := 517) (tgt := 550) Cx.1 hb dl_33 h1 h2 (by rw [hn]; rfl) (by decide) ?_
      exact lw_c_projective Cx hX hbl hL hLm hg I0 hS hl hcb hsb fin
    · refine lv_tableIn (pc := 33) (off := 550) (tgt := 583) Cx.1 hb dl_33 h1 h2 (by rw [hn]; rfl) (by decide) ?_
      exact lw_c_decomposition Cx hX hbl hL hLm hg I0 hS hl hcb hsb fin
    · refine lv_tableIn (pc := 33) (off := 583) (tgt := 616) Cx.1 hb dl_33 h1 h2 (by rw [hn]; rfl) (by decide) ?_
      exact lw_c_cartan Cx hX hbl hL hLm hg I0 hS hl hcb hsb fin
    · refine lv_tableIn (pc := 33) (off := 616) (tgt := 649) Cx.1 hb dl_33 h1 h2 (by rw [hn]; rfl) (by decide) ?_
      exact lw_c_tableau Cx hX hbl hL hLm hg I0 hS hl hcb hsb fin
    · refine lv_tableIn (pc := 33) (off := 669) (tgt := 702) Cx.1 hb dl_33 h1 h2 (by rw [hn]; rfl) (by decide) ?_
      exact lw_c_gram Cx hX hbl hL hLm hg I0 hS hl hcb hsb fin
    · refine lv_tableIn (pc := 33) (off := 712) (tgt := 745) Cx.1 hb dl_33 h1 h2 (by rw [hn]; rfl) (by decide) ?_
      exact lw_c_block Cx hX hbl hL hLm hg I0 hS hl hcb hsb fin
    · refine lv_tableIn (pc := 33) (off := 745) (tgt := 778) Cx.1 hb dl_33 h1 h2 (by rw [hn]; rfl) (by decide) ?_
      exact lw_c_value Cx hX hbl hL hLm hg I0 hS hl hcb hsb fin
    · refine lv_tableIn (pc := 33) (off := 778) (tgt := 811) Cx.1 hb dl_33 h1 h2 (by rw [hn]; rfl) (by decide) ?_
      exact lw_c_parts Cx hX hbl hL hLm hg I0 hS hl hcb hsb fin
    · refine lv_tableIn (pc := 33) (off := 821) (tgt := 854) Cx.1 hb dl_33 h1 h2 (by rw [hn]; rfl) (by decide) ?_
      exact lw_c_inner Cx hX hbl hL hLm hg I0 hS hl hcb hsb fin
    · refine lv_tableIn (pc := 33) (off := 854) (tgt := 887) Cx.1 hb dl_33 h1 h2 (by rw [hn]; rfl) (by decide) ?_
      exact lw_c_kind Cx hX hbl hL hLm hg I0 hS hl hcb hsb fin
    · refine lv_tableIn (pc := 33) (off := 887) (tgt := 920) Cx.1 hb dl_33 h1 h2 (by rw [hn]; rfl) (by decide) ?_
      exact lw_c_cut Cx hX hbl hL hLm hg I0 hS hl hcb hsb fin
    · refine lv_tableIn (pc := 33) (off := 930) (tgt := 963) Cx.1 hb dl_33 h1 h2 (by rw [hn]; rfl) (by decide) ?_
      exact lw_c_look Cx hX hbl hL hLm hg I0 hS hl hcb hsb fin
theorem lw_loop [G : zGh] {p : Program} {l : Launch} {e : Env} {s : State} {m : MethodId} {below : List Frame} {meth : Method} {c : Code} {b L : Nat} {xs : Nat → Int32} {cA : Nat → ClassId} {D : va_G} {ax am : Nat}
  (Cx : zCx (X_lw meth.name) cA D p s m #[Value.ref b] meth c (fun q => s.heap.size ≤ q)) (hX : va_X b L xs s s.heap) (hbl : b < s.heap.size) (hLm : L ≤ 3072) (hr : meth.sig.returnType = ret) (hlk : meth.locks = false) :
  ∀ (n i0 : Nat) {ls : Array Slot} {H : Heap} {locs : List Loc} {own : Nat → Nat} {g cells slots : Nat} {w0 wR : va_W}, L ≤ i0 + 6 * n + 5 → i0 ≤ 3072 → g < 24 → qI cA D (fun q => s.heap.size ≤ q) H own ax am g w0 wR → va_S (fun q => s.heap.size ≤ q) s.heap H locs → lv_has ls 4 [(3, .int (nI i0)), (2, .ref am), (1, .ref ax), (0, .ref b)] → cells + 1000 * qMis w0 ≤ 600000 → slots + 80000 * qMis w0 ≤ 7302250 → W p l e (zRm 1000 600000 7302250) s m #[Value.ref b] below meth c H locs cells slots (lw_Z below #[Value.ref b] s) (F0 m 18 ls []) := by
  have hb : c.code = code := Cx.2.1.trans (X_lw_c _)
  have done : ∀ (H1 : Heap) (locs1 : List Loc) (cells1 slots1 : Nat) (lsx : Array Slot), va_S (fun q => s.heap.size ≤ q) s.heap H1 locs1 → cells1 ≤ 600000 → slots1 ≤ 7302250 → W p l e (zRm 1000 600000 7302250) s m #[Value.ref b] below meth c H1 locs1 cells1 slots1 (lw_Z below #[Value.ref b] s) (F0 m 992 lsx []) := by
    intro H1 locs1 cells1 slots1 lsx hSx hc1 hs1
    refine lv_iconst (pc := 992) (v := 1) Cx.1 hb dl_992 rfl ?_
    refine va_forget (fun q hq => hSx.2.2 q hq) ?_
    refine W.widen hc1 hs1 ?_
    exact lw_retR (pc := 993) Cx.1 hb hr hlk dl_993
  intro n
  induction n with
  | zero =>
    intro i0 ls H locs own g cells slots w0 wR h1 h2 hg I0 hS hl hcb hsb
    refine lv_iload_n (pc := 18) Cx.1 hb dl_18 rfl (lv_at hl 0 rfl) ?_
    refine lv_aload_n (pc := 19) Cx.1 hb dl_19 rfl (lv_at hl 3 rfl) ?_
    refine va_slen (pc := 20) Cx.1 hb hX hbl (Nat.not_le.mpr hbl) hS dl_20 ?_
    refine lv_bipush (pc := 21) (v := 6) Cx.1 hb dl_21 rfl ?_
    refine lv_isub (pc := 23) Cx.1 hb dl_23 ?_
    refine lv_icmp_gt (pc := 24) (tgt := 992) Cx.1 hb dl_24 (by decide) (fun _ => done _ _ _ _ _ hS (by omega) (by omega)) (fun hgt => ?_)
    refine absurd (Int32.lt_iff_toInt_lt.mpr ?_) hgt
    have e1 : (Int32.ofNat L - 6).toInt = (L : Int) - 6 := pk_sub_toInt (a := L) (b := 6) (by omega) (by decide)
    have e2 : (nI i0).toInt = (i0 : Int) := nI_toInt (by omega)
    rw [e1, e2]
    omega
  | succ n ih =>
    intro i0 ls H locs own g cells slots w0 wR h1 h2 hg I0 hS hl hcb hsb
    refine lv_iload_n (pc := 18) Cx.1 hb dl_18 rfl (lv_at hl 0 rfl) ?_
    refine lv_aload_n (pc := 19) Cx.1 hb dl_19 rfl (lv_at hl 3 rfl) ?_
    refine va_slen (pc := 20) Cx.1 hb hX hbl (Nat.not_le.mpr hbl) hS dl_20 ?_
    refine lv_bipush (pc := 21) (v := 6) Cx.1 hb dl_21 rfl ?_
    refine lv_isub (pc := 23) Cx.1 hb dl_23 ?_
    refine lv_icmp_gt (pc := 24) (tgt := 992) Cx.1 hb dl_24 (by decide) (fun _ => done _ _ _ _ _ hS (by omega) (by omega)) (fun hgt => ?_)
    have e1 : (Int32.ofNat L - 6).toInt = (L : Int) - 6 := pk_sub_toInt (a := L) (b := 6) (by omega) (by decide)
    have e2 : (nI i0).toInt = (i0 : Int) := nI_toInt (by omega)
    have h6 : i0 + 6 ≤ L := by
      have := mt Int32.lt_iff_toInt_lt.mpr hgt
      rw [e1, e2] at this
      omega
    refine lw_turn Cx hX hbl h6 hLm hg I0 hS hl hcb hsb (fun H1 locs1 own1 g1 w1 wR1 cells1 slots1 hg1 I1 hS1 hc1 hs1 => ?_)
    refine lv_iinc (pc := 986) (k := 0) (v := nI (i0 + 6)) Cx.1 hb dl_986 hl rfl (nI_add i0 6) (by decide) rfl (fun ls4 hl4 => ?_)
    refine lv_goto (pc := 989) (tgt := 18) Cx.1 hb dl_989 (by decide) ?_
    exact ih (i0 + 6) (by omega) (by omega) hg1 I1 hS1 hl4 hc1 hs1
