/-! group, by program -/
theorem kB_r1 : hB_lw.2.2.1 = 2000 := rfl
theorem kB_r2 : hB_lw.2.2.2 = 200000 := rfl
theorem kB_c {cells : Nat} (h : cells + 2000 ≤ 600000) : cells + 1000 + (hB_lw.2.2.1 - 1000) ≤ 600000 := by
  rw [kB_r1]
  omega
theorem kB_s {slots : Nat} (h : slots + 200000 ≤ 7302250) : slots + 80000 + (hB_lw.2.2.2 - 80000) ≤ 7302250 := by
  have e : hB_lw.2.2.2 - 80000 = 120000 := (congrArg (fun z => z - 80000) kB_r2).trans rfl
  rw [e, Nat.add_assoc]
  exact h
theorem lw_c_group {p : Program} {l : Launch} {e : Env} {s : State} {m : MethodId} {below : List Frame} {meth : Method} {c : Code} {b : Nat} {xs : Nat → Int32} {cA : Nat → ClassId} {D : va_G} {Q : State → Prop} {Ch : zCh} {ls : Array Slot} {H : Heap} {locs : List Loc} {ws : va_W} {ax am cells slots : Nat}
  (Cx : zCx (X_lw meth.name) cA D p s m #[Value.ref b] meth c (fun q => s.heap.size ≤ q)) (hX : va_X b 6 xs s s.heap) (hbl : b < s.heap.size) (hHp : @zHp Ch 10 cA hB_lw ws) (hP : va_P D zcl ws H) (hD : va_D (fun q => s.heap.size ≤ q) ws) (hS : va_S (fun q => s.heap.size ≤ q) s.heap H locs)
  (hl : lv_has ls 4 [(3, .int 0), (2, .ref am), (1, .ref ax), (0, .ref b)]) (hax : (zad cA ws).1[0]? = some ax) (ham : (zad cA ws).1[165]? = some am) (hcb : cells + 2000 ≤ 600000) (hsb : slots + 200000 ≤ 7302250)
  (fin : ∀ (H1 : Heap) (locs1 : List Loc) (cells1 slots1 : Nat), va_S (fun q => s.heap.size ≤ q) s.heap H1 locs1 → cells1 ≤ 600000 → slots1 ≤ 7302250 → W p l e (zRm 1000 600000 7302250) s m #[Value.ref b] below meth c H1 locs1 cells1 slots1 Q (F0 m 989 ls [])) :
  W p l e (zRm 1000 600000 7302250) s m #[Value.ref b] below meth c H locs cells slots Q (F0 m 144 ls []) := by
  have G : zGh := ⟨(fun _ => 0 : Nat → Nat)⟩
  have hb : c.code = code := Cx.2.1.trans (X_lw_c _)
  obtain ⟨r1, hr1, hT1⟩ := zrgs_i (zlv_cv _) ev_m_group (xs 1)
  obtain ⟨r2, hr2, hT2⟩ := zrgs_i (zlv_cv _) hT1 (xs 2)
  have hT : zgo 1000 80000 f_X8_groupa [zR 1, zI r1, zI r2] hB_lw (fun r h => zat h 166 (fun _ _ _ kd _ _ => cond (Nat.beq kd 25) (zgo 0 0 f_X9_groupb [zR 166, zI r1, zI r2] h (fun r2 _ => zeqI r r2)) false)) = true := hT2
  refine lv_aload_n Cx.1 hb dl_144 rfl (lv_at hl 2 rfl) ?_
  refine lw_arg (pc := 145) (j := 1) (k0 := 3) (k3 := 0) dl_145 dl_146 dl_147 dl_148 dl_149 rfl (by decide) Cx.1 hb hX hbl hS hl rfl rfl ?_
  refine lw_arg (pc := 150) (j := 2) (k0 := 3) (k3 := 0) dl_150 dl_151 dl_152 dl_153 dl_154 rfl (by decide) Cx.1 hb hX hbl hS hl rfl rfl ?_
  refine pt_call (X := X_lw meth.name) (pc := 155) (av := [.ref ax, .int (xs 1), .int (xs 2)]) (st := []) m_X8_groupa lr8_group Cx hT hHp hP hD hS hl.1 ⟨⟨some ax, rfl, Or.inr ⟨0, ax, rfl, hax, rfl⟩⟩, ⟨_, rfl, hr1⟩, ⟨_, rfl, hr2⟩, trivial⟩ (Nat.zero_le _) rfl (zrecv (k := 0) hHp hax kB_x) hcb hsb (fun Ch1 r h1 ws1 ov H1 locs1 hov hk1 hHp1 hpre1 hP1 hD1 hS1 => ?_)
  obtain ⟨i9, kd9, len9, x9, e9, hg9, hk2⟩ := zat_t hk1
  obtain ⟨hkd, hk3⟩ := zcnd_t hk2
  have ham1 := zPre_at hpre1 ham
  have e165 : i9 = 165 := by omega
  rw [e165] at hg9
  refine lv_aload_n (pc := 158) Cx.1 hb dl_158 rfl (lv_at hl 1 rfl) ?_
  refine lw_arg (pc := 159) (j := 1) (k0 := 3) (k3 := 0) dl_159 dl_160 dl_161 dl_162 dl_163 rfl (by decide) Cx.1 hb hX hbl hS1 hl rfl rfl ?_
  refine lw_arg (pc := 164) (j := 2) (k0 := 3) (k3 := 0) dl_164 dl_165 dl_166 dl_167 dl_168 rfl (by decide) Cx.1 hb hX hbl hS1 hl rfl rfl ?_
  refine pt_call (X := X_lw meth.name) (pc := 169) (Ch := Ch1) (av := [.ref am, .int (xs 1), .int (xs 2)]) (st := ov.toList ++ []) m_X9_groupb lr9_group Cx hk3 hHp1 hP1 hD1 hS1 hl.1 ⟨⟨some am, rfl, Or.inr ⟨165, am, rfl, ham1, rfl⟩⟩, ⟨_, rfl, hr1⟩, ⟨_, rfl, hr2⟩, trivial⟩ (zcat1 hov) rfl (zrecv2 (k := 165) hHp1 ham1 hg9 hkd) (kB_c hcb) (kB_s hsb) (fun Ch2 r2 h2 ws2 ov2 H2 locs2 hov2 hk4 hHp2 hpre2 hP2 hD2 hS2 => ?_)
  obtain ⟨iv, e1, e2⟩ := zeqI_t hk4 hov hov2
  subst e1
  subst e2
  refine lv_icmp_eq (pc := 172) (tgt := 989) Cx.1 hb dl_172 (by decide) (fun _ => fin _ _ _ _ hS2 (by omega) (Nat.le_trans (Nat.add_le_add_left (show 80000 + 0 ≤ 200000 from Nat.le_of_ble_eq_true rfl) slots) hsb)) (fun h => absurd rfl h)

