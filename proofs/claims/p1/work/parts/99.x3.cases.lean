/-! the calls of the law, by program -/
theorem lw_c_feed {p : Program} {l : Launch} {e : Env} {s : State} {m : MethodId} {below : List Frame} {meth : Method} {c : Code} {b : Nat} {xs : Nat → Int32} {cA : Nat → ClassId} {D : va_G} {Q : State → Prop} {Ch : zCh} {ls : Array Slot} {H : Heap} {locs : List Loc} {ws : va_W} {ax am cells slots : Nat}
  (Cx : zCx (X_lw meth.name) cA D p s m #[Value.ref b] meth c (fun q => s.heap.size ≤ q)) (hX : va_X b 6 xs s s.heap) (hbl : b < s.heap.size) (hHp : @zHp Ch 10 cA hB_lw ws) (hP : va_P D zcl ws H) (hD : va_D (fun q => s.heap.size ≤ q) ws) (hS : va_S (fun q => s.heap.size ≤ q) s.heap H locs)
  (hl : lv_has ls 4 [(3, .int 0), (2, .ref am), (1, .ref ax), (0, .ref b)]) (hax : (zad cA ws).1[0]? = some ax) (ham : (zad cA ws).1[165]? = some am) (hcb : cells + 2000 ≤ 600000) (hsb : slots + 200000 ≤ 7302250)
  (fin : ∀ (H1 : Heap) (locs1 : List Loc) (cells1 slots1 : Nat), va_S (fun q => s.heap.size ≤ q) s.heap H1 locs1 → cells1 ≤ 600000 → slots1 ≤ 7302250 → W p l e (zRm 1000 600000 7302250) s m #[Value.ref b] below meth c H1 locs1 cells1 slots1 Q (F0 m 989 ls [])) :
  W p l e (zRm 1000 600000 7302250) s m #[Value.ref b] below meth c H locs cells slots Q (F0 m 177 ls []) := by
  have G : zGh := ⟨(fun _ => 0 : Nat → Nat)⟩
  have hb : c.code = code := Cx.2.1.trans (X_lw_c _)
  obtain ⟨r1, hr1, hT1⟩ := zrgs_i (zlv_cv _) ev_m_feed (xs 1)
  obtain ⟨r2, hr2, hT2⟩ := zrgs_i (zlv_cv _) hT1 (xs 2)
  obtain ⟨r3, hr3, hT3⟩ := zrgs_i (zlv_cv _) hT2 (xs 3)
  obtain ⟨r4, hr4, hT4⟩ := zrgs_i (zlv_cv _) hT3 (xs 4)
  obtain ⟨r5, hr5, hT5⟩ := zrgs_i (zlv_cv _) hT4 (xs 5)
  have hT : zgo 0 0 f_X8_feeda [zR 1, zI r1, zI r2, zI r3, zI r4, zI r5] hB_lw (fun r h => zat h 166 (fun _ _ _ kd _ _ => cond (Nat.beq kd 25) (zgo 0 0 f_X9_feeda [zR 166, zI r1, zI r2, zI r3, zI r4, zI r5] h (fun r2 _ => zeqI r r2)) false)) = true := hT5
  refine lv_aload_n Cx.1 hb dl_177 rfl (lv_at hl 2 rfl) ?_
  refine lw_arg (pc := 178) (j := 1) (k0 := 3) (k3 := 0) dl_178 dl_179 dl_180 dl_181 dl_182 rfl (by decide) Cx.1 hb hX hbl hS hl rfl rfl ?_
  refine lw_arg (pc := 183) (j := 2) (k0 := 3) (k3 := 0) dl_183 dl_184 dl_185 dl_186 dl_187 rfl (by decide) Cx.1 hb hX hbl hS hl rfl rfl ?_
  refine lw_arg (pc := 188) (j := 3) (k0 := 3) (k3 := 0) dl_188 dl_189 dl_190 dl_191 dl_192 rfl (by decide) Cx.1 hb hX hbl hS hl rfl rfl ?_
  refine lw_arg (pc := 193) (j := 4) (k0 := 3) (k3 := 0) dl_193 dl_194 dl_195 dl_196 dl_197 rfl (by decide) Cx.1 hb hX hbl hS hl rfl rfl ?_
  refine lw_arg (pc := 198) (j := 5) (k0 := 3) (k3 := 0) dl_198 dl_199 dl_200 dl_201 dl_202 rfl (by decide) Cx.1 hb hX hbl hS hl rfl rfl ?_
  refine pt_call (X := X_lw meth.name) (pc := 203) (av := [.ref ax, .int (xs 1), .int (xs 2), .int (xs 3), .int (xs 4), .int (xs 5)]) (st := []) m_X8_feeda lr8_feed Cx hT hHp hP hD hS hl.1 ⟨⟨some ax, rfl, Or.inr ⟨0, ax, rfl, hax, rfl⟩⟩, ⟨_, rfl, hr1⟩, ⟨_, rfl, hr2⟩, ⟨_, rfl, hr3⟩, ⟨_, rfl, hr4⟩, ⟨_, rfl, hr5⟩, trivial⟩ (Nat.zero_le _) rfl (zrecv (k := 0) hHp hax kB_x) hcb hsb (fun Ch1 r h1 ws1 ov H1 locs1 hov hk1 hHp1 hpre1 hP1 hD1 hS1 => ?_)
  obtain ⟨i9, kd9, len9, x9, e9, hg9, hk2⟩ := zat_t hk1
  obtain ⟨hkd, hk3⟩ := zcnd_t hk2
  have ham1 := zPre_at hpre1 ham
  have e165 : i9 = 165 := by omega
  rw [e165] at hg9
  refine lv_aload_n (pc := 206) Cx.1 hb dl_206 rfl (lv_at hl 1 rfl) ?_
  refine lw_arg (pc := 207) (j := 1) (k0 := 3) (k3 := 0) dl_207 dl_208 dl_209 dl_210 dl_211 rfl (by decide) Cx.1 hb hX hbl hS1 hl rfl rfl ?_
  refine lw_arg (pc := 212) (j := 2) (k0 := 3) (k3 := 0) dl_212 dl_213 dl_214 dl_215 dl_216 rfl (by decide) Cx.1 hb hX hbl hS1 hl rfl rfl ?_
  refine lw_arg (pc := 217) (j := 3) (k0 := 3) (k3 := 0) dl_217 dl_218 dl_219 dl_220 dl_221 rfl (by decide) Cx.1 hb hX hbl hS1 hl rfl rfl ?_
  refine lw_arg (pc := 222) (j := 4) (k0 := 3) (k3 := 0) dl_222 dl_223 dl_224 dl_225 dl_226 rfl (by decide) Cx.1 hb hX hbl hS1 hl rfl rfl ?_
  refine lw_arg (pc := 227) (j := 5) (k0 := 3) (k3 := 0) dl_227 dl_228 dl_229 dl_230 dl_231 rfl (by decide) Cx.1 hb hX hbl hS1 hl rfl rfl ?_
  refine pt_call (X := X_lw meth.name) (pc := 232) (Ch := Ch1) (av := [.ref am, .int (xs 1), .int (xs 2), .int (xs 3), .int (xs 4), .int (xs 5)]) (st := ov.toList ++ []) m_X9_feeda lr9_feed Cx hk3 hHp1 hP1 hD1 hS1 hl.1 ⟨⟨some am, rfl, Or.inr ⟨165, am, rfl, ham1, rfl⟩⟩, ⟨_, rfl, hr1⟩, ⟨_, rfl, hr2⟩, ⟨_, rfl, hr3⟩, ⟨_, rfl, hr4⟩, ⟨_, rfl, hr5⟩, trivial⟩ (zcat1 hov) rfl (zrecv2 (k := 165) hHp1 ham1 hg9 hkd) (by show cells + 0 + (2000 - 0) ≤ 600000; omega) (by show slots + 0 + (200000 - 0) ≤ 7302250; omega) (fun Ch2 r2 h2 ws2 ov2 H2 locs2 hov2 hk4 hHp2 hpre2 hP2 hD2 hS2 => ?_)
  obtain ⟨iv, e1, e2⟩ := zeqI_t hk4 hov hov2
  subst e1
  subst e2
  refine lv_icmp_eq (pc := 235) (tgt := 989) Cx.1 hb dl_235 (by decide) (fun _ => fin _ _ _ _ hS2 (by omega) (by omega)) (fun h => absurd rfl h)

theorem lw_c_end {p : Program} {l : Launch} {e : Env} {s : State} {m : MethodId} {below : List Frame} {meth : Method} {c : Code} {b : Nat} {xs : Nat → Int32} {cA : Nat → ClassId} {D : va_G} {Q : State → Prop} {Ch : zCh} {ls : Array Slot} {H : Heap} {locs : List Loc} {ws : va_W} {ax am cells slots : Nat}
  (Cx : zCx (X_lw meth.name) cA D p s m #[Value.ref b] meth c (fun q => s.heap.size ≤ q)) (hX : va_X b 6 xs s s.heap) (hbl : b < s.heap.size) (hHp : @zHp Ch 10 cA hB_lw ws) (hP : va_P D zcl ws H) (hD : va_D (fun q => s.heap.size ≤ q) ws) (hS : va_S (fun q => s.heap.size ≤ q) s.heap H locs)
  (hl : lv_has ls 4 [(3, .int 0), (2, .ref am), (1, .ref ax), (0, .ref b)]) (hax : (zad cA ws).1[0]? = some ax) (ham : (zad cA ws).1[165]? = some am) (hcb : cells + 2000 ≤ 600000) (hsb : slots + 200000 ≤ 7302250)
  (fin : ∀ (H1 : Heap) (locs1 : List Loc) (cells1 slots1 : Nat), va_S (fun q => s.heap.size ≤ q) s.heap H1 locs1 → cells1 ≤ 600000 → slots1 ≤ 7302250 → W p l e (zRm 1000 600000 7302250) s m #[Value.ref b] below meth c H1 locs1 cells1 slots1 Q (F0 m 989 ls [])) :
  W p l e (zRm 1000 600000 7302250) s m #[Value.ref b] below meth c H locs cells slots Q (F0 m 240 ls []) := by
  have G : zGh := ⟨(fun _ => 0 : Nat → Nat)⟩
  have hb : c.code = code := Cx.2.1.trans (X_lw_c _)
  obtain ⟨r1, hr1, hT1⟩ := zrgs_i (zlv_cv _) ev_m_end (xs 1)
  have hT : zgo 0 0 f_X8_enda [zR 1, zI r1] hB_lw (fun r h => zat h 166 (fun _ _ _ kd _ _ => cond (Nat.beq kd 25) (zgo 0 0 f_X9_enda [zR 166, zI r1] h (fun r2 _ => zeqI r r2)) false)) = true := hT1
  refine lv_aload_n Cx.1 hb dl_240 rfl (lv_at hl 2 rfl) ?_
  refine lw_arg (pc := 241) (j := 1) (k0 := 3) (k3 := 0) dl_241 dl_242 dl_243 dl_244 dl_245 rfl (by decide) Cx.1 hb hX hbl hS hl rfl rfl ?_
  refine pt_call (X := X_lw meth.name) (pc := 246) (av := [.ref ax, .int (xs 1)]) (st := []) m_X8_enda lr8_end Cx hT hHp hP hD hS hl.1 ⟨⟨some ax, rfl, Or.inr ⟨0, ax, rfl, hax, rfl⟩⟩, ⟨_, rfl, hr1⟩, trivial⟩ (Nat.zero_le _) rfl (zrecv (k := 0) hHp hax kB_x) hcb hsb (fun Ch1 r h1 ws1 ov H1 locs1 hov hk1 hHp1 hpre1 hP1 hD1 hS1 => ?_)
  obtain ⟨i9, kd9, len9, x9, e9, hg9, hk2⟩ := zat_t hk1
  obtain ⟨hkd, hk3⟩ := zcnd_t hk2
  have ham1 := zPre_at hpre1 ham
  have e165 : i9 = 165 := by omega
  rw [e165] at hg9
  refine lv_aload_n (pc := 249) Cx.1 hb dl_249 rfl (lv_at hl 1 rfl) ?_
  refine lw_arg (pc := 250) (j := 1) (k0 := 3) (k3 := 0) dl_250 dl_251 dl_252 dl_253 dl_254 rfl (by decide) Cx.1 hb hX hbl hS1 hl rfl rfl ?_
  refine pt_call (X := X_lw meth.name) (pc := 255) (Ch := Ch1) (av := [.ref am, .int (xs 1)]) (st := ov.toList ++ []) m_X9_enda lr9_end Cx hk3 hHp1 hP1 hD1 hS1 hl.1 ⟨⟨some am, rfl, Or.inr ⟨165, am, rfl, ham1, rfl⟩⟩, ⟨_, rfl, hr1⟩, trivial⟩ (zcat1 hov) rfl (zrecv2 (k := 165) hHp1 ham1 hg9 hkd) (by show cells + 0 + (2000 - 0) ≤ 600000; omega) (by show slots + 0 + (200000 - 0) ≤ 7302250; omega) (fun Ch2 r2 h2 ws2 ov2 H2 locs2 hov2 hk4 hHp2 hpre2 hP2 hD2 hS2 => ?_)
  obtain ⟨iv, e1, e2⟩ := zeqI_t hk4 hov hov2
  subst e1
  subst e2
  refine lv_icmp_eq (pc := 258) (tgt := 989) Cx.1 hb dl_258 (by decide) (fun _ => fin _ _ _ _ hS2 (by omega) (by omega)) (fun h => absurd rfl h)

theorem lw_c_text {p : Program} {l : Launch} {e : Env} {s : State} {m : MethodId} {below : List Frame} {meth : Method} {c : Code} {b : Nat} {xs : Nat → Int32} {cA : Nat → ClassId} {D : va_G} {Q : State → Prop} {Ch : zCh} {ls : Array Slot} {H : Heap} {locs : List Loc} {ws : va_W} {ax am cells slots : Nat}
  (Cx : zCx (X_lw meth.name) cA D p s m #[Value.ref b] meth c (fun q => s.heap.size ≤ q)) (hX : va_X b 6 xs s s.heap) (hbl : b < s.heap.size) (hHp : @zHp Ch 10 cA hB_lw ws) (hP : va_P D zcl ws H) (hD : va_D (fun q => s.heap.size ≤ q) ws) (hS : va_S (fun q => s.heap.size ≤ q) s.heap H locs)
  (hl : lv_has ls 4 [(3, .int 0), (2, .ref am), (1, .ref ax), (0, .ref b)]) (hax : (zad cA ws).1[0]? = some ax) (ham : (zad cA ws).1[165]? = some am) (hcb : cells + 2000 ≤ 600000) (hsb : slots + 200000 ≤ 7302250)
  (fin : ∀ (H1 : Heap) (locs1 : List Loc) (cells1 slots1 : Nat), va_S (fun q => s.heap.size ≤ q) s.heap H1 locs1 → cells1 ≤ 600000 → slots1 ≤ 7302250 → W p l e (zRm 1000 600000 7302250) s m #[Value.ref b] below meth c H1 locs1 cells1 slots1 Q (F0 m 989 ls [])) :
  W p l e (zRm 1000 600000 7302250) s m #[Value.ref b] below meth c H locs cells slots Q (F0 m 263 ls []) := by
  have G : zGh := ⟨(fun _ => 0 : Nat → Nat)⟩
  have hb : c.code = code := Cx.2.1.trans (X_lw_c _)
  obtain ⟨r1, hr1, hT1⟩ := zrgs_i (zlv_cv _) ev_m_text (xs 1)
  have hT : zgo 0 0 f_X8_texta [zR 1, zI r1] hB_lw (fun r h => zat h 166 (fun _ _ _ kd _ _ => cond (Nat.beq kd 25) (zgo 0 0 f_X9_texta [zR 166, zI r1] h (fun r2 _ => zeqI r r2)) false)) = true := hT1
  refine lv_aload_n Cx.1 hb dl_263 rfl (lv_at hl 2 rfl) ?_
  refine lw_arg (pc := 264) (j := 1) (k0 := 3) (k3 := 0) dl_264 dl_265 dl_266 dl_267 dl_268 rfl (by decide) Cx.1 hb hX hbl hS hl rfl rfl ?_
  refine pt_call (X := X_lw meth.name) (pc := 269) (av := [.ref ax, .int (xs 1)]) (st := []) m_X8_texta lr8_text Cx hT hHp hP hD hS hl.1 ⟨⟨some ax, rfl, Or.inr ⟨0, ax, rfl, hax, rfl⟩⟩, ⟨_, rfl, hr1⟩, trivial⟩ (Nat.zero_le _) rfl (zrecv (k := 0) hHp hax kB_x) hcb hsb (fun Ch1 r h1 ws1 ov H1 locs1 hov hk1 hHp1 hpre1 hP1 hD1 hS1 => ?_)
  obtain ⟨i9, kd9, len9, x9, e9, hg9, hk2⟩ := zat_t hk1
  obtain ⟨hkd, hk3⟩ := zcnd_t hk2
  have ham1 := zPre_at hpre1 ham
  have e165 : i9 = 165 := by omega
  rw [e165] at hg9
  refine lv_aload_n (pc := 272) Cx.1 hb dl_272 rfl (lv_at hl 1 rfl) ?_
  refine lw_arg (pc := 273) (j := 1) (k0 := 3) (k3 := 0) dl_273 dl_274 dl_275 dl_276 dl_277 rfl (by decide) Cx.1 hb hX hbl hS1 hl rfl rfl ?_
  refine pt_call (X := X_lw meth.name) (pc := 278) (Ch := Ch1) (av := [.ref am, .int (xs 1)]) (st := ov.toList ++ []) m_X9_texta lr9_text Cx hk3 hHp1 hP1 hD1 hS1 hl.1 ⟨⟨some am, rfl, Or.inr ⟨165, am, rfl, ham1, rfl⟩⟩, ⟨_, rfl, hr1⟩, trivial⟩ (zcat1 hov) rfl (zrecv2 (k := 165) hHp1 ham1 hg9 hkd) (by show cells + 0 + (2000 - 0) ≤ 600000; omega) (by show slots + 0 + (200000 - 0) ≤ 7302250; omega) (fun Ch2 r2 h2 ws2 ov2 H2 locs2 hov2 hk4 hHp2 hpre2 hP2 hD2 hS2 => ?_)
  obtain ⟨iv, e1, e2⟩ := zeqI_t hk4 hov hov2
  subst e1
  subst e2
  refine lv_icmp_eq (pc := 281) (tgt := 989) Cx.1 hb dl_281 (by decide) (fun _ => fin _ _ _ _ hS2 (by omega) (by omega)) (fun h => absurd rfl h)

theorem lw_c_fault {p : Program} {l : Launch} {e : Env} {s : State} {m : MethodId} {below : List Frame} {meth : Method} {c : Code} {b : Nat} {xs : Nat → Int32} {cA : Nat → ClassId} {D : va_G} {Q : State → Prop} {Ch : zCh} {ls : Array Slot} {H : Heap} {locs : List Loc} {ws : va_W} {ax am cells slots : Nat}
  (Cx : zCx (X_lw meth.name) cA D p s m #[Value.ref b] meth c (fun q => s.heap.size ≤ q)) (hX : va_X b 6 xs s s.heap) (hbl : b < s.heap.size) (hHp : @zHp Ch 10 cA hB_lw ws) (hP : va_P D zcl ws H) (hD : va_D (fun q => s.heap.size ≤ q) ws) (hS : va_S (fun q => s.heap.size ≤ q) s.heap H locs)
  (hl : lv_has ls 4 [(3, .int 0), (2, .ref am), (1, .ref ax), (0, .ref b)]) (hax : (zad cA ws).1[0]? = some ax) (ham : (zad cA ws).1[165]? = some am) (hcb : cells + 2000 ≤ 600000) (hsb : slots + 200000 ≤ 7302250)
  (fin : ∀ (H1 : Heap) (locs1 : List Loc) (cells1 slots1 : Nat), va_S (fun q => s.heap.size ≤ q) s.heap H1 locs1 → cells1 ≤ 600000 → slots1 ≤ 7302250 → W p l e (zRm 1000 600000 7302250) s m #[Value.ref b] below meth c H1 locs1 cells1 slots1 Q (F0 m 989 ls [])) :
  W p l e (zRm 1000 600000 7302250) s m #[Value.ref b] below meth c H locs cells slots Q (F0 m 286 ls []) := by
  have G : zGh := ⟨(fun _ => 0 : Nat → Nat)⟩
  have hb : c.code = code := Cx.2.1.trans (X_lw_c _)
  obtain ⟨r1, hr1, hT1⟩ := zrgs_i (zlv_cv _) ev_m_fault (xs 1)
  have hT : zgo 0 0 f_X8_faulta [zR 1, zI r1] hB_lw (fun r h => zat h 166 (fun _ _ _ kd _ _ => cond (Nat.beq kd 25) (zgo 0 0 f_X9_faulta [zR 166, zI r1] h (fun r2 _ => zeqI r r2)) false)) = true := hT1
  refine lv_aload_n Cx.1 hb dl_286 rfl (lv_at hl 2 rfl) ?_
  refine lw_arg (pc := 287) (j := 1) (k0 := 3) (k3 := 0) dl_287 dl_288 dl_289 dl_290 dl_291 rfl (by decide) Cx.1 hb hX hbl hS hl rfl rfl ?_
  refine pt_call (X := X_lw meth.name) (pc := 292) (av := [.ref ax, .int (xs 1)]) (st := []) m_X8_faulta lr8_fault Cx hT hHp hP hD hS hl.1 ⟨⟨some ax, rfl, Or.inr ⟨0, ax, rfl, hax, rfl⟩⟩, ⟨_, rfl, hr1⟩, trivial⟩ (Nat.zero_le _) rfl (zrecv (k := 0) hHp hax kB_x) hcb hsb (fun Ch1 r h1 ws1 ov H1 locs1 hov hk1 hHp1 hpre1 hP1 hD1 hS1 => ?_)
  obtain ⟨i9, kd9, len9, x9, e9, hg9, hk2⟩ := zat_t hk1
  obtain ⟨hkd, hk3⟩ := zcnd_t hk2
  have ham1 := zPre_at hpre1 ham
  have e165 : i9 = 165 := by omega
  rw [e165] at hg9
  refine lv_aload_n (pc := 295) Cx.1 hb dl_295 rfl (lv_at hl 1 rfl) ?_
  refine lw_arg (pc := 296) (j := 1) (k0 := 3) (k3 := 0) dl_296 dl_297 dl_298 dl_299 dl_300 rfl (by decide) Cx.1 hb hX hbl hS1 hl rfl rfl ?_
  refine pt_call (X := X_lw meth.name) (pc := 301) (Ch := Ch1) (av := [.ref am, .int (xs 1)]) (st := ov.toList ++ []) m_X9_faulta lr9_fault Cx hk3 hHp1 hP1 hD1 hS1 hl.1 ⟨⟨some am, rfl, Or.inr ⟨165, am, rfl, ham1, rfl⟩⟩, ⟨_, rfl, hr1⟩, trivial⟩ (zcat1 hov) rfl (zrecv2 (k := 165) hHp1 ham1 hg9 hkd) (by show cells + 0 + (2000 - 0) ≤ 600000; omega) (by show slots + 0 + (200000 - 0) ≤ 7302250; omega) (fun Ch2 r2 h2 ws2 ov2 H2 locs2 hov2 hk4 hHp2 hpre2 hP2 hD2 hS2 => ?_)
  obtain ⟨iv, e1, e2⟩ := zeqI_t hk4 hov hov2
  subst e1
  subst e2
  refine lv_icmp_eq (pc := 304) (tgt := 989) Cx.1 hb dl_304 (by decide) (fun _ => fin _ _ _ _ hS2 (by omega) (by omega)) (fun h => absurd rfl h)

theorem lw_c_partition {p : Program} {l : Launch} {e : Env} {s : State} {m : MethodId} {below : List Frame} {meth : Method} {c : Code} {b : Nat} {xs : Nat → Int32} {cA : Nat → ClassId} {D : va_G} {Q : State → Prop} {Ch : zCh} {ls : Array Slot} {H : Heap} {locs : List Loc} {ws : va_W} {ax am cells slots : Nat}
  (Cx : zCx (X_lw meth.name) cA D p s m #[Value.ref b] meth c (fun q => s.heap.size ≤ q)) (hX : va_X b 6 xs s s.heap) (hbl : b < s.heap.size) (hHp : @zHp Ch 10 cA hB_lw ws) (hP : va_P D zcl ws H) (hD : va_D (fun q => s.heap.size ≤ q) ws) (hS : va_S (fun q => s.heap.size ≤ q) s.heap H locs)
  (hl : lv_has ls 4 [(3, .int 0), (2, .ref am), (1, .ref ax), (0, .ref b)]) (hax : (zad cA ws).1[0]? = some ax) (ham : (zad cA ws).1[165]? = some am) (hcb : cells + 2000 ≤ 600000) (hsb : slots + 200000 ≤ 7302250)
  (fin : ∀ (H1 : Heap) (locs1 : List Loc) (cells1 slots1 : Nat), va_S (fun q => s.heap.size ≤ q) s.heap H1 locs1 → cells1 ≤ 600000 → slots1 ≤ 7302250 → W p l e (zRm 1000 600000 7302250) s m #[Value.ref b] below meth c H1 locs1 cells1 slots1 Q (F0 m 989 ls [])) :
  W p l e (zRm 1000 600000 7302250) s m #[Value.ref b] below meth c H locs cells slots Q (F0 m 309 ls []) := by
  have G : zGh := ⟨(fun _ => 0 : Nat → Nat)⟩
  have hb : c.code = code := Cx.2.1.trans (X_lw_c _)
  obtain ⟨r1, hr1, hT1⟩ := zrgs_i (zlv_cv _) ev_m_partition (xs 1)
  obtain ⟨r2, hr2, hT2⟩ := zrgs_i (zlv_cv _) hT1 (xs 2)
  have hT : zgo 0 0 f_X8_partitiona [zR 1, zI r1, zI r2] hB_lw (fun r h => zat h 166 (fun _ _ _ kd _ _ => cond (Nat.beq kd 25) (zgo 0 0 f_X9_partitiona [zR 166, zI r1, zI r2] h (fun r2 _ => zeqI r r2)) false)) = true := hT2
  refine lv_aload_n Cx.1 hb dl_309 rfl (lv_at hl 2 rfl) ?_
  refine lw_arg (pc := 310) (j := 1) (k0 := 3) (k3 := 0) dl_310 dl_311 dl_312 dl_313 dl_314 rfl (by decide) Cx.1 hb hX hbl hS hl rfl rfl ?_
  refine lw_arg (pc := 315) (j := 2) (k0 := 3) (k3 := 0) dl_315 dl_316 dl_317 dl_318 dl_319 rfl (by decide) Cx.1 hb hX hbl hS hl rfl rfl ?_
  refine pt_call (X := X_lw meth.name) (pc := 320) (av := [.ref ax, .int (xs 1), .int (xs 2)]) (st := []) m_X8_partitiona lr8_partition Cx hT hHp hP hD hS hl.1 ⟨⟨some ax, rfl, Or.inr ⟨0, ax, rfl, hax, rfl⟩⟩, ⟨_, rfl, hr1⟩, ⟨_, rfl, hr2⟩, trivial⟩ (Nat.zero_le _) rfl (zrecv (k := 0) hHp hax kB_x) hcb hsb (fun Ch1 r h1 ws1 ov H1 locs1 hov hk1 hHp1 hpre1 hP1 hD1 hS1 => ?_)
  obtain ⟨i9, kd9, len9, x9, e9, hg9, hk2⟩ := zat_t hk1
  obtain ⟨hkd, hk3⟩ := zcnd_t hk2
  have ham1 := zPre_at hpre1 ham
  have e165 : i9 = 165 := by omega
  rw [e165] at hg9
  refine lv_aload_n (pc := 323) Cx.1 hb dl_323 rfl (lv_at hl 1 rfl) ?_
  refine lw_arg (pc := 324) (j := 1) (k0 := 3) (k3 := 0) dl_324 dl_325 dl_326 dl_327 dl_328 rfl (by decide) Cx.1 hb hX hbl hS1 hl rfl rfl ?_
  refine lw_arg (pc := 329) (j := 2) (k0 := 3) (k3 := 0) dl_329 dl_330 dl_331 dl_332 dl_333 rfl (by decide) Cx.1 hb hX hbl hS1 hl rfl rfl ?_
  refine pt_call (X := X_lw meth.name) (pc := 334) (Ch := Ch1) (av := [.ref am, .int (xs 1), .int (xs 2)]) (st := ov.toList ++ []) m_X9_partitiona lr9_partition Cx hk3 hHp1 hP1 hD1 hS1 hl.1 ⟨⟨some am, rfl, Or.inr ⟨165, am, rfl, ham1, rfl⟩⟩, ⟨_, rfl, hr1⟩, ⟨_, rfl, hr2⟩, trivial⟩ (zcat1 hov) rfl (zrecv2 (k := 165) hHp1 ham1 hg9 hkd) (by show cells + 0 + (2000 - 0) ≤ 600000; omega) (by show slots + 0 + (200000 - 0) ≤ 7302250; omega) (fun Ch2 r2 h2 ws2 ov2 H2 locs2 hov2 hk4 hHp2 hpre2 hP2 hD2 hS2 => ?_)
  obtain ⟨iv, e1, e2⟩ := zeqI_t hk4 hov hov2
  subst e1
  subst e2
  refine lv_icmp_eq (pc := 337) (tgt := 989) Cx.1 hb dl_337 (by decide) (fun _ => fin _ _ _ _ hS2 (by omega) (by omega)) (fun h => absurd rfl h)

theorem lw_c_of {p : Program} {l : Launch} {e : Env} {s : State} {m : MethodId} {below : List Frame} {meth : Method} {c : Code} {b : Nat} {xs : Nat → Int32} {cA : Nat → ClassId} {D : va_G} {Q : State → Prop} {Ch : zCh} {ls : Array Slot} {H : Heap} {locs : List Loc} {ws : va_W} {ax am cells slots : Nat}
  (Cx : zCx (X_lw meth.name) cA D p s m #[Value.ref b] meth c (fun q => s.heap.size ≤ q)) (hX : va_X b 6 xs s s.heap) (hbl : b < s.heap.size) (hHp : @zHp Ch 10 cA hB_lw ws) (hP : va_P D zcl ws H) (hD : va_D (fun q => s.heap.size ≤ q) ws) (hS : va_S (fun q => s.heap.size ≤ q) s.heap H locs)
  (hl : lv_has ls 4 [(3, .int 0), (2, .ref am), (1, .ref ax), (0, .ref b)]) (hax : (zad cA ws).1[0]? = some ax) (ham : (zad cA ws).1[165]? = some am) (hcb : cells + 2000 ≤ 600000) (hsb : slots + 200000 ≤ 7302250)
  (fin : ∀ (H1 : Heap) (locs1 : List Loc) (cells1 slots1 : Nat), va_S (fun q => s.heap.size ≤ q) s.heap H1 locs1 → cells1 ≤ 600000 → slots1 ≤ 7302250 → W p l e (zRm 1000 600000 7302250) s m #[Value.ref b] below meth c H1 locs1 cells1 slots1 Q (F0 m 989 ls [])) :
  W p l e (zRm 1000 600000 7302250) s m #[Value.ref b] below meth c H locs cells slots Q (F0 m 342 ls []) := by
  have G : zGh := ⟨(fun _ => 0 : Nat → Nat)⟩
  have hb : c.code = code := Cx.2.1.trans (X_lw_c _)
  obtain ⟨r1, hr1, hT1⟩ := zrgs_i (zlv_cv _) ev_m_of (xs 1)
  obtain ⟨r2, hr2, hT2⟩ := zrgs_i (zlv_cv _) hT1 (xs 2)
  have hT : zgo 0 0 f_X8_ofa [zR 1, zI r1, zI r2] hB_lw (fun r h => zat h 166 (fun _ _ _ kd _ _ => cond (Nat.beq kd 25) (zgo 0 0 f_X9_ofa [zR 166, zI r1, zI r2] h (fun r2 _ => zeqI r r2)) false)) = true := hT2
  refine lv_aload_n Cx.1 hb dl_342 rfl (lv_at hl 2 rfl) ?_
  refine lw_arg (pc := 343) (j := 1) (k0 := 3) (k3 := 0) dl_343 dl_344 dl_345 dl_346 dl_347 rfl (by decide) Cx.1 hb hX hbl hS hl rfl rfl ?_
  refine lw_arg (pc := 348) (j := 2) (k0 := 3) (k3 := 0) dl_348 dl_349 dl_350 dl_351 dl_352 rfl (by decide) Cx.1 hb hX hbl hS hl rfl rfl ?_
  refine pt_call (X := X_lw meth.name) (pc := 353) (av := [.ref ax, .int (xs 1), .int (xs 2)]) (st := []) m_X8_ofa lr8_of Cx hT hHp hP hD hS hl.1 ⟨⟨some ax, rfl, Or.inr ⟨0, ax, rfl, hax, rfl⟩⟩, ⟨_, rfl, hr1⟩, ⟨_, rfl, hr2⟩, trivial⟩ (Nat.zero_le _) rfl (zrecv (k := 0) hHp hax kB_x) hcb hsb (fun Ch1 r h1 ws1 ov H1 locs1 hov hk1 hHp1 hpre1 hP1 hD1 hS1 => ?_)
  obtain ⟨i9, kd9, len9, x9, e9, hg9, hk2⟩ := zat_t hk1
  obtain ⟨hkd, hk3⟩ := zcnd_t hk2
  have ham1 := zPre_at hpre1 ham
  have e165 : i9 = 165 := by omega
  rw [e165] at hg9
  refine lv_aload_n (pc := 356) Cx.1 hb dl_356 rfl (lv_at hl 1 rfl) ?_
  refine lw_arg (pc := 357) (j := 1) (k0 := 3) (k3 := 0) dl_357 dl_358 dl_359 dl_360 dl_361 rfl (by decide) Cx.1 hb hX hbl hS1 hl rfl rfl ?_
  refine lw_arg (pc := 362) (j := 2) (k0 := 3) (k3 := 0) dl_362 dl_363 dl_364 dl_365 dl_366 rfl (by decide) Cx.1 hb hX hbl hS1 hl rfl rfl ?_
  refine pt_call (X := X_lw meth.name) (pc := 367) (Ch := Ch1) (av := [.ref am, .int (xs 1), .int (xs 2)]) (st := ov.toList ++ []) m_X9_ofa lr9_of Cx hk3 hHp1 hP1 hD1 hS1 hl.1 ⟨⟨some am, rfl, Or.inr ⟨165, am, rfl, ham1, rfl⟩⟩, ⟨_, rfl, hr1⟩, ⟨_, rfl, hr2⟩, trivial⟩ (zcat1 hov) rfl (zrecv2 (k := 165) hHp1 ham1 hg9 hkd) (by show cells + 0 + (2000 - 0) ≤ 600000; omega) (by show slots + 0 + (200000 - 0) ≤ 7302250; omega) (fun Ch2 r2 h2 ws2 ov2 H2 locs2 hov2 hk4 hHp2 hpre2 hP2 hD2 hS2 => ?_)
  obtain ⟨iv, e1, e2⟩ := zeqI_t hk4 hov hov2
  subst e1
  subst e2
  refine lv_icmp_eq (pc := 370) (tgt := 989) Cx.1 hb dl_370 (by decide) (fun _ => fin _ _ _ _ hS2 (by omega) (by omega)) (fun h => absurd rfl h)

theorem lw_c_core {p : Program} {l : Launch} {e : Env} {s : State} {m : MethodId} {below : List Frame} {meth : Method} {c : Code} {b : Nat} {xs : Nat → Int32} {cA : Nat → ClassId} {D : va_G} {Q : State → Prop} {Ch : zCh} {ls : Array Slot} {H : Heap} {locs : List Loc} {ws : va_W} {ax am cells slots : Nat}
  (Cx : zCx (X_lw meth.name) cA D p s m #[Value.ref b] meth c (fun q => s.heap.size ≤ q)) (hX : va_X b 6 xs s s.heap) (hbl : b < s.heap.size) (hHp : @zHp Ch 10 cA hB_lw ws) (hP : va_P D zcl ws H) (hD : va_D (fun q => s.heap.size ≤ q) ws) (hS : va_S (fun q => s.heap.size ≤ q) s.heap H locs)
  (hl : lv_has ls 4 [(3, .int 0), (2, .ref am), (1, .ref ax), (0, .ref b)]) (hax : (zad cA ws).1[0]? = some ax) (ham : (zad cA ws).1[165]? = some am) (hcb : cells + 2000 ≤ 600000) (hsb : slots + 200000 ≤ 7302250)
  (fin : ∀ (H1 : Heap) (locs1 : List Loc) (cells1 slots1 : Nat), va_S (fun q => s.heap.size ≤ q) s.heap H1 locs1 → cells1 ≤ 600000 → slots1 ≤ 7302250 → W p l e (zRm 1000 600000 7302250) s m #[Value.ref b] below meth c H1 locs1 cells1 slots1 Q (F0 m 989 ls [])) :
  W p l e (zRm 1000 600000 7302250) s m #[Value.ref b] below meth c H locs cells slots Q (F0 m 375 ls []) := by
  have G : zGh := ⟨(fun _ => 0 : Nat → Nat)⟩
  have hb : c.code = code := Cx.2.1.trans (X_lw_c _)
  obtain ⟨r1, hr1, hT1⟩ := zrgs_i (zlv_cv _) ev_m_core (xs 1)
  obtain ⟨r2, hr2, hT2⟩ := zrgs_i (zlv_cv _) hT1 (xs 2)
  have hT : zgo 0 0 f_X8_corea [zR 1, zI r1, zI r2] hB_lw (fun r h => zat h 166 (fun _ _ _ kd _ _ => cond (Nat.beq kd 25) (zgo 0 0 f_X9_corea [zR 166, zI r1, zI r2] h (fun r2 _ => zeqI r r2)) false)) = true := hT2
  refine lv_aload_n Cx.1 hb dl_375 rfl (lv_at hl 2 rfl) ?_
  refine lw_arg (pc := 376) (j := 1) (k0 := 3) (k3 := 0) dl_376 dl_377 dl_378 dl_379 dl_380 rfl (by decide) Cx.1 hb hX hbl hS hl rfl rfl ?_
  refine lw_arg (pc := 381) (j := 2) (k0 := 3) (k3 := 0) dl_381 dl_382 dl_383 dl_384 dl_385 rfl (by decide) Cx.1 hb hX hbl hS hl rfl rfl ?_
  refine pt_call (X := X_lw meth.name) (pc := 386) (av := [.ref ax, .int (xs 1), .int (xs 2)]) (st := []) m_X8_corea lr8_core Cx hT hHp hP hD hS hl.1 ⟨⟨some ax, rfl, Or.inr ⟨0, ax, rfl, hax, rfl⟩⟩, ⟨_, rfl, hr1⟩, ⟨_, rfl, hr2⟩, trivial⟩ (Nat.zero_le _) rfl (zrecv (k := 0) hHp hax kB_x) hcb hsb (fun Ch1 r h1 ws1 ov H1 locs1 hov hk1 hHp1 hpre1 hP1 hD1 hS1 => ?_)
  obtain ⟨i9, kd9, len9, x9, e9, hg9, hk2⟩ := zat_t hk1
  obtain ⟨hkd, hk3⟩ := zcnd_t hk2
  have ham1 := zPre_at hpre1 ham
  have e165 : i9 = 165 := by omega
  rw [e165] at hg9
  refine lv_aload_n (pc := 389) Cx.1 hb dl_389 rfl (lv_at hl 1 rfl) ?_
  refine lw_arg (pc := 390) (j := 1) (k0 := 3) (k3 := 0) dl_390 dl_391 dl_392 dl_393 dl_394 rfl (by decide) Cx.1 hb hX hbl hS1 hl rfl rfl ?_
  refine lw_arg (pc := 395) (j := 2) (k0 := 3) (k3 := 0) dl_395 dl_396 dl_397 dl_398 dl_399 rfl (by decide) Cx.1 hb hX hbl hS1 hl rfl rfl ?_
  refine pt_call (X := X_lw meth.name) (pc := 400) (Ch := Ch1) (av := [.ref am, .int (xs 1), .int (xs 2)]) (st := ov.toList ++ []) m_X9_corea lr9_core Cx hk3 hHp1 hP1 hD1 hS1 hl.1 ⟨⟨some am, rfl, Or.inr ⟨165, am, rfl, ham1, rfl⟩⟩, ⟨_, rfl, hr1⟩, ⟨_, rfl, hr2⟩, trivial⟩ (zcat1 hov) rfl (zrecv2 (k := 165) hHp1 ham1 hg9 hkd) (by show cells + 0 + (2000 - 0) ≤ 600000; omega) (by show slots + 0 + (200000 - 0) ≤ 7302250; omega) (fun Ch2 r2 h2 ws2 ov2 H2 locs2 hov2 hk4 hHp2 hpre2 hP2 hD2 hS2 => ?_)
  obtain ⟨iv, e1, e2⟩ := zeqI_t hk4 hov hov2
  subst e1
  subst e2
  refine lv_icmp_eq (pc := 403) (tgt := 989) Cx.1 hb dl_403 (by decide) (fun _ => fin _ _ _ _ hS2 (by omega) (by omega)) (fun h => absurd rfl h)

theorem lw_c_hook {p : Program} {l : Launch} {e : Env} {s : State} {m : MethodId} {below : List Frame} {meth : Method} {c : Code} {b : Nat} {xs : Nat → Int32} {cA : Nat → ClassId} {D : va_G} {Q : State → Prop} {Ch : zCh} {ls : Array Slot} {H : Heap} {locs : List Loc} {ws : va_W} {ax am cells slots : Nat}
  (Cx : zCx (X_lw meth.name) cA D p s m #[Value.ref b] meth c (fun q => s.heap.size ≤ q)) (hX : va_X b 6 xs s s.heap) (hbl : b < s.heap.size) (hHp : @zHp Ch 10 cA hB_lw ws) (hP : va_P D zcl ws H) (hD : va_D (fun q => s.heap.size ≤ q) ws) (hS : va_S (fun q => s.heap.size ≤ q) s.heap H locs)
  (hl : lv_has ls 4 [(3, .int 0), (2, .ref am), (1, .ref ax), (0, .ref b)]) (hax : (zad cA ws).1[0]? = some ax) (ham : (zad cA ws).1[165]? = some am) (hcb : cells + 2000 ≤ 600000) (hsb : slots + 200000 ≤ 7302250)
  (fin : ∀ (H1 : Heap) (locs1 : List Loc) (cells1 slots1 : Nat), va_S (fun q => s.heap.size ≤ q) s.heap H1 locs1 → cells1 ≤ 600000 → slots1 ≤ 7302250 → W p l e (zRm 1000 600000 7302250) s m #[Value.ref b] below meth c H1 locs1 cells1 slots1 Q (F0 m 989 ls [])) :
  W p l e (zRm 1000 600000 7302250) s m #[Value.ref b] below meth c H locs cells slots Q (F0 m 408 ls []) := by
  have G : zGh := ⟨(fun _ => 0 : Nat → Nat)⟩
  have hb : c.code = code := Cx.2.1.trans (X_lw_c _)
  obtain ⟨r1, hr1, hT1⟩ := zrgs_i (zlv_cv _) ev_m_hook (xs 1)
  obtain ⟨r2, hr2, hT2⟩ := zrgs_i (zlv_cv _) hT1 (xs 2)
  obtain ⟨r3, hr3, hT3⟩ := zrgs_i (zlv_cv _) hT2 (xs 3)
  have hT : zgo 0 0 f_X8_hooka [zR 1, zI r1, zI r2, zI r3] hB_lw (fun r h => zat h 166 (fun _ _ _ kd _ _ => cond (Nat.beq kd 25) (zgo 0 0 f_X9_hooka [zR 166, zI r1, zI r2, zI r3] h (fun r2 _ => zeqI r r2)) false)) = true := hT3
  refine lv_aload_n Cx.1 hb dl_408 rfl (lv_at hl 2 rfl) ?_
  refine lw_arg (pc := 409) (j := 1) (k0 := 3) (k3 := 0) dl_409 dl_410 dl_411 dl_412 dl_413 rfl (by decide) Cx.1 hb hX hbl hS hl rfl rfl ?_
  refine lw_arg (pc := 414) (j := 2) (k0 := 3) (k3 := 0) dl_414 dl_415 dl_416 dl_417 dl_418 rfl (by decide) Cx.1 hb hX hbl hS hl rfl rfl ?_
  refine lw_arg (pc := 419) (j := 3) (k0 := 3) (k3 := 0) dl_419 dl_420 dl_421 dl_422 dl_423 rfl (by decide) Cx.1 hb hX hbl hS hl rfl rfl ?_
  refine pt_call (X := X_lw meth.name) (pc := 424) (av := [.ref ax, .int (xs 1), .int (xs 2), .int (xs 3)]) (st := []) m_X8_hooka lr8_hook Cx hT hHp hP hD hS hl.1 ⟨⟨some ax, rfl, Or.inr ⟨0, ax, rfl, hax, rfl⟩⟩, ⟨_, rfl, hr1⟩, ⟨_, rfl, hr2⟩, ⟨_, rfl, hr3⟩, trivial⟩ (Nat.zero_le _) rfl (zrecv (k := 0) hHp hax kB_x) hcb hsb (fun Ch1 r h1 ws1 ov H1 locs1 hov hk1 hHp1 hpre1 hP1 hD1 hS1 => ?_)
  obtain ⟨i9, kd9, len9, x9, e9, hg9, hk2⟩ := zat_t hk1
  obtain ⟨hkd, hk3⟩ := zcnd_t hk2
  have ham1 := zPre_at hpre1 ham
  have e165 : i9 = 165 := by omega
  rw [e165] at hg9
  refine lv_aload_n (pc := 427) Cx.1 hb dl_427 rfl (lv_at hl 1 rfl) ?_
  refine lw_arg (pc := 428) (j := 1) (k0 := 3) (k3 := 0) dl_428 dl_429 dl_430 dl_431 dl_432 rfl (by decide) Cx.1 hb hX hbl hS1 hl rfl rfl ?_
  refine lw_arg (pc := 433) (j := 2) (k0 := 3) (k3 := 0) dl_433 dl_434 dl_435 dl_436 dl_437 rfl (by decide) Cx.1 hb hX hbl hS1 hl rfl rfl ?_
  refine lw_arg (pc := 438) (j := 3) (k0 := 3) (k3 := 0) dl_438 dl_439 dl_440 dl_441 dl_442 rfl (by decide) Cx.1 hb hX hbl hS1 hl rfl rfl ?_
  refine pt_call (X := X_lw meth.name) (pc := 443) (Ch := Ch1) (av := [.ref am, .int (xs 1), .int (xs 2), .int (xs 3)]) (st := ov.toList ++ []) m_X9_hooka lr9_hook Cx hk3 hHp1 hP1 hD1 hS1 hl.1 ⟨⟨some am, rfl, Or.inr ⟨165, am, rfl, ham1, rfl⟩⟩, ⟨_, rfl, hr1⟩, ⟨_, rfl, hr2⟩, ⟨_, rfl, hr3⟩, trivial⟩ (zcat1 hov) rfl (zrecv2 (k := 165) hHp1 ham1 hg9 hkd) (by show cells + 0 + (2000 - 0) ≤ 600000; omega) (by show slots + 0 + (200000 - 0) ≤ 7302250; omega) (fun Ch2 r2 h2 ws2 ov2 H2 locs2 hov2 hk4 hHp2 hpre2 hP2 hD2 hS2 => ?_)
  obtain ⟨iv, e1, e2⟩ := zeqI_t hk4 hov hov2
  subst e1
  subst e2
  refine lv_icmp_eq (pc := 446) (tgt := 989) Cx.1 hb dl_446 (by decide) (fun _ => fin _ _ _ _ hS2 (by omega) (by omega)) (fun h => absurd rfl h)

theorem lw_c_classOf {p : Program} {l : Launch} {e : Env} {s : State} {m : MethodId} {below : List Frame} {meth : Method} {c : Code} {b : Nat} {xs : Nat → Int32} {cA : Nat → ClassId} {D : va_G} {Q : State → Prop} {Ch : zCh} {ls : Array Slot} {H : Heap} {locs : List Loc} {ws : va_W} {ax am cells slots : Nat}
  (Cx : zCx (X_lw meth.name) cA D p s m #[Value.ref b] meth c (fun q => s.heap.size ≤ q)) (hX : va_X b 6 xs s s.heap) (hbl : b < s.heap.size) (hHp : @zHp Ch 10 cA hB_lw ws) (hP : va_P D zcl ws H) (hD : va_D (fun q => s.heap.size ≤ q) ws) (hS : va_S (fun q => s.heap.size ≤ q) s.heap H locs)
  (hl : lv_has ls 4 [(3, .int 0), (2, .ref am), (1, .ref ax), (0, .ref b)]) (hax : (zad cA ws).1[0]? = some ax) (ham : (zad cA ws).1[165]? = some am) (hcb : cells + 2000 ≤ 600000) (hsb : slots + 200000 ≤ 7302250)
  (fin : ∀ (H1 : Heap) (locs1 : List Loc) (cells1 slots1 : Nat), va_S (fun q => s.heap.size ≤ q) s.heap H1 locs1 → cells1 ≤ 600000 → slots1 ≤ 7302250 → W p l e (zRm 1000 600000 7302250) s m #[Value.ref b] below meth c H1 locs1 cells1 slots1 Q (F0 m 989 ls [])) :
  W p l e (zRm 1000 600000 7302250) s m #[Value.ref b] below meth c H locs cells slots Q (F0 m 451 ls []) := by
  have G : zGh := ⟨(fun _ => 0 : Nat → Nat)⟩
  have hb : c.code = code := Cx.2.1.trans (X_lw_c _)
  obtain ⟨r1, hr1, hT1⟩ := zrgs_i (zlv_cv _) ev_m_classOf (xs 1)
  obtain ⟨r2, hr2, hT2⟩ := zrgs_i (zlv_cv _) hT1 (xs 2)
  have hT : zgo 0 0 f_X8_classOfa [zR 1, zI r1, zI r2] hB_lw (fun r h => zat h 166 (fun _ _ _ kd _ _ => cond (Nat.beq kd 25) (zgo 0 0 f_X9_classOfa [zR 166, zI r1, zI r2] h (fun r2 _ => zeqI r r2)) false)) = true := hT2
  refine lv_aload_n Cx.1 hb dl_451 rfl (lv_at hl 2 rfl) ?_
  refine lw_arg (pc := 452) (j := 1) (k0 := 3) (k3 := 0) dl_452 dl_453 dl_454 dl_455 dl_456 rfl (by decide) Cx.1 hb hX hbl hS hl rfl rfl ?_
  refine lw_arg (pc := 457) (j := 2) (k0 := 3) (k3 := 0) dl_457 dl_458 dl_459 dl_460 dl_461 rfl (by decide) Cx.1 hb hX hbl hS hl rfl rfl ?_
  refine pt_call (X := X_lw meth.name) (pc := 462) (av := [.ref ax, .int (xs 1), .int (xs 2)]) (st := []) m_X8_classOfa lr8_classOf Cx hT hHp hP hD hS hl.1 ⟨⟨some ax, rfl, Or.inr ⟨0, ax, rfl, hax, rfl⟩⟩, ⟨_, rfl, hr1⟩, ⟨_, rfl, hr2⟩, trivial⟩ (Nat.zero_le _) rfl (zrecv (k := 0) hHp hax kB_x) hcb hsb (fun Ch1 r h1 ws1 ov H1 locs1 hov hk1 hHp1 hpre1 hP1 hD1 hS1 => ?_)
  obtain ⟨i9, kd9, len9, x9, e9, hg9, hk2⟩ := zat_t hk1
  obtain ⟨hkd, hk3⟩ := zcnd_t hk2
  have ham1 := zPre_at hpre1 ham
  have e165 : i9 = 165 := by omega
  rw [e165] at hg9
  refine lv_aload_n (pc := 465) Cx.1 hb dl_465 rfl (lv_at hl 1 rfl) ?_
  refine lw_arg (pc := 466) (j := 1) (k0 := 3) (k3 := 0) dl_466 dl_467 dl_468 dl_469 dl_470 rfl (by decide) Cx.1 hb hX hbl hS1 hl rfl rfl ?_
  refine lw_arg (pc := 471) (j := 2) (k0 := 3) (k3 := 0) dl_471 dl_472 dl_473 dl_474 dl_475 rfl (by decide) Cx.1 hb hX hbl hS1 hl rfl rfl ?_
  refine pt_call (X := X_lw meth.name) (pc := 476) (Ch := Ch1) (av := [.ref am, .int (xs 1), .int (xs 2)]) (st := ov.toList ++ []) m_X9_classOfa lr9_classOf Cx hk3 hHp1 hP1 hD1 hS1 hl.1 ⟨⟨some am, rfl, Or.inr ⟨165, am, rfl, ham1, rfl⟩⟩, ⟨_, rfl, hr1⟩, ⟨_, rfl, hr2⟩, trivial⟩ (zcat1 hov) rfl (zrecv2 (k := 165) hHp1 ham1 hg9 hkd) (by show cells + 0 + (2000 - 0) ≤ 600000; omega) (by show slots + 0 + (200000 - 0) ≤ 7302250; omega) (fun Ch2 r2 h2 ws2 ov2 H2 locs2 hov2 hk4 hHp2 hpre2 hP2 hD2 hS2 => ?_)
  obtain ⟨iv, e1, e2⟩ := zeqI_t hk4 hov hov2
  subst e1
  subst e2
  refine lv_icmp_eq (pc := 479) (tgt := 989) Cx.1 hb dl_479 (by decide) (fun _ => fin _ _ _ _ hS2 (by omega) (by omega)) (fun h => absurd rfl h)

theorem lw_c_character {p : Program} {l : Launch} {e : Env} {s : State} {m : MethodId} {below : List Frame} {meth : Method} {c : Code} {b : Nat} {xs : Nat → Int32} {cA : Nat → ClassId} {D : va_G} {Q : State → Prop} {Ch : zCh} {ls : Array Slot} {H : Heap} {locs : List Loc} {ws : va_W} {ax am cells slots : Nat}
  (Cx : zCx (X_lw meth.name) cA D p s m #[Value.ref b] meth c (fun q => s.heap.size ≤ q)) (hX : va_X b 6 xs s s.heap) (hbl : b < s.heap.size) (hHp : @zHp Ch 10 cA hB_lw ws) (hP : va_P D zcl ws H) (hD : va_D (fun q => s.heap.size ≤ q) ws) (hS : va_S (fun q => s.heap.size ≤ q) s.heap H locs)
  (hl : lv_has ls 4 [(3, .int 0), (2, .ref am), (1, .ref ax), (0, .ref b)]) (hax : (zad cA ws).1[0]? = some ax) (ham : (zad cA ws).1[165]? = some am) (hcb : cells + 2000 ≤ 600000) (hsb : slots + 200000 ≤ 7302250)
  (fin : ∀ (H1 : Heap) (locs1 : List Loc) (cells1 slots1 : Nat), va_S (fun q => s.heap.size ≤ q) s.heap H1 locs1 → cells1 ≤ 600000 → slots1 ≤ 7302250 → W p l e (zRm 1000 600000 7302250) s m #[Value.ref b] below meth c H1 locs1 cells1 slots1 Q (F0 m 989 ls [])) :
  W p l e (zRm 1000 600000 7302250) s m #[Value.ref b] below meth c H locs cells slots Q (F0 m 484 ls []) := by
  have G : zGh := ⟨(fun _ => 0 : Nat → Nat)⟩
  have hb : c.code = code := Cx.2.1.trans (X_lw_c _)
  obtain ⟨r1, hr1, hT1⟩ := zrgs_i (zlv_cv _) ev_m_character (xs 1)
  obtain ⟨r2, hr2, hT2⟩ := zrgs_i (zlv_cv _) hT1 (xs 2)
  have hT : zgo 0 0 f_X8_charactera [zR 1, zI r1, zI r2] hB_lw (fun r h => zat h 166 (fun _ _ _ kd _ _ => cond (Nat.beq kd 25) (zgo 0 0 f_X9_charactera [zR 166, zI r1, zI r2] h (fun r2 _ => zeqI r r2)) false)) = true := hT2
  refine lv_aload_n Cx.1 hb dl_484 rfl (lv_at hl 2 rfl) ?_
  refine lw_arg (pc := 485) (j := 1) (k0 := 3) (k3 := 0) dl_485 dl_486 dl_487 dl_488 dl_489 rfl (by decide) Cx.1 hb hX hbl hS hl rfl rfl ?_
  refine lw_arg (pc := 490) (j := 2) (k0 := 3) (k3 := 0) dl_490 dl_491 dl_492 dl_493 dl_494 rfl (by decide) Cx.1 hb hX hbl hS hl rfl rfl ?_
  refine pt_call (X := X_lw meth.name) (pc := 495) (av := [.ref ax, .int (xs 1), .int (xs 2)]) (st := []) m_X8_charactera lr8_character Cx hT hHp hP hD hS hl.1 ⟨⟨some ax, rfl, Or.inr ⟨0, ax, rfl, hax, rfl⟩⟩, ⟨_, rfl, hr1⟩, ⟨_, rfl, hr2⟩, trivial⟩ (Nat.zero_le _) rfl (zrecv (k := 0) hHp hax kB_x) hcb hsb (fun Ch1 r h1 ws1 ov H1 locs1 hov hk1 hHp1 hpre1 hP1 hD1 hS1 => ?_)
  obtain ⟨i9, kd9, len9, x9, e9, hg9, hk2⟩ := zat_t hk1
  obtain ⟨hkd, hk3⟩ := zcnd_t hk2
  have ham1 := zPre_at hpre1 ham
  have e165 : i9 = 165 := by omega
  rw [e165] at hg9
  refine lv_aload_n (pc := 498) Cx.1 hb dl_498 rfl (lv_at hl 1 rfl) ?_
  refine lw_arg (pc := 499) (j := 1) (k0 := 3) (k3 := 0) dl_499 dl_500 dl_501 dl_502 dl_503 rfl (by decide) Cx.1 hb hX hbl hS1 hl rfl rfl ?_
  refine lw_arg (pc := 504) (j := 2) (k0 := 3) (k3 := 0) dl_504 dl_505 dl_506 dl_507 dl_508 rfl (by decide) Cx.1 hb hX hbl hS1 hl rfl rfl ?_
  refine pt_call (X := X_lw meth.name) (pc := 509) (Ch := Ch1) (av := [.ref am, .int (xs 1), .int (xs 2)]) (st := ov.toList ++ []) m_X9_charactera lr9_character Cx hk3 hHp1 hP1 hD1 hS1 hl.1 ⟨⟨some am, rfl, Or.inr ⟨165, am, rfl, ham1, rfl⟩⟩, ⟨_, rfl, hr1⟩, ⟨_, rfl, hr2⟩, trivial⟩ (zcat1 hov) rfl (zrecv2 (k := 165) hHp1 ham1 hg9 hkd) (by show cells + 0 + (2000 - 0) ≤ 600000; omega) (by show slots + 0 + (200000 - 0) ≤ 7302250; omega) (fun Ch2 r2 h2 ws2 ov2 H2 locs2 hov2 hk4 hHp2 hpre2 hP2 hD2 hS2 => ?_)
  obtain ⟨iv, e1, e2⟩ := zeqI_t hk4 hov hov2
  subst e1
  subst e2
  refine lv_icmp_eq (pc := 512) (tgt := 989) Cx.1 hb dl_512 (by decide) (fun _ => fin _ _ _ _ hS2 (by omega) (by omega)) (fun h => absurd rfl h)

theorem lw_c_modular {p : Program} {l : Launch} {e : Env} {s : State} {m : MethodId} {below : List Frame} {meth : Method} {c : Code} {b : Nat} {xs : Nat → Int32} {cA : Nat → ClassId} {D : va_G} {Q : State → Prop} {Ch : zCh} {ls : Array Slot} {H : Heap} {locs : List Loc} {ws : va_W} {ax am cells slots : Nat}
  (Cx : zCx (X_lw meth.name) cA D p s m #[Value.ref b] meth c (fun q => s.heap.size ≤ q)) (hX : va_X b 6 xs s s.heap) (hbl : b < s.heap.size) (hHp : @zHp Ch 10 cA hB_lw ws) (hP : va_P D zcl ws H) (hD : va_D (fun q => s.heap.size ≤ q) ws) (hS : va_S (fun q => s.heap.size ≤ q) s.heap H locs)
  (hl : lv_has ls 4 [(3, .int 0), (2, .ref am), (1, .ref ax), (0, .ref b)]) (hax : (zad cA ws).1[0]? = some ax) (ham : (zad cA ws).1[165]? = some am) (hcb : cells + 2000 ≤ 600000) (hsb : slots + 200000 ≤ 7302250)
  (fin : ∀ (H1 : Heap) (locs1 : List Loc) (cells1 slots1 : Nat), va_S (fun q => s.heap.size ≤ q) s.heap H1 locs1 → cells1 ≤ 600000 → slots1 ≤ 7302250 → W p l e (zRm 1000 600000 7302250) s m #[Value.ref b] below meth c H1 locs1 cells1 slots1 Q (F0 m 989 ls [])) :
  W p l e (zRm 1000 600000 7302250) s m #[Value.ref b] below meth c H locs cells slots Q (F0 m 517 ls []) := by
  have G : zGh := ⟨(fun _ => 0 : Nat → Nat)⟩
  have hb : c.code = code := Cx.2.1.trans (X_lw_c _)
  obtain ⟨r1, hr1, hT1⟩ := zrgs_i (zlv_cv _) ev_m_modular (xs 1)
  obtain ⟨r2, hr2, hT2⟩ := zrgs_i (zlv_cv _) hT1 (xs 2)
  have hT : zgo 0 0 f_X8_modulara [zR 1, zI r1, zI r2] hB_lw (fun r h => zat h 166 (fun _ _ _ kd _ _ => cond (Nat.beq kd 25) (zgo 0 0 f_X9_modulara [zR 166, zI r1, zI r2] h (fun r2 _ => zeqI r r2)) false)) = true := hT2
  refine lv_aload_n Cx.1 hb dl_517 rfl (lv_at hl 2 rfl) ?_
  refine lw_arg (pc := 518) (j := 1) (k0 := 3) (k3 := 0) dl_518 dl_519 dl_520 dl_521 dl_522 rfl (by decide) Cx.1 hb hX hbl hS hl rfl rfl ?_
  refine lw_arg (pc := 523) (j := 2) (k0 := 3) (k3 := 0) dl_523 dl_524 dl_525 dl_526 dl_527 rfl (by decide) Cx.1 hb hX hbl hS hl rfl rfl ?_
  refine pt_call (X := X_lw meth.name) (pc := 528) (av := [.ref ax, .int (xs 1), .int (xs 2)]) (st := []) m_X8_modulara lr8_modular Cx hT hHp hP hD hS hl.1 ⟨⟨some ax, rfl, Or.inr ⟨0, ax, rfl, hax, rfl⟩⟩, ⟨_, rfl, hr1⟩, ⟨_, rfl, hr2⟩, trivial⟩ (Nat.zero_le _) rfl (zrecv (k := 0) hHp hax kB_x) hcb hsb (fun Ch1 r h1 ws1 ov H1 locs1 hov hk1 hHp1 hpre1 hP1 hD1 hS1 => ?_)
  obtain ⟨i9, kd9, len9, x9, e9, hg9, hk2⟩ := zat_t hk1
  obtain ⟨hkd, hk3⟩ := zcnd_t hk2
  have ham1 := zPre_at hpre1 ham
  have e165 : i9 = 165 := by omega
  rw [e165] at hg9
  refine lv_aload_n (pc := 531) Cx.1 hb dl_531 rfl (lv_at hl 1 rfl) ?_
  refine lw_arg (pc := 532) (j := 1) (k0 := 3) (k3 := 0) dl_532 dl_533 dl_534 dl_535 dl_536 rfl (by decide) Cx.1 hb hX hbl hS1 hl rfl rfl ?_
  refine lw_arg (pc := 537) (j := 2) (k0 := 3) (k3 := 0) dl_537 dl_538 dl_539 dl_540 dl_541 rfl (by decide) Cx.1 hb hX hbl hS1 hl rfl rfl ?_
  refine pt_call (X := X_lw meth.name) (pc := 542) (Ch := Ch1) (av := [.ref am, .int (xs 1), .int (xs 2)]) (st := ov.toList ++ []) m_X9_modulara lr9_modular Cx hk3 hHp1 hP1 hD1 hS1 hl.1 ⟨⟨some am, rfl, Or.inr ⟨165, am, rfl, ham1, rfl⟩⟩, ⟨_, rfl, hr1⟩, ⟨_, rfl, hr2⟩, trivial⟩ (zcat1 hov) rfl (zrecv2 (k := 165) hHp1 ham1 hg9 hkd) (by show cells + 0 + (2000 - 0) ≤ 600000; omega) (by show slots + 0 + (200000 - 0) ≤ 7302250; omega) (fun Ch2 r2 h2 ws2 ov2 H2 locs2 hov2 hk4 hHp2 hpre2 hP2 hD2 hS2 => ?_)
  obtain ⟨iv, e1, e2⟩ := zeqI_t hk4 hov hov2
  subst e1
  subst e2
  refine lv_icmp_eq (pc := 545) (tgt := 989) Cx.1 hb dl_545 (by decide) (fun _ => fin _ _ _ _ hS2 (by omega) (by omega)) (fun h => absurd rfl h)

theorem lw_c_projective {p : Program} {l : Launch} {e : Env} {s : State} {m : MethodId} {below : List Frame} {meth : Method} {c : Code} {b : Nat} {xs : Nat → Int32} {cA : Nat → ClassId} {D : va_G} {Q : State → Prop} {Ch : zCh} {ls : Array Slot} {H : Heap} {locs : List Loc} {ws : va_W} {ax am cells slots : Nat}
  (Cx : zCx (X_lw meth.name) cA D p s m #[Value.ref b] meth c (fun q => s.heap.size ≤ q)) (hX : va_X b 6 xs s s.heap) (hbl : b < s.heap.size) (hHp : @zHp Ch 10 cA hB_lw ws) (hP : va_P D zcl ws H) (hD : va_D (fun q => s.heap.size ≤ q) ws) (hS : va_S (fun q => s.heap.size ≤ q) s.heap H locs)
  (hl : lv_has ls 4 [(3, .int 0), (2, .ref am), (1, .ref ax), (0, .ref b)]) (hax : (zad cA ws).1[0]? = some ax) (ham : (zad cA ws).1[165]? = some am) (hcb : cells + 2000 ≤ 600000) (hsb : slots + 200000 ≤ 7302250)
  (fin : ∀ (H1 : Heap) (locs1 : List Loc) (cells1 slots1 : Nat), va_S (fun q => s.heap.size ≤ q) s.heap H1 locs1 → cells1 ≤ 600000 → slots1 ≤ 7302250 → W p l e (zRm 1000 600000 7302250) s m #[Value.ref b] below meth c H1 locs1 cells1 slots1 Q (F0 m 989 ls [])) :
  W p l e (zRm 1000 600000 7302250) s m #[Value.ref b] below meth c H locs cells slots Q (F0 m 550 ls []) := by
  have G : zGh := ⟨(fun _ => 0 : Nat → Nat)⟩
  have hb : c.code = code := Cx.2.1.trans (X_lw_c _)
  obtain ⟨r1, hr1, hT1⟩ := zrgs_i (zlv_cv _) ev_m_projective (xs 1)
  obtain ⟨r2, hr2, hT2⟩ := zrgs_i (zlv_cv _) hT1 (xs 2)
  have hT : zgo 0 0 f_X8_projectivea [zR 1, zI r1, zI r2] hB_lw (fun r h => zat h 166 (fun _ _ _ kd _ _ => cond (Nat.beq kd 25) (zgo 0 0 f_X9_projectivea [zR 166, zI r1, zI r2] h (fun r2 _ => zeqI r r2)) false)) = true := hT2
  refine lv_aload_n Cx.1 hb dl_550 rfl (lv_at hl 2 rfl) ?_
  refine lw_arg (pc := 551) (j := 1) (k0 := 3) (k3 := 0) dl_551 dl_552 dl_553 dl_554 dl_555 rfl (by decide) Cx.1 hb hX hbl hS hl rfl rfl ?_
  refine lw_arg (pc := 556) (j := 2) (k0 := 3) (k3 := 0) dl_556 dl_557 dl_558 dl_559 dl_560 rfl (by decide) Cx.1 hb hX hbl hS hl rfl rfl ?_
  refine pt_call (X := X_lw meth.name) (pc := 561) (av := [.ref ax, .int (xs 1), .int (xs 2)]) (st := []) m_X8_projectivea lr8_projective Cx hT hHp hP hD hS hl.1 ⟨⟨some ax, rfl, Or.inr ⟨0, ax, rfl, hax, rfl⟩⟩, ⟨_, rfl, hr1⟩, ⟨_, rfl, hr2⟩, trivial⟩ (Nat.zero_le _) rfl (zrecv (k := 0) hHp hax kB_x) hcb hsb (fun Ch1 r h1 ws1 ov H1 locs1 hov hk1 hHp1 hpre1 hP1 hD1 hS1 => ?_)
  obtain ⟨i9, kd9, len9, x9, e9, hg9, hk2⟩ := zat_t hk1
  obtain ⟨hkd, hk3⟩ := zcnd_t hk2
  have ham1 := zPre_at hpre1 ham
  have e165 : i9 = 165 := by omega
  rw [e165] at hg9
  refine lv_aload_n (pc := 564) Cx.1 hb dl_564 rfl (lv_at hl 1 rfl) ?_
  refine lw_arg (pc := 565) (j := 1) (k0 := 3) (k3 := 0) dl_565 dl_566 dl_567 dl_568 dl_569 rfl (by decide) Cx.1 hb hX hbl hS1 hl rfl rfl ?_
  refine lw_arg (pc := 570) (j := 2) (k0 := 3) (k3 := 0) dl_570 dl_571 dl_572 dl_573 dl_574 rfl (by decide) Cx.1 hb hX hbl hS1 hl rfl rfl ?_
  refine pt_call (X := X_lw meth.name) (pc := 575) (Ch := Ch1) (av := [.ref am, .int (xs 1), .int (xs 2)]) (st := ov.toList ++ []) m_X9_projectivea lr9_projective Cx hk3 hHp1 hP1 hD1 hS1 hl.1 ⟨⟨some am, rfl, Or.inr ⟨165, am, rfl, ham1, rfl⟩⟩, ⟨_, rfl, hr1⟩, ⟨_, rfl, hr2⟩, trivial⟩ (zcat1 hov) rfl (zrecv2 (k := 165) hHp1 ham1 hg9 hkd) (by show cells + 0 + (2000 - 0) ≤ 600000; omega) (by show slots + 0 + (200000 - 0) ≤ 7302250; omega) (fun Ch2 r2 h2 ws2 ov2 H2 locs2 hov2 hk4 hHp2 hpre2 hP2 hD2 hS2 => ?_)
  obtain ⟨iv, e1, e2⟩ := zeqI_t hk4 hov hov2
  subst e1
  subst e2
  refine lv_icmp_eq (pc := 578) (tgt := 989) Cx.1 hb dl_578 (by decide) (fun _ => fin _ _ _ _ hS2 (by omega) (by omega)) (fun h => absurd rfl h)

theorem lw_c_decomposition {p : Program} {l : Launch} {e : Env} {s : State} {m : MethodId} {below : List Frame} {meth : Method} {c : Code} {b : Nat} {xs : Nat → Int32} {cA : Nat → ClassId} {D : va_G} {Q : State → Prop} {Ch : zCh} {ls : Array Slot} {H : Heap} {locs : List Loc} {ws : va_W} {ax am cells slots : Nat}
  (Cx : zCx (X_lw meth.name) cA D p s m #[Value.ref b] meth c (fun q => s.heap.size ≤ q)) (hX : va_X b 6 xs s s.heap) (hbl : b < s.heap.size) (hHp : @zHp Ch 10 cA hB_lw ws) (hP : va_P D zcl ws H) (hD : va_D (fun q => s.heap.size ≤ q) ws) (hS : va_S (fun q => s.heap.size ≤ q) s.heap H locs)
  (hl : lv_has ls 4 [(3, .int 0), (2, .ref am), (1, .ref ax), (0, .ref b)]) (hax : (zad cA ws).1[0]? = some ax) (ham : (zad cA ws).1[165]? = some am) (hcb : cells + 2000 ≤ 600000) (hsb : slots + 200000 ≤ 7302250)
  (fin : ∀ (H1 : Heap) (locs1 : List Loc) (cells1 slots1 : Nat), va_S (fun q => s.heap.size ≤ q) s.heap H1 locs1 → cells1 ≤ 600000 → slots1 ≤ 7302250 → W p l e (zRm 1000 600000 7302250) s m #[Value.ref b] below meth c H1 locs1 cells1 slots1 Q (F0 m 989 ls [])) :
  W p l e (zRm 1000 600000 7302250) s m #[Value.ref b] below meth c H locs cells slots Q (F0 m 583 ls []) := by
  have G : zGh := ⟨(fun _ => 0 : Nat → Nat)⟩
  have hb : c.code = code := Cx.2.1.trans (X_lw_c _)
  obtain ⟨r1, hr1, hT1⟩ := zrgs_i (zlv_cv _) ev_m_decomposition (xs 1)
  obtain ⟨r2, hr2, hT2⟩ := zrgs_i (zlv_cv _) hT1 (xs 2)
  have hT : zgo 0 0 f_X8_decompositiona [zR 1, zI r1, zI r2] hB_lw (fun r h => zat h 166 (fun _ _ _ kd _ _ => cond (Nat.beq kd 25) (zgo 0 0 f_X9_decompositiona [zR 166, zI r1, zI r2] h (fun r2 _ => zeqI r r2)) false)) = true := hT2
  refine lv_aload_n Cx.1 hb dl_583 rfl (lv_at hl 2 rfl) ?_
  refine lw_arg (pc := 584) (j := 1) (k0 := 3) (k3 := 0) dl_584 dl_585 dl_586 dl_587 dl_588 rfl (by decide) Cx.1 hb hX hbl hS hl rfl rfl ?_
  refine lw_arg (pc := 589) (j := 2) (k0 := 3) (k3 := 0) dl_589 dl_590 dl_591 dl_592 dl_593 rfl (by decide) Cx.1 hb hX hbl hS hl rfl rfl ?_
  refine pt_call (X := X_lw meth.name) (pc := 594) (av := [.ref ax, .int (xs 1), .int (xs 2)]) (st := []) m_X8_decompositiona lr8_decomposition Cx hT hHp hP hD hS hl.1 ⟨⟨some ax, rfl, Or.inr ⟨0, ax, rfl, hax, rfl⟩⟩, ⟨_, rfl, hr1⟩, ⟨_, rfl, hr2⟩, trivial⟩ (Nat.zero_le _) rfl (zrecv (k := 0) hHp hax kB_x) hcb hsb (fun Ch1 r h1 ws1 ov H1 locs1 hov hk1 hHp1 hpre1 hP1 hD1 hS1 => ?_)
  obtain ⟨i9, kd9, len9, x9, e9, hg9, hk2⟩ := zat_t hk1
  obtain ⟨hkd, hk3⟩ := zcnd_t hk2
  have ham1 := zPre_at hpre1 ham
  have e165 : i9 = 165 := by omega
  rw [e165] at hg9
  refine lv_aload_n (pc := 597) Cx.1 hb dl_597 rfl (lv_at hl 1 rfl) ?_
  refine lw_arg (pc := 598) (j := 1) (k0 := 3) (k3 := 0) dl_598 dl_599 dl_600 dl_601 dl_602 rfl (by decide) Cx.1 hb hX hbl hS1 hl rfl rfl ?_
  refine lw_arg (pc := 603) (j := 2) (k0 := 3) (k3 := 0) dl_603 dl_604 dl_605 dl_606 dl_607 rfl (by decide) Cx.1 hb hX hbl hS1 hl rfl rfl ?_
  refine pt_call (X := X_lw meth.name) (pc := 608) (Ch := Ch1) (av := [.ref am, .int (xs 1), .int (xs 2)]) (st := ov.toList ++ []) m_X9_decompositiona lr9_decomposition Cx hk3 hHp1 hP1 hD1 hS1 hl.1 ⟨⟨some am, rfl, Or.inr ⟨165, am, rfl, ham1, rfl⟩⟩, ⟨_, rfl, hr1⟩, ⟨_, rfl, hr2⟩, trivial⟩ (zcat1 hov) rfl (zrecv2 (k := 165) hHp1 ham1 hg9 hkd) (by show cells + 0 + (2000 - 0) ≤ 600000; omega) (by show slots + 0 + (200000 - 0) ≤ 7302250; omega) (fun Ch2 r2 h2 ws2 ov2 H2 locs2 hov2 hk4 hHp2 hpre2 hP2 hD2 hS2 => ?_)
  obtain ⟨iv, e1, e2⟩ := zeqI_t hk4 hov hov2
  subst e1
  subst e2
  refine lv_icmp_eq (pc := 611) (tgt := 989) Cx.1 hb dl_611 (by decide) (fun _ => fin _ _ _ _ hS2 (by omega) (by omega)) (fun h => absurd rfl h)

theorem lw_c_cartan {p : Program} {l : Launch} {e : Env} {s : State} {m : MethodId} {below : List Frame} {meth : Method} {c : Code} {b : Nat} {xs : Nat → Int32} {cA : Nat → ClassId} {D : va_G} {Q : State → Prop} {Ch : zCh} {ls : Array Slot} {H : Heap} {locs : List Loc} {ws : va_W} {ax am cells slots : Nat}
  (Cx : zCx (X_lw meth.name) cA D p s m #[Value.ref b] meth c (fun q => s.heap.size ≤ q)) (hX : va_X b 6 xs s s.heap) (hbl : b < s.heap.size) (hHp : @zHp Ch 10 cA hB_lw ws) (hP : va_P D zcl ws H) (hD : va_D (fun q => s.heap.size ≤ q) ws) (hS : va_S (fun q => s.heap.size ≤ q) s.heap H locs)
  (hl : lv_has ls 4 [(3, .int 0), (2, .ref am), (1, .ref ax), (0, .ref b)]) (hax : (zad cA ws).1[0]? = some ax) (ham : (zad cA ws).1[165]? = some am) (hcb : cells + 2000 ≤ 600000) (hsb : slots + 200000 ≤ 7302250)
  (fin : ∀ (H1 : Heap) (locs1 : List Loc) (cells1 slots1 : Nat), va_S (fun q => s.heap.size ≤ q) s.heap H1 locs1 → cells1 ≤ 600000 → slots1 ≤ 7302250 → W p l e (zRm 1000 600000 7302250) s m #[Value.ref b] below meth c H1 locs1 cells1 slots1 Q (F0 m 989 ls [])) :
  W p l e (zRm 1000 600000 7302250) s m #[Value.ref b] below meth c H locs cells slots Q (F0 m 616 ls []) := by
  have G : zGh := ⟨(fun _ => 0 : Nat → Nat)⟩
  have hb : c.code = code := Cx.2.1.trans (X_lw_c _)
  obtain ⟨r1, hr1, hT1⟩ := zrgs_i (zlv_cv _) ev_m_cartan (xs 1)
  obtain ⟨r2, hr2, hT2⟩ := zrgs_i (zlv_cv _) hT1 (xs 2)
  have hT : zgo 0 0 f_X8_cartana [zR 1, zI r1, zI r2] hB_lw (fun r h => zat h 166 (fun _ _ _ kd _ _ => cond (Nat.beq kd 25) (zgo 0 0 f_X9_cartana [zR 166, zI r1, zI r2] h (fun r2 _ => zeqI r r2)) false)) = true := hT2
  refine lv_aload_n Cx.1 hb dl_616 rfl (lv_at hl 2 rfl) ?_
  refine lw_arg (pc := 617) (j := 1) (k0 := 3) (k3 := 0) dl_617 dl_618 dl_619 dl_620 dl_621 rfl (by decide) Cx.1 hb hX hbl hS hl rfl rfl ?_
  refine lw_arg (pc := 622) (j := 2) (k0 := 3) (k3 := 0) dl_622 dl_623 dl_624 dl_625 dl_626 rfl (by decide) Cx.1 hb hX hbl hS hl rfl rfl ?_
  refine pt_call (X := X_lw meth.name) (pc := 627) (av := [.ref ax, .int (xs 1), .int (xs 2)]) (st := []) m_X8_cartana lr8_cartan Cx hT hHp hP hD hS hl.1 ⟨⟨some ax, rfl, Or.inr ⟨0, ax, rfl, hax, rfl⟩⟩, ⟨_, rfl, hr1⟩, ⟨_, rfl, hr2⟩, trivial⟩ (Nat.zero_le _) rfl (zrecv (k := 0) hHp hax kB_x) hcb hsb (fun Ch1 r h1 ws1 ov H1 locs1 hov hk1 hHp1 hpre1 hP1 hD1 hS1 => ?_)
  obtain ⟨i9, kd9, len9, x9, e9, hg9, hk2⟩ := zat_t hk1
  obtain ⟨hkd, hk3⟩ := zcnd_t hk2
  have ham1 := zPre_at hpre1 ham
  have e165 : i9 = 165 := by omega
  rw [e165] at hg9
  refine lv_aload_n (pc := 630) Cx.1 hb dl_630 rfl (lv_at hl 1 rfl) ?_
  refine lw_arg (pc := 631) (j := 1) (k0 := 3) (k3 := 0) dl_631 dl_632 dl_633 dl_634 dl_635 rfl (by decide) Cx.1 hb hX hbl hS1 hl rfl rfl ?_
  refine lw_arg (pc := 636) (j := 2) (k0 := 3) (k3 := 0) dl_636 dl_637 dl_638 dl_639 dl_640 rfl (by decide) Cx.1 hb hX hbl hS1 hl rfl rfl ?_
  refine pt_call (X := X_lw meth.name) (pc := 641) (Ch := Ch1) (av := [.ref am, .int (xs 1), .int (xs 2)]) (st := ov.toList ++ []) m_X9_cartana lr9_cartan Cx hk3 hHp1 hP1 hD1 hS1 hl.1 ⟨⟨some am, rfl, Or.inr ⟨165, am, rfl, ham1, rfl⟩⟩, ⟨_, rfl, hr1⟩, ⟨_, rfl, hr2⟩, trivial⟩ (zcat1 hov) rfl (zrecv2 (k := 165) hHp1 ham1 hg9 hkd) (by show cells + 0 + (2000 - 0) ≤ 600000; omega) (by show slots + 0 + (200000 - 0) ≤ 7302250; omega) (fun Ch2 r2 h2 ws2 ov2 H2 locs2 hov2 hk4 hHp2 hpre2 hP2 hD2 hS2 => ?_)
  obtain ⟨iv, e1, e2⟩ := zeqI_t hk4 hov hov2
  subst e1
  subst e2
  refine lv_icmp_eq (pc := 644) (tgt := 989) Cx.1 hb dl_644 (by decide) (fun _ => fin _ _ _ _ hS2 (by omega) (by omega)) (fun h => absurd rfl h)

theorem lw_c_tableau {p : Program} {l : Launch} {e : Env} {s : State} {m : MethodId} {below : List Frame} {meth : Method} {c : Code} {b : Nat} {xs : Nat → Int32} {cA : Nat → ClassId} {D : va_G} {Q : State → Prop} {Ch : zCh} {ls : Array Slot} {H : Heap} {locs : List Loc} {ws : va_W} {ax am cells slots : Nat}
  (Cx : zCx (X_lw meth.name) cA D p s m #[Value.ref b] meth c (fun q => s.heap.size ≤ q)) (hX : va_X b 6 xs s s.heap) (hbl : b < s.heap.size) (hHp : @zHp Ch 10 cA hB_lw ws) (hP : va_P D zcl ws H) (hD : va_D (fun q => s.heap.size ≤ q) ws) (hS : va_S (fun q => s.heap.size ≤ q) s.heap H locs)
  (hl : lv_has ls 4 [(3, .int 0), (2, .ref am), (1, .ref ax), (0, .ref b)]) (hax : (zad cA ws).1[0]? = some ax) (ham : (zad cA ws).1[165]? = some am) (hcb : cells + 2000 ≤ 600000) (hsb : slots + 200000 ≤ 7302250)
  (fin : ∀ (H1 : Heap) (locs1 : List Loc) (cells1 slots1 : Nat), va_S (fun q => s.heap.size ≤ q) s.heap H1 locs1 → cells1 ≤ 600000 → slots1 ≤ 7302250 → W p l e (zRm 1000 600000 7302250) s m #[Value.ref b] below meth c H1 locs1 cells1 slots1 Q (F0 m 989 ls [])) :
  W p l e (zRm 1000 600000 7302250) s m #[Value.ref b] below meth c H locs cells slots Q (F0 m 649 ls []) := by
  have G : zGh := ⟨(fun _ => 0 : Nat → Nat)⟩
  have hb : c.code = code := Cx.2.1.trans (X_lw_c _)
  obtain ⟨r1, hr1, hT1⟩ := zrgs_i (zlv_cv _) ev_m_tableau (xs 1)
  obtain ⟨r2, hr2, hT2⟩ := zrgs_i (zlv_cv _) hT1 (xs 2)
  obtain ⟨r3, hr3, hT3⟩ := zrgs_i (zlv_cv _) hT2 (xs 3)
  obtain ⟨r4, hr4, hT4⟩ := zrgs_i (zlv_cv _) hT3 (xs 4)
  have hT : zgo 0 0 f_X8_tableaua [zR 1, zI r1, zI r2, zI r3, zI r4] hB_lw (fun r h => zat h 166 (fun _ _ _ kd _ _ => cond (Nat.beq kd 25) (zgo 0 0 f_X9_tableaua [zR 166, zI r1, zI r2, zI r3, zI r4] h (fun r2 _ => zeqI r r2)) false)) = true := hT4
  refine lv_aload_n Cx.1 hb dl_649 rfl (lv_at hl 2 rfl) ?_
  refine lw_arg (pc := 650) (j := 1) (k0 := 3) (k3 := 0) dl_650 dl_651 dl_652 dl_653 dl_654 rfl (by decide) Cx.1 hb hX hbl hS hl rfl rfl ?_
  refine lw_arg (pc := 655) (j := 2) (k0 := 3) (k3 := 0) dl_655 dl_656 dl_657 dl_658 dl_659 rfl (by decide) Cx.1 hb hX hbl hS hl rfl rfl ?_
  refine lw_arg (pc := 660) (j := 3) (k0 := 3) (k3 := 0) dl_660 dl_661 dl_662 dl_663 dl_664 rfl (by decide) Cx.1 hb hX hbl hS hl rfl rfl ?_
  refine lw_arg (pc := 665) (j := 4) (k0 := 3) (k3 := 0) dl_665 dl_666 dl_667 dl_668 dl_669 rfl (by decide) Cx.1 hb hX hbl hS hl rfl rfl ?_
  refine pt_call (X := X_lw meth.name) (pc := 670) (av := [.ref ax, .int (xs 1), .int (xs 2), .int (xs 3), .int (xs 4)]) (st := []) m_X8_tableaua lr8_tableau Cx hT hHp hP hD hS hl.1 ⟨⟨some ax, rfl, Or.inr ⟨0, ax, rfl, hax, rfl⟩⟩, ⟨_, rfl, hr1⟩, ⟨_, rfl, hr2⟩, ⟨_, rfl, hr3⟩, ⟨_, rfl, hr4⟩, trivial⟩ (Nat.zero_le _) rfl (zrecv (k := 0) hHp hax kB_x) hcb hsb (fun Ch1 r h1 ws1 ov H1 locs1 hov hk1 hHp1 hpre1 hP1 hD1 hS1 => ?_)
  obtain ⟨i9, kd9, len9, x9, e9, hg9, hk2⟩ := zat_t hk1
  obtain ⟨hkd, hk3⟩ := zcnd_t hk2
  have ham1 := zPre_at hpre1 ham
  have e165 : i9 = 165 := by omega
  rw [e165] at hg9
  refine lv_aload_n (pc := 673) Cx.1 hb dl_673 rfl (lv_at hl 1 rfl) ?_
  refine lw_arg (pc := 674) (j := 1) (k0 := 3) (k3 := 0) dl_674 dl_675 dl_676 dl_677 dl_678 rfl (by decide) Cx.1 hb hX hbl hS1 hl rfl rfl ?_
  refine lw_arg (pc := 679) (j := 2) (k0 := 3) (k3 := 0) dl_679 dl_680 dl_681 dl_682 dl_683 rfl (by decide) Cx.1 hb hX hbl hS1 hl rfl rfl ?_
  refine lw_arg (pc := 684) (j := 3) (k0 := 3) (k3 := 0) dl_684 dl_685 dl_686 dl_687 dl_688 rfl (by decide) Cx.1 hb hX hbl hS1 hl rfl rfl ?_
  refine lw_arg (pc := 689) (j := 4) (k0 := 3) (k3 := 0) dl_689 dl_690 dl_691 dl_692 dl_693 rfl (by decide) Cx.1 hb hX hbl hS1 hl rfl rfl ?_
  refine pt_call (X := X_lw meth.name) (pc := 694) (Ch := Ch1) (av := [.ref am, .int (xs 1), .int (xs 2), .int (xs 3), .int (xs 4)]) (st := ov.toList ++ []) m_X9_tableaua lr9_tableau Cx hk3 hHp1 hP1 hD1 hS1 hl.1 ⟨⟨some am, rfl, Or.inr ⟨165, am, rfl, ham1, rfl⟩⟩, ⟨_, rfl, hr1⟩, ⟨_, rfl, hr2⟩, ⟨_, rfl, hr3⟩, ⟨_, rfl, hr4⟩, trivial⟩ (zcat1 hov) rfl (zrecv2 (k := 165) hHp1 ham1 hg9 hkd) (by show cells + 0 + (2000 - 0) ≤ 600000; omega) (by show slots + 0 + (200000 - 0) ≤ 7302250; omega) (fun Ch2 r2 h2 ws2 ov2 H2 locs2 hov2 hk4 hHp2 hpre2 hP2 hD2 hS2 => ?_)
  obtain ⟨iv, e1, e2⟩ := zeqI_t hk4 hov hov2
  subst e1
  subst e2
  refine lv_icmp_eq (pc := 697) (tgt := 989) Cx.1 hb dl_697 (by decide) (fun _ => fin _ _ _ _ hS2 (by omega) (by omega)) (fun h => absurd rfl h)

theorem lw_c_gram {p : Program} {l : Launch} {e : Env} {s : State} {m : MethodId} {below : List Frame} {meth : Method} {c : Code} {b : Nat} {xs : Nat → Int32} {cA : Nat → ClassId} {D : va_G} {Q : State → Prop} {Ch : zCh} {ls : Array Slot} {H : Heap} {locs : List Loc} {ws : va_W} {ax am cells slots : Nat}
  (Cx : zCx (X_lw meth.name) cA D p s m #[Value.ref b] meth c (fun q => s.heap.size ≤ q)) (hX : va_X b 6 xs s s.heap) (hbl : b < s.heap.size) (hHp : @zHp Ch 10 cA hB_lw ws) (hP : va_P D zcl ws H) (hD : va_D (fun q => s.heap.size ≤ q) ws) (hS : va_S (fun q => s.heap.size ≤ q) s.heap H locs)
  (hl : lv_has ls 4 [(3, .int 0), (2, .ref am), (1, .ref ax), (0, .ref b)]) (hax : (zad cA ws).1[0]? = some ax) (ham : (zad cA ws).1[165]? = some am) (hcb : cells + 2000 ≤ 600000) (hsb : slots + 200000 ≤ 7302250)
  (fin : ∀ (H1 : Heap) (locs1 : List Loc) (cells1 slots1 : Nat), va_S (fun q => s.heap.size ≤ q) s.heap H1 locs1 → cells1 ≤ 600000 → slots1 ≤ 7302250 → W p l e (zRm 1000 600000 7302250) s m #[Value.ref b] below meth c H1 locs1 cells1 slots1 Q (F0 m 989 ls [])) :
  W p l e (zRm 1000 600000 7302250) s m #[Value.ref b] below meth c H locs cells slots Q (F0 m 702 ls []) := by
  have G : zGh := ⟨(fun _ => 0 : Nat → Nat)⟩
  have hb : c.code = code := Cx.2.1.trans (X_lw_c _)
  obtain ⟨r1, hr1, hT1⟩ := zrgs_i (zlv_cv _) ev_m_gram (xs 1)
  obtain ⟨r2, hr2, hT2⟩ := zrgs_i (zlv_cv _) hT1 (xs 2)
  obtain ⟨r3, hr3, hT3⟩ := zrgs_i (zlv_cv _) hT2 (xs 3)
  have hT : zgo 0 0 f_X8_grama [zR 1, zI r1, zI r2, zI r3] hB_lw (fun r h => zat h 166 (fun _ _ _ kd _ _ => cond (Nat.beq kd 25) (zgo 0 0 f_X9_grama [zR 166, zI r1, zI r2, zI r3] h (fun r2 _ => zeqI r r2)) false)) = true := hT3
  refine lv_aload_n Cx.1 hb dl_702 rfl (lv_at hl 2 rfl) ?_
  refine lw_arg (pc := 703) (j := 1) (k0 := 3) (k3 := 0) dl_703 dl_704 dl_705 dl_706 dl_707 rfl (by decide) Cx.1 hb hX hbl hS hl rfl rfl ?_
  refine lw_arg (pc := 708) (j := 2) (k0 := 3) (k3 := 0) dl_708 dl_709 dl_710 dl_711 dl_712 rfl (by decide) Cx.1 hb hX hbl hS hl rfl rfl ?_
  refine lw_arg (pc := 713) (j := 3) (k0 := 3) (k3 := 0) dl_713 dl_714 dl_715 dl_716 dl_717 rfl (by decide) Cx.1 hb hX hbl hS hl rfl rfl ?_
  refine pt_call (X := X_lw meth.name) (pc := 718) (av := [.ref ax, .int (xs 1), .int (xs 2), .int (xs 3)]) (st := []) m_X8_grama lr8_gram Cx hT hHp hP hD hS hl.1 ⟨⟨some ax, rfl, Or.inr ⟨0, ax, rfl, hax, rfl⟩⟩, ⟨_, rfl, hr1⟩, ⟨_, rfl, hr2⟩, ⟨_, rfl, hr3⟩, trivial⟩ (Nat.zero_le _) rfl (zrecv (k := 0) hHp hax kB_x) hcb hsb (fun Ch1 r h1 ws1 ov H1 locs1 hov hk1 hHp1 hpre1 hP1 hD1 hS1 => ?_)
  obtain ⟨i9, kd9, len9, x9, e9, hg9, hk2⟩ := zat_t hk1
  obtain ⟨hkd, hk3⟩ := zcnd_t hk2
  have ham1 := zPre_at hpre1 ham
  have e165 : i9 = 165 := by omega
  rw [e165] at hg9
  refine lv_aload_n (pc := 721) Cx.1 hb dl_721 rfl (lv_at hl 1 rfl) ?_
  refine lw_arg (pc := 722) (j := 1) (k0 := 3) (k3 := 0) dl_722 dl_723 dl_724 dl_725 dl_726 rfl (by decide) Cx.1 hb hX hbl hS1 hl rfl rfl ?_
  refine lw_arg (pc := 727) (j := 2) (k0 := 3) (k3 := 0) dl_727 dl_728 dl_729 dl_730 dl_731 rfl (by decide) Cx.1 hb hX hbl hS1 hl rfl rfl ?_
  refine lw_arg (pc := 732) (j := 3) (k0 := 3) (k3 := 0) dl_732 dl_733 dl_734 dl_735 dl_736 rfl (by decide) Cx.1 hb hX hbl hS1 hl rfl rfl ?_
  refine pt_call (X := X_lw meth.name) (pc := 737) (Ch := Ch1) (av := [.ref am, .int (xs 1), .int (xs 2), .int (xs 3)]) (st := ov.toList ++ []) m_X9_grama lr9_gram Cx hk3 hHp1 hP1 hD1 hS1 hl.1 ⟨⟨some am, rfl, Or.inr ⟨165, am, rfl, ham1, rfl⟩⟩, ⟨_, rfl, hr1⟩, ⟨_, rfl, hr2⟩, ⟨_, rfl, hr3⟩, trivial⟩ (zcat1 hov) rfl (zrecv2 (k := 165) hHp1 ham1 hg9 hkd) (by show cells + 0 + (2000 - 0) ≤ 600000; omega) (by show slots + 0 + (200000 - 0) ≤ 7302250; omega) (fun Ch2 r2 h2 ws2 ov2 H2 locs2 hov2 hk4 hHp2 hpre2 hP2 hD2 hS2 => ?_)
  obtain ⟨iv, e1, e2⟩ := zeqI_t hk4 hov hov2
  subst e1
  subst e2
  refine lv_icmp_eq (pc := 740) (tgt := 989) Cx.1 hb dl_740 (by decide) (fun _ => fin _ _ _ _ hS2 (by omega) (by omega)) (fun h => absurd rfl h)

theorem lw_c_block {p : Program} {l : Launch} {e : Env} {s : State} {m : MethodId} {below : List Frame} {meth : Method} {c : Code} {b : Nat} {xs : Nat → Int32} {cA : Nat → ClassId} {D : va_G} {Q : State → Prop} {Ch : zCh} {ls : Array Slot} {H : Heap} {locs : List Loc} {ws : va_W} {ax am cells slots : Nat}
  (Cx : zCx (X_lw meth.name) cA D p s m #[Value.ref b] meth c (fun q => s.heap.size ≤ q)) (hX : va_X b 6 xs s s.heap) (hbl : b < s.heap.size) (hHp : @zHp Ch 10 cA hB_lw ws) (hP : va_P D zcl ws H) (hD : va_D (fun q => s.heap.size ≤ q) ws) (hS : va_S (fun q => s.heap.size ≤ q) s.heap H locs)
  (hl : lv_has ls 4 [(3, .int 0), (2, .ref am), (1, .ref ax), (0, .ref b)]) (hax : (zad cA ws).1[0]? = some ax) (ham : (zad cA ws).1[165]? = some am) (hcb : cells + 2000 ≤ 600000) (hsb : slots + 200000 ≤ 7302250)
  (fin : ∀ (H1 : Heap) (locs1 : List Loc) (cells1 slots1 : Nat), va_S (fun q => s.heap.size ≤ q) s.heap H1 locs1 → cells1 ≤ 600000 → slots1 ≤ 7302250 → W p l e (zRm 1000 600000 7302250) s m #[Value.ref b] below meth c H1 locs1 cells1 slots1 Q (F0 m 989 ls [])) :
  W p l e (zRm 1000 600000 7302250) s m #[Value.ref b] below meth c H locs cells slots Q (F0 m 745 ls []) := by
  have G : zGh := ⟨(fun _ => 0 : Nat → Nat)⟩
  have hb : c.code = code := Cx.2.1.trans (X_lw_c _)
  obtain ⟨r1, hr1, hT1⟩ := zrgs_i (zlv_cv _) ev_m_block (xs 1)
  obtain ⟨r2, hr2, hT2⟩ := zrgs_i (zlv_cv _) hT1 (xs 2)
  have hT : zgo 0 0 f_X8_blocka [zR 1, zI r1, zI r2] hB_lw (fun r h => zat h 166 (fun _ _ _ kd _ _ => cond (Nat.beq kd 25) (zgo 0 0 f_X9_blocka [zR 166, zI r1, zI r2] h (fun r2 _ => zeqI r r2)) false)) = true := hT2
  refine lv_aload_n Cx.1 hb dl_745 rfl (lv_at hl 2 rfl) ?_
  refine lw_arg (pc := 746) (j := 1) (k0 := 3) (k3 := 0) dl_746 dl_747 dl_748 dl_749 dl_750 rfl (by decide) Cx.1 hb hX hbl hS hl rfl rfl ?_
  refine lw_arg (pc := 751) (j := 2) (k0 := 3) (k3 := 0) dl_751 dl_752 dl_753 dl_754 dl_755 rfl (by decide) Cx.1 hb hX hbl hS hl rfl rfl ?_
  refine pt_call (X := X_lw meth.name) (pc := 756) (av := [.ref ax, .int (xs 1), .int (xs 2)]) (st := []) m_X8_blocka lr8_block Cx hT hHp hP hD hS hl.1 ⟨⟨some ax, rfl, Or.inr ⟨0, ax, rfl, hax, rfl⟩⟩, ⟨_, rfl, hr1⟩, ⟨_, rfl, hr2⟩, trivial⟩ (Nat.zero_le _) rfl (zrecv (k := 0) hHp hax kB_x) hcb hsb (fun Ch1 r h1 ws1 ov H1 locs1 hov hk1 hHp1 hpre1 hP1 hD1 hS1 => ?_)
  obtain ⟨i9, kd9, len9, x9, e9, hg9, hk2⟩ := zat_t hk1
  obtain ⟨hkd, hk3⟩ := zcnd_t hk2
  have ham1 := zPre_at hpre1 ham
  have e165 : i9 = 165 := by omega
  rw [e165] at hg9
  refine lv_aload_n (pc := 759) Cx.1 hb dl_759 rfl (lv_at hl 1 rfl) ?_
  refine lw_arg (pc := 760) (j := 1) (k0 := 3) (k3 := 0) dl_760 dl_761 dl_762 dl_763 dl_764 rfl (by decide) Cx.1 hb hX hbl hS1 hl rfl rfl ?_
  refine lw_arg (pc := 765) (j := 2) (k0 := 3) (k3 := 0) dl_765 dl_766 dl_767 dl_768 dl_769 rfl (by decide) Cx.1 hb hX hbl hS1 hl rfl rfl ?_
  refine pt_call (X := X_lw meth.name) (pc := 770) (Ch := Ch1) (av := [.ref am, .int (xs 1), .int (xs 2)]) (st := ov.toList ++ []) m_X9_blocka lr9_block Cx hk3 hHp1 hP1 hD1 hS1 hl.1 ⟨⟨some am, rfl, Or.inr ⟨165, am, rfl, ham1, rfl⟩⟩, ⟨_, rfl, hr1⟩, ⟨_, rfl, hr2⟩, trivial⟩ (zcat1 hov) rfl (zrecv2 (k := 165) hHp1 ham1 hg9 hkd) (by show cells + 0 + (2000 - 0) ≤ 600000; omega) (by show slots + 0 + (200000 - 0) ≤ 7302250; omega) (fun Ch2 r2 h2 ws2 ov2 H2 locs2 hov2 hk4 hHp2 hpre2 hP2 hD2 hS2 => ?_)
  obtain ⟨iv, e1, e2⟩ := zeqI_t hk4 hov hov2
  subst e1
  subst e2
  refine lv_icmp_eq (pc := 773) (tgt := 989) Cx.1 hb dl_773 (by decide) (fun _ => fin _ _ _ _ hS2 (by omega) (by omega)) (fun h => absurd rfl h)

theorem lw_c_value {p : Program} {l : Launch} {e : Env} {s : State} {m : MethodId} {below : List Frame} {meth : Method} {c : Code} {b : Nat} {xs : Nat → Int32} {cA : Nat → ClassId} {D : va_G} {Q : State → Prop} {Ch : zCh} {ls : Array Slot} {H : Heap} {locs : List Loc} {ws : va_W} {ax am cells slots : Nat}
  (Cx : zCx (X_lw meth.name) cA D p s m #[Value.ref b] meth c (fun q => s.heap.size ≤ q)) (hX : va_X b 6 xs s s.heap) (hbl : b < s.heap.size) (hHp : @zHp Ch 10 cA hB_lw ws) (hP : va_P D zcl ws H) (hD : va_D (fun q => s.heap.size ≤ q) ws) (hS : va_S (fun q => s.heap.size ≤ q) s.heap H locs)
  (hl : lv_has ls 4 [(3, .int 0), (2, .ref am), (1, .ref ax), (0, .ref b)]) (hax : (zad cA ws).1[0]? = some ax) (ham : (zad cA ws).1[165]? = some am) (hcb : cells + 2000 ≤ 600000) (hsb : slots + 200000 ≤ 7302250)
  (fin : ∀ (H1 : Heap) (locs1 : List Loc) (cells1 slots1 : Nat), va_S (fun q => s.heap.size ≤ q) s.heap H1 locs1 → cells1 ≤ 600000 → slots1 ≤ 7302250 → W p l e (zRm 1000 600000 7302250) s m #[Value.ref b] below meth c H1 locs1 cells1 slots1 Q (F0 m 989 ls [])) :
  W p l e (zRm 1000 600000 7302250) s m #[Value.ref b] below meth c H locs cells slots Q (F0 m 778 ls []) := by
  have G : zGh := ⟨(fun _ => 0 : Nat → Nat)⟩
  have hb : c.code = code := Cx.2.1.trans (X_lw_c _)
  obtain ⟨r1, hr1, hT1⟩ := zrgs_i (zlv_cv _) ev_m_value (xs 1)
  obtain ⟨r2, hr2, hT2⟩ := zrgs_i (zlv_cv _) hT1 (xs 2)
  have hT : zgo 0 0 f_X8_valuea [zR 1, zI r1, zI r2] hB_lw (fun r h => zat h 166 (fun _ _ _ kd _ _ => cond (Nat.beq kd 25) (zgo 0 0 f_X9_valuea [zR 166, zI r1, zI r2] h (fun r2 _ => zeqJ r r2)) false)) = true := hT2
  refine lv_aload_n Cx.1 hb dl_778 rfl (lv_at hl 2 rfl) ?_
  refine lw_arg (pc := 779) (j := 1) (k0 := 3) (k3 := 0) dl_779 dl_780 dl_781 dl_782 dl_783 rfl (by decide) Cx.1 hb hX hbl hS hl rfl rfl ?_
  refine lw_arg (pc := 784) (j := 2) (k0 := 3) (k3 := 0) dl_784 dl_785 dl_786 dl_787 dl_788 rfl (by decide) Cx.1 hb hX hbl hS hl rfl rfl ?_
  refine pt_call (X := X_lw meth.name) (pc := 789) (av := [.ref ax, .int (xs 1), .int (xs 2)]) (st := []) m_X8_valuea lr8_value Cx hT hHp hP hD hS hl.1 ⟨⟨some ax, rfl, Or.inr ⟨0, ax, rfl, hax, rfl⟩⟩, ⟨_, rfl, hr1⟩, ⟨_, rfl, hr2⟩, trivial⟩ (Nat.zero_le _) rfl (zrecv (k := 0) hHp hax kB_x) hcb hsb (fun Ch1 r h1 ws1 ov H1 locs1 hov hk1 hHp1 hpre1 hP1 hD1 hS1 => ?_)
  obtain ⟨i9, kd9, len9, x9, e9, hg9, hk2⟩ := zat_t hk1
  obtain ⟨hkd, hk3⟩ := zcnd_t hk2
  have ham1 := zPre_at hpre1 ham
  have e165 : i9 = 165 := by omega
  rw [e165] at hg9
  refine lv_aload_n (pc := 792) Cx.1 hb dl_792 rfl (lv_at hl 1 rfl) ?_
  refine lw_arg (pc := 793) (j := 1) (k0 := 3) (k3 := 0) dl_793 dl_794 dl_795 dl_796 dl_797 rfl (by decide) Cx.1 hb hX hbl hS1 hl rfl rfl ?_
  refine lw_arg (pc := 798) (j := 2) (k0 := 3) (k3 := 0) dl_798 dl_799 dl_800 dl_801 dl_802 rfl (by decide) Cx.1 hb hX hbl hS1 hl rfl rfl ?_
  refine pt_call (X := X_lw meth.name) (pc := 803) (Ch := Ch1) (av := [.ref am, .int (xs 1), .int (xs 2)]) (st := ov.toList ++ []) m_X9_valuea lr9_value Cx hk3 hHp1 hP1 hD1 hS1 hl.1 ⟨⟨some am, rfl, Or.inr ⟨165, am, rfl, ham1, rfl⟩⟩, ⟨_, rfl, hr1⟩, ⟨_, rfl, hr2⟩, trivial⟩ (zcat1 hov) rfl (zrecv2 (k := 165) hHp1 ham1 hg9 hkd) (by show cells + 0 + (2000 - 0) ≤ 600000; omega) (by show slots + 0 + (200000 - 0) ≤ 7302250; omega) (fun Ch2 r2 h2 ws2 ov2 H2 locs2 hov2 hk4 hHp2 hpre2 hP2 hD2 hS2 => ?_)
  obtain ⟨iv, e1, e2⟩ := zeqJ_t hk4 hov hov2
  subst e1
  subst e2
  refine W.lcmp (pc := 806) Cx.1 hb dl_806 ?_
  refine lv_if_eq (pc := 807) (tgt := 989) Cx.1 hb dl_807 (by decide) (fun _ => fin _ _ _ _ hS2 (by omega) (by omega)) (fun h => absurd (lg_cmp_self iv) h)

theorem lw_c_parts {p : Program} {l : Launch} {e : Env} {s : State} {m : MethodId} {below : List Frame} {meth : Method} {c : Code} {b : Nat} {xs : Nat → Int32} {cA : Nat → ClassId} {D : va_G} {Q : State → Prop} {Ch : zCh} {ls : Array Slot} {H : Heap} {locs : List Loc} {ws : va_W} {ax am cells slots : Nat}
  (Cx : zCx (X_lw meth.name) cA D p s m #[Value.ref b] meth c (fun q => s.heap.size ≤ q)) (hX : va_X b 6 xs s s.heap) (hbl : b < s.heap.size) (hHp : @zHp Ch 10 cA hB_lw ws) (hP : va_P D zcl ws H) (hD : va_D (fun q => s.heap.size ≤ q) ws) (hS : va_S (fun q => s.heap.size ≤ q) s.heap H locs)
  (hl : lv_has ls 4 [(3, .int 0), (2, .ref am), (1, .ref ax), (0, .ref b)]) (hax : (zad cA ws).1[0]? = some ax) (ham : (zad cA ws).1[165]? = some am) (hcb : cells + 2000 ≤ 600000) (hsb : slots + 200000 ≤ 7302250)
  (fin : ∀ (H1 : Heap) (locs1 : List Loc) (cells1 slots1 : Nat), va_S (fun q => s.heap.size ≤ q) s.heap H1 locs1 → cells1 ≤ 600000 → slots1 ≤ 7302250 → W p l e (zRm 1000 600000 7302250) s m #[Value.ref b] below meth c H1 locs1 cells1 slots1 Q (F0 m 989 ls [])) :
  W p l e (zRm 1000 600000 7302250) s m #[Value.ref b] below meth c H locs cells slots Q (F0 m 812 ls []) := by
  have G : zGh := ⟨(fun _ => 0 : Nat → Nat)⟩
  have hb : c.code = code := Cx.2.1.trans (X_lw_c _)
  obtain ⟨r1, hr1, hT1⟩ := zrgs_i (zlv_cv _) ev_m_parts (xs 1)
  obtain ⟨r2, hr2, hT2⟩ := zrgs_i (zlv_cv _) hT1 (xs 2)
  obtain ⟨r3, hr3, hT3⟩ := zrgs_i (zlv_cv _) hT2 (xs 3)
  have hT : zgo 0 0 f_X8_partsa [zR 1, zI r1, zI r2, zI r3] hB_lw (fun r h => zat h 166 (fun _ _ _ kd _ _ => cond (Nat.beq kd 25) (zgo 0 0 f_X9_partsa [zR 166, zI r1, zI r2, zI r3] h (fun r2 _ => zeqJ r r2)) false)) = true := hT3
  refine lv_aload_n Cx.1 hb dl_812 rfl (lv_at hl 2 rfl) ?_
  refine lw_arg (pc := 813) (j := 1) (k0 := 3) (k3 := 0) dl_813 dl_814 dl_815 dl_816 dl_817 rfl (by decide) Cx.1 hb hX hbl hS hl rfl rfl ?_
  refine lw_arg (pc := 818) (j := 2) (k0 := 3) (k3 := 0) dl_818 dl_819 dl_820 dl_821 dl_822 rfl (by decide) Cx.1 hb hX hbl hS hl rfl rfl ?_
  refine lw_arg (pc := 823) (j := 3) (k0 := 3) (k3 := 0) dl_823 dl_824 dl_825 dl_826 dl_827 rfl (by decide) Cx.1 hb hX hbl hS hl rfl rfl ?_
  refine pt_call (X := X_lw meth.name) (pc := 828) (av := [.ref ax, .int (xs 1), .int (xs 2), .int (xs 3)]) (st := []) m_X8_partsa lr8_parts Cx hT hHp hP hD hS hl.1 ⟨⟨some ax, rfl, Or.inr ⟨0, ax, rfl, hax, rfl⟩⟩, ⟨_, rfl, hr1⟩, ⟨_, rfl, hr2⟩, ⟨_, rfl, hr3⟩, trivial⟩ (Nat.zero_le _) rfl (zrecv (k := 0) hHp hax kB_x) hcb hsb (fun Ch1 r h1 ws1 ov H1 locs1 hov hk1 hHp1 hpre1 hP1 hD1 hS1 => ?_)
  obtain ⟨i9, kd9, len9, x9, e9, hg9, hk2⟩ := zat_t hk1
  obtain ⟨hkd, hk3⟩ := zcnd_t hk2
  have ham1 := zPre_at hpre1 ham
  have e165 : i9 = 165 := by omega
  rw [e165] at hg9
  refine lv_aload_n (pc := 831) Cx.1 hb dl_831 rfl (lv_at hl 1 rfl) ?_
  refine lw_arg (pc := 832) (j := 1) (k0 := 3) (k3 := 0) dl_832 dl_833 dl_834 dl_835 dl_836 rfl (by decide) Cx.1 hb hX hbl hS1 hl rfl rfl ?_
  refine lw_arg (pc := 837) (j := 2) (k0 := 3) (k3 := 0) dl_837 dl_838 dl_839 dl_840 dl_841 rfl (by decide) Cx.1 hb hX hbl hS1 hl rfl rfl ?_
  refine lw_arg (pc := 842) (j := 3) (k0 := 3) (k3 := 0) dl_842 dl_843 dl_844 dl_845 dl_846 rfl (by decide) Cx.1 hb hX hbl hS1 hl rfl rfl ?_
  refine pt_call (X := X_lw meth.name) (pc := 847) (Ch := Ch1) (av := [.ref am, .int (xs 1), .int (xs 2), .int (xs 3)]) (st := ov.toList ++ []) m_X9_partsa lr9_parts Cx hk3 hHp1 hP1 hD1 hS1 hl.1 ⟨⟨some am, rfl, Or.inr ⟨165, am, rfl, ham1, rfl⟩⟩, ⟨_, rfl, hr1⟩, ⟨_, rfl, hr2⟩, ⟨_, rfl, hr3⟩, trivial⟩ (zcat1 hov) rfl (zrecv2 (k := 165) hHp1 ham1 hg9 hkd) (by show cells + 0 + (2000 - 0) ≤ 600000; omega) (by show slots + 0 + (200000 - 0) ≤ 7302250; omega) (fun Ch2 r2 h2 ws2 ov2 H2 locs2 hov2 hk4 hHp2 hpre2 hP2 hD2 hS2 => ?_)
  obtain ⟨iv, e1, e2⟩ := zeqJ_t hk4 hov hov2
  subst e1
  subst e2
  refine W.lcmp (pc := 850) Cx.1 hb dl_850 ?_
  refine lv_if_eq (pc := 851) (tgt := 989) Cx.1 hb dl_851 (by decide) (fun _ => fin _ _ _ _ hS2 (by omega) (by omega)) (fun h => absurd (lg_cmp_self iv) h)

theorem lw_c_inner {p : Program} {l : Launch} {e : Env} {s : State} {m : MethodId} {below : List Frame} {meth : Method} {c : Code} {b : Nat} {xs : Nat → Int32} {cA : Nat → ClassId} {D : va_G} {Q : State → Prop} {Ch : zCh} {ls : Array Slot} {H : Heap} {locs : List Loc} {ws : va_W} {ax am cells slots : Nat}
  (Cx : zCx (X_lw meth.name) cA D p s m #[Value.ref b] meth c (fun q => s.heap.size ≤ q)) (hX : va_X b 6 xs s s.heap) (hbl : b < s.heap.size) (hHp : @zHp Ch 10 cA hB_lw ws) (hP : va_P D zcl ws H) (hD : va_D (fun q => s.heap.size ≤ q) ws) (hS : va_S (fun q => s.heap.size ≤ q) s.heap H locs)
  (hl : lv_has ls 4 [(3, .int 0), (2, .ref am), (1, .ref ax), (0, .ref b)]) (hax : (zad cA ws).1[0]? = some ax) (ham : (zad cA ws).1[165]? = some am) (hcb : cells + 2000 ≤ 600000) (hsb : slots + 200000 ≤ 7302250)
  (fin : ∀ (H1 : Heap) (locs1 : List Loc) (cells1 slots1 : Nat), va_S (fun q => s.heap.size ≤ q) s.heap H1 locs1 → cells1 ≤ 600000 → slots1 ≤ 7302250 → W p l e (zRm 1000 600000 7302250) s m #[Value.ref b] below meth c H1 locs1 cells1 slots1 Q (F0 m 989 ls [])) :
  W p l e (zRm 1000 600000 7302250) s m #[Value.ref b] below meth c H locs cells slots Q (F0 m 856 ls []) := by
  have G : zGh := ⟨(fun _ => 0 : Nat → Nat)⟩
  have hb : c.code = code := Cx.2.1.trans (X_lw_c _)
  obtain ⟨r1, hr1, hT1⟩ := zrgs_i (zlv_cv _) ev_m_inner (xs 1)
  obtain ⟨r2, hr2, hT2⟩ := zrgs_i (zlv_cv _) hT1 (xs 2)
  have hT : zgo 0 0 f_X8_innera [zR 1, zI r1, zI r2] hB_lw (fun r h => zat h 166 (fun _ _ _ kd _ _ => cond (Nat.beq kd 25) (zgo 0 0 f_X9_innera [zR 166, zI r1, zI r2] h (fun r2 _ => zeqJ r r2)) false)) = true := hT2
  refine lv_aload_n Cx.1 hb dl_856 rfl (lv_at hl 2 rfl) ?_
  refine lw_arg (pc := 857) (j := 1) (k0 := 3) (k3 := 0) dl_857 dl_858 dl_859 dl_860 dl_861 rfl (by decide) Cx.1 hb hX hbl hS hl rfl rfl ?_
  refine lw_arg (pc := 862) (j := 2) (k0 := 3) (k3 := 0) dl_862 dl_863 dl_864 dl_865 dl_866 rfl (by decide) Cx.1 hb hX hbl hS hl rfl rfl ?_
  refine pt_call (X := X_lw meth.name) (pc := 867) (av := [.ref ax, .int (xs 1), .int (xs 2)]) (st := []) m_X8_innera lr8_inner Cx hT hHp hP hD hS hl.1 ⟨⟨some ax, rfl, Or.inr ⟨0, ax, rfl, hax, rfl⟩⟩, ⟨_, rfl, hr1⟩, ⟨_, rfl, hr2⟩, trivial⟩ (Nat.zero_le _) rfl (zrecv (k := 0) hHp hax kB_x) hcb hsb (fun Ch1 r h1 ws1 ov H1 locs1 hov hk1 hHp1 hpre1 hP1 hD1 hS1 => ?_)
  obtain ⟨i9, kd9, len9, x9, e9, hg9, hk2⟩ := zat_t hk1
  obtain ⟨hkd, hk3⟩ := zcnd_t hk2
  have ham1 := zPre_at hpre1 ham
  have e165 : i9 = 165 := by omega
  rw [e165] at hg9
  refine lv_aload_n (pc := 870) Cx.1 hb dl_870 rfl (lv_at hl 1 rfl) ?_
  refine lw_arg (pc := 871) (j := 1) (k0 := 3) (k3 := 0) dl_871 dl_872 dl_873 dl_874 dl_875 rfl (by decide) Cx.1 hb hX hbl hS1 hl rfl rfl ?_
  refine lw_arg (pc := 876) (j := 2) (k0 := 3) (k3 := 0) dl_876 dl_877 dl_878 dl_879 dl_880 rfl (by decide) Cx.1 hb hX hbl hS1 hl rfl rfl ?_
  refine pt_call (X := X_lw meth.name) (pc := 881) (Ch := Ch1) (av := [.ref am, .int (xs 1), .int (xs 2)]) (st := ov.toList ++ []) m_X9_innera lr9_inner Cx hk3 hHp1 hP1 hD1 hS1 hl.1 ⟨⟨some am, rfl, Or.inr ⟨165, am, rfl, ham1, rfl⟩⟩, ⟨_, rfl, hr1⟩, ⟨_, rfl, hr2⟩, trivial⟩ (zcat1 hov) rfl (zrecv2 (k := 165) hHp1 ham1 hg9 hkd) (by show cells + 0 + (2000 - 0) ≤ 600000; omega) (by show slots + 0 + (200000 - 0) ≤ 7302250; omega) (fun Ch2 r2 h2 ws2 ov2 H2 locs2 hov2 hk4 hHp2 hpre2 hP2 hD2 hS2 => ?_)
  obtain ⟨iv, e1, e2⟩ := zeqJ_t hk4 hov hov2
  subst e1
  subst e2
  refine W.lcmp (pc := 884) Cx.1 hb dl_884 ?_
  refine lv_if_eq (pc := 885) (tgt := 989) Cx.1 hb dl_885 (by decide) (fun _ => fin _ _ _ _ hS2 (by omega) (by omega)) (fun h => absurd (lg_cmp_self iv) h)

theorem lw_c_kind {p : Program} {l : Launch} {e : Env} {s : State} {m : MethodId} {below : List Frame} {meth : Method} {c : Code} {b : Nat} {xs : Nat → Int32} {cA : Nat → ClassId} {D : va_G} {Q : State → Prop} {Ch : zCh} {ls : Array Slot} {H : Heap} {locs : List Loc} {ws : va_W} {ax am cells slots : Nat}
  (Cx : zCx (X_lw meth.name) cA D p s m #[Value.ref b] meth c (fun q => s.heap.size ≤ q)) (hX : va_X b 6 xs s s.heap) (hbl : b < s.heap.size) (hHp : @zHp Ch 10 cA hB_lw ws) (hP : va_P D zcl ws H) (hD : va_D (fun q => s.heap.size ≤ q) ws) (hS : va_S (fun q => s.heap.size ≤ q) s.heap H locs)
  (hl : lv_has ls 4 [(3, .int 0), (2, .ref am), (1, .ref ax), (0, .ref b)]) (hax : (zad cA ws).1[0]? = some ax) (ham : (zad cA ws).1[165]? = some am) (hcb : cells + 2000 ≤ 600000) (hsb : slots + 200000 ≤ 7302250)
  (fin : ∀ (H1 : Heap) (locs1 : List Loc) (cells1 slots1 : Nat), va_S (fun q => s.heap.size ≤ q) s.heap H1 locs1 → cells1 ≤ 600000 → slots1 ≤ 7302250 → W p l e (zRm 1000 600000 7302250) s m #[Value.ref b] below meth c H1 locs1 cells1 slots1 Q (F0 m 989 ls [])) :
  W p l e (zRm 1000 600000 7302250) s m #[Value.ref b] below meth c H locs cells slots Q (F0 m 890 ls []) := by
  have G : zGh := ⟨(fun _ => 0 : Nat → Nat)⟩
  have hb : c.code = code := Cx.2.1.trans (X_lw_c _)
  obtain ⟨r1, hr1, hT1⟩ := zrgs_i (zlv_cv _) ev_m_kind (xs 1)
  obtain ⟨r2, hr2, hT2⟩ := zrgs_i (zlv_cv _) hT1 (xs 2)
  have hT : zgo 0 0 f_X8_kinda [zR 1, zI r1, zI r2] hB_lw (fun r h => zat h 166 (fun _ _ _ kd _ _ => cond (Nat.beq kd 25) (zgo 0 0 f_X9_kinda [zR 166, zI r1, zI r2] h (fun r2 _ => zeqI r r2)) false)) = true := hT2
  refine lv_aload_n Cx.1 hb dl_890 rfl (lv_at hl 2 rfl) ?_
  refine lw_arg (pc := 891) (j := 1) (k0 := 3) (k3 := 0) dl_891 dl_892 dl_893 dl_894 dl_895 rfl (by decide) Cx.1 hb hX hbl hS hl rfl rfl ?_
  refine lw_arg (pc := 896) (j := 2) (k0 := 3) (k3 := 0) dl_896 dl_897 dl_898 dl_899 dl_900 rfl (by decide) Cx.1 hb hX hbl hS hl rfl rfl ?_
  refine pt_call (X := X_lw meth.name) (pc := 901) (av := [.ref ax, .int (xs 1), .int (xs 2)]) (st := []) m_X8_kinda lr8_kind Cx hT hHp hP hD hS hl.1 ⟨⟨some ax, rfl, Or.inr ⟨0, ax, rfl, hax, rfl⟩⟩, ⟨_, rfl, hr1⟩, ⟨_, rfl, hr2⟩, trivial⟩ (Nat.zero_le _) rfl (zrecv (k := 0) hHp hax kB_x) hcb hsb (fun Ch1 r h1 ws1 ov H1 locs1 hov hk1 hHp1 hpre1 hP1 hD1 hS1 => ?_)
  obtain ⟨i9, kd9, len9, x9, e9, hg9, hk2⟩ := zat_t hk1
  obtain ⟨hkd, hk3⟩ := zcnd_t hk2
  have ham1 := zPre_at hpre1 ham
  have e165 : i9 = 165 := by omega
  rw [e165] at hg9
  refine lv_aload_n (pc := 904) Cx.1 hb dl_904 rfl (lv_at hl 1 rfl) ?_
  refine lw_arg (pc := 905) (j := 1) (k0 := 3) (k3 := 0) dl_905 dl_906 dl_907 dl_908 dl_909 rfl (by decide) Cx.1 hb hX hbl hS1 hl rfl rfl ?_
  refine lw_arg (pc := 910) (j := 2) (k0 := 3) (k3 := 0) dl_910 dl_911 dl_912 dl_913 dl_914 rfl (by decide) Cx.1 hb hX hbl hS1 hl rfl rfl ?_
  refine pt_call (X := X_lw meth.name) (pc := 915) (Ch := Ch1) (av := [.ref am, .int (xs 1), .int (xs 2)]) (st := ov.toList ++ []) m_X9_kinda lr9_kind Cx hk3 hHp1 hP1 hD1 hS1 hl.1 ⟨⟨some am, rfl, Or.inr ⟨165, am, rfl, ham1, rfl⟩⟩, ⟨_, rfl, hr1⟩, ⟨_, rfl, hr2⟩, trivial⟩ (zcat1 hov) rfl (zrecv2 (k := 165) hHp1 ham1 hg9 hkd) (by show cells + 0 + (2000 - 0) ≤ 600000; omega) (by show slots + 0 + (200000 - 0) ≤ 7302250; omega) (fun Ch2 r2 h2 ws2 ov2 H2 locs2 hov2 hk4 hHp2 hpre2 hP2 hD2 hS2 => ?_)
  obtain ⟨iv, e1, e2⟩ := zeqI_t hk4 hov hov2
  subst e1
  subst e2
  refine lv_icmp_eq (pc := 918) (tgt := 989) Cx.1 hb dl_918 (by decide) (fun _ => fin _ _ _ _ hS2 (by omega) (by omega)) (fun h => absurd rfl h)

theorem lw_c_cut {p : Program} {l : Launch} {e : Env} {s : State} {m : MethodId} {below : List Frame} {meth : Method} {c : Code} {b : Nat} {xs : Nat → Int32} {cA : Nat → ClassId} {D : va_G} {Q : State → Prop} {Ch : zCh} {ls : Array Slot} {H : Heap} {locs : List Loc} {ws : va_W} {ax am cells slots : Nat}
  (Cx : zCx (X_lw meth.name) cA D p s m #[Value.ref b] meth c (fun q => s.heap.size ≤ q)) (hX : va_X b 6 xs s s.heap) (hbl : b < s.heap.size) (hHp : @zHp Ch 10 cA hB_lw ws) (hP : va_P D zcl ws H) (hD : va_D (fun q => s.heap.size ≤ q) ws) (hS : va_S (fun q => s.heap.size ≤ q) s.heap H locs)
  (hl : lv_has ls 4 [(3, .int 0), (2, .ref am), (1, .ref ax), (0, .ref b)]) (hax : (zad cA ws).1[0]? = some ax) (ham : (zad cA ws).1[165]? = some am) (hcb : cells + 2000 ≤ 600000) (hsb : slots + 200000 ≤ 7302250)
  (fin : ∀ (H1 : Heap) (locs1 : List Loc) (cells1 slots1 : Nat), va_S (fun q => s.heap.size ≤ q) s.heap H1 locs1 → cells1 ≤ 600000 → slots1 ≤ 7302250 → W p l e (zRm 1000 600000 7302250) s m #[Value.ref b] below meth c H1 locs1 cells1 slots1 Q (F0 m 989 ls [])) :
  W p l e (zRm 1000 600000 7302250) s m #[Value.ref b] below meth c H locs cells slots Q (F0 m 923 ls []) := by
  have G : zGh := ⟨(fun _ => 0 : Nat → Nat)⟩
  have hb : c.code = code := Cx.2.1.trans (X_lw_c _)
  obtain ⟨r1, hr1, hT1⟩ := zrgs_i (zlv_cv _) ev_m_cut (xs 1)
  obtain ⟨r2, hr2, hT2⟩ := zrgs_i (zlv_cv _) hT1 (xs 2)
  obtain ⟨r3, hr3, hT3⟩ := zrgs_i (zlv_cv _) hT2 (xs 3)
  have hT : zgo 0 0 f_X8_cuta [zR 1, zI r1, zI r2, zI r3] hB_lw (fun r h => zat h 166 (fun _ _ _ kd _ _ => cond (Nat.beq kd 25) (zgo 0 0 f_X9_cuta [zR 166, zI r1, zI r2, zI r3] h (fun r2 _ => zeqI r r2)) false)) = true := hT3
  refine lv_aload_n Cx.1 hb dl_923 rfl (lv_at hl 2 rfl) ?_
  refine lw_arg (pc := 924) (j := 1) (k0 := 3) (k3 := 0) dl_924 dl_925 dl_926 dl_927 dl_928 rfl (by decide) Cx.1 hb hX hbl hS hl rfl rfl ?_
  refine lw_arg (pc := 929) (j := 2) (k0 := 3) (k3 := 0) dl_929 dl_930 dl_931 dl_932 dl_933 rfl (by decide) Cx.1 hb hX hbl hS hl rfl rfl ?_
  refine lw_arg (pc := 934) (j := 3) (k0 := 3) (k3 := 0) dl_934 dl_935 dl_936 dl_937 dl_938 rfl (by decide) Cx.1 hb hX hbl hS hl rfl rfl ?_
  refine pt_call (X := X_lw meth.name) (pc := 939) (av := [.ref ax, .int (xs 1), .int (xs 2), .int (xs 3)]) (st := []) m_X8_cuta lr8_cut Cx hT hHp hP hD hS hl.1 ⟨⟨some ax, rfl, Or.inr ⟨0, ax, rfl, hax, rfl⟩⟩, ⟨_, rfl, hr1⟩, ⟨_, rfl, hr2⟩, ⟨_, rfl, hr3⟩, trivial⟩ (Nat.zero_le _) rfl (zrecv (k := 0) hHp hax kB_x) hcb hsb (fun Ch1 r h1 ws1 ov H1 locs1 hov hk1 hHp1 hpre1 hP1 hD1 hS1 => ?_)
  obtain ⟨i9, kd9, len9, x9, e9, hg9, hk2⟩ := zat_t hk1
  obtain ⟨hkd, hk3⟩ := zcnd_t hk2
  have ham1 := zPre_at hpre1 ham
  have e165 : i9 = 165 := by omega
  rw [e165] at hg9
  refine lv_aload_n (pc := 942) Cx.1 hb dl_942 rfl (lv_at hl 1 rfl) ?_
  refine lw_arg (pc := 943) (j := 1) (k0 := 3) (k3 := 0) dl_943 dl_944 dl_945 dl_946 dl_947 rfl (by decide) Cx.1 hb hX hbl hS1 hl rfl rfl ?_
  refine lw_arg (pc := 948) (j := 2) (k0 := 3) (k3 := 0) dl_948 dl_949 dl_950 dl_951 dl_952 rfl (by decide) Cx.1 hb hX hbl hS1 hl rfl rfl ?_
  refine lw_arg (pc := 953) (j := 3) (k0 := 3) (k3 := 0) dl_953 dl_954 dl_955 dl_956 dl_957 rfl (by decide) Cx.1 hb hX hbl hS1 hl rfl rfl ?_
  refine pt_call (X := X_lw meth.name) (pc := 958) (Ch := Ch1) (av := [.ref am, .int (xs 1), .int (xs 2), .int (xs 3)]) (st := ov.toList ++ []) m_X9_cuta lr9_cut Cx hk3 hHp1 hP1 hD1 hS1 hl.1 ⟨⟨some am, rfl, Or.inr ⟨165, am, rfl, ham1, rfl⟩⟩, ⟨_, rfl, hr1⟩, ⟨_, rfl, hr2⟩, ⟨_, rfl, hr3⟩, trivial⟩ (zcat1 hov) rfl (zrecv2 (k := 165) hHp1 ham1 hg9 hkd) (by show cells + 0 + (2000 - 0) ≤ 600000; omega) (by show slots + 0 + (200000 - 0) ≤ 7302250; omega) (fun Ch2 r2 h2 ws2 ov2 H2 locs2 hov2 hk4 hHp2 hpre2 hP2 hD2 hS2 => ?_)
  obtain ⟨iv, e1, e2⟩ := zeqI_t hk4 hov hov2
  subst e1
  subst e2
  refine lv_icmp_eq (pc := 961) (tgt := 989) Cx.1 hb dl_961 (by decide) (fun _ => fin _ _ _ _ hS2 (by omega) (by omega)) (fun h => absurd rfl h)

theorem lw_c_look {p : Program} {l : Launch} {e : Env} {s : State} {m : MethodId} {below : List Frame} {meth : Method} {c : Code} {b : Nat} {xs : Nat → Int32} {cA : Nat → ClassId} {D : va_G} {Q : State → Prop} {Ch : zCh} {ls : Array Slot} {H : Heap} {locs : List Loc} {ws : va_W} {ax am cells slots : Nat}
  (Cx : zCx (X_lw meth.name) cA D p s m #[Value.ref b] meth c (fun q => s.heap.size ≤ q)) (hX : va_X b 6 xs s s.heap) (hbl : b < s.heap.size) (hHp : @zHp Ch 10 cA hB_lw ws) (hP : va_P D zcl ws H) (hD : va_D (fun q => s.heap.size ≤ q) ws) (hS : va_S (fun q => s.heap.size ≤ q) s.heap H locs)
  (hl : lv_has ls 4 [(3, .int 0), (2, .ref am), (1, .ref ax), (0, .ref b)]) (hax : (zad cA ws).1[0]? = some ax) (ham : (zad cA ws).1[165]? = some am) (hcb : cells + 2000 ≤ 600000) (hsb : slots + 200000 ≤ 7302250)
  (fin : ∀ (H1 : Heap) (locs1 : List Loc) (cells1 slots1 : Nat), va_S (fun q => s.heap.size ≤ q) s.heap H1 locs1 → cells1 ≤ 600000 → slots1 ≤ 7302250 → W p l e (zRm 1000 600000 7302250) s m #[Value.ref b] below meth c H1 locs1 cells1 slots1 Q (F0 m 989 ls [])) :
  W p l e (zRm 1000 600000 7302250) s m #[Value.ref b] below meth c H locs cells slots Q (F0 m 966 ls []) := by
  have G : zGh := ⟨(fun _ => 0 : Nat → Nat)⟩
  have hb : c.code = code := Cx.2.1.trans (X_lw_c _)
  obtain ⟨r1, hr1, hT1⟩ := zrgs_i (zlv_cv _) ev_m_look (xs 1)
  have hT : zgo 0 0 f_X8_looka [zR 1, zI r1] hB_lw (fun r h => zat h 166 (fun _ _ _ kd _ _ => cond (Nat.beq kd 25) (zgo 0 0 f_X9_looka [zR 166, zI r1] h (fun r2 _ => zeqI r r2)) false)) = true := hT1
  refine lv_aload_n Cx.1 hb dl_966 rfl (lv_at hl 2 rfl) ?_
  refine lw_arg (pc := 967) (j := 1) (k0 := 3) (k3 := 0) dl_967 dl_968 dl_969 dl_970 dl_971 rfl (by decide) Cx.1 hb hX hbl hS hl rfl rfl ?_
  refine pt_call (X := X_lw meth.name) (pc := 972) (av := [.ref ax, .int (xs 1)]) (st := []) m_X8_looka lr8_look Cx hT hHp hP hD hS hl.1 ⟨⟨some ax, rfl, Or.inr ⟨0, ax, rfl, hax, rfl⟩⟩, ⟨_, rfl, hr1⟩, trivial⟩ (Nat.zero_le _) rfl (zrecv (k := 0) hHp hax kB_x) hcb hsb (fun Ch1 r h1 ws1 ov H1 locs1 hov hk1 hHp1 hpre1 hP1 hD1 hS1 => ?_)
  obtain ⟨i9, kd9, len9, x9, e9, hg9, hk2⟩ := zat_t hk1
  obtain ⟨hkd, hk3⟩ := zcnd_t hk2
  have ham1 := zPre_at hpre1 ham
  have e165 : i9 = 165 := by omega
  rw [e165] at hg9
  refine lv_aload_n (pc := 975) Cx.1 hb dl_975 rfl (lv_at hl 1 rfl) ?_
  refine lw_arg (pc := 976) (j := 1) (k0 := 3) (k3 := 0) dl_976 dl_977 dl_978 dl_979 dl_980 rfl (by decide) Cx.1 hb hX hbl hS1 hl rfl rfl ?_
  refine pt_call (X := X_lw meth.name) (pc := 981) (Ch := Ch1) (av := [.ref am, .int (xs 1)]) (st := ov.toList ++ []) m_X9_looka lr9_look Cx hk3 hHp1 hP1 hD1 hS1 hl.1 ⟨⟨some am, rfl, Or.inr ⟨165, am, rfl, ham1, rfl⟩⟩, ⟨_, rfl, hr1⟩, trivial⟩ (zcat1 hov) rfl (zrecv2 (k := 165) hHp1 ham1 hg9 hkd) (by show cells + 0 + (2000 - 0) ≤ 600000; omega) (by show slots + 0 + (200000 - 0) ≤ 7302250; omega) (fun Ch2 r2 h2 ws2 ov2 H2 locs2 hov2 hk4 hHp2 hpre2 hP2 hD2 hS2 => ?_)
  obtain ⟨iv, e1, e2⟩ := zeqI_t hk4 hov hov2
  subst e1
  subst e2
  refine lv_icmp_eq (pc := 984) (tgt := 989) Cx.1 hb dl_984 (by decide) (fun _ => fin _ _ _ _ hS2 (by omega) (by omega)) (fun h => absurd rfl h)

