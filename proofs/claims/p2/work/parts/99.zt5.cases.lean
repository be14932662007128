/-! the calls of the law, by program -/
theorem lw_c_group [G : zGh] {p : Program} {l : Launch} {e : Env} {s : State} {m : MethodId} {below : List Frame} {meth : Method} {c : Code} {b L i0 : Nat} {xs : Nat → Int32} {cA : Nat → ClassId} {D : va_G} {Q : State → Prop} {ls : Array Slot} {H : Heap} {locs : List Loc} {own : Nat → Nat} {ax am g cells slots : Nat} {w0 wR : va_W}
  (Cx : zCx (X_lw meth.name) cA D p s m #[Value.ref b] meth c (fun q => s.heap.size ≤ q)) (hX : va_X b L xs s s.heap) (hbl : b < s.heap.size) (hL : i0 + 6 ≤ L) (hLm : L ≤ 3072) (hg : g < 24) (I0 : qI cA D (fun q => s.heap.size ≤ q) H own ax am g w0 wR) (hS : va_S (fun q => s.heap.size ≤ q) s.heap H locs)
  (hl : lv_has ls 4 [(3, .int (nI i0)), (2, .ref am), (1, .ref ax), (0, .ref b)]) (hcb : cells + 1000 * qMis w0 ≤ 600000) (hsb : slots + 80000 * qMis w0 ≤ 7302250)
  (fin : ∀ (H1 : Heap) (locs1 : List Loc) (own1 : Nat → Nat) (g1 : Nat) (w1 wR1 : va_W) (cells1 slots1 : Nat), g1 < 24 → qI cA D (fun q => s.heap.size ≤ q) H1 own1 ax am g1 w1 wR1 → va_S (fun q => s.heap.size ≤ q) s.heap H1 locs1 → cells1 + 1000 * qMis w1 ≤ 600000 → slots1 + 80000 * qMis w1 ≤ 7302250 → W p l e (zRm 1000 600000 7302250) s m #[Value.ref b] below meth c H1 locs1 cells1 slots1 Q (F0 m 986 ls [])) :
  W p l e (zRm 1000 600000 7302250) s m #[Value.ref b] below meth c H locs cells slots Q (F0 m 144 ls []) := by
  have hb : c.code = code := Cx.2.1.trans (X_lw_c _)
  obtain ⟨IC, IR, ht, htl⟩ := I0
  refine lv_aload_n (pc := 144) Cx.1 hb dl_144 rfl (lv_at hl 2 rfl) ?_
  refine lw_argk (pc := 145) (j := 1) (k0 := 3) (k3 := 0) dl_145 dl_146 dl_147 dl_148 dl_149 rfl (by omega) hLm Cx.1 hb hX hbl hS hl rfl rfl ?_
  refine lw_argk (pc := 150) (j := 2) (k0 := 3) (k3 := 0) dl_150 dl_151 dl_152 dl_153 dl_154 rfl (by omega) hLm Cx.1 hb hX hbl hS hl rfl rfl ?_
  rcases ev_grp G (xs (i0 + 1)) (xs (i0 + 2)) with ⟨g', hg', b1, b2⟩ | ⟨r1, r2, hr1, hr2, hT, hT2⟩
  · refine q_groupC (X := X_lw meth.name) (pc := 155) (as' := [zI (qgN g'), zI (qgP g')]) (av' := [.int (xs (i0 + 1)), .int (xs (i0 + 2))]) (st := []) hg' m_X8_groupa lr8_group lr8_group0 Cx IC (ev_grpA g' hg') (ev_grpB g' hg') (ev_grpC g' hg') hS hl.1 (fun ad => ⟨⟨_, rfl, zIs_e b1⟩, ⟨_, rfl, zIs_e b2⟩, trivial⟩) (Nat.zero_le _) rfl hcb hsb (fun w1 own1 ad1 r ov H1 locs1 cells1 slots1 hov hP1 IC1 ht1 hfr1 hS1 hcb1 hsb1 => ?_)
    obtain ⟨i1, e1, d1⟩ := zeqI_c hP1 hov
    subst e1
    refine lv_aload_n (pc := 158) Cx.1 hb dl_158 rfl (lv_at hl 1 rfl) ?_
    refine lw_argk (pc := 159) (j := 1) (k0 := 3) (k3 := 0) dl_159 dl_160 dl_161 dl_162 dl_163 rfl (by omega) hLm Cx.1 hb hX hbl hS1 hl rfl rfl ?_
    refine lw_argk (pc := 164) (j := 2) (k0 := 3) (k3 := 0) dl_164 dl_165 dl_166 dl_167 dl_168 rfl (by omega) hLm Cx.1 hb hX hbl hS1 hl rfl rfl ?_
    refine q_grpR (X := X_lw meth.name) (pc := 169) (as' := [zI (qgN g'), zI (qgP g')]) (av' := [.int (xs (i0 + 1)), .int (xs (i0 + 2))]) (st := [.int i1]) hg hg' m_X9_groupb lr9_group Cx (qR_kept hfr1 IR) (ev_grpR g' hg') ev_hRw hS1 hl.1 (fun ad => ⟨⟨_, rfl, zIs_e b1⟩, ⟨_, rfl, zIs_e b2⟩, trivial⟩) (show 1 + 0 ≤ 8 by decide) rfl (by omega) (by omega) (fun wR1 ad2 r2 ov2 H2 locs2 hov2 hP2 IR2 ht2 hfr2 hS2 => ?_)
    obtain ⟨i2, e2, d2⟩ := zeqI_c hP2 hov2
    subst e2
    have e3 := zi_inj (d1.trans d2.symm)
    subst e3
    refine lv_icmp_eq (pc := 172) (tgt := 986) Cx.1 hb dl_172 (by decide) (fun _ => fin _ _ _ _ _ _ _ _ hg' ⟨qC_kept hfr2 IC1, IR2, by rw [ht2, ht1, ht], by rw [ht1]; exact htl⟩ hS2 hcb1 hsb1) (fun h => absurd rfl h)
  · refine q_subC0 (X := X_lw meth.name) (pc := 155) (as' := [zI r1, zI r2]) (av' := [.int (xs (i0 + 1)), .int (xs (i0 + 2))]) (st := []) hg m_X8_groupa lr8_group0 Cx IC hT hS hl.1 (fun ad => ⟨⟨_, rfl, hr1⟩, ⟨_, rfl, hr2⟩, trivial⟩) (Nat.zero_le _) rfl (by omega) (by omega) (fun w1 ad1 r ov H1 locs1 hov hP1 IC1 hm1 ht1 hfr1 hS1 => ?_)
    obtain ⟨i1, e1, d1⟩ := zeqI_c hP1 hov
    subst e1
    refine lv_aload_n (pc := 158) Cx.1 hb dl_158 rfl (lv_at hl 1 rfl) ?_
    refine lw_argk (pc := 159) (j := 1) (k0 := 3) (k3 := 0) dl_159 dl_160 dl_161 dl_162 dl_163 rfl (by omega) hLm Cx.1 hb hX hbl hS1 hl rfl rfl ?_
    refine lw_argk (pc := 164) (j := 2) (k0 := 3) (k3 := 0) dl_164 dl_165 dl_166 dl_167 dl_168 rfl (by omega) hLm Cx.1 hb hX hbl hS1 hl rfl rfl ?_
    refine q_subR0 (X := X_lw meth.name) (pc := 169) (as' := [zI r1, zI r2]) (av' := [.int (xs (i0 + 1)), .int (xs (i0 + 2))]) (st := [.int i1]) hg m_X9_groupb lr9_group Cx (qR_kept hfr1 IR) hT2 ev_obR hS1 hl.1 (fun ad => ⟨⟨_, rfl, hr1⟩, ⟨_, rfl, hr2⟩, trivial⟩) (show 1 + 0 ≤ 8 by decide) rfl (by omega) (by omega) (fun wR1 ad2 r2 ov2 H2 locs2 hov2 hP2 IR2 ht2 hfr2 hS2 => ?_)
    obtain ⟨i2, e2, d2⟩ := zeqI_c hP2 hov2
    subst e2
    have e3 := zi_inj (d1.trans d2.symm)
    subst e3
    refine lv_icmp_eq (pc := 172) (tgt := 986) Cx.1 hb dl_172 (by decide) (fun _ => fin _ _ _ _ _ _ _ _ hg ⟨qC_kept hfr2 IC1, IR2, by rw [ht2, ht1, ht], by rw [ht1]; exact htl⟩ hS2 (by rw [hm1]; exact hcb) (by rw [hm1]; exact hsb)) (fun h => absurd rfl h)

theorem lw_c_feed [G : zGh] {p : Program} {l : Launch} {e : Env} {s : State} {m : MethodId} {below : List Frame} {meth : Method} {c : Code} {b L i0 : Nat} {xs : Nat → Int32} {cA : Nat → ClassId} {D : va_G} {Q : State → Prop} {ls : Array Slot} {H : Heap} {locs : List Loc} {own : Nat → Nat} {ax am g cells slots : Nat} {w0 wR : va_W}
  (Cx : zCx (X_lw meth.name) cA D p s m #[Value.ref b] meth c (fun q => s.heap.size ≤ q)) (hX : va_X b L xs s s.heap) (hbl : b < s.heap.size) (hL : i0 + 6 ≤ L) (hLm : L ≤ 3072) (hg : g < 24) (I0 : qI cA D (fun q => s.heap.size ≤ q) H own ax am g w0 wR) (hS : va_S (fun q => s.heap.size ≤ q) s.heap H locs)
  (hl : lv_has ls 4 [(3, .int (nI i0)), (2, .ref am), (1, .ref ax), (0, .ref b)]) (hcb : cells + 1000 * qMis w0 ≤ 600000) (hsb : slots + 80000 * qMis w0 ≤ 7302250)
  (fin : ∀ (H1 : Heap) (locs1 : List Loc) (own1 : Nat → Nat) (g1 : Nat) (w1 wR1 : va_W) (cells1 slots1 : Nat), g1 < 24 → qI cA D (fun q => s.heap.size ≤ q) H1 own1 ax am g1 w1 wR1 → va_S (fun q => s.heap.size ≤ q) s.heap H1 locs1 → cells1 + 1000 * qMis w1 ≤ 600000 → slots1 + 80000 * qMis w1 ≤ 7302250 → W p l e (zRm 1000 600000 7302250) s m #[Value.ref b] below meth c H1 locs1 cells1 slots1 Q (F0 m 986 ls [])) :
  W p l e (zRm 1000 600000 7302250) s m #[Value.ref b] below meth c H locs cells slots Q (F0 m 177 ls []) := by
  have hb : c.code = code := Cx.2.1.trans (X_lw_c _)
  obtain ⟨IC, IR, ht, htl⟩ := I0
  have hT := q_feedC _ htl
  have hT2 := q_feedR _ htl
  refine lv_aload_n (pc := 177) Cx.1 hb dl_177 rfl (lv_at hl 2 rfl) ?_
  refine lw_argk (pc := 178) (j := 1) (k0 := 3) (k3 := 0) dl_178 dl_179 dl_180 dl_181 dl_182 rfl (by omega) hLm Cx.1 hb hX hbl hS hl rfl rfl ?_
  refine lw_argk (pc := 183) (j := 2) (k0 := 3) (k3 := 0) dl_183 dl_184 dl_185 dl_186 dl_187 rfl (by omega) hLm Cx.1 hb hX hbl hS hl rfl rfl ?_
  refine lw_argk (pc := 188) (j := 3) (k0 := 3) (k3 := 0) dl_188 dl_189 dl_190 dl_191 dl_192 rfl (by omega) hLm Cx.1 hb hX hbl hS hl rfl rfl ?_
  refine lw_argk (pc := 193) (j := 4) (k0 := 3) (k3 := 0) dl_193 dl_194 dl_195 dl_196 dl_197 rfl (by omega) hLm Cx.1 hb hX hbl hS hl rfl rfl ?_
  refine lw_argk (pc := 198) (j := 5) (k0 := 3) (k3 := 0) dl_198 dl_199 dl_200 dl_201 dl_202 rfl (by omega) hLm Cx.1 hb hX hbl hS hl rfl rfl ?_
  refine q_subC (X := X_lw meth.name) (pc := 203) (as' := [zI 4294967296, zI 4294967296, zI 4294967296, zI 4294967296, zI 4294967296]) (av' := [.int (xs (i0 + 1)), .int (xs (i0 + 2)), .int (xs (i0 + 3)), .int (xs (i0 + 4)), .int (xs (i0 + 5))]) (st := []) hg m_X8_feeda lr8_feed Cx IC (fun Ch cB ws hH hz => hTC_op hH hz htl) (qfT_le htl) hT hS hl.1 (fun ad => ⟨⟨_, rfl, zIs_u _⟩, ⟨_, rfl, zIs_u _⟩, ⟨_, rfl, zIs_u _⟩, ⟨_, rfl, zIs_u _⟩, ⟨_, rfl, zIs_u _⟩, trivial⟩) (Nat.zero_le _) rfl (by omega) (by omega) (fun w1 ad1 r ov H1 locs1 hov hP1 IC1 hm1 ht1 hfr1 hS1 => ?_)
  obtain ⟨i1, e1, d1⟩ := zeqI_c hP1 hov
  subst e1
  refine lv_pop (pc := 206) (va := .int i1) Cx.1 hb dl_206 rfl ?_
  refine lv_aload_n (pc := 207) Cx.1 hb dl_207 rfl (lv_at hl 1 rfl) ?_
  refine lw_argk (pc := 208) (j := 1) (k0 := 3) (k3 := 0) dl_208 dl_209 dl_210 dl_211 dl_212 rfl (by omega) hLm Cx.1 hb hX hbl hS1 hl rfl rfl ?_
  refine lw_argk (pc := 213) (j := 2) (k0 := 3) (k3 := 0) dl_213 dl_214 dl_215 dl_216 dl_217 rfl (by omega) hLm Cx.1 hb hX hbl hS1 hl rfl rfl ?_
  refine lw_argk (pc := 218) (j := 3) (k0 := 3) (k3 := 0) dl_218 dl_219 dl_220 dl_221 dl_222 rfl (by omega) hLm Cx.1 hb hX hbl hS1 hl rfl rfl ?_
  refine lw_argk (pc := 223) (j := 4) (k0 := 3) (k3 := 0) dl_223 dl_224 dl_225 dl_226 dl_227 rfl (by omega) hLm Cx.1 hb hX hbl hS1 hl rfl rfl ?_
  refine lw_argk (pc := 228) (j := 5) (k0 := 3) (k3 := 0) dl_228 dl_229 dl_230 dl_231 dl_232 rfl (by omega) hLm Cx.1 hb hX hbl hS1 hl rfl rfl ?_
  refine q_subR (X := X_lw meth.name) (pc := 233) (as' := [zI 4294967296, zI 4294967296, zI 4294967296, zI 4294967296, zI 4294967296]) (av' := [.int (xs (i0 + 1)), .int (xs (i0 + 2)), .int (xs (i0 + 3)), .int (xs (i0 + 4)), .int (xs (i0 + 5))]) (st := []) hg m_X9_feeda lr9_feed Cx (qR_kept hfr1 IR) (fun Ch cB ws hH hz => hTR_op hH (hz.trans ht) htl) (qfT_le htl) hT2 hS1 hl.1 (fun ad => ⟨⟨_, rfl, zIs_u _⟩, ⟨_, rfl, zIs_u _⟩, ⟨_, rfl, zIs_u _⟩, ⟨_, rfl, zIs_u _⟩, ⟨_, rfl, zIs_u _⟩, trivial⟩) (Nat.zero_le _) rfl (by omega) (by omega) (fun wR1 ad2 r2 ov2 H2 locs2 hov2 hP2 IR2 ht2 hfr2 hS2 => ?_)
  obtain ⟨i2, e2, d2⟩ := zeqI_c hP2 hov2
  subst e2
  refine lv_pop (pc := 236) (va := .int i2) Cx.1 hb dl_236 rfl ?_
  refine lv_goto (pc := 237) (tgt := 986) Cx.1 hb dl_237 (by decide) ?_
  exact fin _ _ _ _ _ _ _ _ hg ⟨qC_kept hfr2 IC1, IR2, by rw [ht2, ht1], by rw [ht1]; exact qfT_le htl⟩ hS2 (by rw [hm1]; exact hcb) (by rw [hm1]; exact hsb)

theorem lw_c_end [G : zGh] {p : Program} {l : Launch} {e : Env} {s : State} {m : MethodId} {below : List Frame} {meth : Method} {c : Code} {b L i0 : Nat} {xs : Nat → Int32} {cA : Nat → ClassId} {D : va_G} {Q : State → Prop} {ls : Array Slot} {H : Heap} {locs : List Loc} {own : Nat → Nat} {ax am g cells slots : Nat} {w0 wR : va_W}
  (Cx : zCx (X_lw meth.name) cA D p s m #[Value.ref b] meth c (fun q => s.heap.size ≤ q)) (hX : va_X b L xs s s.heap) (hbl : b < s.heap.size) (hL : i0 + 6 ≤ L) (hLm : L ≤ 3072) (hg : g < 24) (I0 : qI cA D (fun q => s.heap.size ≤ q) H own ax am g w0 wR) (hS : va_S (fun q => s.heap.size ≤ q) s.heap H locs)
  (hl : lv_has ls 4 [(3, .int (nI i0)), (2, .ref am), (1, .ref ax), (0, .ref b)]) (hcb : cells + 1000 * qMis w0 ≤ 600000) (hsb : slots + 80000 * qMis w0 ≤ 7302250)
  (fin : ∀ (H1 : Heap) (locs1 : List Loc) (own1 : Nat → Nat) (g1 : Nat) (w1 wR1 : va_W) (cells1 slots1 : Nat), g1 < 24 → qI cA D (fun q => s.heap.size ≤ q) H1 own1 ax am g1 w1 wR1 → va_S (fun q => s.heap.size ≤ q) s.heap H1 locs1 → cells1 + 1000 * qMis w1 ≤ 600000 → slots1 + 80000 * qMis w1 ≤ 7302250 → W p l e (zRm 1000 600000 7302250) s m #[Value.ref b] below meth c H1 locs1 cells1 slots1 Q (F0 m 986 ls [])) :
  W p l e (zRm 1000 600000 7302250) s m #[Value.ref b] below meth c H locs cells slots Q (F0 m 240 ls []) := by
  have hb : c.code = code := Cx.2.1.trans (X_lw_c _)
  obtain ⟨IC, IR, ht, htl⟩ := I0
  obtain ⟨r1, v1, hr1, ho1, hT⟩ := q_endC _ htl (xs (i0 + 1))
  obtain ⟨q1, v2, hq1, ho2, hT2⟩ := q_endR _ htl (xs (i0 + 1))
  refine lv_aload_n (pc := 240) Cx.1 hb dl_240 rfl (lv_at hl 2 rfl) ?_
  refine lw_argk (pc := 241) (j := 1) (k0 := 3) (k3 := 0) dl_241 dl_242 dl_243 dl_244 dl_245 rfl (by omega) hLm Cx.1 hb hX hbl hS hl rfl rfl ?_
  refine q_subC (X := X_lw meth.name) (pc := 246) (as' := [zI r1]) (av' := [.int (xs (i0 + 1))]) (st := []) hg m_X8_endt lr8_end Cx IC (fun Ch cB ws hH hz => ho1 Ch cB ws hH hz) (qeT_le htl) hT hS hl.1 (fun ad => ⟨⟨_, rfl, hr1 G⟩, trivial⟩) (Nat.zero_le _) rfl (by omega) (by omega) (fun w1 ad1 r ov H1 locs1 hov hP1 IC1 hm1 ht1 hfr1 hS1 => ?_)
  obtain ⟨i1, e1, d1⟩ := zeqI_c hP1 hov
  subst e1
  refine lv_pop (pc := 249) (va := .int i1) Cx.1 hb dl_249 rfl ?_
  refine lv_aload_n (pc := 250) Cx.1 hb dl_250 rfl (lv_at hl 1 rfl) ?_
  refine lw_argk (pc := 251) (j := 1) (k0 := 3) (k3 := 0) dl_251 dl_252 dl_253 dl_254 dl_255 rfl (by omega) hLm Cx.1 hb hX hbl hS1 hl rfl rfl ?_
  refine q_subR (X := X_lw meth.name) (pc := 256) (as' := [zI q1]) (av' := [.int (xs (i0 + 1))]) (st := []) hg m_X9_endt lr9_end Cx (qR_kept hfr1 IR) (fun Ch cB ws hH hz => ho2 Ch cB ws hH (hz.trans ht)) (qeT_le htl) hT2 hS1 hl.1 (fun ad => ⟨⟨_, rfl, hq1 G⟩, trivial⟩) (Nat.zero_le _) rfl (by omega) (by omega) (fun wR1 ad2 r2 ov2 H2 locs2 hov2 hP2 IR2 ht2 hfr2 hS2 => ?_)
  obtain ⟨i2, e2, d2⟩ := zeqI_c hP2 hov2
  subst e2
  refine lv_pop (pc := 259) (va := .int i2) Cx.1 hb dl_259 rfl ?_
  refine lv_goto (pc := 260) (tgt := 986) Cx.1 hb dl_260 (by decide) ?_
  exact fin _ _ _ _ _ _ _ _ hg ⟨qC_kept hfr2 IC1, IR2, by rw [ht2, ht1], by rw [ht1]; exact qeT_le htl⟩ hS2 (by rw [hm1]; exact hcb) (by rw [hm1]; exact hsb)

theorem lw_c_text [G : zGh] {p : Program} {l : Launch} {e : Env} {s : State} {m : MethodId} {below : List Frame} {meth : Method} {c : Code} {b L i0 : Nat} {xs : Nat → Int32} {cA : Nat → ClassId} {D : va_G} {Q : State → Prop} {ls : Array Slot} {H : Heap} {locs : List Loc} {own : Nat → Nat} {ax am g cells slots : Nat} {w0 wR : va_W}
  (Cx : zCx (X_lw meth.name) cA D p s m #[Value.ref b] meth c (fun q => s.heap.size ≤ q)) (hX : va_X b L xs s s.heap) (hbl : b < s.heap.size) (hL : i0 + 6 ≤ L) (hLm : L ≤ 3072) (hg : g < 24) (I0 : qI cA D (fun q => s.heap.size ≤ q) H own ax am g w0 wR) (hS : va_S (fun q => s.heap.size ≤ q) s.heap H locs)
  (hl : lv_has ls 4 [(3, .int (nI i0)), (2, .ref am), (1, .ref ax), (0, .ref b)]) (hcb : cells + 1000 * qMis w0 ≤ 600000) (hsb : slots + 80000 * qMis w0 ≤ 7302250)
  (fin : ∀ (H1 : Heap) (locs1 : List Loc) (own1 : Nat → Nat) (g1 : Nat) (w1 wR1 : va_W) (cells1 slots1 : Nat), g1 < 24 → qI cA D (fun q => s.heap.size ≤ q) H1 own1 ax am g1 w1 wR1 → va_S (fun q => s.heap.size ≤ q) s.heap H1 locs1 → cells1 + 1000 * qMis w1 ≤ 600000 → slots1 + 80000 * qMis w1 ≤ 7302250 → W p l e (zRm 1000 600000 7302250) s m #[Value.ref b] below meth c H1 locs1 cells1 slots1 Q (F0 m 986 ls [])) :
  W p l e (zRm 1000 600000 7302250) s m #[Value.ref b] below meth c H locs cells slots Q (F0 m 263 ls []) := by
  have hb : c.code = code := Cx.2.1.trans (X_lw_c _)
  obtain ⟨IC, IR, ht, htl⟩ := I0
  refine lv_aload_n (pc := 263) Cx.1 hb dl_263 rfl (lv_at hl 2 rfl) ?_
  refine lw_argk (pc := 264) (j := 1) (k0 := 3) (k3 := 0) dl_264 dl_265 dl_266 dl_267 dl_268 rfl (by omega) hLm Cx.1 hb hX hbl hS hl rfl rfl ?_
  refine q_txtC (X := X_lw meth.name) (pc := 269) (as' := [zI 4294967296]) (av' := [.int (xs (i0 + 1))]) (st := []) hg (mTC g) lr8_text Cx IC htl (ev_txtC g hg) (fun r h hP => (zands_c (zands_c hP).2).1) hS hl.1 (fun ad => ⟨⟨_, rfl, zIs_u _⟩, trivial⟩) (Nat.zero_le _) rfl (by omega) (by omega) (fun w1 ad1 r h1 ov H1 locs1 hov hP1 IC1 hm1 ht1 hfr1 hS1 => ?_)
  obtain ⟨v_, e_⟩ := zrI_t (zands_c hP1).1 hov
  subst e_
  refine lv_pop (pc := 272) (va := .int v_) Cx.1 hb dl_272 rfl ?_
  refine lv_aload_n (pc := 273) Cx.1 hb dl_273 rfl (lv_at hl 1 rfl) ?_
  refine lw_argk (pc := 274) (j := 1) (k0 := 3) (k3 := 0) dl_274 dl_275 dl_276 dl_277 dl_278 rfl (by omega) hLm Cx.1 hb hX hbl hS1 hl rfl rfl ?_
  refine q_txtR (X := X_lw meth.name) (pc := 279) (as' := [zI 4294967296]) (av' := [.int (xs (i0 + 1))]) (st := []) hg (mTR g) lr9_text Cx (qR_kept hfr1 IR) (by rw [ht]; exact htl) (ev_txtR g hg) (fun r h hP => (zands_c (zands_c hP).2).1) hS1 hl.1 (fun ad => ⟨⟨_, rfl, zIs_u _⟩, trivial⟩) (Nat.zero_le _) rfl (by omega) (by omega) (fun wR1 ad2 r2 h2 ov2 H2 locs2 hov2 hP2 IR2 ht2 hfr2 hS2 => ?_)
  obtain ⟨v_, e_⟩ := zrI_t (zands_c hP2).1 hov2
  subst e_
  refine lv_pop (pc := 282) (va := .int v_) Cx.1 hb dl_282 rfl ?_
  refine lv_goto (pc := 283) (tgt := 986) Cx.1 hb dl_283 (by decide) ?_
  exact fin _ _ _ _ _ _ _ _ hg ⟨qC_kept hfr2 IC1, IR2, by rw [ht2, ht1], by rw [ht1]; exact Nat.zero_le _⟩ hS2 (by rw [hm1]; exact hcb) (by rw [hm1]; exact hsb)

theorem lw_c_fault [G : zGh] {p : Program} {l : Launch} {e : Env} {s : State} {m : MethodId} {below : List Frame} {meth : Method} {c : Code} {b L i0 : Nat} {xs : Nat → Int32} {cA : Nat → ClassId} {D : va_G} {Q : State → Prop} {ls : Array Slot} {H : Heap} {locs : List Loc} {own : Nat → Nat} {ax am g cells slots : Nat} {w0 wR : va_W}
  (Cx : zCx (X_lw meth.name) cA D p s m #[Value.ref b] meth c (fun q => s.heap.size ≤ q)) (hX : va_X b L xs s s.heap) (hbl : b < s.heap.size) (hL : i0 + 6 ≤ L) (hLm : L ≤ 3072) (hg : g < 24) (I0 : qI cA D (fun q => s.heap.size ≤ q) H own ax am g w0 wR) (hS : va_S (fun q => s.heap.size ≤ q) s.heap H locs)
  (hl : lv_has ls 4 [(3, .int (nI i0)), (2, .ref am), (1, .ref ax), (0, .ref b)]) (hcb : cells + 1000 * qMis w0 ≤ 600000) (hsb : slots + 80000 * qMis w0 ≤ 7302250)
  (fin : ∀ (H1 : Heap) (locs1 : List Loc) (own1 : Nat → Nat) (g1 : Nat) (w1 wR1 : va_W) (cells1 slots1 : Nat), g1 < 24 → qI cA D (fun q => s.heap.size ≤ q) H1 own1 ax am g1 w1 wR1 → va_S (fun q => s.heap.size ≤ q) s.heap H1 locs1 → cells1 + 1000 * qMis w1 ≤ 600000 → slots1 + 80000 * qMis w1 ≤ 7302250 → W p l e (zRm 1000 600000 7302250) s m #[Value.ref b] below meth c H1 locs1 cells1 slots1 Q (F0 m 986 ls [])) :
  W p l e (zRm 1000 600000 7302250) s m #[Value.ref b] below meth c H locs cells slots Q (F0 m 286 ls []) := by
  have hb : c.code = code := Cx.2.1.trans (X_lw_c _)
  obtain ⟨IC, IR, ht, htl⟩ := I0
  obtain ⟨r1, hr1, hT⟩ := evC_fault g hg G (xs (i0 + 1))
  obtain ⟨q1, hq1, hT2⟩ := evR_fault g hg G (xs (i0 + 1))
  refine lv_aload_n (pc := 286) Cx.1 hb dl_286 rfl (lv_at hl 2 rfl) ?_
  refine lw_argk (pc := 287) (j := 1) (k0 := 3) (k3 := 0) dl_287 dl_288 dl_289 dl_290 dl_291 rfl (by omega) hLm Cx.1 hb hX hbl hS hl rfl rfl ?_
  refine q_ordC1 (X := X_lw meth.name) (pc := 292) (as' := [zI r1]) (av' := [.int (xs (i0 + 1))]) (st := []) hg m_X8_faulta lr8_fault Cx IC hT (fun r h hP => (zands_c (zands_c hP).2).1) hS hl.1 (fun ad => ⟨⟨_, rfl, hr1⟩, trivial⟩) (Nat.zero_le _) rfl (by omega) (by omega) (fun w1 ad1 r h1 ov H1 locs1 hov hP1 IC1 hm1 ht1 hfr1 hS1 => ?_)
  obtain ⟨v_, e_⟩ := zrI_t (zands_c hP1).1 hov
  subst e_
  refine lv_pop (pc := 295) (va := .int v_) Cx.1 hb dl_295 rfl ?_
  refine lv_aload_n (pc := 296) Cx.1 hb dl_296 rfl (lv_at hl 1 rfl) ?_
  refine lw_argk (pc := 297) (j := 1) (k0 := 3) (k3 := 0) dl_297 dl_298 dl_299 dl_300 dl_301 rfl (by omega) hLm Cx.1 hb hX hbl hS1 hl rfl rfl ?_
  refine q_ordR1 (X := X_lw meth.name) (pc := 302) (as' := [zI q1]) (av' := [.int (xs (i0 + 1))]) (st := []) hg m_X9_faulta lr9_fault Cx (qR_kept hfr1 IR) hT2 (fun r h hP => (zands_c (zands_c hP).2).1) hS1 hl.1 (fun ad => ⟨⟨_, rfl, hq1⟩, trivial⟩) (Nat.zero_le _) rfl (by omega) (by omega) (fun wR1 ad2 r2 h2 ov2 H2 locs2 hov2 hP2 IR2 ht2 hfr2 hS2 => ?_)
  obtain ⟨v_, e_⟩ := zrI_t (zands_c hP2).1 hov2
  subst e_
  refine lv_pop (pc := 305) (va := .int v_) Cx.1 hb dl_305 rfl ?_
  refine lv_goto (pc := 306) (tgt := 986) Cx.1 hb dl_306 (by decide) ?_
  exact fin _ _ _ _ _ _ _ _ hg ⟨qC_kept hfr2 IC1, IR2, by rw [ht2, ht1, ht], by rw [ht1]; exact htl⟩ hS2 (by rw [hm1]; exact hcb) (by rw [hm1]; exact hsb)

theorem lw_c_partition [G : zGh] {p : Program} {l : Launch} {e : Env} {s : State} {m : MethodId} {below : List Frame} {meth : Method} {c : Code} {b L i0 : Nat} {xs : Nat → Int32} {cA : Nat → ClassId} {D : va_G} {Q : State → Prop} {ls : Array Slot} {H : Heap} {locs : List Loc} {own : Nat → Nat} {ax am g cells slots : Nat} {w0 wR : va_W}
  (Cx : zCx (X_lw meth.name) cA D p s m #[Value.ref b] meth c (fun q => s.heap.size ≤ q)) (hX : va_X b L xs s s.heap) (hbl : b < s.heap.size) (hL : i0 + 6 ≤ L) (hLm : L ≤ 3072) (hg : g < 24) (I0 : qI cA D (fun q => s.heap.size ≤ q) H own ax am g w0 wR) (hS : va_S (fun q => s.heap.size ≤ q) s.heap H locs)
  (hl : lv_has ls 4 [(3, .int (nI i0)), (2, .ref am), (1, .ref ax), (0, .ref b)]) (hcb : cells + 1000 * qMis w0 ≤ 600000) (hsb : slots + 80000 * qMis w0 ≤ 7302250)
  (fin : ∀ (H1 : Heap) (locs1 : List Loc) (own1 : Nat → Nat) (g1 : Nat) (w1 wR1 : va_W) (cells1 slots1 : Nat), g1 < 24 → qI cA D (fun q => s.heap.size ≤ q) H1 own1 ax am g1 w1 wR1 → va_S (fun q => s.heap.size ≤ q) s.heap H1 locs1 → cells1 + 1000 * qMis w1 ≤ 600000 → slots1 + 80000 * qMis w1 ≤ 7302250 → W p l e (zRm 1000 600000 7302250) s m #[Value.ref b] below meth c H1 locs1 cells1 slots1 Q (F0 m 986 ls [])) :
  W p l e (zRm 1000 600000 7302250) s m #[Value.ref b] below meth c H locs cells slots Q (F0 m 309 ls []) := by
  have hb : c.code = code := Cx.2.1.trans (X_lw_c _)
  obtain ⟨IC, IR, ht, htl⟩ := I0
  obtain ⟨r1, r2, hr1, hr2, hT⟩ := evC_partition g hg G (xs (i0 + 1)) (xs (i0 + 2))
  obtain ⟨q1, q2, hq1, hq2, hT2⟩ := evR_partition g hg G (xs (i0 + 1)) (xs (i0 + 2))
  refine lv_aload_n (pc := 309) Cx.1 hb dl_309 rfl (lv_at hl 2 rfl) ?_
  refine lw_argk (pc := 310) (j := 1) (k0 := 3) (k3 := 0) dl_310 dl_311 dl_312 dl_313 dl_314 rfl (by omega) hLm Cx.1 hb hX hbl hS hl rfl rfl ?_
  refine lw_argk (pc := 315) (j := 2) (k0 := 3) (k3 := 0) dl_315 dl_316 dl_317 dl_318 dl_319 rfl (by omega) hLm Cx.1 hb hX hbl hS hl rfl rfl ?_
  refine q_ordC1 (X := X_lw meth.name) (pc := 320) (as' := [zI r1, zI r2]) (av' := [.int (xs (i0 + 1)), .int (xs (i0 + 2))]) (st := []) hg m_X8_partitiona lr8_partition Cx IC hT (fun r h hP => (zands_c (zands_c hP).2).1) hS hl.1 (fun ad => ⟨⟨_, rfl, hr1⟩, ⟨_, rfl, hr2⟩, trivial⟩) (Nat.zero_le _) rfl (by omega) (by omega) (fun w1 ad1 r h1 ov H1 locs1 hov hP1 IC1 hm1 ht1 hfr1 hS1 => ?_)
  obtain ⟨v_, e_⟩ := zrI_t (zands_c hP1).1 hov
  subst e_
  refine lv_pop (pc := 323) (va := .int v_) Cx.1 hb dl_323 rfl ?_
  refine lv_aload_n (pc := 324) Cx.1 hb dl_324 rfl (lv_at hl 1 rfl) ?_
  refine lw_argk (pc := 325) (j := 1) (k0 := 3) (k3 := 0) dl_325 dl_326 dl_327 dl_328 dl_329 rfl (by omega) hLm Cx.1 hb hX hbl hS1 hl rfl rfl ?_
  refine lw_argk (pc := 330) (j := 2) (k0 := 3) (k3 := 0) dl_330 dl_331 dl_332 dl_333 dl_334 rfl (by omega) hLm Cx.1 hb hX hbl hS1 hl rfl rfl ?_
  refine q_ordR1 (X := X_lw meth.name) (pc := 335) (as' := [zI q1, zI q2]) (av' := [.int (xs (i0 + 1)), .int (xs (i0 + 2))]) (st := []) hg m_X9_partitiona lr9_partition Cx (qR_kept hfr1 IR) hT2 (fun r h hP => (zands_c (zands_c hP).2).1) hS1 hl.1 (fun ad => ⟨⟨_, rfl, hq1⟩, ⟨_, rfl, hq2⟩, trivial⟩) (Nat.zero_le _) rfl (by omega) (by omega) (fun wR1 ad2 r2 h2 ov2 H2 locs2 hov2 hP2 IR2 ht2 hfr2 hS2 => ?_)
  obtain ⟨v_, e_⟩ := zrI_t (zands_c hP2).1 hov2
  subst e_
  refine lv_pop (pc := 338) (va := .int v_) Cx.1 hb dl_338 rfl ?_
  refine lv_goto (pc := 339) (tgt := 986) Cx.1 hb dl_339 (by decide) ?_
  exact fin _ _ _ _ _ _ _ _ hg ⟨qC_kept hfr2 IC1, IR2, by rw [ht2, ht1, ht], by rw [ht1]; exact htl⟩ hS2 (by rw [hm1]; exact hcb) (by rw [hm1]; exact hsb)

theorem lw_c_of [G : zGh] {p : Program} {l : Launch} {e : Env} {s : State} {m : MethodId} {below : List Frame} {meth : Method} {c : Code} {b L i0 : Nat} {xs : Nat → Int32} {cA : Nat → ClassId} {D : va_G} {Q : State → Prop} {ls : Array Slot} {H : Heap} {locs : List Loc} {own : Nat → Nat} {ax am g cells slots : Nat} {w0 wR : va_W}
  (Cx : zCx (X_lw meth.name) cA D p s m #[Value.ref b] meth c (fun q => s.heap.size ≤ q)) (hX : va_X b L xs s s.heap) (hbl : b < s.heap.size) (hL : i0 + 6 ≤ L) (hLm : L ≤ 3072) (hg : g < 24) (I0 : qI cA D (fun q => s.heap.size ≤ q) H own ax am g w0 wR) (hS : va_S (fun q => s.heap.size ≤ q) s.heap H locs)
  (hl : lv_has ls 4 [(3, .int (nI i0)), (2, .ref am), (1, .ref ax), (0, .ref b)]) (hcb : cells + 1000 * qMis w0 ≤ 600000) (hsb : slots + 80000 * qMis w0 ≤ 7302250)
  (fin : ∀ (H1 : Heap) (locs1 : List Loc) (own1 : Nat → Nat) (g1 : Nat) (w1 wR1 : va_W) (cells1 slots1 : Nat), g1 < 24 → qI cA D (fun q => s.heap.size ≤ q) H1 own1 ax am g1 w1 wR1 → va_S (fun q => s.heap.size ≤ q) s.heap H1 locs1 → cells1 + 1000 * qMis w1 ≤ 600000 → slots1 + 80000 * qMis w1 ≤ 7302250 → W p l e (zRm 1000 600000 7302250) s m #[Value.ref b] below meth c H1 locs1 cells1 slots1 Q (F0 m 986 ls [])) :
  W p l e (zRm 1000 600000 7302250) s m #[Value.ref b] below meth c H locs cells slots Q (F0 m 342 ls []) := by
  have hb : c.code = code := Cx.2.1.trans (X_lw_c _)
  obtain ⟨IC, IR, ht, htl⟩ := I0
  obtain ⟨r1, r2, hr1, hr2, hT⟩ := evC_of g hg G (xs (i0 + 1)) (xs (i0 + 2))
  obtain ⟨q1, q2, hq1, hq2, hT2⟩ := evR_of g hg G (xs (i0 + 1)) (xs (i0 + 2))
  refine lv_aload_n (pc := 342) Cx.1 hb dl_342 rfl (lv_at hl 2 rfl) ?_
  refine lw_argk (pc := 343) (j := 1) (k0 := 3) (k3 := 0) dl_343 dl_344 dl_345 dl_346 dl_347 rfl (by omega) hLm Cx.1 hb hX hbl hS hl rfl rfl ?_
  refine lw_argk (pc := 348) (j := 2) (k0 := 3) (k3 := 0) dl_348 dl_349 dl_350 dl_351 dl_352 rfl (by omega) hLm Cx.1 hb hX hbl hS hl rfl rfl ?_
  refine q_ordC1 (X := X_lw meth.name) (pc := 353) (as' := [zI r1, zI r2]) (av' := [.int (xs (i0 + 1)), .int (xs (i0 + 2))]) (st := []) hg m_X8_ofa lr8_of Cx IC hT (fun r h hP => (zands_c (zands_c hP).2).1) hS hl.1 (fun ad => ⟨⟨_, rfl, hr1⟩, ⟨_, rfl, hr2⟩, trivial⟩) (Nat.zero_le _) rfl (by omega) (by omega) (fun w1 ad1 r h1 ov H1 locs1 hov hP1 IC1 hm1 ht1 hfr1 hS1 => ?_)
  obtain ⟨v_, e_⟩ := zrI_t (zands_c hP1).1 hov
  subst e_
  refine lv_pop (pc := 356) (va := .int v_) Cx.1 hb dl_356 rfl ?_
  refine lv_aload_n (pc := 357) Cx.1 hb dl_357 rfl (lv_at hl 1 rfl) ?_
  refine lw_argk (pc := 358) (j := 1) (k0 := 3) (k3 := 0) dl_358 dl_359 dl_360 dl_361 dl_362 rfl (by omega) hLm Cx.1 hb hX hbl hS1 hl rfl rfl ?_
  refine lw_argk (pc := 363) (j := 2) (k0 := 3) (k3 := 0) dl_363 dl_364 dl_365 dl_366 dl_367 rfl (by omega) hLm Cx.1 hb hX hbl hS1 hl rfl rfl ?_
  refine q_ordR1 (X := X_lw meth.name) (pc := 368) (as' := [zI q1, zI q2]) (av' := [.int (xs (i0 + 1)), .int (xs (i0 + 2))]) (st := []) hg m_X9_ofa lr9_of Cx (qR_kept hfr1 IR) hT2 (fun r h hP => (zands_c (zands_c hP).2).1) hS1 hl.1 (fun ad => ⟨⟨_, rfl, hq1⟩, ⟨_, rfl, hq2⟩, trivial⟩) (Nat.zero_le _) rfl (by omega) (by omega) (fun wR1 ad2 r2 h2 ov2 H2 locs2 hov2 hP2 IR2 ht2 hfr2 hS2 => ?_)
  obtain ⟨v_, e_⟩ := zrI_t (zands_c hP2).1 hov2
  subst e_
  refine lv_pop (pc := 371) (va := .int v_) Cx.1 hb dl_371 rfl ?_
  refine lv_goto (pc := 372) (tgt := 986) Cx.1 hb dl_372 (by decide) ?_
  exact fin _ _ _ _ _ _ _ _ hg ⟨qC_kept hfr2 IC1, IR2, by rw [ht2, ht1, ht], by rw [ht1]; exact htl⟩ hS2 (by rw [hm1]; exact hcb) (by rw [hm1]; exact hsb)

theorem lw_c_core [G : zGh] {p : Program} {l : Launch} {e : Env} {s : State} {m : MethodId} {below : List Frame} {meth : Method} {c : Code} {b L i0 : Nat} {xs : Nat → Int32} {cA : Nat → ClassId} {D : va_G} {Q : State → Prop} {ls : Array Slot} {H : Heap} {locs : List Loc} {own : Nat → Nat} {ax am g cells slots : Nat} {w0 wR : va_W}
  (Cx : zCx (X_lw meth.name) cA D p s m #[Value.ref b] meth c (fun q => s.heap.size ≤ q)) (hX : va_X b L xs s s.heap) (hbl : b < s.heap.size) (hL : i0 + 6 ≤ L) (hLm : L ≤ 3072) (hg : g < 24) (I0 : qI cA D (fun q => s.heap.size ≤ q) H own ax am g w0 wR) (hS : va_S (fun q => s.heap.size ≤ q) s.heap H locs)
  (hl : lv_has ls 4 [(3, .int (nI i0)), (2, .ref am), (1, .ref ax), (0, .ref b)]) (hcb : cells + 1000 * qMis w0 ≤ 600000) (hsb : slots + 80000 * qMis w0 ≤ 7302250)
  (fin : ∀ (H1 : Heap) (locs1 : List Loc) (own1 : Nat → Nat) (g1 : Nat) (w1 wR1 : va_W) (cells1 slots1 : Nat), g1 < 24 → qI cA D (fun q => s.heap.size ≤ q) H1 own1 ax am g1 w1 wR1 → va_S (fun q => s.heap.size ≤ q) s.heap H1 locs1 → cells1 + 1000 * qMis w1 ≤ 600000 → slots1 + 80000 * qMis w1 ≤ 7302250 → W p l e (zRm 1000 600000 7302250) s m #[Value.ref b] below meth c H1 locs1 cells1 slots1 Q (F0 m 986 ls [])) :
  W p l e (zRm 1000 600000 7302250) s m #[Value.ref b] below meth c H locs cells slots Q (F0 m 375 ls []) := by
  have hb : c.code = code := Cx.2.1.trans (X_lw_c _)
  obtain ⟨IC, IR, ht, htl⟩ := I0
  obtain ⟨r1, r2, hr1, hr2, hT⟩ := evC_core g hg G (xs (i0 + 1)) (xs (i0 + 2))
  obtain ⟨q1, q2, hq1, hq2, hT2⟩ := evR_core g hg G (xs (i0 + 1)) (xs (i0 + 2))
  refine lv_aload_n (pc := 375) Cx.1 hb dl_375 rfl (lv_at hl 2 rfl) ?_
  refine lw_argk (pc := 376) (j := 1) (k0 := 3) (k3 := 0) dl_376 dl_377 dl_378 dl_379 dl_380 rfl (by omega) hLm Cx.1 hb hX hbl hS hl rfl rfl ?_
  refine lw_argk (pc := 381) (j := 2) (k0 := 3) (k3 := 0) dl_381 dl_382 dl_383 dl_384 dl_385 rfl (by omega) hLm Cx.1 hb hX hbl hS hl rfl rfl ?_
  refine q_ordC1 (X := X_lw meth.name) (pc := 386) (as' := [zI r1, zI r2]) (av' := [.int (xs (i0 + 1)), .int (xs (i0 + 2))]) (st := []) hg m_X8_corea lr8_core Cx IC hT (fun r h hP => (zands_c (zands_c hP).2).1) hS hl.1 (fun ad => ⟨⟨_, rfl, hr1⟩, ⟨_, rfl, hr2⟩, trivial⟩) (Nat.zero_le _) rfl (by omega) (by omega) (fun w1 ad1 r h1 ov H1 locs1 hov hP1 IC1 hm1 ht1 hfr1 hS1 => ?_)
  obtain ⟨v_, e_⟩ := zrI_t (zands_c hP1).1 hov
  subst e_
  refine lv_pop (pc := 389) (va := .int v_) Cx.1 hb dl_389 rfl ?_
  refine lv_aload_n (pc := 390) Cx.1 hb dl_390 rfl (lv_at hl 1 rfl) ?_
  refine lw_argk (pc := 391) (j := 1) (k0 := 3) (k3 := 0) dl_391 dl_392 dl_393 dl_394 dl_395 rfl (by omega) hLm Cx.1 hb hX hbl hS1 hl rfl rfl ?_
  refine lw_argk (pc := 396) (j := 2) (k0 := 3) (k3 := 0) dl_396 dl_397 dl_398 dl_399 dl_400 rfl (by omega) hLm Cx.1 hb hX hbl hS1 hl rfl rfl ?_
  refine q_ordR1 (X := X_lw meth.name) (pc := 401) (as' := [zI q1, zI q2]) (av' := [.int (xs (i0 + 1)), .int (xs (i0 + 2))]) (st := []) hg m_X9_corea lr9_core Cx (qR_kept hfr1 IR) hT2 (fun r h hP => (zands_c (zands_c hP).2).1) hS1 hl.1 (fun ad => ⟨⟨_, rfl, hq1⟩, ⟨_, rfl, hq2⟩, trivial⟩) (Nat.zero_le _) rfl (by omega) (by omega) (fun wR1 ad2 r2 h2 ov2 H2 locs2 hov2 hP2 IR2 ht2 hfr2 hS2 => ?_)
  obtain ⟨v_, e_⟩ := zrI_t (zands_c hP2).1 hov2
  subst e_
  refine lv_pop (pc := 404) (va := .int v_) Cx.1 hb dl_404 rfl ?_
  refine lv_goto (pc := 405) (tgt := 986) Cx.1 hb dl_405 (by decide) ?_
  exact fin _ _ _ _ _ _ _ _ hg ⟨qC_kept hfr2 IC1, IR2, by rw [ht2, ht1, ht], by rw [ht1]; exact htl⟩ hS2 (by rw [hm1]; exact hcb) (by rw [hm1]; exact hsb)

theorem lw_c_hook [G : zGh] {p : Program} {l : Launch} {e : Env} {s : State} {m : MethodId} {below : List Frame} {meth : Method} {c : Code} {b L i0 : Nat} {xs : Nat → Int32} {cA : Nat → ClassId} {D : va_G} {Q : State → Prop} {ls : Array Slot} {H : Heap} {locs : List Loc} {own : Nat → Nat} {ax am g cells slots : Nat} {w0 wR : va_W}
  (Cx : zCx (X_lw meth.name) cA D p s m #[Value.ref b] meth c (fun q => s.heap.size ≤ q)) (hX : va_X b L xs s s.heap) (hbl : b < s.heap.size) (hL : i0 + 6 ≤ L) (hLm : L ≤ 3072) (hg : g < 24) (I0 : qI cA D (fun q => s.heap.size ≤ q) H own ax am g w0 wR) (hS : va_S (fun q => s.heap.size ≤ q) s.heap H locs)
  (hl : lv_has ls 4 [(3, .int (nI i0)), (2, .ref am), (1, .ref ax), (0, .ref b)]) (hcb : cells + 1000 * qMis w0 ≤ 600000) (hsb : slots + 80000 * qMis w0 ≤ 7302250)
  (fin : ∀ (H1 : Heap) (locs1 : List Loc) (own1 : Nat → Nat) (g1 : Nat) (w1 wR1 : va_W) (cells1 slots1 : Nat), g1 < 24 → qI cA D (fun q => s.heap.size ≤ q) H1 own1 ax am g1 w1 wR1 → va_S (fun q => s.heap.size ≤ q) s.heap H1 locs1 → cells1 + 1000 * qMis w1 ≤ 600000 → slots1 + 80000 * qMis w1 ≤ 7302250 → W p l e (zRm 1000 600000 7302250) s m #[Value.ref b] below meth c H1 locs1 cells1 slots1 Q (F0 m 986 ls [])) :
  W p l e (zRm 1000 600000 7302250) s m #[Value.ref b] below meth c H locs cells slots Q (F0 m 408 ls []) := by
  have hb : c.code = code := Cx.2.1.trans (X_lw_c _)
  obtain ⟨IC, IR, ht, htl⟩ := I0
  obtain ⟨r1, r2, r3, hr1, hr2, hr3, hT⟩ := evC_hook g hg G (xs (i0 + 1)) (xs (i0 + 2)) (xs (i0 + 3))
  obtain ⟨q1, q2, q3, hq1, hq2, hq3, hT2⟩ := evR_hook g hg G (xs (i0 + 1)) (xs (i0 + 2)) (xs (i0 + 3))
  refine lv_aload_n (pc := 408) Cx.1 hb dl_408 rfl (lv_at hl 2 rfl) ?_
  refine lw_argk (pc := 409) (j := 1) (k0 := 3) (k3 := 0) dl_409 dl_410 dl_411 dl_412 dl_413 rfl (by omega) hLm Cx.1 hb hX hbl hS hl rfl rfl ?_
  refine lw_argk (pc := 414) (j := 2) (k0 := 3) (k3 := 0) dl_414 dl_415 dl_416 dl_417 dl_418 rfl (by omega) hLm Cx.1 hb hX hbl hS hl rfl rfl ?_
  refine lw_argk (pc := 419) (j := 3) (k0 := 3) (k3 := 0) dl_419 dl_420 dl_421 dl_422 dl_423 rfl (by omega) hLm Cx.1 hb hX hbl hS hl rfl rfl ?_
  refine q_ordC1 (X := X_lw meth.name) (pc := 424) (as' := [zI r1, zI r2, zI r3]) (av' := [.int (xs (i0 + 1)), .int (xs (i0 + 2)), .int (xs (i0 + 3))]) (st := []) hg m_X8_hooka lr8_hook Cx IC hT (fun r h hP => (zands_c (zands_c hP).2).1) hS hl.1 (fun ad => ⟨⟨_, rfl, hr1⟩, ⟨_, rfl, hr2⟩, ⟨_, rfl, hr3⟩, trivial⟩) (Nat.zero_le _) rfl (by omega) (by omega) (fun w1 ad1 r h1 ov H1 locs1 hov hP1 IC1 hm1 ht1 hfr1 hS1 => ?_)
  obtain ⟨v_, e_⟩ := zrI_t (zands_c hP1).1 hov
  subst e_
  refine lv_pop (pc := 427) (va := .int v_) Cx.1 hb dl_427 rfl ?_
  refine lv_aload_n (pc := 428) Cx.1 hb dl_428 rfl (lv_at hl 1 rfl) ?_
  refine lw_argk (pc := 429) (j := 1) (k0 := 3) (k3 := 0) dl_429 dl_430 dl_431 dl_432 dl_433 rfl (by omega) hLm Cx.1 hb hX hbl hS1 hl rfl rfl ?_
  refine lw_argk (pc := 434) (j := 2) (k0 := 3) (k3 := 0) dl_434 dl_435 dl_436 dl_437 dl_438 rfl (by omega) hLm Cx.1 hb hX hbl hS1 hl rfl rfl ?_
  refine lw_argk (pc := 439) (j := 3) (k0 := 3) (k3 := 0) dl_439 dl_440 dl_441 dl_442 dl_443 rfl (by omega) hLm Cx.1 hb hX hbl hS1 hl rfl rfl ?_
  refine q_ordR1 (X := X_lw meth.name) (pc := 444) (as' := [zI q1, zI q2, zI q3]) (av' := [.int (xs (i0 + 1)), .int (xs (i0 + 2)), .int (xs (i0 + 3))]) (st := []) hg m_X9_hooka lr9_hook Cx (qR_kept hfr1 IR) hT2 (fun r h hP => (zands_c (zands_c hP).2).1) hS1 hl.1 (fun ad => ⟨⟨_, rfl, hq1⟩, ⟨_, rfl, hq2⟩, ⟨_, rfl, hq3⟩, trivial⟩) (Nat.zero_le _) rfl (by omega) (by omega) (fun wR1 ad2 r2 h2 ov2 H2 locs2 hov2 hP2 IR2 ht2 hfr2 hS2 => ?_)
  obtain ⟨v_, e_⟩ := zrI_t (zands_c hP2).1 hov2
  subst e_
  refine lv_pop (pc := 447) (va := .int v_) Cx.1 hb dl_447 rfl ?_
  refine lv_goto (pc := 448) (tgt := 986) Cx.1 hb dl_448 (by decide) ?_
  exact fin _ _ _ _ _ _ _ _ hg ⟨qC_kept hfr2 IC1, IR2, by rw [ht2, ht1, ht], by rw [ht1]; exact htl⟩ hS2 (by rw [hm1]; exact hcb) (by rw [hm1]; exact hsb)

theorem lw_c_classOf [G : zGh] {p : Program} {l : Launch} {e : Env} {s : State} {m : MethodId} {below : List Frame} {meth : Method} {c : Code} {b L i0 : Nat} {xs : Nat → Int32} {cA : Nat → ClassId} {D : va_G} {Q : State → Prop} {ls : Array Slot} {H : Heap} {locs : List Loc} {own : Nat → Nat} {ax am g cells slots : Nat} {w0 wR : va_W}
  (Cx : zCx (X_lw meth.name) cA D p s m #[Value.ref b] meth c (fun q => s.heap.size ≤ q)) (hX : va_X b L xs s s.heap) (hbl : b < s.heap.size) (hL : i0 + 6 ≤ L) (hLm : L ≤ 3072) (hg : g < 24) (I0 : qI cA D (fun q => s.heap.size ≤ q) H own ax am g w0 wR) (hS : va_S (fun q => s.heap.size ≤ q) s.heap H locs)
  (hl : lv_has ls 4 [(3, .int (nI i0)), (2, .ref am), (1, .ref ax), (0, .ref b)]) (hcb : cells + 1000 * qMis w0 ≤ 600000) (hsb : slots + 80000 * qMis w0 ≤ 7302250)
  (fin : ∀ (H1 : Heap) (locs1 : List Loc) (own1 : Nat → Nat) (g1 : Nat) (w1 wR1 : va_W) (cells1 slots1 : Nat), g1 < 24 → qI cA D (fun q => s.heap.size ≤ q) H1 own1 ax am g1 w1 wR1 → va_S (fun q => s.heap.size ≤ q) s.heap H1 locs1 → cells1 + 1000 * qMis w1 ≤ 600000 → slots1 + 80000 * qMis w1 ≤ 7302250 → W p l e (zRm 1000 600000 7302250) s m #[Value.ref b] below meth c H1 locs1 cells1 slots1 Q (F0 m 986 ls [])) :
  W p l e (zRm 1000 600000 7302250) s m #[Value.ref b] below meth c H locs cells slots Q (F0 m 451 ls []) := by
  have hb : c.code = code := Cx.2.1.trans (X_lw_c _)
  obtain ⟨IC, IR, ht, htl⟩ := I0
  obtain ⟨r1, r2, hr1, hr2, hT⟩ := evC_classOf g hg G (xs (i0 + 1)) (xs (i0 + 2))
  obtain ⟨q1, q2, hq1, hq2, hT2⟩ := evR_classOf g hg G (xs (i0 + 1)) (xs (i0 + 2))
  refine lv_aload_n (pc := 451) Cx.1 hb dl_451 rfl (lv_at hl 2 rfl) ?_
  refine lw_argk (pc := 452) (j := 1) (k0 := 3) (k3 := 0) dl_452 dl_453 dl_454 dl_455 dl_456 rfl (by omega) hLm Cx.1 hb hX hbl hS hl rfl rfl ?_
  refine lw_argk (pc := 457) (j := 2) (k0 := 3) (k3 := 0) dl_457 dl_458 dl_459 dl_460 dl_461 rfl (by omega) hLm Cx.1 hb hX hbl hS hl rfl rfl ?_
  refine q_ordC1 (X := X_lw meth.name) (pc := 462) (as' := [zI r1, zI r2]) (av' := [.int (xs (i0 + 1)), .int (xs (i0 + 2))]) (st := []) hg m_X8_classOfa lr8_classOf Cx IC hT (fun r h hP => (zands_c (zands_c hP).2).1) hS hl.1 (fun ad => ⟨⟨_, rfl, hr1⟩, ⟨_, rfl, hr2⟩, trivial⟩) (Nat.zero_le _) rfl (by omega) (by omega) (fun w1 ad1 r h1 ov H1 locs1 hov hP1 IC1 hm1 ht1 hfr1 hS1 => ?_)
  obtain ⟨v_, e_⟩ := zrI_t (zands_c hP1).1 hov
  subst e_
  refine lv_pop (pc := 465) (va := .int v_) Cx.1 hb dl_465 rfl ?_
  refine lv_aload_n (pc := 466) Cx.1 hb dl_466 rfl (lv_at hl 1 rfl) ?_
  refine lw_argk (pc := 467) (j := 1) (k0 := 3) (k3 := 0) dl_467 dl_468 dl_469 dl_470 dl_471 rfl (by omega) hLm Cx.1 hb hX hbl hS1 hl rfl rfl ?_
  refine lw_argk (pc := 472) (j := 2) (k0 := 3) (k3 := 0) dl_472 dl_473 dl_474 dl_475 dl_476 rfl (by omega) hLm Cx.1 hb hX hbl hS1 hl rfl rfl ?_
  refine q_ordR1 (X := X_lw meth.name) (pc := 477) (as' := [zI q1, zI q2]) (av' := [.int (xs (i0 + 1)), .int (xs (i0 + 2))]) (st := []) hg m_X9_classOfa lr9_classOf Cx (qR_kept hfr1 IR) hT2 (fun r h hP => (zands_c (zands_c hP).2).1) hS1 hl.1 (fun ad => ⟨⟨_, rfl, hq1⟩, ⟨_, rfl, hq2⟩, trivial⟩) (Nat.zero_le _) rfl (by omega) (by omega) (fun wR1 ad2 r2 h2 ov2 H2 locs2 hov2 hP2 IR2 ht2 hfr2 hS2 => ?_)
  obtain ⟨v_, e_⟩ := zrI_t (zands_c hP2).1 hov2
  subst e_
  refine lv_pop (pc := 480) (va := .int v_) Cx.1 hb dl_480 rfl ?_
  refine lv_goto (pc := 481) (tgt := 986) Cx.1 hb dl_481 (by decide) ?_
  exact fin _ _ _ _ _ _ _ _ hg ⟨qC_kept hfr2 IC1, IR2, by rw [ht2, ht1, ht], by rw [ht1]; exact htl⟩ hS2 (by rw [hm1]; exact hcb) (by rw [hm1]; exact hsb)

theorem lw_c_character [G : zGh] {p : Program} {l : Launch} {e : Env} {s : State} {m : MethodId} {below : List Frame} {meth : Method} {c : Code} {b L i0 : Nat} {xs : Nat → Int32} {cA : Nat → ClassId} {D : va_G} {Q : State → Prop} {ls : Array Slot} {H : Heap} {locs : List Loc} {own : Nat → Nat} {ax am g cells slots : Nat} {w0 wR : va_W}
  (Cx : zCx (X_lw meth.name) cA D p s m #[Value.ref b] meth c (fun q => s.heap.size ≤ q)) (hX : va_X b L xs s s.heap) (hbl : b < s.heap.size) (hL : i0 + 6 ≤ L) (hLm : L ≤ 3072) (hg : g < 24) (I0 : qI cA D (fun q => s.heap.size ≤ q) H own ax am g w0 wR) (hS : va_S (fun q => s.heap.size ≤ q) s.heap H locs)
  (hl : lv_has ls 4 [(3, .int (nI i0)), (2, .ref am), (1, .ref ax), (0, .ref b)]) (hcb : cells + 1000 * qMis w0 ≤ 600000) (hsb : slots + 80000 * qMis w0 ≤ 7302250)
  (fin : ∀ (H1 : Heap) (locs1 : List Loc) (own1 : Nat → Nat) (g1 : Nat) (w1 wR1 : va_W) (cells1 slots1 : Nat), g1 < 24 → qI cA D (fun q => s.heap.size ≤ q) H1 own1 ax am g1 w1 wR1 → va_S (fun q => s.heap.size ≤ q) s.heap H1 locs1 → cells1 + 1000 * qMis w1 ≤ 600000 → slots1 + 80000 * qMis w1 ≤ 7302250 → W p l e (zRm 1000 600000 7302250) s m #[Value.ref b] below meth c H1 locs1 cells1 slots1 Q (F0 m 986 ls [])) :
  W p l e (zRm 1000 600000 7302250) s m #[Value.ref b] below meth c H locs cells slots Q (F0 m 484 ls []) := by
  have hb : c.code = code := Cx.2.1.trans (X_lw_c _)
  obtain ⟨IC, IR, ht, htl⟩ := I0
  obtain ⟨r1, r2, hr1, hr2, hT⟩ := evC_character g hg G (xs (i0 + 1)) (xs (i0 + 2))
  obtain ⟨q1, q2, hq1, hq2, hT2⟩ := evR_character g hg G (xs (i0 + 1)) (xs (i0 + 2))
  refine lv_aload_n (pc := 484) Cx.1 hb dl_484 rfl (lv_at hl 2 rfl) ?_
  refine lw_argk (pc := 485) (j := 1) (k0 := 3) (k3 := 0) dl_485 dl_486 dl_487 dl_488 dl_489 rfl (by omega) hLm Cx.1 hb hX hbl hS hl rfl rfl ?_
  refine lw_argk (pc := 490) (j := 2) (k0 := 3) (k3 := 0) dl_490 dl_491 dl_492 dl_493 dl_494 rfl (by omega) hLm Cx.1 hb hX hbl hS hl rfl rfl ?_
  refine q_ordC1 (X := X_lw meth.name) (pc := 495) (as' := [zI r1, zI r2]) (av' := [.int (xs (i0 + 1)), .int (xs (i0 + 2))]) (st := []) hg m_X8_charactera lr8_character Cx IC hT (fun r h hP => (zands_c (zands_c hP).2).1) hS hl.1 (fun ad => ⟨⟨_, rfl, hr1⟩, ⟨_, rfl, hr2⟩, trivial⟩) (Nat.zero_le _) rfl (by omega) (by omega) (fun w1 ad1 r h1 ov H1 locs1 hov hP1 IC1 hm1 ht1 hfr1 hS1 => ?_)
  obtain ⟨v_, e_⟩ := zrI_t (zands_c hP1).1 hov
  subst e_
  refine lv_pop (pc := 498) (va := .int v_) Cx.1 hb dl_498 rfl ?_
  refine lv_aload_n (pc := 499) Cx.1 hb dl_499 rfl (lv_at hl 1 rfl) ?_
  refine lw_argk (pc := 500) (j := 1) (k0 := 3) (k3 := 0) dl_500 dl_501 dl_502 dl_503 dl_504 rfl (by omega) hLm Cx.1 hb hX hbl hS1 hl rfl rfl ?_
  refine lw_argk (pc := 505) (j := 2) (k0 := 3) (k3 := 0) dl_505 dl_506 dl_507 dl_508 dl_509 rfl (by omega) hLm Cx.1 hb hX hbl hS1 hl rfl rfl ?_
  refine q_ordR1 (X := X_lw meth.name) (pc := 510) (as' := [zI q1, zI q2]) (av' := [.int (xs (i0 + 1)), .int (xs (i0 + 2))]) (st := []) hg m_X9_charactera lr9_character Cx (qR_kept hfr1 IR) hT2 (fun r h hP => (zands_c (zands_c hP).2).1) hS1 hl.1 (fun ad => ⟨⟨_, rfl, hq1⟩, ⟨_, rfl, hq2⟩, trivial⟩) (Nat.zero_le _) rfl (by omega) (by omega) (fun wR1 ad2 r2 h2 ov2 H2 locs2 hov2 hP2 IR2 ht2 hfr2 hS2 => ?_)
  obtain ⟨v_, e_⟩ := zrI_t (zands_c hP2).1 hov2
  subst e_
  refine lv_pop (pc := 513) (va := .int v_) Cx.1 hb dl_513 rfl ?_
  refine lv_goto (pc := 514) (tgt := 986) Cx.1 hb dl_514 (by decide) ?_
  exact fin _ _ _ _ _ _ _ _ hg ⟨qC_kept hfr2 IC1, IR2, by rw [ht2, ht1, ht], by rw [ht1]; exact htl⟩ hS2 (by rw [hm1]; exact hcb) (by rw [hm1]; exact hsb)

theorem lw_c_modular [G : zGh] {p : Program} {l : Launch} {e : Env} {s : State} {m : MethodId} {below : List Frame} {meth : Method} {c : Code} {b L i0 : Nat} {xs : Nat → Int32} {cA : Nat → ClassId} {D : va_G} {Q : State → Prop} {ls : Array Slot} {H : Heap} {locs : List Loc} {own : Nat → Nat} {ax am g cells slots : Nat} {w0 wR : va_W}
  (Cx : zCx (X_lw meth.name) cA D p s m #[Value.ref b] meth c (fun q => s.heap.size ≤ q)) (hX : va_X b L xs s s.heap) (hbl : b < s.heap.size) (hL : i0 + 6 ≤ L) (hLm : L ≤ 3072) (hg : g < 24) (I0 : qI cA D (fun q => s.heap.size ≤ q) H own ax am g w0 wR) (hS : va_S (fun q => s.heap.size ≤ q) s.heap H locs)
  (hl : lv_has ls 4 [(3, .int (nI i0)), (2, .ref am), (1, .ref ax), (0, .ref b)]) (hcb : cells + 1000 * qMis w0 ≤ 600000) (hsb : slots + 80000 * qMis w0 ≤ 7302250)
  (fin : ∀ (H1 : Heap) (locs1 : List Loc) (own1 : Nat → Nat) (g1 : Nat) (w1 wR1 : va_W) (cells1 slots1 : Nat), g1 < 24 → qI cA D (fun q => s.heap.size ≤ q) H1 own1 ax am g1 w1 wR1 → va_S (fun q => s.heap.size ≤ q) s.heap H1 locs1 → cells1 + 1000 * qMis w1 ≤ 600000 → slots1 + 80000 * qMis w1 ≤ 7302250 → W p l e (zRm 1000 600000 7302250) s m #[Value.ref b] below meth c H1 locs1 cells1 slots1 Q (F0 m 986 ls [])) :
  W p l e (zRm 1000 600000 7302250) s m #[Value.ref b] below meth c H locs cells slots Q (F0 m 517 ls []) := by
  have hb : c.code = code := Cx.2.1.trans (X_lw_c _)
  obtain ⟨IC, IR, ht, htl⟩ := I0
  obtain ⟨r1, r2, hr1, hr2, hT⟩ := evC_modular g hg G (xs (i0 + 1)) (xs (i0 + 2))
  obtain ⟨q1, q2, hq1, hq2, hT2⟩ := evR_modular g hg G (xs (i0 + 1)) (xs (i0 + 2))
  refine lv_aload_n (pc := 517) Cx.1 hb dl_517 rfl (lv_at hl 2 rfl) ?_
  refine lw_argk (pc := 518) (j := 1) (k0 := 3) (k3 := 0) dl_518 dl_519 dl_520 dl_521 dl_522 rfl (by omega) hLm Cx.1 hb hX hbl hS hl rfl rfl ?_
  refine lw_argk (pc := 523) (j := 2) (k0 := 3) (k3 := 0) dl_523 dl_524 dl_525 dl_526 dl_527 rfl (by omega) hLm Cx.1 hb hX hbl hS hl rfl rfl ?_
  refine q_ordC1 (X := X_lw meth.name) (pc := 528) (as' := [zI r1, zI r2]) (av' := [.int (xs (i0 + 1)), .int (xs (i0 + 2))]) (st := []) hg m_X8_modulara lr8_modular Cx IC hT (fun r h hP => (zands_c (zands_c hP).2).1) hS hl.1 (fun ad => ⟨⟨_, rfl, hr1⟩, ⟨_, rfl, hr2⟩, trivial⟩) (Nat.zero_le _) rfl (by omega) (by omega) (fun w1 ad1 r h1 ov H1 locs1 hov hP1 IC1 hm1 ht1 hfr1 hS1 => ?_)
  obtain ⟨v_, e_⟩ := zrI_t (zands_c hP1).1 hov
  subst e_
  refine lv_pop (pc := 531) (va := .int v_) Cx.1 hb dl_531 rfl ?_
  refine lv_aload_n (pc := 532) Cx.1 hb dl_532 rfl (lv_at hl 1 rfl) ?_
  refine lw_argk (pc := 533) (j := 1) (k0 := 3) (k3 := 0) dl_533 dl_534 dl_535 dl_536 dl_537 rfl (by omega) hLm Cx.1 hb hX hbl hS1 hl rfl rfl ?_
  refine lw_argk (pc := 538) (j := 2) (k0 := 3) (k3 := 0) dl_538 dl_539 dl_540 dl_541 dl_542 rfl (by omega) hLm Cx.1 hb hX hbl hS1 hl rfl rfl ?_
  refine q_ordR1 (X := X_lw meth.name) (pc := 543) (as' := [zI q1, zI q2]) (av' := [.int (xs (i0 + 1)), .int (xs (i0 + 2))]) (st := []) hg m_X9_modulara lr9_modular Cx (qR_kept hfr1 IR) hT2 (fun r h hP => (zands_c (zands_c hP).2).1) hS1 hl.1 (fun ad => ⟨⟨_, rfl, hq1⟩, ⟨_, rfl, hq2⟩, trivial⟩) (Nat.zero_le _) rfl (by omega) (by omega) (fun wR1 ad2 r2 h2 ov2 H2 locs2 hov2 hP2 IR2 ht2 hfr2 hS2 => ?_)
  obtain ⟨v_, e_⟩ := zrI_t (zands_c hP2).1 hov2
  subst e_
  refine lv_pop (pc := 546) (va := .int v_) Cx.1 hb dl_546 rfl ?_
  refine lv_goto (pc := 547) (tgt := 986) Cx.1 hb dl_547 (by decide) ?_
  exact fin _ _ _ _ _ _ _ _ hg ⟨qC_kept hfr2 IC1, IR2, by rw [ht2, ht1, ht], by rw [ht1]; exact htl⟩ hS2 (by rw [hm1]; exact hcb) (by rw [hm1]; exact hsb)

theorem lw_c_projective [G : zGh] {p : Program} {l : Launch} {e : Env} {s : State} {m : MethodId} {below : List Frame} {meth : Method} {c : Code} {b L i0 : Nat} {xs : Nat → Int32} {cA : Nat → ClassId} {D : va_G} {Q : State → Prop} {ls : Array Slot} {H : Heap} {locs : List Loc} {own : Nat → Nat} {ax am g cells slots : Nat} {w0 wR : va_W}
  (Cx : zCx (X_lw meth.name) cA D p s m #[Value.ref b] meth c (fun q => s.heap.size ≤ q)) (hX : va_X b L xs s s.heap) (hbl : b < s.heap.size) (hL : i0 + 6 ≤ L) (hLm : L ≤ 3072) (hg : g < 24) (I0 : qI cA D (fun q => s.heap.size ≤ q) H own ax am g w0 wR) (hS : va_S (fun q => s.heap.size ≤ q) s.heap H locs)
  (hl : lv_has ls 4 [(3, .int (nI i0)), (2, .ref am), (1, .ref ax), (0, .ref b)]) (hcb : cells + 1000 * qMis w0 ≤ 600000) (hsb : slots + 80000 * qMis w0 ≤ 7302250)
  (fin : ∀ (H1 : Heap) (locs1 : List Loc) (own1 : Nat → Nat) (g1 : Nat) (w1 wR1 : va_W) (cells1 slots1 : Nat), g1 < 24 → qI cA D (fun q => s.heap.size ≤ q) H1 own1 ax am g1 w1 wR1 → va_S (fun q => s.heap.size ≤ q) s.heap H1 locs1 → cells1 + 1000 * qMis w1 ≤ 600000 → slots1 + 80000 * qMis w1 ≤ 7302250 → W p l e (zRm 1000 600000 7302250) s m #[Value.ref b] below meth c H1 locs1 cells1 slots1 Q (F0 m 986 ls [])) :
  W p l e (zRm 1000 600000 7302250) s m #[Value.ref b] below meth c H locs cells slots Q (F0 m 550 ls []) := by
  have hb : c.code = code := Cx.2.1.trans (X_lw_c _)
  obtain ⟨IC, IR, ht, htl⟩ := I0
  obtain ⟨r1, r2, hr1, hr2, hT⟩ := evC_projective g hg G (xs (i0 + 1)) (xs (i0 + 2))
  obtain ⟨q1, q2, hq1, hq2, hT2⟩ := evR_projective g hg G (xs (i0 + 1)) (xs (i0 + 2))
  refine lv_aload_n (pc := 550) Cx.1 hb dl_550 rfl (lv_at hl 2 rfl) ?_
  refine lw_argk (pc := 551) (j := 1) (k0 := 3) (k3 := 0) dl_551 dl_552 dl_553 dl_554 dl_555 rfl (by omega) hLm Cx.1 hb hX hbl hS hl rfl rfl ?_
  refine lw_argk (pc := 556) (j := 2) (k0 := 3) (k3 := 0) dl_556 dl_557 dl_558 dl_559 dl_560 rfl (by omega) hLm Cx.1 hb hX hbl hS hl rfl rfl ?_
  refine q_ordC1 (X := X_lw meth.name) (pc := 561) (as' := [zI r1, zI r2]) (av' := [.int (xs (i0 + 1)), .int (xs (i0 + 2))]) (st := []) hg m_X8_projectivea lr8_projective Cx IC hT (fun r h hP => (zands_c (zands_c hP).2).1) hS hl.1 (fun ad => ⟨⟨_, rfl, hr1⟩, ⟨_, rfl, hr2⟩, trivial⟩) (Nat.zero_le _) rfl (by omega) (by omega) (fun w1 ad1 r h1 ov H1 locs1 hov hP1 IC1 hm1 ht1 hfr1 hS1 => ?_)
  obtain ⟨v_, e_⟩ := zrI_t (zands_c hP1).1 hov
  subst e_
  refine lv_pop (pc := 564) (va := .int v_) Cx.1 hb dl_564 rfl ?_
  refine lv_aload_n (pc := 565) Cx.1 hb dl_565 rfl (lv_at hl 1 rfl) ?_
  refine lw_argk (pc := 566) (j := 1) (k0 := 3) (k3 := 0) dl_566 dl_567 dl_568 dl_569 dl_570 rfl (by omega) hLm Cx.1 hb hX hbl hS1 hl rfl rfl ?_
  refine lw_argk (pc := 571) (j := 2) (k0 := 3) (k3 := 0) dl_571 dl_572 dl_573 dl_574 dl_575 rfl (by omega) hLm Cx.1 hb hX hbl hS1 hl rfl rfl ?_
  refine q_ordR1 (X := X_lw meth.name) (pc := 576) (as' := [zI q1, zI q2]) (av' := [.int (xs (i0 + 1)), .int (xs (i0 + 2))]) (st := []) hg m_X9_projectivea lr9_projective Cx (qR_kept hfr1 IR) hT2 (fun r h hP => (zands_c (zands_c hP).2).1) hS1 hl.1 (fun ad => ⟨⟨_, rfl, hq1⟩, ⟨_, rfl, hq2⟩, trivial⟩) (Nat.zero_le _) rfl (by omega) (by omega) (fun wR1 ad2 r2 h2 ov2 H2 locs2 hov2 hP2 IR2 ht2 hfr2 hS2 => ?_)
  obtain ⟨v_, e_⟩ := zrI_t (zands_c hP2).1 hov2
  subst e_
  refine lv_pop (pc := 579) (va := .int v_) Cx.1 hb dl_579 rfl ?_
  refine lv_goto (pc := 580) (tgt := 986) Cx.1 hb dl_580 (by decide) ?_
  exact fin _ _ _ _ _ _ _ _ hg ⟨qC_kept hfr2 IC1, IR2, by rw [ht2, ht1, ht], by rw [ht1]; exact htl⟩ hS2 (by rw [hm1]; exact hcb) (by rw [hm1]; exact hsb)

theorem lw_c_decomposition [G : zGh] {p : Program} {l : Launch} {e : Env} {s : State} {m : MethodId} {below : List Frame} {meth : Method} {c : Code} {b L i0 : Nat} {xs : Nat → Int32} {cA : Nat → ClassId} {D : va_G} {Q : State → Prop} {ls : Array Slot} {H : Heap} {locs : List Loc} {own : Nat → Nat} {ax am g cells slots : Nat} {w0 wR : va_W}
  (Cx : zCx (X_lw meth.name) cA D p s m #[Value.ref b] meth c (fun q => s.heap.size ≤ q)) (hX : va_X b L xs s s.heap) (hbl : b < s.heap.size) (hL : i0 + 6 ≤ L) (hLm : L ≤ 3072) (hg : g < 24) (I0 : qI cA D (fun q => s.heap.size ≤ q) H own ax am g w0 wR) (hS : va_S (fun q => s.heap.size ≤ q) s.heap H locs)
  (hl : lv_has ls 4 [(3, .int (nI i0)), (2, .ref am), (1, .ref ax), (0, .ref b)]) (hcb : cells + 1000 * qMis w0 ≤ 600000) (hsb : slots + 80000 * qMis w0 ≤ 7302250)
  (fin : ∀ (H1 : Heap) (locs1 : List Loc) (own1 : Nat → Nat) (g1 : Nat) (w1 wR1 : va_W) (cells1 slots1 : Nat), g1 < 24 → qI cA D (fun q => s.heap.size ≤ q) H1 own1 ax am g1 w1 wR1 → va_S (fun q => s.heap.size ≤ q) s.heap H1 locs1 → cells1 + 1000 * qMis w1 ≤ 600000 → slots1 + 80000 * qMis w1 ≤ 7302250 → W p l e (zRm 1000 600000 7302250) s m #[Value.ref b] below meth c H1 locs1 cells1 slots1 Q (F0 m 986 ls [])) :
  W p l e (zRm 1000 600000 7302250) s m #[Value.ref b] below meth c H locs cells slots Q (F0 m 583 ls []) := by
  have hb : c.code = code := Cx.2.1.trans (X_lw_c _)
  obtain ⟨IC, IR, ht, htl⟩ := I0
  obtain ⟨r1, r2, hr1, hr2, hT⟩ := evC_decomposition g hg G (xs (i0 + 1)) (xs (i0 + 2))
  obtain ⟨q1, q2, hq1, hq2, hT2⟩ := evR_decomposition g hg G (xs (i0 + 1)) (xs (i0 + 2))
  refine lv_aload_n (pc := 583) Cx.1 hb dl_583 rfl (lv_at hl 2 rfl) ?_
  refine lw_argk (pc := 584) (j := 1) (k0 := 3) (k3 := 0) dl_584 dl_585 dl_586 dl_587 dl_588 rfl (by omega) hLm Cx.1 hb hX hbl hS hl rfl rfl ?_
  refine lw_argk (pc := 589) (j := 2) (k0 := 3) (k3 := 0) dl_589 dl_590 dl_591 dl_592 dl_593 rfl (by omega) hLm Cx.1 hb hX hbl hS hl rfl rfl ?_
  refine q_ordC1 (X := X_lw meth.name) (pc := 594) (as' := [zI r1, zI r2]) (av' := [.int (xs (i0 + 1)), .int (xs (i0 + 2))]) (st := []) hg m_X8_decompositiona lr8_decomposition Cx IC hT (fun r h hP => (zands_c (zands_c hP).2).1) hS hl.1 (fun ad => ⟨⟨_, rfl, hr1⟩, ⟨_, rfl, hr2⟩, trivial⟩) (Nat.zero_le _) rfl (by omega) (by omega) (fun w1 ad1 r h1 ov H1 locs1 hov hP1 IC1 hm1 ht1 hfr1 hS1 => ?_)
  obtain ⟨v_, e_⟩ := zrI_t (zands_c hP1).1 hov
  subst e_
  refine lv_pop (pc := 597) (va := .int v_) Cx.1 hb dl_597 rfl ?_
  refine lv_aload_n (pc := 598) Cx.1 hb dl_598 rfl (lv_at hl 1 rfl) ?_
  refine lw_argk (pc := 599) (j := 1) (k0 := 3) (k3 := 0) dl_599 dl_600 dl_601 dl_602 dl_603 rfl (by omega) hLm Cx.1 hb hX hbl hS1 hl rfl rfl ?_
  refine lw_argk (pc := 604) (j := 2) (k0 := 3) (k3 := 0) dl_604 dl_605 dl_606 dl_607 dl_608 rfl (by omega) hLm Cx.1 hb hX hbl hS1 hl rfl rfl ?_
  refine q_ordR1 (X := X_lw meth.name) (pc := 609) (as' := [zI q1, zI q2]) (av' := [.int (xs (i0 + 1)), .int (xs (i0 + 2))]) (st := []) hg m_X9_decompositiona lr9_decomposition Cx (qR_kept hfr1 IR) hT2 (fun r h hP => (zands_c (zands_c hP).2).1) hS1 hl.1 (fun ad => ⟨⟨_, rfl, hq1⟩, ⟨_, rfl, hq2⟩, trivial⟩) (Nat.zero_le _) rfl (by omega) (by omega) (fun wR1 ad2 r2 h2 ov2 H2 locs2 hov2 hP2 IR2 ht2 hfr2 hS2 => ?_)
  obtain ⟨v_, e_⟩ := zrI_t (zands_c hP2).1 hov2
  subst e_
  refine lv_pop (pc := 612) (va := .int v_) Cx.1 hb dl_612 rfl ?_
  refine lv_goto (pc := 613) (tgt := 986) Cx.1 hb dl_613 (by decide) ?_
  exact fin _ _ _ _ _ _ _ _ hg ⟨qC_kept hfr2 IC1, IR2, by rw [ht2, ht1, ht], by rw [ht1]; exact htl⟩ hS2 (by rw [hm1]; exact hcb) (by rw [hm1]; exact hsb)

theorem lw_c_cartan [G : zGh] {p : Program} {l : Launch} {e : Env} {s : State} {m : MethodId} {below : List Frame} {meth : Method} {c : Code} {b L i0 : Nat} {xs : Nat → Int32} {cA : Nat → ClassId} {D : va_G} {Q : State → Prop} {ls : Array Slot} {H : Heap} {locs : List Loc} {own : Nat → Nat} {ax am g cells slots : Nat} {w0 wR : va_W}
  (Cx : zCx (X_lw meth.name) cA D p s m #[Value.ref b] meth c (fun q => s.heap.size ≤ q)) (hX : va_X b L xs s s.heap) (hbl : b < s.heap.size) (hL : i0 + 6 ≤ L) (hLm : L ≤ 3072) (hg : g < 24) (I0 : qI cA D (fun q => s.heap.size ≤ q) H own ax am g w0 wR) (hS : va_S (fun q => s.heap.size ≤ q) s.heap H locs)
  (hl : lv_has ls 4 [(3, .int (nI i0)), (2, .ref am), (1, .ref ax), (0, .ref b)]) (hcb : cells + 1000 * qMis w0 ≤ 600000) (hsb : slots + 80000 * qMis w0 ≤ 7302250)
  (fin : ∀ (H1 : Heap) (locs1 : List Loc) (own1 : Nat → Nat) (g1 : Nat) (w1 wR1 : va_W) (cells1 slots1 : Nat), g1 < 24 → qI cA D (fun q => s.heap.size ≤ q) H1 own1 ax am g1 w1 wR1 → va_S (fun q => s.heap.size ≤ q) s.heap H1 locs1 → cells1 + 1000 * qMis w1 ≤ 600000 → slots1 + 80000 * qMis w1 ≤ 7302250 → W p l e (zRm 1000 600000 7302250) s m #[Value.ref b] below meth c H1 locs1 cells1 slots1 Q (F0 m 986 ls [])) :
  W p l e (zRm 1000 600000 7302250) s m #[Value.ref b] below meth c H locs cells slots Q (F0 m 616 ls []) := by
  have hb : c.code = code := Cx.2.1.trans (X_lw_c _)
  obtain ⟨IC, IR, ht, htl⟩ := I0
  obtain ⟨r1, r2, hr1, hr2, hT⟩ := evC_cartan g hg G (xs (i0 + 1)) (xs (i0 + 2))
  obtain ⟨q1, q2, hq1, hq2, hT2⟩ := evR_cartan g hg G (xs (i0 + 1)) (xs (i0 + 2))
  refine lv_aload_n (pc := 616) Cx.1 hb dl_616 rfl (lv_at hl 2 rfl) ?_
  refine lw_argk (pc := 617) (j := 1) (k0 := 3) (k3 := 0) dl_617 dl_618 dl_619 dl_620 dl_621 rfl (by omega) hLm Cx.1 hb hX hbl hS hl rfl rfl ?_
  refine lw_argk (pc := 622) (j := 2) (k0 := 3) (k3 := 0) dl_622 dl_623 dl_624 dl_625 dl_626 rfl (by omega) hLm Cx.1 hb hX hbl hS hl rfl rfl ?_
  refine q_ordC1 (X := X_lw meth.name) (pc := 627) (as' := [zI r1, zI r2]) (av' := [.int (xs (i0 + 1)), .int (xs (i0 + 2))]) (st := []) hg m_X8_cartana lr8_cartan Cx IC hT (fun r h hP => (zands_c (zands_c hP).2).1) hS hl.1 (fun ad => ⟨⟨_, rfl, hr1⟩, ⟨_, rfl, hr2⟩, trivial⟩) (Nat.zero_le _) rfl (by omega) (by omega) (fun w1 ad1 r h1 ov H1 locs1 hov hP1 IC1 hm1 ht1 hfr1 hS1 => ?_)
  obtain ⟨v_, e_⟩ := zrI_t (zands_c hP1).1 hov
  subst e_
  refine lv_pop (pc := 630) (va := .int v_) Cx.1 hb dl_630 rfl ?_
  refine lv_aload_n (pc := 631) Cx.1 hb dl_631 rfl (lv_at hl 1 rfl) ?_
  refine lw_argk (pc := 632) (j := 1) (k0 := 3) (k3 := 0) dl_632 dl_633 dl_634 dl_635 dl_636 rfl (by omega) hLm Cx.1 hb hX hbl hS1 hl rfl rfl ?_
  refine lw_argk (pc := 637) (j := 2) (k0 := 3) (k3 := 0) dl_637 dl_638 dl_639 dl_640 dl_641 rfl (by omega) hLm Cx.1 hb hX hbl hS1 hl rfl rfl ?_
  refine q_ordR1 (X := X_lw meth.name) (pc := 642) (as' := [zI q1, zI q2]) (av' := [.int (xs (i0 + 1)), .int (xs (i0 + 2))]) (st := []) hg m_X9_cartana lr9_cartan Cx (qR_kept hfr1 IR) hT2 (fun r h hP => (zands_c (zands_c hP).2).1) hS1 hl.1 (fun ad => ⟨⟨_, rfl, hq1⟩, ⟨_, rfl, hq2⟩, trivial⟩) (Nat.zero_le _) rfl (by omega) (by omega) (fun wR1 ad2 r2 h2 ov2 H2 locs2 hov2 hP2 IR2 ht2 hfr2 hS2 => ?_)
  obtain ⟨v_, e_⟩ := zrI_t (zands_c hP2).1 hov2
  subst e_
  refine lv_pop (pc := 645) (va := .int v_) Cx.1 hb dl_645 rfl ?_
  refine lv_goto (pc := 646) (tgt := 986) Cx.1 hb dl_646 (by decide) ?_
  exact fin _ _ _ _ _ _ _ _ hg ⟨qC_kept hfr2 IC1, IR2, by rw [ht2, ht1, ht], by rw [ht1]; exact htl⟩ hS2 (by rw [hm1]; exact hcb) (by rw [hm1]; exact hsb)

theorem lw_c_tableau [G : zGh] {p : Program} {l : Launch} {e : Env} {s : State} {m : MethodId} {below : List Frame} {meth : Method} {c : Code} {b L i0 : Nat} {xs : Nat → Int32} {cA : Nat → ClassId} {D : va_G} {Q : State → Prop} {ls : Array Slot} {H : Heap} {locs : List Loc} {own : Nat → Nat} {ax am g cells slots : Nat} {w0 wR : va_W}
  (Cx : zCx (X_lw meth.name) cA D p s m #[Value.ref b] meth c (fun q => s.heap.size ≤ q)) (hX : va_X b L xs s s.heap) (hbl : b < s.heap.size) (hL : i0 + 6 ≤ L) (hLm : L ≤ 3072) (hg : g < 24) (I0 : qI cA D (fun q => s.heap.size ≤ q) H own ax am g w0 wR) (hS : va_S (fun q => s.heap.size ≤ q) s.heap H locs)
  (hl : lv_has ls 4 [(3, .int (nI i0)), (2, .ref am), (1, .ref ax), (0, .ref b)]) (hcb : cells + 1000 * qMis w0 ≤ 600000) (hsb : slots + 80000 * qMis w0 ≤ 7302250)
  (fin : ∀ (H1 : Heap) (locs1 : List Loc) (own1 : Nat → Nat) (g1 : Nat) (w1 wR1 : va_W) (cells1 slots1 : Nat), g1 < 24 → qI cA D (fun q => s.heap.size ≤ q) H1 own1 ax am g1 w1 wR1 → va_S (fun q => s.heap.size ≤ q) s.heap H1 locs1 → cells1 + 1000 * qMis w1 ≤ 600000 → slots1 + 80000 * qMis w1 ≤ 7302250 → W p l e (zRm 1000 600000 7302250) s m #[Value.ref b] below meth c H1 locs1 cells1 slots1 Q (F0 m 986 ls [])) :
  W p l e (zRm 1000 600000 7302250) s m #[Value.ref b] below meth c H locs cells slots Q (F0 m 649 ls []) := by
  have hb : c.code = code := Cx.2.1.trans (X_lw_c _)
  obtain ⟨IC, IR, ht, htl⟩ := I0
  obtain ⟨r1, r2, r3, r4, hr1, hr2, hr3, hr4, hT⟩ := evC_tableau g hg G (xs (i0 + 1)) (xs (i0 + 2)) (xs (i0 + 3)) (xs (i0 + 4))
  obtain ⟨q1, q2, q3, q4, hq1, hq2, hq3, hq4, hT2⟩ := evR_tableau g hg G (xs (i0 + 1)) (xs (i0 + 2)) (xs (i0 + 3)) (xs (i0 + 4))
  refine lv_aload_n (pc := 649) Cx.1 hb dl_649 rfl (lv_at hl 2 rfl) ?_
  refine lw_argk (pc := 650) (j := 1) (k0 := 3) (k3 := 0) dl_650 dl_651 dl_652 dl_653 dl_654 rfl (by omega) hLm Cx.1 hb hX hbl hS hl rfl rfl ?_
  refine lw_argk (pc := 655) (j := 2) (k0 := 3) (k3 := 0) dl_655 dl_656 dl_657 dl_658 dl_659 rfl (by omega) hLm Cx.1 hb hX hbl hS hl rfl rfl ?_
  refine lw_argk (pc := 660) (j := 3) (k0 := 3) (k3 := 0) dl_660 dl_661 dl_662 dl_663 dl_664 rfl (by omega) hLm Cx.1 hb hX hbl hS hl rfl rfl ?_
  refine lw_argk (pc := 665) (j := 4) (k0 := 3) (k3 := 0) dl_665 dl_666 dl_667 dl_668 dl_669 rfl (by omega) hLm Cx.1 hb hX hbl hS hl rfl rfl ?_
  refine q_ordC1 (X := X_lw meth.name) (pc := 670) (as' := [zI r1, zI r2, zI r3, zI r4]) (av' := [.int (xs (i0 + 1)), .int (xs (i0 + 2)), .int (xs (i0 + 3)), .int (xs (i0 + 4))]) (st := []) hg m_X8_tableaua lr8_tableau Cx IC hT (fun r h hP => (zands_c (zands_c hP).2).1) hS hl.1 (fun ad => ⟨⟨_, rfl, hr1⟩, ⟨_, rfl, hr2⟩, ⟨_, rfl, hr3⟩, ⟨_, rfl, hr4⟩, trivial⟩) (Nat.zero_le _) rfl (by omega) (by omega) (fun w1 ad1 r h1 ov H1 locs1 hov hP1 IC1 hm1 ht1 hfr1 hS1 => ?_)
  obtain ⟨v_, e_⟩ := zrI_t (zands_c hP1).1 hov
  subst e_
  refine lv_pop (pc := 673) (va := .int v_) Cx.1 hb dl_673 rfl ?_
  refine lv_aload_n (pc := 674) Cx.1 hb dl_674 rfl (lv_at hl 1 rfl) ?_
  refine lw_argk (pc := 675) (j := 1) (k0 := 3) (k3 := 0) dl_675 dl_676 dl_677 dl_678 dl_679 rfl (by omega) hLm Cx.1 hb hX hbl hS1 hl rfl rfl ?_
  refine lw_argk (pc := 680) (j := 2) (k0 := 3) (k3 := 0) dl_680 dl_681 dl_682 dl_683 dl_684 rfl (by omega) hLm Cx.1 hb hX hbl hS1 hl rfl rfl ?_
  refine lw_argk (pc := 685) (j := 3) (k0 := 3) (k3 := 0) dl_685 dl_686 dl_687 dl_688 dl_689 rfl (by omega) hLm Cx.1 hb hX hbl hS1 hl rfl rfl ?_
  refine lw_argk (pc := 690) (j := 4) (k0 := 3) (k3 := 0) dl_690 dl_691 dl_692 dl_693 dl_694 rfl (by omega) hLm Cx.1 hb hX hbl hS1 hl rfl rfl ?_
  refine q_ordR1 (X := X_lw meth.name) (pc := 695) (as' := [zI q1, zI q2, zI q3, zI q4]) (av' := [.int (xs (i0 + 1)), .int (xs (i0 + 2)), .int (xs (i0 + 3)), .int (xs (i0 + 4))]) (st := []) hg m_X9_tableaua lr9_tableau Cx (qR_kept hfr1 IR) hT2 (fun r h hP => (zands_c (zands_c hP).2).1) hS1 hl.1 (fun ad => ⟨⟨_, rfl, hq1⟩, ⟨_, rfl, hq2⟩, ⟨_, rfl, hq3⟩, ⟨_, rfl, hq4⟩, trivial⟩) (Nat.zero_le _) rfl (by omega) (by omega) (fun wR1 ad2 r2 h2 ov2 H2 locs2 hov2 hP2 IR2 ht2 hfr2 hS2 => ?_)
  obtain ⟨v_, e_⟩ := zrI_t (zands_c hP2).1 hov2
  subst e_
  refine lv_pop (pc := 698) (va := .int v_) Cx.1 hb dl_698 rfl ?_
  refine lv_goto (pc := 699) (tgt := 986) Cx.1 hb dl_699 (by decide) ?_
  exact fin _ _ _ _ _ _ _ _ hg ⟨qC_kept hfr2 IC1, IR2, by rw [ht2, ht1, ht], by rw [ht1]; exact htl⟩ hS2 (by rw [hm1]; exact hcb) (by rw [hm1]; exact hsb)

theorem lw_c_gram [G : zGh] {p : Program} {l : Launch} {e : Env} {s : State} {m : MethodId} {below : List Frame} {meth : Method} {c : Code} {b L i0 : Nat} {xs : Nat → Int32} {cA : Nat → ClassId} {D : va_G} {Q : State → Prop} {ls : Array Slot} {H : Heap} {locs : List Loc} {own : Nat → Nat} {ax am g cells slots : Nat} {w0 wR : va_W}
  (Cx : zCx (X_lw meth.name) cA D p s m #[Value.ref b] meth c (fun q => s.heap.size ≤ q)) (hX : va_X b L xs s s.heap) (hbl : b < s.heap.size) (hL : i0 + 6 ≤ L) (hLm : L ≤ 3072) (hg : g < 24) (I0 : qI cA D (fun q => s.heap.size ≤ q) H own ax am g w0 wR) (hS : va_S (fun q => s.heap.size ≤ q) s.heap H locs)
  (hl : lv_has ls 4 [(3, .int (nI i0)), (2, .ref am), (1, .ref ax), (0, .ref b)]) (hcb : cells + 1000 * qMis w0 ≤ 600000) (hsb : slots + 80000 * qMis w0 ≤ 7302250)
  (fin : ∀ (H1 : Heap) (locs1 : List Loc) (own1 : Nat → Nat) (g1 : Nat) (w1 wR1 : va_W) (cells1 slots1 : Nat), g1 < 24 → qI cA D (fun q => s.heap.size ≤ q) H1 own1 ax am g1 w1 wR1 → va_S (fun q => s.heap.size ≤ q) s.heap H1 locs1 → cells1 + 1000 * qMis w1 ≤ 600000 → slots1 + 80000 * qMis w1 ≤ 7302250 → W p l e (zRm 1000 600000 7302250) s m #[Value.ref b] below meth c H1 locs1 cells1 slots1 Q (F0 m 986 ls [])) :
  W p l e (zRm 1000 600000 7302250) s m #[Value.ref b] below meth c H locs cells slots Q (F0 m 702 ls []) := by
  have hb : c.code = code := Cx.2.1.trans (X_lw_c _)
  obtain ⟨IC, IR, ht, htl⟩ := I0
  obtain ⟨r1, r2, r3, hr1, hr2, hr3, hT⟩ := evC_gram g hg G (xs (i0 + 1)) (xs (i0 + 2)) (xs (i0 + 3))
  obtain ⟨q1, q2, q3, hq1, hq2, hq3, hT2⟩ := evR_gram g hg G (xs (i0 + 1)) (xs (i0 + 2)) (xs (i0 + 3))
  refine lv_aload_n (pc := 702) Cx.1 hb dl_702 rfl (lv_at hl 2 rfl) ?_
  refine lw_argk (pc := 703) (j := 1) (k0 := 3) (k3 := 0) dl_703 dl_704 dl_705 dl_706 dl_707 rfl (by omega) hLm Cx.1 hb hX hbl hS hl rfl rfl ?_
  refine lw_argk (pc := 708) (j := 2) (k0 := 3) (k3 := 0) dl_708 dl_709 dl_710 dl_711 dl_712 rfl (by omega) hLm Cx.1 hb hX hbl hS hl rfl rfl ?_
  refine lw_argk (pc := 713) (j := 3) (k0 := 3) (k3 := 0) dl_713 dl_714 dl_715 dl_716 dl_717 rfl (by omega) hLm Cx.1 hb hX hbl hS hl rfl rfl ?_
  refine q_ordC1 (X := X_lw meth.name) (pc := 718) (as' := [zI r1, zI r2, zI r3]) (av' := [.int (xs (i0 + 1)), .int (xs (i0 + 2)), .int (xs (i0 + 3))]) (st := []) hg m_X8_grama lr8_gram Cx IC hT (fun r h hP => (zands_c (zands_c hP).2).1) hS hl.1 (fun ad => ⟨⟨_, rfl, hr1⟩, ⟨_, rfl, hr2⟩, ⟨_, rfl, hr3⟩, trivial⟩) (Nat.zero_le _) rfl (by omega) (by omega) (fun w1 ad1 r h1 ov H1 locs1 hov hP1 IC1 hm1 ht1 hfr1 hS1 => ?_)
  obtain ⟨v_, e_⟩ := zrI_t (zands_c hP1).1 hov
  subst e_
  refine lv_pop (pc := 721) (va := .int v_) Cx.1 hb dl_721 rfl ?_
  refine lv_aload_n (pc := 722) Cx.1 hb dl_722 rfl (lv_at hl 1 rfl) ?_
  refine lw_argk (pc := 723) (j := 1) (k0 := 3) (k3 := 0) dl_723 dl_724 dl_725 dl_726 dl_727 rfl (by omega) hLm Cx.1 hb hX hbl hS1 hl rfl rfl ?_
  refine lw_argk (pc := 728) (j := 2) (k0 := 3) (k3 := 0) dl_728 dl_729 dl_730 dl_731 dl_732 rfl (by omega) hLm Cx.1 hb hX hbl hS1 hl rfl rfl ?_
  refine lw_argk (pc := 733) (j := 3) (k0 := 3) (k3 := 0) dl_733 dl_734 dl_735 dl_736 dl_737 rfl (by omega) hLm Cx.1 hb hX hbl hS1 hl rfl rfl ?_
  refine q_ordR1 (X := X_lw meth.name) (pc := 738) (as' := [zI q1, zI q2, zI q3]) (av' := [.int (xs (i0 + 1)), .int (xs (i0 + 2)), .int (xs (i0 + 3))]) (st := []) hg m_X9_grama lr9_gram Cx (qR_kept hfr1 IR) hT2 (fun r h hP => (zands_c (zands_c hP).2).1) hS1 hl.1 (fun ad => ⟨⟨_, rfl, hq1⟩, ⟨_, rfl, hq2⟩, ⟨_, rfl, hq3⟩, trivial⟩) (Nat.zero_le _) rfl (by omega) (by omega) (fun wR1 ad2 r2 h2 ov2 H2 locs2 hov2 hP2 IR2 ht2 hfr2 hS2 => ?_)
  obtain ⟨v_, e_⟩ := zrI_t (zands_c hP2).1 hov2
  subst e_
  refine lv_pop (pc := 741) (va := .int v_) Cx.1 hb dl_741 rfl ?_
  refine lv_goto (pc := 742) (tgt := 986) Cx.1 hb dl_742 (by decide) ?_
  exact fin _ _ _ _ _ _ _ _ hg ⟨qC_kept hfr2 IC1, IR2, by rw [ht2, ht1, ht], by rw [ht1]; exact htl⟩ hS2 (by rw [hm1]; exact hcb) (by rw [hm1]; exact hsb)

theorem lw_c_block [G : zGh] {p : Program} {l : Launch} {e : Env} {s : State} {m : MethodId} {below : List Frame} {meth : Method} {c : Code} {b L i0 : Nat} {xs : Nat → Int32} {cA : Nat → ClassId} {D : va_G} {Q : State → Prop} {ls : Array Slot} {H : Heap} {locs : List Loc} {own : Nat → Nat} {ax am g cells slots : Nat} {w0 wR : va_W}
  (Cx : zCx (X_lw meth.name) cA D p s m #[Value.ref b] meth c (fun q => s.heap.size ≤ q)) (hX : va_X b L xs s s.heap) (hbl : b < s.heap.size) (hL : i0 + 6 ≤ L) (hLm : L ≤ 3072) (hg : g < 24) (I0 : qI cA D (fun q => s.heap.size ≤ q) H own ax am g w0 wR) (hS : va_S (fun q => s.heap.size ≤ q) s.heap H locs)
  (hl : lv_has ls 4 [(3, .int (nI i0)), (2, .ref am), (1, .ref ax), (0, .ref b)]) (hcb : cells + 1000 * qMis w0 ≤ 600000) (hsb : slots + 80000 * qMis w0 ≤ 7302250)
  (fin : ∀ (H1 : Heap) (locs1 : List Loc) (own1 : Nat → Nat) (g1 : Nat) (w1 wR1 : va_W) (cells1 slots1 : Nat), g1 < 24 → qI cA D (fun q => s.heap.size ≤ q) H1 own1 ax am g1 w1 wR1 → va_S (fun q => s.heap.size ≤ q) s.heap H1 locs1 → cells1 + 1000 * qMis w1 ≤ 600000 → slots1 + 80000 * qMis w1 ≤ 7302250 → W p l e (zRm 1000 600000 7302250) s m #[Value.ref b] below meth c H1 locs1 cells1 slots1 Q (F0 m 986 ls [])) :
  W p l e (zRm 1000 600000 7302250) s m #[Value.ref b] below meth c H locs cells slots Q (F0 m 745 ls []) := by
  have hb : c.code = code := Cx.2.1.trans (X_lw_c _)
  obtain ⟨IC, IR, ht, htl⟩ := I0
  obtain ⟨r1, r2, hr1, hr2, hT⟩ := evC_block g hg G (xs (i0 + 1)) (xs (i0 + 2))
  obtain ⟨q1, q2, hq1, hq2, hT2⟩ := evR_block g hg G (xs (i0 + 1)) (xs (i0 + 2))
  refine lv_aload_n (pc := 745) Cx.1 hb dl_745 rfl (lv_at hl 2 rfl) ?_
  refine lw_argk (pc := 746) (j := 1) (k0 := 3) (k3 := 0) dl_746 dl_747 dl_748 dl_749 dl_750 rfl (by omega) hLm Cx.1 hb hX hbl hS hl rfl rfl ?_
  refine lw_argk (pc := 751) (j := 2) (k0 := 3) (k3 := 0) dl_751 dl_752 dl_753 dl_754 dl_755 rfl (by omega) hLm Cx.1 hb hX hbl hS hl rfl rfl ?_
  refine q_ordC1 (X := X_lw meth.name) (pc := 756) (as' := [zI r1, zI r2]) (av' := [.int (xs (i0 + 1)), .int (xs (i0 + 2))]) (st := []) hg m_X8_blocka lr8_block Cx IC hT (fun r h hP => (zands_c (zands_c hP).2).1) hS hl.1 (fun ad => ⟨⟨_, rfl, hr1⟩, ⟨_, rfl, hr2⟩, trivial⟩) (Nat.zero_le _) rfl (by omega) (by omega) (fun w1 ad1 r h1 ov H1 locs1 hov hP1 IC1 hm1 ht1 hfr1 hS1 => ?_)
  obtain ⟨v_, e_⟩ := zrI_t (zands_c hP1).1 hov
  subst e_
  refine lv_pop (pc := 759) (va := .int v_) Cx.1 hb dl_759 rfl ?_
  refine lv_aload_n (pc := 760) Cx.1 hb dl_760 rfl (lv_at hl 1 rfl) ?_
  refine lw_argk (pc := 761) (j := 1) (k0 := 3) (k3 := 0) dl_761 dl_762 dl_763 dl_764 dl_765 rfl (by omega) hLm Cx.1 hb hX hbl hS1 hl rfl rfl ?_
  refine lw_argk (pc := 766) (j := 2) (k0 := 3) (k3 := 0) dl_766 dl_767 dl_768 dl_769 dl_770 rfl (by omega) hLm Cx.1 hb hX hbl hS1 hl rfl rfl ?_
  refine q_ordR1 (X := X_lw meth.name) (pc := 771) (as' := [zI q1, zI q2]) (av' := [.int (xs (i0 + 1)), .int (xs (i0 + 2))]) (st := []) hg m_X9_blockt lr9_block Cx (qR_kept hfr1 IR) hT2 (fun r h hP => (zands_c (zands_c hP).2).1) hS1 hl.1 (fun ad => ⟨⟨_, rfl, hq1⟩, ⟨_, rfl, hq2⟩, trivial⟩) (Nat.zero_le _) rfl (by omega) (by omega) (fun wR1 ad2 r2 h2 ov2 H2 locs2 hov2 hP2 IR2 ht2 hfr2 hS2 => ?_)
  obtain ⟨v_, e_⟩ := zrI_t (zands_c hP2).1 hov2
  subst e_
  refine lv_pop (pc := 774) (va := .int v_) Cx.1 hb dl_774 rfl ?_
  refine lv_goto (pc := 775) (tgt := 986) Cx.1 hb dl_775 (by decide) ?_
  exact fin _ _ _ _ _ _ _ _ hg ⟨qC_kept hfr2 IC1, IR2, by rw [ht2, ht1, ht], by rw [ht1]; exact htl⟩ hS2 (by rw [hm1]; exact hcb) (by rw [hm1]; exact hsb)

theorem lw_c_value [G : zGh] {p : Program} {l : Launch} {e : Env} {s : State} {m : MethodId} {below : List Frame} {meth : Method} {c : Code} {b L i0 : Nat} {xs : Nat → Int32} {cA : Nat → ClassId} {D : va_G} {Q : State → Prop} {ls : Array Slot} {H : Heap} {locs : List Loc} {own : Nat → Nat} {ax am g cells slots : Nat} {w0 wR : va_W}
  (Cx : zCx (X_lw meth.name) cA D p s m #[Value.ref b] meth c (fun q => s.heap.size ≤ q)) (hX : va_X b L xs s s.heap) (hbl : b < s.heap.size) (hL : i0 + 6 ≤ L) (hLm : L ≤ 3072) (hg : g < 24) (I0 : qI cA D (fun q => s.heap.size ≤ q) H own ax am g w0 wR) (hS : va_S (fun q => s.heap.size ≤ q) s.heap H locs)
  (hl : lv_has ls 4 [(3, .int (nI i0)), (2, .ref am), (1, .ref ax), (0, .ref b)]) (hcb : cells + 1000 * qMis w0 ≤ 600000) (hsb : slots + 80000 * qMis w0 ≤ 7302250)
  (fin : ∀ (H1 : Heap) (locs1 : List Loc) (own1 : Nat → Nat) (g1 : Nat) (w1 wR1 : va_W) (cells1 slots1 : Nat), g1 < 24 → qI cA D (fun q => s.heap.size ≤ q) H1 own1 ax am g1 w1 wR1 → va_S (fun q => s.heap.size ≤ q) s.heap H1 locs1 → cells1 + 1000 * qMis w1 ≤ 600000 → slots1 + 80000 * qMis w1 ≤ 7302250 → W p l e (zRm 1000 600000 7302250) s m #[Value.ref b] below meth c H1 locs1 cells1 slots1 Q (F0 m 986 ls [])) :
  W p l e (zRm 1000 600000 7302250) s m #[Value.ref b] below meth c H locs cells slots Q (F0 m 778 ls []) := by
  have hb : c.code = code := Cx.2.1.trans (X_lw_c _)
  obtain ⟨IC, IR, ht, htl⟩ := I0
  obtain ⟨r1, r2, hr1, hr2, hT⟩ := evC_value g hg G (xs (i0 + 1)) (xs (i0 + 2))
  obtain ⟨q1, q2, hq1, hq2, hT2⟩ := evR_value g hg G (xs (i0 + 1)) (xs (i0 + 2))
  refine lv_aload_n (pc := 778) Cx.1 hb dl_778 rfl (lv_at hl 2 rfl) ?_
  refine lw_argk (pc := 779) (j := 1) (k0 := 3) (k3 := 0) dl_779 dl_780 dl_781 dl_782 dl_783 rfl (by omega) hLm Cx.1 hb hX hbl hS hl rfl rfl ?_
  refine lw_argk (pc := 784) (j := 2) (k0 := 3) (k3 := 0) dl_784 dl_785 dl_786 dl_787 dl_788 rfl (by omega) hLm Cx.1 hb hX hbl hS hl rfl rfl ?_
  refine q_ordC1 (X := X_lw meth.name) (pc := 789) (as' := [zI r1, zI r2]) (av' := [.int (xs (i0 + 1)), .int (xs (i0 + 2))]) (st := []) hg m_X8_valuea lr8_value Cx IC hT (fun r h hP => (zands_c (zands_c hP).2).1) hS hl.1 (fun ad => ⟨⟨_, rfl, hr1⟩, ⟨_, rfl, hr2⟩, trivial⟩) (Nat.zero_le _) rfl (by omega) (by omega) (fun w1 ad1 r h1 ov H1 locs1 hov hP1 IC1 hm1 ht1 hfr1 hS1 => ?_)
  obtain ⟨v_, e_⟩ := zrJ_t (zands_c hP1).1 hov
  subst e_
  refine lv_pop2_2 (pc := 792) (va := .long v_) Cx.1 hb dl_792 rfl ?_
  refine lv_aload_n (pc := 793) Cx.1 hb dl_793 rfl (lv_at hl 1 rfl) ?_
  refine lw_argk (pc := 794) (j := 1) (k0 := 3) (k3 := 0) dl_794 dl_795 dl_796 dl_797 dl_798 rfl (by omega) hLm Cx.1 hb hX hbl hS1 hl rfl rfl ?_
  refine lw_argk (pc := 799) (j := 2) (k0 := 3) (k3 := 0) dl_799 dl_800 dl_801 dl_802 dl_803 rfl (by omega) hLm Cx.1 hb hX hbl hS1 hl rfl rfl ?_
  refine q_ordR1 (X := X_lw meth.name) (pc := 804) (as' := [zI q1, zI q2]) (av' := [.int (xs (i0 + 1)), .int (xs (i0 + 2))]) (st := []) hg m_X9_valuev lr9_value Cx (qR_kept hfr1 IR) hT2 (fun r h hP => (zands_c (zands_c hP).2).1) hS1 hl.1 (fun ad => ⟨⟨_, rfl, hq1⟩, ⟨_, rfl, hq2⟩, trivial⟩) (Nat.zero_le _) rfl (by omega) (by omega) (fun wR1 ad2 r2 h2 ov2 H2 locs2 hov2 hP2 IR2 ht2 hfr2 hS2 => ?_)
  obtain ⟨v_, e_⟩ := zrJ_t (zands_c hP2).1 hov2
  subst e_
  refine lv_pop2_2 (pc := 807) (va := .long v_) Cx.1 hb dl_807 rfl ?_
  refine lv_goto (pc := 808) (tgt := 986) Cx.1 hb dl_808 (by decide) ?_
  exact fin _ _ _ _ _ _ _ _ hg ⟨qC_kept hfr2 IC1, IR2, by rw [ht2, ht1, ht], by rw [ht1]; exact htl⟩ hS2 (by rw [hm1]; exact hcb) (by rw [hm1]; exact hsb)

theorem lw_c_parts [G : zGh] {p : Program} {l : Launch} {e : Env} {s : State} {m : MethodId} {below : List Frame} {meth : Method} {c : Code} {b L i0 : Nat} {xs : Nat → Int32} {cA : Nat → ClassId} {D : va_G} {Q : State → Prop} {ls : Array Slot} {H : Heap} {locs : List Loc} {own : Nat → Nat} {ax am g cells slots : Nat} {w0 wR : va_W}
  (Cx : zCx (X_lw meth.name) cA D p s m #[Value.ref b] meth c (fun q => s.heap.size ≤ q)) (hX : va_X b L xs s s.heap) (hbl : b < s.heap.size) (hL : i0 + 6 ≤ L) (hLm : L ≤ 3072) (hg : g < 24) (I0 : qI cA D (fun q => s.heap.size ≤ q) H own ax am g w0 wR) (hS : va_S (fun q => s.heap.size ≤ q) s.heap H locs)
  (hl : lv_has ls 4 [(3, .int (nI i0)), (2, .ref am), (1, .ref ax), (0, .ref b)]) (hcb : cells + 1000 * qMis w0 ≤ 600000) (hsb : slots + 80000 * qMis w0 ≤ 7302250)
  (fin : ∀ (H1 : Heap) (locs1 : List Loc) (own1 : Nat → Nat) (g1 : Nat) (w1 wR1 : va_W) (cells1 slots1 : Nat), g1 < 24 → qI cA D (fun q => s.heap.size ≤ q) H1 own1 ax am g1 w1 wR1 → va_S (fun q => s.heap.size ≤ q) s.heap H1 locs1 → cells1 + 1000 * qMis w1 ≤ 600000 → slots1 + 80000 * qMis w1 ≤ 7302250 → W p l e (zRm 1000 600000 7302250) s m #[Value.ref b] below meth c H1 locs1 cells1 slots1 Q (F0 m 986 ls [])) :
  W p l e (zRm 1000 600000 7302250) s m #[Value.ref b] below meth c H locs cells slots Q (F0 m 811 ls []) := by
  have hb : c.code = code := Cx.2.1.trans (X_lw_c _)
  obtain ⟨IC, IR, ht, htl⟩ := I0
  obtain ⟨r1, r2, r3, hr1, hr2, hr3, hT⟩ := evC_parts g hg G (xs (i0 + 1)) (xs (i0 + 2)) (xs (i0 + 3))
  obtain ⟨q1, q2, q3, hq1, hq2, hq3, hT2⟩ := evR_parts g hg G (xs (i0 + 1)) (xs (i0 + 2)) (xs (i0 + 3))
  refine lv_aload_n (pc := 811) Cx.1 hb dl_811 rfl (lv_at hl 2 rfl) ?_
  refine lw_argk (pc := 812) (j := 1) (k0 := 3) (k3 := 0) dl_812 dl_813 dl_814 dl_815 dl_816 rfl (by omega) hLm Cx.1 hb hX hbl hS hl rfl rfl ?_
  refine lw_argk (pc := 817) (j := 2) (k0 := 3) (k3 := 0) dl_817 dl_818 dl_819 dl_820 dl_821 rfl (by omega) hLm Cx.1 hb hX hbl hS hl rfl rfl ?_
  refine lw_argk (pc := 822) (j := 3) (k0 := 3) (k3 := 0) dl_822 dl_823 dl_824 dl_825 dl_826 rfl (by omega) hLm Cx.1 hb hX hbl hS hl rfl rfl ?_
  refine q_ordC1 (X := X_lw meth.name) (pc := 827) (as' := [zI r1, zI r2, zI r3]) (av' := [.int (xs (i0 + 1)), .int (xs (i0 + 2)), .int (xs (i0 + 3))]) (st := []) hg m_X8_partst lr8_parts Cx IC hT (fun r h hP => (zands_c (zands_c hP).2).1) hS hl.1 (fun ad => ⟨⟨_, rfl, hr1⟩, ⟨_, rfl, hr2⟩, ⟨_, rfl, hr3⟩, trivial⟩) (Nat.zero_le _) rfl (by omega) (by omega) (fun w1 ad1 r h1 ov H1 locs1 hov hP1 IC1 hm1 ht1 hfr1 hS1 => ?_)
  obtain ⟨v_, e_⟩ := zrJ_t (zands_c hP1).1 hov
  subst e_
  refine lv_pop2_2 (pc := 830) (va := .long v_) Cx.1 hb dl_830 rfl ?_
  refine lv_aload_n (pc := 831) Cx.1 hb dl_831 rfl (lv_at hl 1 rfl) ?_
  refine lw_argk (pc := 832) (j := 1) (k0 := 3) (k3 := 0) dl_832 dl_833 dl_834 dl_835 dl_836 rfl (by omega) hLm Cx.1 hb hX hbl hS1 hl rfl rfl ?_
  refine lw_argk (pc := 837) (j := 2) (k0 := 3) (k3 := 0) dl_837 dl_838 dl_839 dl_840 dl_841 rfl (by omega) hLm Cx.1 hb hX hbl hS1 hl rfl rfl ?_
  refine lw_argk (pc := 842) (j := 3) (k0 := 3) (k3 := 0) dl_842 dl_843 dl_844 dl_845 dl_846 rfl (by omega) hLm Cx.1 hb hX hbl hS1 hl rfl rfl ?_
  refine q_ordR1 (X := X_lw meth.name) (pc := 847) (as' := [zI q1, zI q2, zI q3]) (av' := [.int (xs (i0 + 1)), .int (xs (i0 + 2)), .int (xs (i0 + 3))]) (st := []) hg m_X9_partsv lr9_parts Cx (qR_kept hfr1 IR) hT2 (fun r h hP => (zands_c (zands_c hP).2).1) hS1 hl.1 (fun ad => ⟨⟨_, rfl, hq1⟩, ⟨_, rfl, hq2⟩, ⟨_, rfl, hq3⟩, trivial⟩) (Nat.zero_le _) rfl (by omega) (by omega) (fun wR1 ad2 r2 h2 ov2 H2 locs2 hov2 hP2 IR2 ht2 hfr2 hS2 => ?_)
  obtain ⟨v_, e_⟩ := zrJ_t (zands_c hP2).1 hov2
  subst e_
  refine lv_pop2_2 (pc := 850) (va := .long v_) Cx.1 hb dl_850 rfl ?_
  refine lv_goto (pc := 851) (tgt := 986) Cx.1 hb dl_851 (by decide) ?_
  exact fin _ _ _ _ _ _ _ _ hg ⟨qC_kept hfr2 IC1, IR2, by rw [ht2, ht1, ht], by rw [ht1]; exact htl⟩ hS2 (by rw [hm1]; exact hcb) (by rw [hm1]; exact hsb)

theorem lw_c_inner [G : zGh] {p : Program} {l : Launch} {e : Env} {s : State} {m : MethodId} {below : List Frame} {meth : Method} {c : Code} {b L i0 : Nat} {xs : Nat → Int32} {cA : Nat → ClassId} {D : va_G} {Q : State → Prop} {ls : Array Slot} {H : Heap} {locs : List Loc} {own : Nat → Nat} {ax am g cells slots : Nat} {w0 wR : va_W}
  (Cx : zCx (X_lw meth.name) cA D p s m #[Value.ref b] meth c (fun q => s.heap.size ≤ q)) (hX : va_X b L xs s s.heap) (hbl : b < s.heap.size) (hL : i0 + 6 ≤ L) (hLm : L ≤ 3072) (hg : g < 24) (I0 : qI cA D (fun q => s.heap.size ≤ q) H own ax am g w0 wR) (hS : va_S (fun q => s.heap.size ≤ q) s.heap H locs)
  (hl : lv_has ls 4 [(3, .int (nI i0)), (2, .ref am), (1, .ref ax), (0, .ref b)]) (hcb : cells + 1000 * qMis w0 ≤ 600000) (hsb : slots + 80000 * qMis w0 ≤ 7302250)
  (fin : ∀ (H1 : Heap) (locs1 : List Loc) (own1 : Nat → Nat) (g1 : Nat) (w1 wR1 : va_W) (cells1 slots1 : Nat), g1 < 24 → qI cA D (fun q => s.heap.size ≤ q) H1 own1 ax am g1 w1 wR1 → va_S (fun q => s.heap.size ≤ q) s.heap H1 locs1 → cells1 + 1000 * qMis w1 ≤ 600000 → slots1 + 80000 * qMis w1 ≤ 7302250 → W p l e (zRm 1000 600000 7302250) s m #[Value.ref b] below meth c H1 locs1 cells1 slots1 Q (F0 m 986 ls [])) :
  W p l e (zRm 1000 600000 7302250) s m #[Value.ref b] below meth c H locs cells slots Q (F0 m 854 ls []) := by
  have hb : c.code = code := Cx.2.1.trans (X_lw_c _)
  obtain ⟨IC, IR, ht, htl⟩ := I0
  obtain ⟨r1, r2, hr1, hr2, hT⟩ := evC_inner g hg G (xs (i0 + 1)) (xs (i0 + 2))
  obtain ⟨q1, q2, hq1, hq2, hT2⟩ := evR_inner g hg G (xs (i0 + 1)) (xs (i0 + 2))
  refine lv_aload_n (pc := 854) Cx.1 hb dl_854 rfl (lv_at hl 2 rfl) ?_
  refine lw_argk (pc := 855) (j := 1) (k0 := 3) (k3 := 0) dl_855 dl_856 dl_857 dl_858 dl_859 rfl (by omega) hLm Cx.1 hb hX hbl hS hl rfl rfl ?_
  refine lw_argk (pc := 860) (j := 2) (k0 := 3) (k3 := 0) dl_860 dl_861 dl_862 dl_863 dl_864 rfl (by omega) hLm Cx.1 hb hX hbl hS hl rfl rfl ?_
  refine q_ordC1 (X := X_lw meth.name) (pc := 865) (as' := [zI r1, zI r2]) (av' := [.int (xs (i0 + 1)), .int (xs (i0 + 2))]) (st := []) hg m_X8_innera lr8_inner Cx IC hT (fun r h hP => (zands_c (zands_c hP).2).1) hS hl.1 (fun ad => ⟨⟨_, rfl, hr1⟩, ⟨_, rfl, hr2⟩, trivial⟩) (Nat.zero_le _) rfl (by omega) (by omega) (fun w1 ad1 r h1 ov H1 locs1 hov hP1 IC1 hm1 ht1 hfr1 hS1 => ?_)
  obtain ⟨v_, e_⟩ := zrJ_t (zands_c hP1).1 hov
  subst e_
  refine lv_pop2_2 (pc := 868) (va := .long v_) Cx.1 hb dl_868 rfl ?_
  refine lv_aload_n (pc := 869) Cx.1 hb dl_869 rfl (lv_at hl 1 rfl) ?_
  refine lw_argk (pc := 870) (j := 1) (k0 := 3) (k3 := 0) dl_870 dl_871 dl_872 dl_873 dl_874 rfl (by omega) hLm Cx.1 hb hX hbl hS1 hl rfl rfl ?_
  refine lw_argk (pc := 875) (j := 2) (k0 := 3) (k3 := 0) dl_875 dl_876 dl_877 dl_878 dl_879 rfl (by omega) hLm Cx.1 hb hX hbl hS1 hl rfl rfl ?_
  refine q_ordR1 (X := X_lw meth.name) (pc := 880) (as' := [zI q1, zI q2]) (av' := [.int (xs (i0 + 1)), .int (xs (i0 + 2))]) (st := []) hg m_X9_innerv lr9_inner Cx (qR_kept hfr1 IR) hT2 (fun r h hP => (zands_c (zands_c hP).2).1) hS1 hl.1 (fun ad => ⟨⟨_, rfl, hq1⟩, ⟨_, rfl, hq2⟩, trivial⟩) (Nat.zero_le _) rfl (by omega) (by omega) (fun wR1 ad2 r2 h2 ov2 H2 locs2 hov2 hP2 IR2 ht2 hfr2 hS2 => ?_)
  obtain ⟨v_, e_⟩ := zrJ_t (zands_c hP2).1 hov2
  subst e_
  refine lv_pop2_2 (pc := 883) (va := .long v_) Cx.1 hb dl_883 rfl ?_
  refine lv_goto (pc := 884) (tgt := 986) Cx.1 hb dl_884 (by decide) ?_
  exact fin _ _ _ _ _ _ _ _ hg ⟨qC_kept hfr2 IC1, IR2, by rw [ht2, ht1, ht], by rw [ht1]; exact htl⟩ hS2 (by rw [hm1]; exact hcb) (by rw [hm1]; exact hsb)

theorem lw_c_kind [G : zGh] {p : Program} {l : Launch} {e : Env} {s : State} {m : MethodId} {below : List Frame} {meth : Method} {c : Code} {b L i0 : Nat} {xs : Nat → Int32} {cA : Nat → ClassId} {D : va_G} {Q : State → Prop} {ls : Array Slot} {H : Heap} {locs : List Loc} {own : Nat → Nat} {ax am g cells slots : Nat} {w0 wR : va_W}
  (Cx : zCx (X_lw meth.name) cA D p s m #[Value.ref b] meth c (fun q => s.heap.size ≤ q)) (hX : va_X b L xs s s.heap) (hbl : b < s.heap.size) (hL : i0 + 6 ≤ L) (hLm : L ≤ 3072) (hg : g < 24) (I0 : qI cA D (fun q => s.heap.size ≤ q) H own ax am g w0 wR) (hS : va_S (fun q => s.heap.size ≤ q) s.heap H locs)
  (hl : lv_has ls 4 [(3, .int (nI i0)), (2, .ref am), (1, .ref ax), (0, .ref b)]) (hcb : cells + 1000 * qMis w0 ≤ 600000) (hsb : slots + 80000 * qMis w0 ≤ 7302250)
  (fin : ∀ (H1 : Heap) (locs1 : List Loc) (own1 : Nat → Nat) (g1 : Nat) (w1 wR1 : va_W) (cells1 slots1 : Nat), g1 < 24 → qI cA D (fun q => s.heap.size ≤ q) H1 own1 ax am g1 w1 wR1 → va_S (fun q => s.heap.size ≤ q) s.heap H1 locs1 → cells1 + 1000 * qMis w1 ≤ 600000 → slots1 + 80000 * qMis w1 ≤ 7302250 → W p l e (zRm 1000 600000 7302250) s m #[Value.ref b] below meth c H1 locs1 cells1 slots1 Q (F0 m 986 ls [])) :
  W p l e (zRm 1000 600000 7302250) s m #[Value.ref b] below meth c H locs cells slots Q (F0 m 887 ls []) := by
  have hb : c.code = code := Cx.2.1.trans (X_lw_c _)
  obtain ⟨IC, IR, ht, htl⟩ := I0
  obtain ⟨r1, r2, hr1, hr2, hT⟩ := evC_kind g hg G (xs (i0 + 1)) (xs (i0 + 2))
  obtain ⟨q1, q2, hq1, hq2, hT2⟩ := evR_kind g hg G (xs (i0 + 1)) (xs (i0 + 2))
  refine lv_aload_n (pc := 887) Cx.1 hb dl_887 rfl (lv_at hl 2 rfl) ?_
  refine lw_argk (pc := 888) (j := 1) (k0 := 3) (k3 := 0) dl_888 dl_889 dl_890 dl_891 dl_892 rfl (by omega) hLm Cx.1 hb hX hbl hS hl rfl rfl ?_
  refine lw_argk (pc := 893) (j := 2) (k0 := 3) (k3 := 0) dl_893 dl_894 dl_895 dl_896 dl_897 rfl (by omega) hLm Cx.1 hb hX hbl hS hl rfl rfl ?_
  refine q_ordC1 (X := X_lw meth.name) (pc := 898) (as' := [zI r1, zI r2]) (av' := [.int (xs (i0 + 1)), .int (xs (i0 + 2))]) (st := []) hg m_X8_kinda lr8_kind Cx IC hT (fun r h hP => (zands_c (zands_c hP).2).1) hS hl.1 (fun ad => ⟨⟨_, rfl, hr1⟩, ⟨_, rfl, hr2⟩, trivial⟩) (Nat.zero_le _) rfl (by omega) (by omega) (fun w1 ad1 r h1 ov H1 locs1 hov hP1 IC1 hm1 ht1 hfr1 hS1 => ?_)
  obtain ⟨v_, e_⟩ := zrI_t (zands_c hP1).1 hov
  subst e_
  refine lv_pop (pc := 901) (va := .int v_) Cx.1 hb dl_901 rfl ?_
  refine lv_aload_n (pc := 902) Cx.1 hb dl_902 rfl (lv_at hl 1 rfl) ?_
  refine lw_argk (pc := 903) (j := 1) (k0 := 3) (k3 := 0) dl_903 dl_904 dl_905 dl_906 dl_907 rfl (by omega) hLm Cx.1 hb hX hbl hS1 hl rfl rfl ?_
  refine lw_argk (pc := 908) (j := 2) (k0 := 3) (k3 := 0) dl_908 dl_909 dl_910 dl_911 dl_912 rfl (by omega) hLm Cx.1 hb hX hbl hS1 hl rfl rfl ?_
  refine q_ordR1 (X := X_lw meth.name) (pc := 913) (as' := [zI q1, zI q2]) (av' := [.int (xs (i0 + 1)), .int (xs (i0 + 2))]) (st := []) hg m_X9_kindv lr9_kind Cx (qR_kept hfr1 IR) hT2 (fun r h hP => (zands_c (zands_c hP).2).1) hS1 hl.1 (fun ad => ⟨⟨_, rfl, hq1⟩, ⟨_, rfl, hq2⟩, trivial⟩) (Nat.zero_le _) rfl (by omega) (by omega) (fun wR1 ad2 r2 h2 ov2 H2 locs2 hov2 hP2 IR2 ht2 hfr2 hS2 => ?_)
  obtain ⟨v_, e_⟩ := zrI_t (zands_c hP2).1 hov2
  subst e_
  refine lv_pop (pc := 916) (va := .int v_) Cx.1 hb dl_916 rfl ?_
  refine lv_goto (pc := 917) (tgt := 986) Cx.1 hb dl_917 (by decide) ?_
  exact fin _ _ _ _ _ _ _ _ hg ⟨qC_kept hfr2 IC1, IR2, by rw [ht2, ht1, ht], by rw [ht1]; exact htl⟩ hS2 (by rw [hm1]; exact hcb) (by rw [hm1]; exact hsb)

theorem lw_c_cut [G : zGh] {p : Program} {l : Launch} {e : Env} {s : State} {m : MethodId} {below : List Frame} {meth : Method} {c : Code} {b L i0 : Nat} {xs : Nat → Int32} {cA : Nat → ClassId} {D : va_G} {Q : State → Prop} {ls : Array Slot} {H : Heap} {locs : List Loc} {own : Nat → Nat} {ax am g cells slots : Nat} {w0 wR : va_W}
  (Cx : zCx (X_lw meth.name) cA D p s m #[Value.ref b] meth c (fun q => s.heap.size ≤ q)) (hX : va_X b L xs s s.heap) (hbl : b < s.heap.size) (hL : i0 + 6 ≤ L) (hLm : L ≤ 3072) (hg : g < 24) (I0 : qI cA D (fun q => s.heap.size ≤ q) H own ax am g w0 wR) (hS : va_S (fun q => s.heap.size ≤ q) s.heap H locs)
  (hl : lv_has ls 4 [(3, .int (nI i0)), (2, .ref am), (1, .ref ax), (0, .ref b)]) (hcb : cells + 1000 * qMis w0 ≤ 600000) (hsb : slots + 80000 * qMis w0 ≤ 7302250)
  (fin : ∀ (H1 : Heap) (locs1 : List Loc) (own1 : Nat → Nat) (g1 : Nat) (w1 wR1 : va_W) (cells1 slots1 : Nat), g1 < 24 → qI cA D (fun q => s.heap.size ≤ q) H1 own1 ax am g1 w1 wR1 → va_S (fun q => s.heap.size ≤ q) s.heap H1 locs1 → cells1 + 1000 * qMis w1 ≤ 600000 → slots1 + 80000 * qMis w1 ≤ 7302250 → W p l e (zRm 1000 600000 7302250) s m #[Value.ref b] below meth c H1 locs1 cells1 slots1 Q (F0 m 986 ls [])) :
  W p l e (zRm 1000 600000 7302250) s m #[Value.ref b] below meth c H locs cells slots Q (F0 m 920 ls []) := by
  have hb : c.code = code := Cx.2.1.trans (X_lw_c _)
  obtain ⟨IC, IR, ht, htl⟩ := I0
  obtain ⟨r1, r2, r3, hr1, hr2, hr3, hT⟩ := evC_cut g hg G (xs (i0 + 1)) (xs (i0 + 2)) (xs (i0 + 3))
  obtain ⟨q1, q2, q3, hq1, hq2, hq3, hT2⟩ := evR_cut g hg G (xs (i0 + 1)) (xs (i0 + 2)) (xs (i0 + 3))
  refine lv_aload_n (pc := 920) Cx.1 hb dl_920 rfl (lv_at hl 2 rfl) ?_
  refine lw_argk (pc := 921) (j := 1) (k0 := 3) (k3 := 0) dl_921 dl_922 dl_923 dl_924 dl_925 rfl (by omega) hLm Cx.1 hb hX hbl hS hl rfl rfl ?_
  refine lw_argk (pc := 926) (j := 2) (k0 := 3) (k3 := 0) dl_926 dl_927 dl_928 dl_929 dl_930 rfl (by omega) hLm Cx.1 hb hX hbl hS hl rfl rfl ?_
  refine lw_argk (pc := 931) (j := 3) (k0 := 3) (k3 := 0) dl_931 dl_932 dl_933 dl_934 dl_935 rfl (by omega) hLm Cx.1 hb hX hbl hS hl rfl rfl ?_
  refine q_ordC1 (X := X_lw meth.name) (pc := 936) (as' := [zI r1, zI r2, zI r3]) (av' := [.int (xs (i0 + 1)), .int (xs (i0 + 2)), .int (xs (i0 + 3))]) (st := []) hg m_X8_cuta lr8_cut Cx IC hT (fun r h hP => (zands_c (zands_c hP).2).1) hS hl.1 (fun ad => ⟨⟨_, rfl, hr1⟩, ⟨_, rfl, hr2⟩, ⟨_, rfl, hr3⟩, trivial⟩) (Nat.zero_le _) rfl (by omega) (by omega) (fun w1 ad1 r h1 ov H1 locs1 hov hP1 IC1 hm1 ht1 hfr1 hS1 => ?_)
  obtain ⟨v_, e_⟩ := zrI_t (zands_c hP1).1 hov
  subst e_
  refine lv_pop (pc := 939) (va := .int v_) Cx.1 hb dl_939 rfl ?_
  refine lv_aload_n (pc := 940) Cx.1 hb dl_940 rfl (lv_at hl 1 rfl) ?_
  refine lw_argk (pc := 941) (j := 1) (k0 := 3) (k3 := 0) dl_941 dl_942 dl_943 dl_944 dl_945 rfl (by omega) hLm Cx.1 hb hX hbl hS1 hl rfl rfl ?_
  refine lw_argk (pc := 946) (j := 2) (k0 := 3) (k3 := 0) dl_946 dl_947 dl_948 dl_949 dl_950 rfl (by omega) hLm Cx.1 hb hX hbl hS1 hl rfl rfl ?_
  refine lw_argk (pc := 951) (j := 3) (k0 := 3) (k3 := 0) dl_951 dl_952 dl_953 dl_954 dl_955 rfl (by omega) hLm Cx.1 hb hX hbl hS1 hl rfl rfl ?_
  refine q_ordR1 (X := X_lw meth.name) (pc := 956) (as' := [zI q1, zI q2, zI q3]) (av' := [.int (xs (i0 + 1)), .int (xs (i0 + 2)), .int (xs (i0 + 3))]) (st := []) hg m_X9_cutv lr9_cut Cx (qR_kept hfr1 IR) hT2 (fun r h hP => (zands_c (zands_c hP).2).1) hS1 hl.1 (fun ad => ⟨⟨_, rfl, hq1⟩, ⟨_, rfl, hq2⟩, ⟨_, rfl, hq3⟩, trivial⟩) (Nat.zero_le _) rfl (by omega) (by omega) (fun wR1 ad2 r2 h2 ov2 H2 locs2 hov2 hP2 IR2 ht2 hfr2 hS2 => ?_)
  obtain ⟨v_, e_⟩ := zrI_t (zands_c hP2).1 hov2
  subst e_
  refine lv_pop (pc := 959) (va := .int v_) Cx.1 hb dl_959 rfl ?_
  refine lv_goto (pc := 960) (tgt := 986) Cx.1 hb dl_960 (by decide) ?_
  exact fin _ _ _ _ _ _ _ _ hg ⟨qC_kept hfr2 IC1, IR2, by rw [ht2, ht1, ht], by rw [ht1]; exact htl⟩ hS2 (by rw [hm1]; exact hcb) (by rw [hm1]; exact hsb)

theorem lw_c_look [G : zGh] {p : Program} {l : Launch} {e : Env} {s : State} {m : MethodId} {below : List Frame} {meth : Method} {c : Code} {b L i0 : Nat} {xs : Nat → Int32} {cA : Nat → ClassId} {D : va_G} {Q : State → Prop} {ls : Array Slot} {H : Heap} {locs : List Loc} {own : Nat → Nat} {ax am g cells slots : Nat} {w0 wR : va_W}
  (Cx : zCx (X_lw meth.name) cA D p s m #[Value.ref b] meth c (fun q => s.heap.size ≤ q)) (hX : va_X b L xs s s.heap) (hbl : b < s.heap.size) (hL : i0 + 6 ≤ L) (hLm : L ≤ 3072) (hg : g < 24) (I0 : qI cA D (fun q => s.heap.size ≤ q) H own ax am g w0 wR) (hS : va_S (fun q => s.heap.size ≤ q) s.heap H locs)
  (hl : lv_has ls 4 [(3, .int (nI i0)), (2, .ref am), (1, .ref ax), (0, .ref b)]) (hcb : cells + 1000 * qMis w0 ≤ 600000) (hsb : slots + 80000 * qMis w0 ≤ 7302250)
  (fin : ∀ (H1 : Heap) (locs1 : List Loc) (own1 : Nat → Nat) (g1 : Nat) (w1 wR1 : va_W) (cells1 slots1 : Nat), g1 < 24 → qI cA D (fun q => s.heap.size ≤ q) H1 own1 ax am g1 w1 wR1 → va_S (fun q => s.heap.size ≤ q) s.heap H1 locs1 → cells1 + 1000 * qMis w1 ≤ 600000 → slots1 + 80000 * qMis w1 ≤ 7302250 → W p l e (zRm 1000 600000 7302250) s m #[Value.ref b] below meth c H1 locs1 cells1 slots1 Q (F0 m 986 ls [])) :
  W p l e (zRm 1000 600000 7302250) s m #[Value.ref b] below meth c H locs cells slots Q (F0 m 963 ls []) := by
  have hb : c.code = code := Cx.2.1.trans (X_lw_c _)
  obtain ⟨IC, IR, ht, htl⟩ := I0
  obtain ⟨r1, hr1, hT⟩ := evC_look g hg G (xs (i0 + 1))
  obtain ⟨q1, hq1, hT2⟩ := evR_look g hg G (xs (i0 + 1))
  refine lv_aload_n (pc := 963) Cx.1 hb dl_963 rfl (lv_at hl 2 rfl) ?_
  refine lw_argk (pc := 964) (j := 1) (k0 := 3) (k3 := 0) dl_964 dl_965 dl_966 dl_967 dl_968 rfl (by omega) hLm Cx.1 hb hX hbl hS hl rfl rfl ?_
  refine q_ordC1 (X := X_lw meth.name) (pc := 969) (as' := [zI r1]) (av' := [.int (xs (i0 + 1))]) (st := []) hg m_X8_lookt lr8_look Cx IC hT (fun r h hP => (zands_c (zands_c hP).2).1) hS hl.1 (fun ad => ⟨⟨_, rfl, hr1⟩, trivial⟩) (Nat.zero_le _) rfl (by omega) (by omega) (fun w1 ad1 r h1 ov H1 locs1 hov hP1 IC1 hm1 ht1 hfr1 hS1 => ?_)
  obtain ⟨v_, e_⟩ := zrI_t (zands_c hP1).1 hov
  subst e_
  refine lv_pop (pc := 972) (va := .int v_) Cx.1 hb dl_972 rfl ?_
  refine lv_aload_n (pc := 973) Cx.1 hb dl_973 rfl (lv_at hl 1 rfl) ?_
  refine lw_argk (pc := 974) (j := 1) (k0 := 3) (k3 := 0) dl_974 dl_975 dl_976 dl_977 dl_978 rfl (by omega) hLm Cx.1 hb hX hbl hS1 hl rfl rfl ?_
  refine q_ordR1 (X := X_lw meth.name) (pc := 979) (as' := [zI q1]) (av' := [.int (xs (i0 + 1))]) (st := []) hg m_X9_lookv lr9_look Cx (qR_kept hfr1 IR) hT2 (fun r h hP => (zands_c (zands_c hP).2).1) hS1 hl.1 (fun ad => ⟨⟨_, rfl, hq1⟩, trivial⟩) (Nat.zero_le _) rfl (by omega) (by omega) (fun wR1 ad2 r2 h2 ov2 H2 locs2 hov2 hP2 IR2 ht2 hfr2 hS2 => ?_)
  obtain ⟨v_, e_⟩ := zrI_t (zands_c hP2).1 hov2
  subst e_
  refine lv_pop (pc := 982) (va := .int v_) Cx.1 hb dl_982 rfl ?_
  refine lv_goto (pc := 983) (tgt := 986) Cx.1 hb dl_983 (by decide) ?_
  exact fin _ _ _ _ _ _ _ _ hg ⟨qC_kept hfr2 IC1, IR2, by rw [ht2, ht1, ht], by rw [ht1]; exact htl⟩ hS2 (by rw [hm1]; exact hcb) (by rw [hm1]; exact hsb)

