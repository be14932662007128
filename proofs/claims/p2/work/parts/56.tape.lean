/-! the ghost number T = cA 20: a place on the tape that doesn't fall -/
theorem zop_T {g g' : Nat → Nat} (h : ∀ w, w ≠ 20 → g' w = g w) (w : Nat) : zop g' w = zop g w := by
  unfold zop
  have e : max w 21 ≠ 20 := by omega
  rw [h _ e]
theorem zRw_T {cA cA' : Nat → Nat} {ws : va_W} (h : ∀ w, w ≠ 20 → cA' w = cA w) {w : Nat} {o : Option Nat} (hr : zRw (zad cA ws) w o) : zRw (zad cA' ws) w o := by
  rcases hr with ⟨h1, h2⟩ | ⟨h1, h2⟩
  · exact Or.inl ⟨h1, h2⟩
  · exact Or.inr ⟨h1, h2.trans (zop_T h w).symm⟩
theorem zRep_T [zGh] {cA cA' : Nat → Nat} {ws : va_W} (h : ∀ w, w ≠ 20 → cA' w = cA w) {v : zV} {x : Value} (hr : zRep (zad cA ws) v x) : zRep (zad cA' ws) v x := by
  match v, hr with
  | .inl n, hr => exact hr
  | .inr (.inl r), ⟨o, h1, h2⟩ => exact ⟨o, h1, h2⟩
  | .inr (.inr (.inl n)), hr => exact hr
  | .inr (.inr (.inr n)), Or.inl hr => exact Or.inl hr
  | .inr (.inr (.inr n)), Or.inr ⟨h1, h2⟩ => exact Or.inr ⟨h1, h2.trans (congrArg va_rf (zop_T h _).symm)⟩
theorem zRepL_T [zGh] {cA cA' : Nat → Nat} {ws : va_W} (h : ∀ w, w ≠ 20 → cA' w = cA w) : ∀ {S : List zV} {st : List Value}, zRepL (zad cA ws) S st → zRepL (zad cA' ws) S st
  | [], [], _ => trivial
  | [], _ :: _, hr => hr.elim
  | _ :: _, [], hr => hr.elim
  | _ :: _, _ :: _, hr => ⟨zRep_T h hr.1, zRepL_T h hr.2⟩
theorem zLoc_T [zGh] {cA cA' : Nat → Nat} {ws : va_W} (h : ∀ w, w ≠ 20 → cA' w = cA w) {nL : Nat} {L : List zV} {ls : Array Slot} (hL : zLoc (zad cA ws) nL L ls) : zLoc (zad cA' ws) nL L ls := by
  obtain ⟨a1, lv, a2, a3⟩ := hL
  refine ⟨a1, lv, a2, fun i v hv => ?_⟩
  rcases a3 i v hv with z | ⟨x, hx, hr⟩
  · exact Or.inl z
  · exact Or.inr ⟨x, hx, zRep_T h hr⟩
theorem zFl_T [zCh] {cA cA' : Nat → Nat} {ws : va_W} (h : ∀ w, w ≠ 20 → cA' w = cA w) {ci k w : Nat} {v : Value} (hT : 274877906944 ≤ w → w < 274877906946 → cA' 20 ≤ cA 20) (hf : zFl (zad cA ws) ci k w v) : zFl (zad cA' ws) ci k w v := by
  unfold zFl at hf ⊢
  cases hz : zisR (zfty ci k)
  · rw [hz, cond_false] at hf
    rw [cond_false]
    obtain ⟨i, h1, h2, h3, h4⟩ := hf
    refine ⟨i, h1, h2, fun q => ?_, fun q1 q2 => ?_⟩
    · have e := h3 q
      show zi i = cA' w
      rw [h w (by omega)]
      exact e
    · obtain ⟨a, b, c, e⟩ := h4 q1 q2
      exact ⟨a, fun q => Nat.le_trans (hT q1 q) (b q), c, e⟩
  · rw [hz, cond_true] at hf
    rw [cond_true]
    obtain ⟨o, h1, h2⟩ := hf
    exact ⟨o, h1, zRw_T h h2⟩
theorem zCell_T [zCh] {cA cA' : Nat → Nat} {ws : va_W} (h : ∀ w, w ≠ 20 → cA' w = cA w) {c : zC} {e : va_E} (hT : 16 ≤ c.1 → ∀ k, k < zN (c.1 - 16) → 274877906944 ≤ zwd 40 c.2.2 k → zwd 40 c.2.2 k < 274877906946 → cA' 20 ≤ cA 20) (hc : zCell cA (zad cA ws) c e) : zCell cA' (zad cA' ws) c e := by
  rcases hc with ⟨h1, h2, f, h3, h4⟩ | ⟨h1, h2, f, h3, h4⟩ | ⟨h1, h2, hl, ⟨h3, f, h4, h5⟩ | ⟨h3, f, h4, h5⟩⟩ | ⟨h1, h2, hl, f, h3, h4⟩ | ⟨h1, fs, h2, h3, h4⟩
  · exact Or.inl ⟨h1, h2, f, by rw [h c.1 (by omega)]; exact h3, h4⟩
  · exact Or.inr (Or.inl ⟨h1, h2, f, by rw [h 2 (by decide)]; exact h3, h4⟩)
  · exact Or.inr (Or.inr (Or.inl ⟨h1, h2, hl, Or.inl ⟨h3, f, by rw [h 0 (by decide)]; exact h4, h5⟩⟩))
  · exact Or.inr (Or.inr (Or.inl ⟨h1, h2, hl, Or.inr ⟨h3, f, by rw [h 3 (by decide)]; exact h4, h5⟩⟩))
  · exact Or.inr (Or.inr (Or.inr (Or.inl ⟨h1, h2, hl, f, by rw [h c.1 (by omega)]; exact h3, fun j hj => zRw_T h (h4 j hj)⟩)))
  · exact Or.inr (Or.inr (Or.inr (Or.inr ⟨h1, fs, h2, h3, fun k v hv => zFl_T h (hT h1 k (by rw [← h3]; exact (List.getElem?_eq_some_iff.mp hv).1)) (h4 k v hv)⟩)))
/-- no word that speaks of T -/
noncomputable def zng (w : Nat) : Bool := cond (Nat.ble 274877906944 w) (Nat.ble 274877906946 w) true
theorem zng_t {w : Nat} (h : zng w = true) : 274877906944 ≤ w → w < 274877906946 → False := by
  intro h1 h2
  unfold zng at h
  rw [Nat.ble_eq_true_of_le h1, cond_true] at h
  exact absurd (Nat.le_of_ble_eq_true h) (Nat.not_le.mpr h2)
noncomputable def zngC (c : zC) : Bool := Prod.rec (motive := fun _ => Bool) (fun kd v => Prod.rec (motive := fun _ => Bool) (fun _ x => cond (Nat.ble 16 kd) (zall (zN (Nat.sub kd 16)) (fun k => zng (zwd 40 x k))) true) v) c
theorem zngC_t {c : zC} (h : zngC c = true) : 16 ≤ c.1 → ∀ k, k < zN (c.1 - 16) → 274877906944 ≤ zwd 40 c.2.2 k → zwd 40 c.2.2 k < 274877906946 → False := by
  obtain ⟨kd, len, x⟩ := c
  intro h1 k hk h2 h3
  have h : cond (Nat.ble 16 kd) (zall (zN (Nat.sub kd 16)) (fun k => zng (zwd 40 x k))) true = true := h
  have h1 : 16 ≤ kd := h1
  rw [Nat.ble_eq_true_of_le h1, cond_true] at h
  exact zng_t (zall_t h k hk) h2 h3
noncomputable def zngH {d : Nat} (t : zT d) (n : Nat) : Bool := zall n (fun q => zngC (zget d t q))
/-- words that speak of T stay true as T falls -/
theorem zHp_dn [zCh] {d : Nat} {cA cA' : Nat → Nat} (h : ∀ w, w ≠ 20 → cA w = cA' w) (hle : cA 20 ≤ cA' 20) {hh : zH d} {ws : va_W} (hH : zHp cA' hh ws) : zHp cA hh ws := ⟨hH.1, hH.2.1, fun i q hi => zCell_T h (fun _ _ _ _ _ => hle) (hH.2.2 i q hi)⟩
/-- no word speaks of T -/
theorem zHp_ng [zCh] {d : Nat} {cA cA' : Nat → Nat} (h : ∀ w, w ≠ 20 → cA' w = cA w) {hh : zH d} {ws : va_W} (hn : zngH hh.1 hh.2.1 = true) (hH : zHp cA hh ws) : zHp cA' hh ws := ⟨hH.1, hH.2.1, fun i q hi => zCell_T h (fun a k b c e => absurd (zngC_t (zall_t hn i (by rw [← hH.1]; exact (List.getElem?_eq_some_iff.mp hi).1)) a k b c e) id) (hH.2.2 i q hi)⟩
theorem zHp_cl {d : Nat} [zCh] {cA : Nat → ClassId} {h : zH d} {ws : va_W} {b a : Nat} {e : va_E} {c' : zC} (hH : zHp cA h ws) (hq : ws[b]? = some (a, e)) (hc : zCell cA (zad cA ws) c' e) : zHp cA (zset d h.1 b c', h.2) ws := by
  have key := zHp_set hH hq (e' := e) hc
  have hse : ws.set b (a, e) = ws := by
    apply List.ext_getElem?
    intro q
    rw [List.getElem?_set]
    by_cases hq2 : b = q
    · subst hq2
      rw [if_pos rfl, if_pos (List.getElem?_eq_some_iff.mp hq).1, hq]
    · rw [if_neg hq2]
  rw [hse] at key
  exact key
theorem zQc_dn {d : Nat} {P : zP d} {cA cA' : Nat → ClassId} (h : ∀ w, w ≠ 20 → cA w = cA' w) (hle : @LE.le Nat _ (cA 20) (cA' 20)) {D : va_G} {ad0 : zA} {A : Nat → Prop} (e : ad0.2 = cA) {a : Array Value} {st : State} {oc : Outcome} {t : State} (hq : zQc P cA' D (ad0.1, cA') A a st oc t) : zQc P cA D ad0 A a st oc t := by
  obtain ⟨⟨Ch, r, hh, ws, ov, ho, hov, hp, hH, hpre, hP, hD⟩, hF⟩ := hq
  refine ⟨⟨Ch, r, hh, ws, ov, ho, ?_, hp, zHp_dn h hle hH, ⟨hpre.1, e.symm⟩, hP, hD⟩, hF⟩
  rcases hov with z | ⟨x, z1, z2⟩
  · exact Or.inl z
  · exact Or.inr ⟨x, z1, fun G => zRep_T h (z2 G)⟩
theorem W_post {p : Program} {l : Launch} {e : Env} {R : Room} {s : State} {m : MethodId} {args : Array Value} {below : List Frame} {meth : Method} {c : Code} {H : Heap} {locs : List Loc} {cells slots : Nat} {Qc Qc' : Array Value → State → Outcome → State → Prop} {a : Array Value} {mc ms : Nat} {free : Addr → Prop} {g : JFrame} (hq : ∀ o t, Qc a s o t → Qc' a s o t) (hW : W p l e R s m args below meth c H locs cells slots (MQ below Qc a s mc ms free) g) : W p l e R s m args below meth c H locs cells slots (MQ below Qc' a s mc ms free) g := by
  intro T hT X
  obtain ⟨t, h1, o, h2, h3, h4, h5⟩ := hW T hT X
  exact ⟨t, h1, o, h2, h3, hq o t h4, h5⟩
def zcT2 (cA : Nat → Nat) (v : Nat) : Nat → Nat := fun w => if w = 20 then v else cA w
theorem zcT2_20 (cA : Nat → Nat) (v : Nat) : zcT2 cA v 20 = v := if_pos rfl
theorem zcT2_ne (cA : Nat → Nat) (v : Nat) : ∀ w, w ≠ 20 → zcT2 cA v w = cA w := fun _ h => if_neg h
theorem zty_T {cA cA' : Nat → Nat} (h : ∀ w, w ≠ 20 → cA' w = cA w) : zty cA' = zty cA := by
  unfold zty
  rw [h 0 (by decide), h 1 (by decide), h 2 (by decide), h 3 (by decide), h 4 (by decide), h 5 (by decide), h 6 (by decide), h 7 (by decide)]
theorem zCx_T {G G' : zGh} {X : zM} {cA cA' : Nat → ClassId} {D : va_G} {p : Program} {s : State} {m : MethodId} {args : Array Value} {meth : Method} {c : Code} {A : Nat → Prop} (h : ∀ w, w ≠ 20 → cA' w = cA w) (h0 : cA' 20 = @zg G' 0) (Cx : @zCx G X cA D p s m args meth c A) : @zCx G' X cA' D p s m args meth c A := ⟨Cx.1, Cx.2.1, Cx.2.2.1, Cx.2.2.2.1, Cx.2.2.2.2.1, by rw [zty_T h]; exact Cx.2.2.2.2.2.1, Cx.2.2.2.2.2.2.1, Cx.2.2.2.2.2.2.2.1, ⟨Cx.2.2.2.2.2.2.2.2.1.1, h0⟩, Cx.2.2.2.2.2.2.2.2.2⟩
/-- no symbol that is T itself -/
noncomputable def zsf0 (v : zV) : Bool := Sum.rec (motive := fun _ => Bool) (fun n => cond (Nat.ble 4722366482869645213696 n) (Nat.ble 1 (Nat.mod (Nat.div n 4722366482869645213696) 65536)) true) (fun _ => true) v
noncomputable def zsf0L (L : List zV) : Bool := List.rec (motive := fun _ => Bool) true (fun v _ r => cond (zsf0 v) r false) L
theorem zsf0L_t : ∀ {L : List zV}, zsf0L L = true → ∀ v, v ∈ L → zsf0 v = true
  | [], _, v, h => by cases h
  | w :: L, h, v, hv => by
    have h : cond (zsf0 w) (zsf0L L) false = true := h
    obtain ⟨h1, h2⟩ := zcnd_t h
    rcases List.mem_cons.mp hv with rfl | hv
    · exact h1
    · exact zsf0L_t h2 v hv
theorem zRep_G0 {G G' : zGh} {ad : zA} {v : zV} {x : Value} (hG : ∀ m, 0 < m → @zg G' m = @zg G m) (hv : zsf0 v = true) (h : @zRep G ad v x) : @zRep G' ad v x := by
  match v, hv, h with
  | .inl n, hv, ⟨i, h1, h2⟩ =>
    refine ⟨i, h1, h2.1, h2.2.1, h2.2.2.1, fun q => ?_⟩
    have hv : cond (Nat.ble 4722366482869645213696 n) (Nat.ble 1 (Nat.mod (Nat.div n 4722366482869645213696) 65536)) true = true := hv
    rw [Nat.ble_eq_true_of_le q, cond_true] at hv
    rw [hG (n / 4722366482869645213696 % 65536) (Nat.le_of_ble_eq_true hv)]
    exact h2.2.2.2 q
  | .inr (.inl r), _, h => exact h
  | .inr (.inr (.inl n)), _, h => exact h
  | .inr (.inr (.inr n)), _, h => exact h
theorem zRepL_G0 {G G' : zGh} {ad : zA} (hG : ∀ m, 0 < m → @zg G' m = @zg G m) : ∀ {S : List zV} {st : List Value}, zsf0L S = true → @zRepL G ad S st → @zRepL G' ad S st
  | [], [], _, _ => trivial
  | [], _ :: _, _, h => h.elim
  | _ :: _, [], _, h => h.elim
  | v :: S, x :: st, hf, h => by
    have hf : cond (zsf0 v) (zsf0L S) false = true := hf
    obtain ⟨h1, h2⟩ := zcnd_t hf
    exact ⟨zRep_G0 hG h1 h.1, zRepL_G0 hG h2 h.2⟩
theorem zLoc_G0 {G G' : zGh} {ad : zA} (hG : ∀ m, 0 < m → @zg G' m = @zg G m) {nL : Nat} {L : List zV} {ls : Array Slot} (hf : zsf0L L = true) (hL : @zLoc G ad nL L ls) : @zLoc G' ad nL L ls := by
  obtain ⟨a1, lv, a2, a3⟩ := hL
  refine ⟨a1, lv, a2, fun i v hv => ?_⟩
  rcases a3 i v hv with z | ⟨x, hx, hr⟩
  · exact Or.inl z
  · exact Or.inr ⟨x, hx, zRep_G0 hG (zsf0L_t hf v (List.mem_of_getElem? hv)) hr⟩
/-- reading a place on the tape -/
def zgT (w : Nat) : Nat := cond (zrgn w) (cond (Nat.beq w 274877906945) 4294967496 (cond (Nat.beq w 274877906944) 4294967497 (Nat.add 4294967497 (Nat.mul 1099511627776 (Nat.sub w 274877906946))))) w
theorem zrgn_t {w : Nat} (h : zrgn w = true) : 274877906944 ≤ w ∧ w < 549755813888 := by
  unfold zrgn at h
  obtain ⟨h1, h2⟩ := zcnd_t h
  exact ⟨Nat.le_of_ble_eq_true h1, Nat.lt_of_le_of_lt (Nat.le_of_ble_eq_true h2) (by decide)⟩
theorem zbq_f {a b : Nat} (h : Nat.beq a b = false) : a ≠ b := fun e => by rw [e, Nat.beq_refl] at h; cases h
theorem zgT_ok [zGh] {T w : Nat} {i : Int32} (hw : w < 1099511627776) (h1 : zIa w i) (h2 : 274877906944 ≤ w → w < 549755813888 → zTw T w i) : zIs (zgT w) i := by
  unfold zgT
  cases hr : zrgn w
  · exact zIs_a h1 hw
  · obtain ⟨q1, q2⟩ := zrgn_t hr
    obtain ⟨a, b, c, e⟩ := h2 q1 q2
    rw [cond_true]
    cases e1 : Nat.beq w 274877906945
    · rw [cond_false]
      cases e2 : Nat.beq w 274877906944
      · rw [cond_false]
        have n1 := zbq_f e1
        have n2 := zbq_f e2
        have lo := e (by omega)
        show zIs (4294967497 + 1099511627776 * (w - 274877906946)) i
        obtain ⟨v, hv⟩ : ∃ v, v = w - 274877906946 := ⟨_, rfl⟩
        rw [← hv] at lo ⊢
        exact ⟨fun q => absurd q (by omega), fun _ _ => by omega, by omega, fun q => absurd q (by omega)⟩
      · rw [cond_true]
        exact zIs_a ⟨fun q => absurd q (by decide), fun _ _ => by omega⟩ (by decide)
    · rw [cond_true]
      have := c (Nat.eq_of_beq_eq_true e1)
      exact zIs_a ⟨fun q => absurd q (by decide), fun _ _ => by omega⟩ (by decide)
section OPS
variable {d : Nat} {X : zM} {fr : Nat} {P : zP d} {pc pc' tgt : Nat} {off : Int} {k kt kf : zK d}
noncomputable def xgfT (kc n : Nat) (k : zK d) : zK d := fun L S h => zpR S (fun r S => zat h r (fun _ _ _ kd _ x => cond (Nat.beq kd kc) (zF (fun v => k L (zI v :: S) h) (zgT (zwd 40 x n))) false))
theorem sm_getfieldT [G : zGh] {ci kc n index : Nat} {C ref : String} {T : u_T} {N : Nat} (hkc : 16 + ci = kc) (hw : zisR (zfty ci n) = false) (hin : ∀ w ∈ u_ws C T N, w ∈ ztbl) (hc : zcl[ci]? = some (C, T, N)) (hn : n < N) (hN : N = zN ci) (hlink : Cond.fieldLink X.1 index ref (T n).2.1 (T n).2.2.1 ∈ ztbl) (href : (T n).1 = ref) (dg : decode X.2.1 pc = .ok (.getfield index, 3)) (hs : zSim X fr P (pc + 3) k) : zSim X fr P pc (xgfT kc n k) := by
  subst hkc
  intro Ch cA D ad0 A MC MS p l e s m args below meth c ls st H locs cells slots L S h Cx hk R0
  obtain ⟨ws, hHp, hpre, hP, hD, hS, hL, hst, hcb, hsb⟩ := R0
  obtain ⟨r, S, rfl, hk1⟩ := zpR_t hk
  obtain ⟨o, st, rfl, ho, hst2⟩ := zRepL_R hst
  obtain ⟨i, kd, len, x, rfl, hg, hk2⟩ := zat_t hk1
  obtain ⟨a, en, rfl, hwi, hcell⟩ := zat_w hHp ho
  rw [hg] at hcell
  obtain ⟨hb, hk3⟩ := zcnd_t hk2
  clear hk2
  rw [zF_eq] at hk3
  obtain ⟨fs, rfl, hlen, hfl⟩ := zCell_obj hcell (Nat.eq_of_beq_eq_true hb)
  have hlt : n < fs.length := by rw [hlen, ← hN]; exact hn
  have hv : fs[n]? = some fs[n] := List.getElem?_eq_getElem hlt
  have hf := hfl n _ hv
  unfold zFl at hf
  rw [hw, cond_false] at hf
  obtain ⟨iv, e1, e2, -, e4⟩ := hf
  exact va_get (rest := st) Cx.1 Cx.2.1 Cx.2.2.2.2.1 hin Cx.2.2.2.1 Cx.2.2.2.2.2.1 hP i hwi hc n hn (Cx.2.2.2.2.1 _ hlink) (fun x hx => by rw [← href]; exact hx) hv dg (hs Ch cA D ad0 A MC MS p l e s m args below meth c ls _ H locs cells slots L _ h Cx hk3 ⟨ws, hHp, hpre, hP, hD, hS, hL, ⟨⟨iv, e1, zgT_ok (zwd_lt _ _ _) e2.1 e4⟩, hst2⟩, hcb, hsb⟩)
/-- a number that is cut into cases as it is read -/
noncomputable def zcutT {d : Nat} (h : zH d) (j kd len x n : Nat) (K : Nat → zH d → Bool) (m : Nat) : Bool := Nat.rec (motive := fun _ => Bool) true (fun v r => cond (Prod.rec (motive := fun _ => Bool) (fun t u => zF (fun y => zsetK d t j (kd, len, y) (fun t => K v (t, u))) (zup 40 x n v)) h) r false) m
theorem zcutT_t {d : Nat} {h : zH d} {j kd len x n : Nat} {K : Nat → zH d → Bool} : ∀ {m : Nat}, zcutT h j kd len x n K m = true → ∀ v, v < m → K v (zset d h.1 j (kd, len, zup 40 x n v), h.2) = true
  | 0, _, v, hv => absurd hv (Nat.not_lt_zero v)
  | m + 1, hk, v, hv => by
    obtain ⟨t, u⟩ := h
    have hk : cond (zF (fun y => zsetK d t j (kd, len, y) (fun t => K m (t, u))) (zup 40 x n m)) (zcutT (t, u) j kd len x n K m) false = true := hk
    obtain ⟨h1, h2⟩ := zcnd_t hk
    rcases Nat.lt_succ_iff_lt_or_eq.mp hv with q | rfl
    · exact zcutT_t h2 v q
    · rw [zF_eq, zsetK_eq] at h1
      exact h1
noncomputable def xgfC (kc n m : Nat) (k : zK d) : zK d := fun L S h => zpR S (fun r S => zat h r (fun _ _ j kd len x => cond (Nat.beq kd kc) (cond (Nat.ble m 1000) (cond (zcutT h j kd len x n (fun v h => k L (zI v :: S) h) m) (cond (zF (fun c => k L (zI c :: S) h) (Nat.add 6442450944 (Nat.mul 1099511627776 m))) (k L (zI 2361183241439117574144 :: S) h) false) false) false) false))
theorem sm_getfieldC [G : zGh] {ci kc n m0 index : Nat} {C ref : String} {T : u_T} {N : Nat} (hkc : 16 + ci = kc) (hw : zisR (zfty ci n) = false) (hin : ∀ w ∈ u_ws C T N, w ∈ ztbl) (hc : zcl[ci]? = some (C, T, N)) (hn : n < N) (hN : N = zN ci) (hlink : Cond.fieldLink X.1 index ref (T n).2.1 (T n).2.2.1 ∈ ztbl) (href : (T n).1 = ref) (dg : decode X.2.1 pc = .ok (.getfield index, 3)) (hs : zSim X fr P (pc + 3) k) : zSim X fr P pc (xgfC kc n m0 k) := by
  subst hkc
  intro Ch cA D ad0 A MC MS p l e s m args below meth c ls st H locs cells slots L S h Cx hk R0
  obtain ⟨ws, hHp, hpre, hP, hD, hS, hL, hst, hcb, hsb⟩ := R0
  obtain ⟨r, S, rfl, hk1⟩ := zpR_t hk
  obtain ⟨o, st, rfl, ho, hst2⟩ := zRepL_R hst
  obtain ⟨i, kd, len, x, rfl, hg, hk2⟩ := zat_t hk1
  obtain ⟨a, en, rfl, hwi, hcell⟩ := zat_w hHp ho
  rw [hg] at hcell
  obtain ⟨hb, hk2⟩ := zcnd_t hk2
  obtain ⟨hm, hk2⟩ := zcnd_t hk2
  obtain ⟨c1, hk2⟩ := zcnd_t hk2
  obtain ⟨c2, c3⟩ := zcnd_t hk2
  rw [zF_eq] at c2
  have hm := Nat.le_of_ble_eq_true hm
  have ekd := Nat.eq_of_beq_eq_true hb
  obtain ⟨fs, rfl, hlen, hfl⟩ := zCell_obj hcell ekd
  have hlt : n < fs.length := by rw [hlen, ← hN]; exact hn
  have hv : fs[n]? = some fs[n] := List.getElem?_eq_getElem hlt
  have hf := hfl n _ hv
  unfold zFl at hf
  rw [hw, cond_false] at hf
  obtain ⟨iv, e1, e2, -, e4⟩ := hf
  refine va_get (rest := st) Cx.1 Cx.2.1 Cx.2.2.2.2.1 hin Cx.2.2.2.1 Cx.2.2.2.2.2.1 hP i hwi hc n hn (Cx.2.2.2.2.1 _ hlink) (fun x hx => by rw [← href]; exact hx) hv dg ?_
  rcases Nat.lt_or_ge (zi iv) m0 with q | q
  · have hcell2 : zCell cA (zad cA ws) (16 + ci, len, zup 40 x n (zi iv)) (.inr (ci, fs)) := zCell_ok hlen (fun q' v hv' => by
      have hiv := zi_lt iv
      by_cases hq : n = q'
      · subst hq
        rw [zwd_up_same _ _ _ _ (by omega)]
        rw [hv] at hv'
        cases hv'
        unfold zFl
        rw [hw, cond_false]
        exact ⟨iv, e1, ⟨⟨fun _ => rfl, fun z => absurd z (by omega)⟩, fun z => absurd z (by omega)⟩, fun z => absurd z (by omega), fun z => absurd z (by omega)⟩
      · rw [zwd_up_ne _ _ _ _ _ (by omega) hq]
        exact hfl q' v hv')
    rw [← ekd] at hcell2
    exact hs Ch cA D ad0 A MC MS p l e s m args below meth c ls _ H locs cells slots L _ _ Cx (zcutT_t c1 (zi iv) q) ⟨ws, zHp_cl hHp hwi hcell2, hpre, hP, hD, hS, hL, ⟨⟨iv, e1, zIs_e rfl⟩, hst2⟩, hcb, hsb⟩
  · have hlt2 := zi_lt iv
    rcases Nat.lt_or_ge (zi iv) 2147483648 with q2 | q2
    · refine hs Ch cA D ad0 A MC MS p l e s m args below meth c ls _ H locs cells slots L _ h Cx c2 ⟨ws, hHp, hpre, hP, hD, hS, hL, ⟨⟨iv, e1, ?_⟩, hst2⟩, hcb, hsb⟩
      show zIs (6442450944 + 1099511627776 * m0) iv
      exact ⟨fun z => absurd z (by omega), fun _ _ => by omega, by omega, fun z => absurd z (by omega)⟩
    · exact hs Ch cA D ad0 A MC MS p l e s m args below meth c ls _ H locs cells slots L _ h Cx c3 ⟨ws, hHp, hpre, hP, hD, hS, hL, ⟨⟨iv, e1, ⟨fun z => absurd z (by decide), fun z => absurd z (by decide), by omega, fun z => absurd z (by decide)⟩⟩, hst2⟩, hcb, hsb⟩
/-- a local that is cut into cases -/
noncomputable def zcutL (i : Nat) (L : List zV) (K : List zV → Bool) (m : Nat) : Bool := Nat.rec (motive := fun _ => Bool) true (fun v r => cond (zst i (zI v) L K) r false) m
theorem zcutL_t {i : Nat} {L : List zV} {K : List zV → Bool} : ∀ {m : Nat}, zcutL i L K m = true → ∀ v, v < m → zst i (zI v) L K = true
  | 0, _, v, hv => absurd hv (Nat.not_lt_zero v)
  | m + 1, hk, v, hv => by
    have hk : cond (zst i (zI m) L K) (zcutL i L K m) false = true := hk
    obtain ⟨h1, h2⟩ := zcnd_t hk
    rcases Nat.lt_succ_iff_lt_or_eq.mp hv with q | rfl
    · exact zcutL_t h2 v q
    · exact h1
noncomputable def xcutL (i m : Nat) (k : zK d) : zK d := fun L S h => znth i L (fun v => Sum.rec (motive := fun _ => Bool) (fun n => cond (Nat.ble (zhi n) 201) (cond (Nat.ble m 200) (cond (zcutL i L (fun L => k L S h) m) (zF (fun c => zst i (zI c) L (fun L => k L S h)) (Nat.add 4294967497 (Nat.mul 1099511627776 m))) false) false) false) (fun _ => false) v)
theorem zLoc_st [zGh] {ad : zA} {nL i n c : Nat} {L L' : List zV} {ls : Array Slot} (hL : zLoc ad nL L ls) (hi : L[i]? = some (zI n)) (hz : ∀ j, L'[j]? = zsta i (zI c) L j) (hlen : L'.length = L.length) (hc : ∀ iv : Int32, ls[i]? = some (.val (.int iv)) → zIs n iv → zIs c iv) : zLoc ad nL L' ls := by
  obtain ⟨a1, lv, a2, a3⟩ := hL
  refine ⟨by rw [hlen]; exact a1, lv, a2, fun j v hv => ?_⟩
  rw [hz j] at hv
  unfold zsta at hv
  by_cases e1 : j = i
  · subst e1
    rw [if_pos rfl] at hv
    cases hv
    rcases a3 j _ hi with z | ⟨x, hx, iv, rfl, h2⟩
    · cases z
    · exact Or.inr ⟨_, hx, iv, rfl, hc iv (a2.2.2 _ hx) h2⟩
  · rw [if_neg e1] at hv
    by_cases e2 : j + 1 = i
    · rw [if_pos e2] at hv
      obtain ⟨w, hw, hwv⟩ := Option.map_eq_some_iff.mp hv
      match w, hw, hwv with
      | .inl b, hw, hwv => cases hwv; exact a3 j _ hw
      | .inr (.inl b), hw, hwv => cases hwv; exact a3 j _ hw
      | .inr (.inr (.inl b)), hw, hwv => cases hwv; exact Or.inl rfl
      | .inr (.inr (.inr b)), hw, hwv => cases hwv; exact a3 j _ hw
    · rw [if_neg e2] at hv
      exact a3 j v hv
theorem sm_cutL [G : zGh] {i m0 : Nat} (hs : zSim X fr P pc k) : zSim X fr P pc (xcutL i m0 k) := by
  intro Ch cA D ad0 A MC MS p l e s m args below meth c ls st H locs cells slots L S h Cx hk R0
  obtain ⟨ws, hHp, hpre, hP, hD, hS, hL, hst, hcb, hsb⟩ := R0
  obtain ⟨v, hv, hk2⟩ := znth_t i hk
  match v, hv, hk2 with
  | .inl n, hv, hk2 =>
    obtain ⟨b1, hk2⟩ := zcnd_t hk2
    obtain ⟨b2, hk2⟩ := zcnd_t hk2
    obtain ⟨b3, hk2⟩ := zcnd_t hk2
    rw [zF_eq] at hk2
    have b1 := Nat.le_of_ble_eq_true b1
    have b2 := Nat.le_of_ble_eq_true b2
    obtain ⟨iu, hls, hiu⟩ : ∃ iu : Int32, ls[i]? = some (.val (.int iu)) ∧ zIs n iu := by
      obtain ⟨-, lv, hlv, a3⟩ := id hL
      rcases a3 i _ hv with z | ⟨x, hx, iu, rfl, hiu⟩
      · cases z
      · exact ⟨iu, hlv.2.2 _ hx, hiu⟩
    have hh := zhi_ok hiu
    rcases Nat.lt_or_ge (zi iu) m0 with q | q
    · obtain ⟨L', l1, l2, l3, l4⟩ := zst_t i (zcutL_t b3 (zi iu) q)
      exact hs Ch cA D ad0 A MC MS p l e s m args below meth c ls st H locs cells slots L' S h Cx l4 ⟨ws, hHp, hpre, hP, hD, hS, zLoc_st hL hv l3 l1 (fun iv hl _ => by rw [hls] at hl; cases hl; exact zIs_e rfl), hst, hcb, hsb⟩
    · obtain ⟨L', l1, l2, l3, l4⟩ := zst_t i hk2
      exact hs Ch cA D ad0 A MC MS p l e s m args below meth c ls st H locs cells slots L' S h Cx l4 ⟨ws, hHp, hpre, hP, hD, hS, zLoc_st hL hv l3 l1 (fun iv hl _ => by
        rw [hls] at hl
        cases hl
        show zIs (4294967497 + 1099511627776 * m0) iu
        exact ⟨fun z => absurd z (by omega), fun _ _ => by omega, by omega, fun z => absurd z (by omega)⟩), hst, hcb, hsb⟩
/-- a number with a least value into a field -/
def zpT (v : Nat) : Nat := cond (Nat.ble 4294967296 v) (cond (Nat.ble (zhi v) 201) (cond (Nat.beq (zlo v) 0) (zcap v) (Nat.add 274877906946 (Nat.mod (zlo v) 1000))) (zcap v)) v
theorem zpT_lt (v : Nat) : zpT v < 549755813888 := by
  unfold zpT
  cases h1 : Nat.ble 4294967296 v
  · have := zble_f h1
    rw [cond_false]
    omega
  · rw [cond_true]
    cases h2 : Nat.ble (zhi v) 201
    · exact zcap_lt39 v
    · rw [cond_true]
      cases h3 : Nat.beq (zlo v) 0
      · have : zlo v % 1000 < 1000 := Nat.mod_lt _ (by decide)
        show 274877906946 + zlo v % 1000 < 549755813888
        omega
      · exact zcap_lt39 v
theorem zpT_ok [zGh] [zCh] {v : Nat} {i : Int32} {ad : zA} (h : zIs v i) : zRepC ad (zI (zpT v)) (.int i) := by
  have cap : zRepC ad (zI (zcap v)) (.int i) := ⟨i, rfl, ⟨zcap_ok h, fun q => absurd q (Nat.ne_of_lt (zcap_lt39 v))⟩, fun q => absurd q (Nat.not_lt.mpr (Nat.le_of_lt (zcap_lt39 v))), fun q => absurd q (Nat.not_le.mpr (zcap_lt38 v))⟩
  unfold zpT
  cases h1 : Nat.ble 4294967296 v
  · have q1 := zble_f h1
    rw [cond_false]
    exact ⟨i, rfl, ⟨⟨fun _ => h.1 q1, fun q => absurd q (by omega)⟩, fun q => absurd q (by omega)⟩, fun q => absurd q (by omega), fun q => absurd q (by omega)⟩
  · rw [cond_true]
    cases h2 : Nat.ble (zhi v) 201
    · exact cap
    · rw [cond_true]
      cases h3 : Nat.beq (zlo v) 0
      · have q2 := Nat.le_of_ble_eq_true h2
        have hh := zhi_ok h
        have hl := zlo_ok h
        have hm : zlo v % 1000 = zlo v := Nat.mod_eq_of_lt (by omega)
        show zRepC ad (zI (274877906946 + zlo v % 1000)) (.int i)
        rw [hm]
        exact ⟨i, rfl, ⟨⟨fun q => absurd q (by omega), fun _ _ => by omega⟩, fun q => absurd q (by omega)⟩, fun q => absurd q (by omega), fun _ _ => ⟨by omega, fun q => absurd q (by omega), fun q => absurd q (by omega), fun _ => by omega⟩⟩
      · exact cap
noncomputable def xpfT (kc n : Nat) (k : zK d) : zK d := fun L S h => zpI S (fun v S => zpR S (fun r S => zat h r (fun t u j kd len x => cond (Nat.beq kd kc) (zF (fun y => zsetK d t j (kd, len, y) (fun t => k L S (t, u))) (zup 40 x n (zpT v))) false)))
theorem sm_putT [G : zGh] {ci kc n : Nat} {ty : FieldType} (hkc : 16 + ci = kc) (hn : n < zN ci) (hz : zisR (zfty ci n) = false) (hty : ty = .int) (row : zPut X pc ci n ty) (hs : zSim X fr P (pc + 3) k) : zSim X fr P pc (xpfT kc n k) := by
  subst hkc
  subst hty
  intro Ch cA D ad0 A MC MS p l e s m args below meth c ls st H locs cells slots L S h Cx hk R0
  obtain ⟨ws, hHp, hpre, hP, hD, hS, hL, hst, hcb, hsb⟩ := R0
  obtain ⟨v, S, rfl, hk1⟩ := zpI_t hk
  obtain ⟨r, S, rfl, hk2⟩ := zpR_t hk1
  obtain ⟨y, st, rfl, hy, hst1⟩ := zRepL_I hst
  obtain ⟨o, st, rfl, ho, hst2⟩ := zRepL_R hst1
  obtain ⟨j, kd, len, x, rfl, hgt, hk3⟩ := zat_t hk2
  obtain ⟨a, en, rfl, hwi, hcell⟩ := zat_w hHp ho
  rw [hgt] at hcell
  obtain ⟨hb, hk3⟩ := zcnd_t hk3
  have hb2 := Nat.eq_of_beq_eq_true hb
  rw [zF_eq, zsetK_eq, hb2] at hk3
  obtain ⟨fs, rfl, hlen, hfl⟩ := zCell_obj hcell hb2
  refine row Cx hP hD hS hwi rfl rfl (by rw [hlen]; exact hn) (fun H1 locs1 hP1 hD1 hS1 => ?_)
  have hz2 := zad_set (cA := cA) (e' := .inr (ci, fs.set n (.int y))) hwi
  exact hs Ch cA D ad0 A MC MS p l e s m args below meth c ls _ H1 locs1 cells slots L _ _ Cx hk3 ⟨_, zHp_set hHp hwi (zCell_ok (by rw [List.length_set]; exact hlen) (zFl_up (Nat.lt_trans (zpT_lt v) (by decide)) hfl (by unfold zFl; rw [hz, cond_false]; exact zpT_ok hy))), by rw [hz2]; exact hpre, hP1, hD1, hS1, by rw [hz2]; exact hL, by rw [hz2]; exact hst2, hcb, hsb⟩
end OPS
