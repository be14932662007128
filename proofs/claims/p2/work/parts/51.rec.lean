/-! recursion by a list of states; ways to weaken; arraycopy to a place within bounds -/
section REC
variable {d : Nat}
abbrev zEn (d : Nat) : Type := List zV × zH d
/-- what is known of the method where it calls itself -/
noncomputable def zself (r0 : zV) (Es : List (zEn d)) : List zV → zH d → zP d → Bool := fun as h P => List.rec (motive := fun _ => Bool) false (fun e _ r => Prod.rec (motive := fun _ => Bool) (fun a h0 => cond (zsubL false as a) (cond (zsubH h h0) (P r0 h0) r) r) e) Es
noncomputable def zgd (r0 : zV) (f : (List zV → zH d → zP d → Bool) → List zV → zH d → zP d → Bool) (Es : List (zEn d)) : Bool := List.rec (motive := fun _ => Bool) true (fun e Es' r => Prod.rec (motive := fun _ => Bool) (fun a h0 => cond (f (zself r0 Es') a h0 (zrk r0 h0)) r false) e) Es
theorem zself_t {r0 : zV} {as : List zV} {h : zH d} {P : zP d} {a : List zV} {h0 : zH d} {Es : List (zEn d)} (hk : zself r0 ((a, h0) :: Es) as h P = true) : (zsubL false as a = true ∧ zsubH h h0 = true ∧ P r0 h0 = true) ∨ zself r0 Es as h P = true := by
  have hk : cond (zsubL false as a) (cond (zsubH h h0) (P r0 h0) (zself r0 Es as h P)) (zself r0 Es as h P) = true := hk
  cases h1 : zsubL false as a
  · rw [h1, cond_false] at hk
    exact Or.inr hk
  · rw [h1, cond_true] at hk
    cases h2 : zsubH h h0
    · rw [h2, cond_false] at hk
      exact Or.inr hk
    · rw [h2, cond_true] at hk
      exact Or.inl ⟨rfl, rfl, hk⟩
/-- weaker at the start, the same at the end -/
theorem zMet_w {X : zM} {y : MethodName} {fr : Nat} {f : List zV → zH d → zP d → Bool} (hM : zMet X y fr f) {r0 : zV} {a : List zV} {h0 : zH d} (hev : f a h0 (zrk r0 h0) = true) {G : zGh} {Ch : zCh} {l : Launch} {cA : Nat → ClassId} {D : va_G} {ws : va_W} {av : List Value} {as : List zV} {h : zH d} {P : zP d} {sz : Nat} (h1 : zsubL false as a = true) (h2 : zsubH h h0 = true) (hb : h0.2.2.1 = h.2.2.1 ∧ h0.2.2.2 = h.2.2.2) (hP : P r0 h0 = true) (has : zRepL (zad cA ws) as av) (hH : zHp cA h ws) (hT : cA 20 = zg 0) : Met l y (zws X y) (zRm fr h.2.2.1 h.2.2.2) (zPc cA D ws av sz) (zQc P cA D (zad cA ws) (va_A ws sz)) h.2.2.1 h.2.2.2 (va_A ws sz) := by
  have hm := hM l cA D ws av a h0 (zrk r0 h0) sz hev (zsubL_S h1 has) (zsubH_ok h2 hH) hT
  rw [hb.1, hb.2] at hm
  refine Met_mono hm (fun _ _ q => q) ?_ (fun _ q => q)
  rintro b st o t - ⟨⟨Ch', r, hh, ws', ov, rfl, hov, hk, hHp', hpre', hP', hD'⟩, hF⟩
  obtain ⟨hsb, hrr⟩ := zrk_t hk
  refine ⟨⟨Ch', r0, h0, ws', ov, rfl, ?_, hP, zsubH_ok hsb hHp', hpre', hP', hD'⟩, hF⟩
  rcases hrr with ⟨g1, g2⟩ | ⟨g1, g2⟩
  · subst g2
    rw [g1]
    exact hov
  · rcases hov with ⟨-, z⟩ | ⟨x, z1, z2⟩
    · rw [z] at g2
      exact absurd g2 (fun q => zsubV_nU q)
    · refine Or.inr ⟨x, z1, fun G' => ?_⟩
      rcases @zsubV_ok G' false _ _ _ _ g2 (z2 G') with ⟨q, -⟩ | q
      · cases q
      · exact q
/-- all entries have the room of the last -/
noncomputable def zrmE (mc ms : Nat) (Es : List (zEn d)) : Bool := List.rec (motive := fun _ => Bool) true (fun e _ r => cond (Nat.beq e.2.2.2.1 mc) (cond (Nat.beq e.2.2.2.2 ms) r false) false) Es
noncomputable def zselfR (mc ms : Nat) (r0 : zV) (Es : List (zEn d)) : List zV → zH d → zP d → Bool := fun as h P => cond (Nat.beq h.2.2.1 mc) (cond (Nat.beq h.2.2.2 ms) (zself r0 Es as h P) false) false
noncomputable def zgdR (mc ms : Nat) (r0 : zV) (f : (List zV → zH d → zP d → Bool) → List zV → zH d → zP d → Bool) (Es : List (zEn d)) : Bool := List.rec (motive := fun _ => Bool) true (fun e Es' r => Prod.rec (motive := fun _ => Bool) (fun a h0 => cond (Nat.beq h0.2.2.1 mc) (cond (Nat.beq h0.2.2.2 ms) (cond (f (zselfR mc ms r0 Es') a h0 (zrk r0 h0)) r false) false) false) e) Es
theorem zMet_rc {X : zM} {y : MethodName} {fr : Nat} {body : (List zV → zH d → zP d → Bool) → zP d → zK d} (hy : plainName y.cls = true) (h1 : X.1 = y.cls) (h2 : X.2.2.2.2 = y.name) (hs : ∀ n f, zMet X y (fr + n) f → ∀ [zGh] P, zSim X (fr + (n + 1)) P 0 (body f P)) {mc ms : Nat} {r0 : zV} : ∀ (Es : List (zEn d)), zgdR mc ms r0 (fun f => zfn X.2.2.1 (body f)) Es = true → ∀ n, Es.length ≤ n → zMet X y (fr + n) (zselfR mc ms r0 Es)
  | [], _, n, _ => by
    intro l cA D ws av as h P sz hf
    have hf : cond (Nat.beq h.2.2.1 mc) (cond (Nat.beq h.2.2.2 ms) false false) false = true := hf
    obtain ⟨-, hf⟩ := zcnd_t hf
    obtain ⟨-, hf⟩ := zcnd_t hf
    cases hf
  | (a, h0) :: Es, hg, n, hn => by
    have hg : cond (Nat.beq h0.2.2.1 mc) (cond (Nat.beq h0.2.2.2 ms) (cond (zfn X.2.2.1 (body (zselfR mc ms r0 Es)) a h0 (zrk r0 h0)) (zgdR mc ms r0 (fun f => zfn X.2.2.1 (body f)) Es) false) false) false = true := hg
    obtain ⟨b1, hg⟩ := zcnd_t hg
    obtain ⟨b2, hg⟩ := zcnd_t hg
    obtain ⟨hev, hg⟩ := zcnd_t hg
    obtain ⟨n', rfl⟩ : ∃ n', n = n' + 1 := ⟨n - 1, by have : Es.length + 1 ≤ n := hn; omega⟩
    have hn' : Es.length ≤ n' := by have : Es.length + 1 ≤ n' + 1 := hn; omega
    intro l cA D ws av as h P sz hf has hH hT
    have hf : cond (Nat.beq h.2.2.1 mc) (cond (Nat.beq h.2.2.2 ms) (zself r0 ((a, h0) :: Es) as h P) false) false = true := hf
    obtain ⟨c1, hf⟩ := zcnd_t hf
    obtain ⟨c2, hf⟩ := zcnd_t hf
    rcases zself_t hf with ⟨g1, g2, g3⟩ | g
    · exact zMet_w (zmet_mk hy h1 h2 (hs n' _ (zMet_rc hy h1 h2 hs Es hg n' hn'))) hev g1 g2 ⟨(Nat.eq_of_beq_eq_true b1).trans (Nat.eq_of_beq_eq_true c1).symm, (Nat.eq_of_beq_eq_true b2).trans (Nat.eq_of_beq_eq_true c2).symm⟩ g3 has hH hT
    · refine zMet_rc hy h1 h2 hs Es hg (n' + 1) (by omega) l cA D ws av as h P sz ?_ has hH hT
      show cond (Nat.beq h.2.2.1 mc) (cond (Nat.beq h.2.2.2 ms) (zself r0 Es as h P) false) false = true
      rw [c1, c2]
      exact g
end REC
/-! ways to weaken -/
section WEAK
variable {d : Nat}
noncomputable def wkE : zWk d := fun L h K => K L h
theorem wkE_ok : zWkOK (wkE : zWk d) := fun L h _ hk => ⟨L, h, hk⟩
noncomputable def wkL (i c : Nat) (w : zWk d) : zWk d := fun L h K => zst i (zI c) L (fun L => w L h K)
theorem wkL_ok {i c : Nat} {w : zWk d} (hw : zWkOK w) : zWkOK (wkL i c w) := fun L h K hk => by
  obtain ⟨L', -, -, -, hk2⟩ := zst_t i (x := zI c) (L := L) (k := fun L => w L h K) hk
  exact hw _ _ _ hk2
noncomputable def wkU (i : Nat) (w : zWk d) : zWk d := fun L h K => zst i zU L (fun L => w L h K)
theorem wkU_ok {i : Nat} {w : zWk d} (hw : zWkOK w) : zWkOK (wkU i w) := fun L h K hk => by
  obtain ⟨L', -, -, -, hk2⟩ := zst_t i (x := zU) (L := L) (k := fun L => w L h K) hk
  exact hw _ _ _ hk2
/-- a cell by a local and fields -/
noncomputable def zpf (t : zT d) (fs : List Nat) : Nat → (Nat → Bool) → Bool := List.rec (motive := fun _ => Nat → (Nat → Bool) → Bool) (fun b K => K b) (fun f _ r b K => Prod.rec (motive := fun _ => Bool) (fun _ v => Prod.rec (motive := fun _ => Bool) (fun _ x => Nat.rec (motive := fun _ => Bool) false (fun b' _ => r b' K) (zwd 40 x f)) v) (zget d t b)) fs
theorem zpf_t {t : zT d} : ∀ (fs : List Nat) (b : Nat) {K : Nat → Bool}, zpf t fs b K = true → ∃ b', K b' = true
  | [], b, K, h => ⟨b, h⟩
  | f :: fs, b, K, h => by
    have h : Prod.rec (motive := fun _ => Bool) (fun _ v => Prod.rec (motive := fun _ => Bool) (fun _ x => Nat.rec (motive := fun _ => Bool) false (fun b' _ => zpf t fs b' K) (zwd 40 x f)) v) (zget d t b) = true := h
    generalize zget d t b = c at h
    obtain ⟨kd, len, x⟩ := c
    have h : Nat.rec (motive := fun _ => Bool) false (fun b' _ => zpf t fs b' K) (zwd 40 x f) = true := h
    generalize zwd 40 x f = w at h
    cases w with
    | zero => cases h
    | succ b' => exact zpf_t fs b' h
noncomputable def zpp (i : Nat) (fs : List Nat) (L : List zV) (h : zH d) (K : Nat → Bool) : Bool := znth i L (fun v => Sum.rec (motive := fun _ => Bool) (fun _ => false) (fun u => Sum.rec (motive := fun _ => Bool) (fun r => Nat.rec (motive := fun _ => Bool) false (fun b _ => zpf h.1 fs b K) r) (fun _ => false) u) v)
theorem zpp_t {i : Nat} {fs : List Nat} {L : List zV} {h : zH d} {K : Nat → Bool} (hk : zpp i fs L h K = true) : ∃ b, K b = true := by
  obtain ⟨v, hv, hk2⟩ := znth_t i hk
  match v, hk2 with
  | .inr (.inl (b + 1)), hk2 => exact zpf_t fs b hk2
/-- all words of an array alike -/
noncomputable def zwp (w : Nat) (c : zC) (K : zC → Bool) : Bool := Prod.rec (motive := fun _ => Bool) (fun kd v => Prod.rec (motive := fun _ => Bool) (fun len _ => cond (Nat.beq kd 2) (zF (fun y => K (2, len, y)) (zun 72 len 18446744073709551616)) (cond (Nat.ble 8 kd) (zF (fun y => K (0, len, y)) (zun 40 len w)) (zF (fun y => K (kd, len, y)) (zun 40 len w)))) v) c
theorem zwp_t {w : Nat} {c : zC} {K : zC → Bool} (h : zwp w c K = true) : ∃ c', K c' = true := by
  obtain ⟨kd, len, x⟩ := c
  have h : cond (Nat.beq kd 2) (zF (fun y => K (2, len, y)) (zun 72 len 18446744073709551616)) (cond (Nat.ble 8 kd) (zF (fun y => K (0, len, y)) (zun 40 len w)) (zF (fun y => K (kd, len, y)) (zun 40 len w))) = true := h
  cases h1 : Nat.beq kd 2
  · rw [h1, cond_false] at h
    cases h2 : Nat.ble 8 kd
    · rw [h2, cond_false, zF_eq] at h
      exact ⟨_, h⟩
    · rw [h2, cond_true, zF_eq] at h
      exact ⟨_, h⟩
  · rw [h1, cond_true, zF_eq] at h
    exact ⟨_, h⟩
noncomputable def wkA (i : Nat) (fs : List Nat) (c : Nat) (w : zWk d) : zWk d := fun L h K => zpp i fs L h (fun b => zwp c (zget d h.1 b) (fun y => zsetK d h.1 b y (fun t => w L (t, h.2) K)))
theorem wkA_ok {i c : Nat} {fs : List Nat} {w : zWk d} (hw : zWkOK w) : zWkOK (wkA i fs c w) := fun L h K hk => by
  obtain ⟨b, hk⟩ := zpp_t hk
  obtain ⟨y, hk⟩ := zwp_t hk
  rw [zsetK_eq] at hk
  exact hw _ _ _ hk
/-- cells side by side -/
noncomputable def zwr (c : Nat) (lo n : Nat) : zT d → (zT d → Bool) → Bool := Nat.rec (motive := fun _ => zT d → (zT d → Bool) → Bool) (fun t K => K t) (fun m r t K => zwp c (zget d t (Nat.add lo m)) (fun y => zF (fun b => zsetK d t b y (fun t => r t K)) (Nat.add lo m))) n
theorem zwr_t {c lo : Nat} : ∀ (n : Nat) (t : zT d) {K : zT d → Bool}, zwr c lo n t K = true → ∃ t', K t' = true
  | 0, t, K, h => ⟨t, h⟩
  | n + 1, t, K, h => by
    have h : zwp c (zget d t (Nat.add lo n)) (fun y => zF (fun b => zsetK d t b y (fun t => zwr c lo n t K)) (Nat.add lo n)) = true := h
    obtain ⟨y, h⟩ := zwp_t h
    rw [zF_eq, zsetK_eq] at h
    exact zwr_t n _ h
/-- the rows of an array of rows, which lie behind one another -/
noncomputable def wkR (i : Nat) (fs : List Nat) (c : Nat) (w : zWk d) : zWk d := fun L h K => zpp i fs L h (fun b => Prod.rec (motive := fun _ => Bool) (fun kd v => Prod.rec (motive := fun _ => Bool) (fun len x => zF (fun lo => zwr c lo len h.1 (fun t => w L (t, h.2) K)) (cond (Nat.beq kd 12) (Nat.mod x 1048576) (Nat.pred (zwd 40 x 0)))) v) (zget d h.1 b))
theorem wkR_ok {i c : Nat} {fs : List Nat} {w : zWk d} (hw : zWkOK w) : zWkOK (wkR i fs c w) := fun L h K hk => by
  obtain ⟨b, hk⟩ := zpp_t hk
  generalize zget d h.1 b = e at hk
  obtain ⟨kd, len, x⟩ := e
  have hk : zF (fun lo => zwr c lo len h.1 (fun t => w L (t, h.2) K)) (cond (Nat.beq kd 12) (Nat.mod x 1048576) (Nat.pred (zwd 40 x 0))) = true := hk
  rw [zF_eq] at hk
  obtain ⟨t, hk⟩ := zwr_t len _ hk
  exact hw _ _ _ hk
/-- rows in any order -/
noncomputable def wk12 (i : Nat) (fs : List Nat) (w : zWk d) : zWk d := fun L h K => zpp i fs L h (fun b => Prod.rec (motive := fun _ => Bool) (fun kd v => Prod.rec (motive := fun _ => Bool) (fun len x => cond (Nat.beq kd 12) (w L h K) (zF (fun y => zsetK d h.1 b (12, len, y) (fun t => w L (t, h.2) K)) (Nat.add (Nat.pred (zwd 40 x 0)) (Nat.mul 1048576 (Nat.add (Nat.pred (zwd 40 x 0)) len))))) v) (zget d h.1 b))
theorem wk12_ok {i : Nat} {fs : List Nat} {w : zWk d} (hw : zWkOK w) : zWkOK (wk12 i fs w) := fun L h K hk => by
  obtain ⟨b, hk⟩ := zpp_t hk
  generalize zget d h.1 b = e at hk
  obtain ⟨kd, len, x⟩ := e
  have hk : cond (Nat.beq kd 12) (w L h K) (zF (fun y => zsetK d h.1 b (12, len, y) (fun t => w L (t, h.2) K)) (Nat.add (Nat.pred (zwd 40 x 0)) (Nat.mul 1048576 (Nat.add (Nat.pred (zwd 40 x 0)) len)))) = true := hk
  cases h1 : Nat.beq kd 12
  · rw [h1, cond_false, zF_eq, zsetK_eq] at hk
    exact hw _ _ _ hk
  · rw [h1, cond_true] at hk
    exact hw _ _ _ hk
/-- an object's number -/
noncomputable def wkF (i : Nat) (fs : List Nat) (j c : Nat) (w : zWk d) : zWk d := fun L h K => zpp i fs L h (fun b => Prod.rec (motive := fun _ => Bool) (fun kd v => Prod.rec (motive := fun _ => Bool) (fun len x => zF (fun y => zsetK d h.1 b (kd, len, y) (fun t => w L (t, h.2) K)) (zup 40 x j c)) v) (zget d h.1 b))
theorem wkF_ok {i j c : Nat} {fs : List Nat} {w : zWk d} (hw : zWkOK w) : zWkOK (wkF i fs j c w) := fun L h K hk => by
  obtain ⟨b, hk⟩ := zpp_t hk
  generalize zget d h.1 b = e at hk
  obtain ⟨kd, len, x⟩ := e
  have hk : zF (fun y => zsetK d h.1 b (kd, len, y) (fun t => w L (t, h.2) K)) (zup 40 x j c) = true := hk
  rw [zF_eq, zsetK_eq] at hk
  exact hw _ _ _ hk
/-- bounds -/
noncomputable def hsC (n : Nat) : zHs d := fun _ _ K => K n
theorem hsC_ok {n : Nat} : zHsOK (hsC n : zHs d) := fun _ _ _ hk => ⟨n, hk⟩
noncomputable def hsL (i : Nat) : zHs d := fun L _ K => znth i L (fun v => Sum.rec (motive := fun _ => Bool) (fun n => zF K (zhi n)) (fun _ => false) v)
theorem hsL_ok {i : Nat} : zHsOK (hsL i : zHs d) := fun L h K hk => by
  obtain ⟨v, hv, hk2⟩ := znth_t i hk
  match v, hk2 with
  | .inl n, hk2 =>
    have hk2 : zF K (zhi n) = true := hk2
    rw [zF_eq] at hk2
    exact ⟨_, hk2⟩
noncomputable def hsF (i : Nat) (fs : List Nat) (j : Nat) : zHs d := fun L h K => zpp i fs L h (fun b => Prod.rec (motive := fun _ => Bool) (fun _ v => Prod.rec (motive := fun _ => Bool) (fun _ x => zF K (zhi (zwd 40 x j))) v) (zget d h.1 b))
theorem hsF_ok {i j : Nat} {fs : List Nat} : zHsOK (hsF i fs j : zHs d) := fun L h K hk => by
  obtain ⟨b, hk⟩ := zpp_t hk
  generalize zget d h.1 b = e at hk
  obtain ⟨kd, len, x⟩ := e
  have hk : zF K (zhi (zwd 40 x j)) = true := hk
  rw [zF_eq] at hk
  exact ⟨_, hk⟩
noncomputable def hsA (i : Nat) (fs : List Nat) : zHs d := fun L h K => zpp i fs L h (fun b => Prod.rec (motive := fun _ => Bool) (fun _ v => Prod.rec (motive := fun _ => Bool) (fun len _ => zF K (Nat.succ len)) v) (zget d h.1 b))
theorem hsA_ok {i : Nat} {fs : List Nat} : zHsOK (hsA i fs : zHs d) := fun L h K hk => by
  obtain ⟨b, hk⟩ := zpp_t hk
  generalize zget d h.1 b = e at hk
  obtain ⟨kd, len, x⟩ := e
  have hk : zF K (Nat.succ len) = true := hk
  rw [zF_eq] at hk
  exact ⟨_, hk⟩
end WEAK
/-- the stack behind a join: some go, some come -/
noncomputable def zsp (ps : List zV) (n : Nat) : List zV → (List zV → Bool) → Bool := Nat.rec (motive := fun _ => List zV → (List zV → Bool) → Bool) (fun S K => List.rec (motive := fun _ => (List zV → Bool) → Bool) (fun K => K S) (fun v _ r K => r (fun t => K (v :: t))) ps K) (fun _ r S K => List.rec (motive := fun _ => Bool) false (fun _ t _ => r t K) S) n
theorem zsp_ok (ps : List zV) : ∀ (n : Nat) (S : List zV) (K : List zV → Bool), zsp ps n S K = true → ∃ S0, K S0 = true
  | 0, S, K, h => by
    have key : ∀ (ps : List zV) (K : List zV → Bool), List.rec (motive := fun _ => (List zV → Bool) → Bool) (fun K => K S) (fun v _ r K => r (fun t => K (v :: t))) ps K = true → ∃ S0, K S0 = true := by
      intro ps
      induction ps with
      | nil => intro K h; exact ⟨S, h⟩
      | cons v ps ih =>
        intro K h
        obtain ⟨S0, h0⟩ := ih (fun t => K (v :: t)) h
        exact ⟨_, h0⟩
    exact key ps K h
  | n + 1, [], K, h => by cases h
  | n + 1, v :: S, K, h => zsp_ok ps n S K h
/-- words to a place within bounds, where all words are alike -/
noncomputable def zalA (x0 w : Nat) (sp n : Nat) : Bool := Nat.rec (motive := fun _ => Bool) true (fun m r => cond (zsubI (zwd 40 x0 (Nat.add sp m)) w) r false) n
theorem zalA_t {x0 w sp : Nat} : ∀ {n : Nat}, zalA x0 w sp n = true → ∀ m, m < n → zsubI (zwd 40 x0 (sp + m)) w = true
  | 0, _, m, hm => absurd hm (Nat.not_lt_zero m)
  | n + 1, h, m, hm => by
    have h : cond (zsubI (zwd 40 x0 (sp + n)) w) (zalA x0 w sp n) false = true := h
    obtain ⟨h1, h2⟩ := zcnd_t h
    rcases Nat.lt_succ_iff_lt_or_eq.mp hm with q | rfl
    · exact zalA_t h2 m q
    · exact h1
section OPS
variable {d : Nat} {X : zM} {fr : Nat} {P : zP d} {pc : Nat} {k : zK d}
noncomputable def xcpU (k : zK d) : zK d := fun L S h => zpI S (fun n S => zpI S (fun dp S => zpR S (fun r1 S => zpI S (fun sp S => zpR S (fun r0 S => zle4 S (cond (Nat.ble n 100000) (cond (Nat.ble (zhi dp) 100000) (cond (Nat.ble sp 100000) (zat h r0 (fun _ _ _ kd0 len0 x0 => zat h r1 (fun _ _ _ kd1 len1 x1 => cond (Nat.beq kd0 0) (cond (Nat.beq kd1 0) (cond (Nat.ble (Nat.add sp n) len0) (cond (Nat.ble (Nat.add (zhi dp) n) (Nat.succ len1)) (cond (Nat.beq x1 (zun 40 len1 (zwd 40 x1 0))) (cond (zalA x0 (zwd 40 x1 0) sp n) (k L S h) false) false) false) false) false) false))) false) false) false))))))
theorem sm_copyU [G : zGh] {index : Nat} (hlink : Cond.methodLink X.1 index arraycopyName ∈ ztbl) (hnat : Cond.native arraycopyName ∈ ztbl) (hstat : Cond.static arraycopyName ∈ ztbl) (hini : Cond.initialized "java/lang/System" ∈ ztbl) (hfr : 1 ≤ fr) (dg : decode X.2.1 pc = .ok (.invokestatic index, 3)) (hs : zSim X fr P (pc + 3) k) : zSim X fr P pc (xcpU k) := by
  intro Ch cA D ad0 A MC MS p l e s m args below meth c ls st H locs cells slots L S h Cx hk R0
  obtain ⟨ws, hHp, hpre, hP, hD, hS, hL, hst, hcb, hsb⟩ := R0
  obtain ⟨n, S, rfl, hk1⟩ := zpI_t hk
  obtain ⟨dp, S, rfl, hk2⟩ := zpI_t hk1
  obtain ⟨r1, S, rfl, hk3⟩ := zpR_t hk2
  obtain ⟨sp, S, rfl, hk4⟩ := zpI_t hk3
  obtain ⟨r0, S, rfl, hk5⟩ := zpR_t hk4
  obtain ⟨jn, st, rfl, hn, hst1⟩ := zRepL_I hst
  obtain ⟨jd, st, rfl, hdp, hst2⟩ := zRepL_I hst1
  obtain ⟨o1, st, rfl, ho1, hst3⟩ := zRepL_R hst2
  obtain ⟨js, st, rfl, hsp, hst4⟩ := zRepL_I hst3
  obtain ⟨o0, st, rfl, ho0, hst5⟩ := zRepL_R hst4
  obtain ⟨h4, hk6⟩ := zle4_t hk5
  obtain ⟨b1, hk6⟩ := zcnd_t hk6
  obtain ⟨b2, hk6⟩ := zcnd_t hk6
  obtain ⟨b3, hk6⟩ := zcnd_t hk6
  obtain ⟨i0, kd0, len0, x0, rfl, hg0, hk7⟩ := zat_t hk6
  obtain ⟨i1, kd1, len1, x1, rfl, hg1, hk8⟩ := zat_t hk7
  obtain ⟨b4, hk9⟩ := zcnd_t hk8
  obtain ⟨b5, hk10⟩ := zcnd_t hk9
  obtain ⟨b6, hk11⟩ := zcnd_t hk10
  obtain ⟨b7, hk12⟩ := zcnd_t hk11
  obtain ⟨b8, hk13⟩ := zcnd_t hk12
  obtain ⟨b9, hk14⟩ := zcnd_t hk13
  clear hk7 hk8 hk9 hk10 hk11 hk12 hk13
  have e0 := Nat.eq_of_beq_eq_true b4
  have e1 := Nat.eq_of_beq_eq_true b5
  subst e0
  subst e1
  obtain ⟨a0, en0, rfl, hw0, hc0⟩ := zat_w hHp ho0
  obtain ⟨a1, en1, rfl, hw1, hc1⟩ := zat_w hHp ho1
  rw [hg0] at hc0
  rw [hg1] at hc1
  obtain ⟨hl0, f0, rfl, hf0⟩ := zCell_i hc0 (by decide)
  obtain ⟨hl1, f1, rfl, hf1⟩ := zCell_i hc1 (by decide)
  have hdl := zhi_ok hdp
  have hd0 := Nat.le_of_ble_eq_true b2
  obtain ⟨n1, n2⟩ := zi_len hn.1 (Nat.le_of_ble_eq_true b1)
  obtain ⟨d1, d2⟩ := zi_len (i := jd) (n := zi jd) (fun _ => rfl) (by omega)
  obtain ⟨s1, s2⟩ := zi_len hsp.1 (Nat.le_of_ble_eq_true b3)
  have hle0 : sp + n ≤ len0 := Nat.le_of_ble_eq_true b6
  have hle1 : zhi dp + n ≤ len1 + 1 := Nat.le_of_ble_eq_true b7
  have hcat := zcat hst5
  refine va_copyi (ty := .int) Cx.1 Cx.2.1 (by rw [Cx.2.2.1]; exact hL.2.choose_spec.1.1.symm) Cx.2.2.2.1 (Cx.2.2.2.2.1 _ hlink) (Cx.2.2.2.2.1 _ hnat) (Cx.2.2.2.2.1 _ hstat) (Cx.2.2.2.2.1 _ hini) Cx.2.2.2.2.2.1 hP hD hS i0 i1 0 0 hw0 hw1 rfl rfl rfl s1 d1 n1 (by rw [s2, n2]; exact hle0) (by rw [d2, n2]; omega) (fun _ _ => rfl) hfr (by show (st.map fun v => v.category).sum + (nativeFrameWords "java/lang/System" "arraycopy" 5 + 11) ≤ 64 * fr; rw [znfw]; omega) dg (fun H1 locs1 hP1 hD1 hS1 => ?_)
  have hz := zad_set (cA := cA) (e' := .inl (cA 0, len1, .inl (va_cpy f0 f1 js.toNatClampNeg jd.toNatClampNeg jn.toNatClampNeg))) hw1
  have hnew : zAI len1 x1 (va_cpy f0 f1 js.toNatClampNeg jd.toNatClampNeg jn.toNatClampNeg) := by
    intro j hj
    rw [s2, d2, n2]
    unfold va_cpy
    by_cases q : zi jd ≤ j ∧ j < zi jd + n
    · rw [if_pos q, zun_at b8 hj]
      exact zsubI_a (zwd_lt _ _ _) (zwd_lt _ _ _) (zalA_t b9 (j - zi jd) (by omega)) (hf0 _ (by omega))
    · rw [if_neg q]
      exact hf1 _ hj
  have hH2 := zHp_set hHp hw1 (c' := (0, len1, x1)) (zCell_ik (cA := cA) (by decide) hl1 hnew)
  rw [← hg1, zset_get] at hH2
  exact hs Ch cA D ad0 A MC MS p l e s m args below meth c ls _ H1 locs1 cells slots L _ h Cx hk14 ⟨_, hH2, by rw [hz]; exact hpre, hP1, hD1, hS1, by rw [hz]; exact hL, by rw [hz]; exact hst5, hcb, hsb⟩
/-- whether the place is known -/
noncomputable def zkd (S : List zV) : Bool := zpI S (fun _ S => zpI S (fun dp _ => Nat.ble dp 4294967295))
noncomputable def xcpQ (k : zK d) : zK d := fun L S h => cond (zkd S) (xcpy 0 40 k L S h) (xcpU k L S h)
theorem sm_copyQ [G : zGh] {index : Nat} (hlink : Cond.methodLink X.1 index arraycopyName ∈ ztbl) (hnat : Cond.native arraycopyName ∈ ztbl) (hstat : Cond.static arraycopyName ∈ ztbl) (hini : Cond.initialized "java/lang/System" ∈ ztbl) (hfr : 1 ≤ fr) (dg : decode X.2.1 pc = .ok (.invokestatic index, 3)) (hs : zSim X fr P (pc + 3) k) : zSim X fr P pc (xcpQ k) := sm_or (sm_copyI hlink hnat hstat hini hfr dg hs) (sm_copyU hlink hnat hstat hini hfr dg hs)
end OPS
