/-! what a state of the machine of numbers says of a state of the machine -/
abbrev zcl : List vw_C := [(RX0, TX0, 8), (RX1, TX1, 4), (RX2, TX2, 15), (RX3, TX3, 2), (RX4, TX4, 16), (RX5, TX5, 12), (RX6, TX6, 2), (RX7, TX7, 14), (RX8, TX8, 8), (RX9, TX9, 63)]
/-- of a class and a field: its type -/
def zfty (ci k : Nat) : FieldType := match ci with
  | 0 => tyX0 k
  | 1 => tyX1 k
  | 2 => tyX2 k
  | 3 => tyX3 k
  | 4 => tyX4 k
  | 5 => tyX5 k
  | 6 => tyX6 k
  | 7 => tyX7 k
  | 8 => tyX8 k
  | _ => tyX9 k
def zisR (t : FieldType) : Bool := match t with
  | .array _ => true
  | .object _ => true
  | _ => false
/-- own class, code, locals, what it returns, name -/
abbrev zM : Type := String × ByteArray × Nat × Option FieldType × String
abbrev zH (d : Nat) : Type := zT d × (Nat × (Nat × Nat))
abbrev zP (d : Nat) : Type := zV → zH d → Bool
abbrev zK (d : Nat) : Type := List zV → List zV → zH d → Bool
/-- what symbols stand for in a frame -/
def zGhT : Type := Nat → Nat
abbrev zGh : Type := Inhabited zGhT
def zg [G : zGh] : Nat → Nat := G.default
/-- what marked words and marked arrays stand for in the heap: contents by kind, how many are seen -/
def zChT : Type := (Nat → Nat → Int32) × Nat
abbrev zCh : Type := Inhabited zChT
def zcF [C : zCh] : Nat → Nat → Int32 := (show (Nat → Nat → Int32) × Nat from C.default).1
def zcT [C : zCh] : Nat := (show (Nat → Nat → Int32) × Nat from C.default).2
def zsum (n : Nat) (f : Nat → Nat) : Nat := Nat.rec (motive := fun _ => Nat) 0 (fun m r => Nat.add r (f m)) n
/-- all of 1 .. n, each once -/
def zPm (n : Nat) (f : Nat → Nat) : Prop := ∀ g : Nat → Nat, zsum n (fun i => g (f i)) = zsum n (fun i => g (i + 1))
/-- a partition told by one number, base 8: part, row of a cell, its place column by column, how many cells -/
def zpt (lam i : Nat) : Nat := Nat.mod (Nat.div lam (Nat.pow 8 i)) 8
def zpn (lam : Nat) : Nat := zsum 6 (fun i => zpt lam i)
def zrw (lam c : Nat) : Nat := zsum 6 (fun i => cond (Nat.ble (zsum (Nat.succ i) (fun j => zpt lam j)) c) 1 0)
def zco (lam c : Nat) : Nat := Nat.sub c (zsum (zrw lam c) (fun j => zpt lam j))
def zps (lam c : Nat) : Nat := Nat.add (zsum 6 (fun i => Nat.min (zpt lam i) (zco lam c))) (zrw lam c)
/-- the codes of all ways to lay 1 .. m into rows -/
def zcd : Nat → Nat → Nat → List Nat
  | 0, _, acc => [acc]
  | m + 1, caps, acc => (List.range 6).flatMap (fun r => cond (Nat.beq (zpt caps r) 0) [] (zcd m (caps - 8 ^ r) (6 * acc + r)))
def zcs (lam : Nat) : List Nat := zcd (zpn lam) lam 0
/-- what is known of marked arrays: 8 held, 9 rows of numbers (x: partition + 2^20 times how many are placed), 10 places of codes, 11 codes seen -/
def zKi (F : Nat → Nat → Int32) (t kd len x : Nat) : Prop :=
  (kd = 8 → zPm (zpn (x % 1048576)) (fun i => zi (F 8 i))) ∧
  (kd = 9 → ∀ c, c < zpn (x % 1048576) → zps (x % 1048576) c < x / 1048576 → zi (F 9 (zi (F 8 c))) = zrw (x % 1048576) c) ∧
  (kd = 10 → ∀ j, j < len → zi (F 10 j) ≤ 720) ∧
  (kd = 11 → (∀ j, j < len → zi (F 11 j) < 46656) ∧ ∀ i, i < t → zi (F 11 i) ∈ zcs (x % 1048576) ∧ zi (F 10 (zi (F 11 i))) = i + 1)
def zCK [zCh] (kd len x : Nat) (f : Nat → Int32) : Prop := f = zcF kd ∧ zKi zcF zcT kd len x
def zCW [zCh] (_ : Nat) (i : Int32) : Prop := zi i = zcT ∧ zcT ≤ 720
/-- addresses of the world's cells; addresses that aren't looked at, by their words: 0 none, a + 1 address a -/
abbrev zA : Type := List Nat × (Nat → Nat)
def zop (g : Nat → Nat) (w : Nat) : Option Nat := if g (max w 21) = 0 then none else some (g (max w 21) - 1)
/-- rows: each is one of some cells that lie side by side -/
def zRs (ad : zA) (len x : Nat) (f : Nat → Option Nat) : Prop := ∀ j, j < len → ∃ (k a : Nat), x % 1048576 ≤ k ∧ k < x / 1048576 ∧ ad.1[k]? = some a ∧ f j = some a
/-- a number's code: below 2^32 itself; 2^32 not known; 2^32 + m, m < 2^38: below m; + 2^40 lo: not below lo; from 2^72 on: a symbol -/
def zIs [zGh] (n : Nat) (i : Int32) : Prop := (n < 4294967296 → zi i = n) ∧ (4294967296 < n % 1099511627776 → n % 1099511627776 < 549755813888 → zi i < n % 1099511627776 - 4294967296) ∧ n / 1099511627776 % 4294967296 ≤ zi i ∧ (4722366482869645213696 ≤ n → zi i = zg (n / 4722366482869645213696 % 65536) + n / 4722366482869645213696 / 65536)
/-- a long's code: below 2^64 itself; from 2^72 on: not below a least one, and below another -/
def zJs (n : Nat) (i : Int64) : Prop := (n < 18446744073709551616 → zj i = n) ∧ (4722366482869645213696 ≤ n → n / 4722366482869645213696 % 18446744073709551616 ≤ zj i ∧ zj i < n / 87112285931760246646623899502532662132736)
theorem zJs_of {n : Nat} {i : Int64} (h : n < 18446744073709551616 → zj i = n) (hn : n < 4722366482869645213696) : zJs n i := ⟨h, fun q => absurd q (Nat.not_le.mpr hn)⟩
theorem zJs_e {n : Nat} {i : Int64} (h : zj i = n) : zJs n i := zJs_of (fun _ => h) (by have := zj_lt i; omega)
/-- a word of an array -/
def zIa (w : Nat) (i : Int32) : Prop := (w < 4294967296 → zi i = w) ∧ (4294967296 < w → w < 549755813888 → zi i < w - 4294967296)
/-- a word of an object -/
def zIw [zCh] (w : Nat) (i : Int32) : Prop := zIa w i ∧ (w = 549755813888 → zCW w i)
theorem zIs_of [zGh] {n : Nat} {i : Int32} (h : n < 4294967296 → zi i = n) (hn : n ≤ 4294967296) : zIs n i := by
  have e1 : n % 1099511627776 = n := Nat.mod_eq_of_lt (by omega)
  have e2 : n / 1099511627776 = 0 := Nat.div_eq_of_lt (by omega)
  exact ⟨h, fun q => by rw [e1] at q; omega, by rw [e2]; exact Nat.zero_le _, fun q => absurd q (by omega)⟩
theorem zIs_e [zGh] {n : Nat} {i : Int32} (h : zi i = n) : zIs n i := zIs_of (fun _ => h) (by have := zi_lt i; omega)
theorem zIs_u [zGh] (i : Int32) : zIs 4294967296 i := zIs_of (fun q => absurd q (Nat.lt_irrefl _)) (Nat.le_refl _)
theorem zIs_a [zGh] {w : Nat} {i : Int32} (h : zIa w i) (hw : w < 1099511627776) : zIs w i := by
  have e1 : w % 1099511627776 = w := Nat.mod_eq_of_lt hw
  have e2 : w / 1099511627776 = 0 := Nat.div_eq_of_lt hw
  exact ⟨h.1, fun q1 q2 => by rw [e1] at q1 q2 ⊢; exact h.2 q1 q2, by rw [e2]; exact Nat.zero_le _, fun q => absurd q (by omega)⟩
theorem zIs_any [G : zGh] {w : Nat} {i : Int32} (h : zIs w i) (hw : w < 1099511627776) (G' : zGh) : @zIs G' w i := by
  have e1 : w % 1099511627776 = w := Nat.mod_eq_of_lt hw
  exact @zIs_a G' _ _ ⟨h.1, fun q1 q2 => by have := h.2.1; rw [e1] at this; exact this q1 q2⟩ hw
def zRf (ad : zA) (r : Nat) (o : Option Nat) : Prop := (r = 0 ∧ o = none) ∨ ∃ (k a : Nat), r = k + 1 ∧ ad.1[k]? = some a ∧ o = some a
/-- a reference in the heap: from 2^39 on one that isn't looked at -/
def zRw (ad : zA) (w : Nat) (o : Option Nat) : Prop := (w < 549755813888 ∧ zRf ad w o) ∨ (549755813888 ≤ w ∧ o = zop ad.2 w)
noncomputable def zvR (w : Nat) : zV := cond (Nat.ble 549755813888 w) (zW (Nat.add 1152921504606846976 w)) (zR w)
def zRep [zGh] (ad : zA) (v : zV) (x : Value) : Prop := match v with
  | .inl n => ∃ i : Int32, x = .int i ∧ zIs n i
  | .inr (.inl r) => ∃ o : Option Nat, x = va_rf o ∧ zRf ad r o
  | .inr (.inr (.inl n)) => ∃ i : Int64, x = .long i ∧ zJs n i
  | .inr (.inr (.inr n)) => (n < 1152921504606846976 ∧ ∃ (k a : Nat), n % 1048576 ≤ k ∧ k < n / 1048576 ∧ ad.1[k]? = some a ∧ x = .ref a) ∨ (1152921504606846976 ≤ n ∧ x = va_rf (zop ad.2 (n - 1152921504606846976)))
/-- a place on the tape: not below T, or not below a number; at most 200 -/
def zTw (T n : Nat) (i : Int32) : Prop := zi i ≤ 200 ∧ (n < 274877906946 → T ≤ zi i) ∧ (n = 274877906945 → zi i ≤ 199) ∧ (274877906946 ≤ n → n - 274877906946 ≤ zi i)
/-- a field's value -/
def zRepC [zCh] (ad : zA) (v : zV) (x : Value) : Prop := match v with
  | .inl n => ∃ i : Int32, x = .int i ∧ zIw n i ∧ (549755813888 < n → zi i = ad.2 n) ∧ (274877906944 ≤ n → n < 549755813888 → zTw (ad.2 20) n i)
  | .inr (.inl r) => ∃ o : Option Nat, x = va_rf o ∧ zRw ad r o
  | _ => False
theorem zRw_rep [zGh] {ad : zA} {w : Nat} {o : Option Nat} (h : zRw ad w o) : zRep ad (zvR w) (va_rf o) := by
  unfold zvR
  rcases h with ⟨h1, h2⟩ | ⟨h1, h2⟩
  · have hb : Nat.ble 549755813888 w = false := by
      cases q : Nat.ble 549755813888 w
      · rfl
      · exact absurd (Nat.le_of_ble_eq_true q) (Nat.not_le.mpr h1)
    rw [hb]
    exact ⟨o, rfl, h2⟩
  · rw [Nat.ble_eq_true_of_le h1]
    refine Or.inr ⟨Nat.le_add_right _ _, ?_⟩
    show va_rf o = va_rf (zop ad.2 (1152921504606846976 + w - 1152921504606846976))
    rw [Nat.add_sub_cancel_left, h2]
theorem zRepC_rep [zGh] [zCh] {ad : zA} {b : Bool} {w : Nat} {x : Value} (h : zRepC ad (cond b (zR w) (zI w)) x) (hw : w < 1099511627776) : zRep ad (cond b (zvR w) (zI w)) x := by
  cases b
  · obtain ⟨i, h1, h2, -⟩ := h
    exact ⟨i, h1, zIs_a h2.1 hw⟩
  · obtain ⟨o, rfl, h2⟩ := h
    exact zRw_rep h2
def zRepL [zGh] (ad : zA) : List zV → List Value → Prop
  | [], [] => True
  | v :: S, x :: st => zRep ad v x ∧ zRepL ad S st
  | _, _ => False
def zAI (len x : Nat) (f : Nat → Int32) : Prop := ∀ j, j < len → zIa (zwd 40 x j) (f j)
/-- longs: below 2^64 itself; 2^64 + 1: not 0 -/
def zAJ (len x : Nat) (f : Nat → Int64) : Prop := ∀ j, j < len → (zwd 72 x j < 18446744073709551616 → zj (f j) = zwd 72 x j) ∧ (zwd 72 x j = 18446744073709551617 → 1 ≤ zj (f j))
def zAR (ad : zA) (len x : Nat) (f : Nat → Option Nat) : Prop := ∀ j, j < len → zRw ad (zwd 40 x j) (f j)
def zFl [zCh] (ad : zA) (ci k w : Nat) (v : Value) : Prop := zRepC ad (cond (zisR (zfty ci k)) (zR w) (zI w)) v
def zN (ci : Nat) : Nat := match ci with
  | 0 => 8
  | 1 => 4
  | 2 => 15
  | 3 => 2
  | 4 => 16
  | 5 => 12
  | 6 => 2
  | 7 => 14
  | 8 => 8
  | _ => 63
/-- kinds: 0 ints, 1 booleans, 2 longs, 3 to 15 references, from 16 on objects -/
def zCell [zCh] (cA : Nat → ClassId) (ad : zA) (c : zC) (e : va_E) : Prop :=
  (c.1 < 2 ∧ c.2.1 < 2147483648 ∧ ∃ f : Nat → Int32, e = .inl (cA c.1, c.2.1, .inl f) ∧ zAI c.2.1 c.2.2 f) ∨
  (c.1 = 2 ∧ c.2.1 < 2147483648 ∧ ∃ f : Nat → Int64, e = .inl (cA 2, c.2.1, .inr (.inl f)) ∧ zAJ c.2.1 c.2.2 f) ∨
  (8 ≤ c.1 ∧ c.1 < 16 ∧ c.2.1 < 2147483648 ∧ ((c.1 < 12 ∧ ∃ f : Nat → Int32, e = .inl (cA 0, c.2.1, .inl f) ∧ zCK c.1 c.2.1 c.2.2 f) ∨ (c.1 = 12 ∧ ∃ f : Nat → Option Nat, e = .inl (cA 3, c.2.1, .inr (.inr (.inr (.inr f)))) ∧ zRs ad c.2.1 c.2.2 f))) ∨
  (3 ≤ c.1 ∧ c.1 < 8 ∧ c.2.1 < 2147483648 ∧ ∃ f : Nat → Option Nat, e = .inl (cA c.1, c.2.1, .inr (.inr (.inr (.inr f)))) ∧ zAR ad c.2.1 c.2.2 f) ∨
  (16 ≤ c.1 ∧ ∃ fs : List Value, e = .inr (c.1 - 16, fs) ∧ fs.length = zN (c.1 - 16) ∧ ∀ k v, fs[k]? = some v → zFl ad (c.1 - 16) k (zwd 40 c.2.2 k) v)
abbrev zad (cA : Nat → ClassId) (ws : va_W) : zA := (ws.map (fun q => q.1), cA)
def zHp [zCh] {d : Nat} (cA : Nat → ClassId) (h : zH d) (ws : va_W) : Prop := ws.length = h.2.1 ∧ h.2.1 ≤ 2 ^ d ∧ ∀ (i : Nat) (q : Nat × va_E), ws[i]? = some q → zCell cA (zad cA ws) (zget d h.1 i) q.2
def zLoc [zGh] (ad : zA) (nL : Nat) (L : List zV) (ls : Array Slot) : Prop := L.length = nL ∧ ∃ lv : List (Nat × Value), lv_has ls nL lv ∧ ∀ (i : Nat) (v : zV), L[i]? = some v → v = zU ∨ ∃ x : Value, (i, x) ∈ lv ∧ zRep ad v x
def zPre (a b : zA) : Prop := (∃ t, b.1 = a.1 ++ t) ∧ b.2 = a.2
/-- the array classes: [I [Z [J [[I [[J, of Shape, of Things, of Split -/
def zty (cA : Nat → ClassId) : List (ClassId × FieldType) := [(cA 0, .int), (cA 1, .boolean), (cA 2, .long), (cA 3, .array .int), (cA 4, .array .long), (cA 5, .object RX4), (cA 6, .object RX7), (cA 7, .object RX5)]
def zRm (fr mc ms : Nat) : Room := { frames := fr, cells := mc, slots := ms, locals := 64 * fr }
/-- the static arrays, which nothing writes -/
def zSt1 (C n : String) (tb : List Nat) (A : Nat → Prop) (U : State) (H : Heap) : Prop := ∃ t : Nat, va_Z C n "[I" (.ref t) A U H ∧ ∃ f : Nat → Value, va_T .int t 7 f A U H ∧ ∀ j v, tb[j]? = some v → ∃ i : Int32, f j = .int i ∧ zi i = v
abbrev ztb1 : List Nat := [1, 1, 2, 3, 5, 7, 11]
abbrev ztb2 : List Nat := [0, 1, 4294967295, 4294967295, 0, 4294967295, 1]
abbrev ztb3 : List Nat := [1, 1, 1, 2, 2, 4, 2]
def zStat (A : Nat → Prop) (U : State) (H : Heap) : Prop := zSt1 RX7 "PARTITIONS" ztb1 A U H ∧ zSt1 RX5 "ROOT_SUM" ztb2 A U H ∧ zSt1 RX5 "ROOT_COUNT" ztb3 A U H
/-- the words that stay as classes are linked, and those that want a word of their own -/
def ztbl : List Cond := lw_tbl.filter goodWord
def zNest : List (String × Nat × MethodName × String) := [("PrimeBlocks", 32, ⟨"PrimeBlocks$Tape", "<init>", "()V"⟩, "PrimeBlocks"), ("PrimeBlocks$Shape", 96, ⟨"PrimeBlocks", "factorialOf", "(I)I"⟩, "PrimeBlocks"), ("PrimeBlocks$Things", 31, ⟨"PrimeBlocks", "factorialOf", "(I)I"⟩, "PrimeBlocks"), ("PrimeBlocks$Things", 120, ⟨"PrimeBlocks", "greatestDivisor", "(JJ)J"⟩, "PrimeBlocks"), ("PrimeBlocks$Split", 92, ⟨"PrimeBlocks", "bit", "(Z)I"⟩, "PrimeBlocks"), ("PrimeBlocks$Blocks", 69, ⟨"PrimeBlocks", "bit", "(Z)I"⟩, "PrimeBlocks"), ("PrimeBlocks$Reader", 11, ⟨"PrimeBlocks$Fault", "<init>", "()V"⟩, "PrimeBlocks"), ("PrimeBlocks$Reader", 156, ⟨"PrimeBlocks", "isSlot", "(I)Z"⟩, "PrimeBlocks")]
/-- arrays of arrays: the printed names call this word, and the kit hasn't it -/
def va_AOA (ty : FieldType) (U : State) : Prop := (Cond.arrayOver (.array ty)).before #[] U = true
theorem va_AOA.use {ty : FieldType} {A : Array Value} {U : State} (h : va_AOA ty U) : (Cond.arrayOver (.array ty)).before A U = true := h
theorem va_AOA.moved {ty : FieldType} {u U : State} (hvm : u.vm.Alike U.vm) (h : va_AOA ty u) : va_AOA ty U := by
  have h1 : (Cond.arrayOver (.array ty)).before #[] (u.setVm U.vm) = true := by rw [Cond.arrayOver_setVmC hvm]; exact h
  exact h1
def zEx (U : State) : Prop := va_AO RX4 U ∧ va_AO RX7 U ∧ va_AO RX5 U ∧ va_AOA .int U ∧ va_AOA .long U ∧ (∀ q ∈ zNest, va_Nw (.methodLinkNest q.1 q.2.1 q.2.2.1 q.2.2.2) U) ∧ va_Nw (.castable "[I" "java/lang/Cloneable") U
theorem zEx_moved {s U : State} (hW : s.WarmedH U.vm) (h : zEx s) : zEx U := ⟨h.1.moved hW.alike, h.2.1.moved hW.alike, h.2.2.1.moved hW.alike, h.2.2.2.1.moved hW.alike, h.2.2.2.2.1.moved hW.alike, fun q hq => va_Nw.warmM hW (h.2.2.2.2.2.1 q hq), va_Nw.warmC hW h.2.2.2.2.2.2⟩
def zCx [zGh] (X : zM) (cA : Nat → ClassId) (D : va_G) (p : Program) (s : State) (m : MethodId) (args : Array Value) (meth : Method) (c : Code) (A : Nat → Prop) : Prop :=
  p.tables.exec = Jvm.exec ∧ c.code = X.2.1 ∧ c.maxLocals = X.2.2.1 ∧ s.vm.findClass X.1 = some m.cls ∧ (∀ w ∈ ztbl, w.before args s = true) ∧ va_K D zcl (zty cA) s ∧ (∀ q, s.heap.size ≤ q → A q) ∧ meth.sig.returnType = X.2.2.2.1 ∧ (meth.locks = false ∧ cA 20 = zg 0) ∧ meth.name = X.2.2.2.2 ∧ zStat A s s.heap ∧ zEx s
def zRel [zGh] [zCh] {d : Nat} (cA : Nat → ClassId) (D : va_G) (ad0 : zA) (A : Nat → Prop) (MC MS : Nat) (s : State) (nL : Nat) (L S : List zV) (h : zH d) (ls : Array Slot) (st : List Value) (H : Heap) (locs : List Loc) (cells slots : Nat) : Prop :=
  ∃ ws : va_W, zHp cA h ws ∧ zPre ad0 (zad cA ws) ∧ va_P D zcl ws H ∧ va_D A ws ∧ va_S A s.heap H locs ∧ zLoc (zad cA ws) nL L ls ∧ zRepL (zad cA ws) S st ∧ cells + h.2.2.1 ≤ MC ∧ slots + h.2.2.2 ≤ MS
def zQc {d : Nat} (P : zP d) (cA : Nat → ClassId) (D : va_G) (ad0 : zA) (A : Nat → Prop) : Array Value → State → Outcome → State → Prop := fun _ st oc t =>
  (∃ (_ : zCh) (r : zV) (h : zH d) (ws : va_W) (ov : Option Value), oc = .returned ov ∧ ((ov = none ∧ r = zU) ∨ ∃ x, ov = some x ∧ ∀ (_ : zGh), zRep (zad cA ws) r x) ∧ P r h = true ∧ zHp cA h ws ∧ zPre ad0 (zad cA ws) ∧ va_P D zcl ws t.heap ∧ va_D A ws) ∧ va_F A st t
def zSim [zGh] {d : Nat} (X : zM) (fr : Nat) (P : zP d) (pc : Nat) (k : zK d) : Prop :=
  ∀ (_ : zCh) (cA : Nat → ClassId) (D : va_G) (ad0 : zA) (A : Nat → Prop) (MC MS : Nat) (p : Program) (l : Launch) (e : Env) (s : State) (m : MethodId) (args : Array Value) (below : List Frame) (meth : Method) (c : Code) (ls : Array Slot) (st : List Value) (H : Heap) (locs : List Loc) (cells slots : Nat) (L S : List zV) (h : zH d),
    zCx X cA D p s m args meth c A → k L S h = true → zRel cA D ad0 A MC MS s X.2.2.1 L S h ls st H locs cells slots →
    W p l e (zRm fr MC MS) s m args below meth c H locs cells slots (MQ below (zQc P cA D ad0 A) args s MC MS A) (F0 m pc ls st)
/-! small laws -/
theorem zRf_mono {ad ad' : zA} (hp : zPre ad ad') {r : Nat} {o : Option Nat} (h : zRf ad r o) : zRf ad' r o := by
  rcases h with h | ⟨k, a, h1, h2, h3⟩
  · exact Or.inl h
  · obtain ⟨⟨t, ht⟩, -⟩ := hp
    refine Or.inr ⟨k, a, h1, ?_, h3⟩
    have hk : k < ad.1.length := (List.getElem?_eq_some_iff.mp h2).1
    rw [ht, List.getElem?_append_left hk]
    exact h2
theorem zRep_mono [zGh] {ad ad' : zA} (hp : zPre ad ad') {v : zV} {x : Value} (h : zRep ad v x) : zRep ad' v x := by
  match v, h with
  | .inl n, h => exact h
  | .inr (.inl r), ⟨o, h1, h2⟩ => exact ⟨o, h1, zRf_mono hp h2⟩
  | .inr (.inr (.inl n)), h => exact h
  | .inr (.inr (.inr n)), Or.inl ⟨h0, k, a, h1, h2, h3, h4⟩ =>
    obtain ⟨⟨t, ht⟩, -⟩ := hp
    have hk : k < ad.1.length := (List.getElem?_eq_some_iff.mp h3).1
    exact Or.inl ⟨h0, k, a, h1, h2, by rw [ht, List.getElem?_append_left hk]; exact h3, h4⟩
  | .inr (.inr (.inr n)), Or.inr ⟨h0, h1⟩ => exact Or.inr ⟨h0, by rw [hp.2]; exact h1⟩
theorem zRep_U [zGh] {ad : zA} {x : Value} (h : zRep ad zU x) : False := by
  rcases h with ⟨-, k, a, h1, h2, -⟩ | ⟨h1, -⟩
  · exact absurd h2 (Nat.not_lt_zero k)
  · exact absurd h1 (by decide)
theorem zRepL_mono [zGh] {ad ad' : zA} (hp : zPre ad ad') : ∀ {S : List zV} {st : List Value}, zRepL ad S st → zRepL ad' S st
  | [], [], _ => trivial
  | v :: S, x :: st, h => ⟨zRep_mono hp h.1, zRepL_mono hp h.2⟩
theorem zRw_mono {ad ad' : zA} (hp : zPre ad ad') {w : Nat} {o : Option Nat} (h : zRw ad w o) : zRw ad' w o := by
  rcases h with ⟨h1, h2⟩ | ⟨h1, h2⟩
  · exact Or.inl ⟨h1, zRf_mono hp h2⟩
  · exact Or.inr ⟨h1, by rw [hp.2]; exact h2⟩
theorem zRepC_mono [zCh] {ad ad' : zA} (hp : zPre ad ad') {v : zV} {x : Value} (h : zRepC ad v x) : zRepC ad' v x := by
  match v, h with
  | .inl n, ⟨i, h1, h2, h3⟩ => exact ⟨i, h1, h2, by rw [hp.2]; exact h3⟩
  | .inr (.inl r), ⟨o, h1, h2⟩ => exact ⟨o, h1, zRw_mono hp h2⟩
theorem zRs_mono {ad ad' : zA} (hp : zPre ad ad') {len x : Nat} {f : Nat → Option Nat} (h : zRs ad len x f) : zRs ad' len x f := by
  intro j hj
  obtain ⟨k, a, h1, h2, h3, h4⟩ := h j hj
  obtain ⟨⟨t, ht⟩, -⟩ := hp
  have hk : k < ad.1.length := (List.getElem?_eq_some_iff.mp h3).1
  exact ⟨k, a, h1, h2, by rw [ht, List.getElem?_append_left hk]; exact h3, h4⟩
theorem zCell_mono [zCh] {cA : Nat → ClassId} {ad ad' : zA} (hp : zPre ad ad') {c : zC} {e : va_E} (h : zCell cA ad c e) : zCell cA ad' c e := by
  rcases h with h | h | ⟨h1, h2, hl, h | ⟨h3, f, h4, h5⟩⟩ | ⟨h1, h2, hl, f, h3, h4⟩ | ⟨h1, fs, h2, h3, h4⟩
  · exact Or.inl h
  · exact Or.inr (Or.inl h)
  · exact Or.inr (Or.inr (Or.inl ⟨h1, h2, hl, Or.inl h⟩))
  · exact Or.inr (Or.inr (Or.inl ⟨h1, h2, hl, Or.inr ⟨h3, f, h4, zRs_mono hp h5⟩⟩))
  · exact Or.inr (Or.inr (Or.inr (Or.inl ⟨h1, h2, hl, f, h3, fun j hj => zRw_mono hp (h4 j hj)⟩)))
  · exact Or.inr (Or.inr (Or.inr (Or.inr ⟨h1, fs, h2, h3, fun k v hv => zRepC_mono hp (h4 k v hv)⟩)))
theorem zPre_refl (a : zA) : zPre a a := ⟨⟨[], by simp⟩, rfl⟩
theorem zPre_trans {a b c : zA} (h1 : zPre a b) (h2 : zPre b c) : zPre a c := by
  obtain ⟨⟨t, ht⟩, e1⟩ := h1
  obtain ⟨⟨u, hu⟩, e2⟩ := h2
  exact ⟨⟨t ++ u, by rw [hu, ht]; simp⟩, e2.trans e1⟩
/-- popping -/
noncomputable def zpI (S : List zV) (k : Nat → List zV → Bool) : Bool := List.rec (motive := fun _ => Bool) false (fun v t _ => Sum.rec (motive := fun _ => Bool) (fun n => k n t) (fun _ => false) v) S
noncomputable def zpR (S : List zV) (k : Nat → List zV → Bool) : Bool := List.rec (motive := fun _ => Bool) false (fun v t _ => Sum.rec (motive := fun _ => Bool) (fun _ => false) (fun u => Sum.rec (motive := fun _ => Bool) (fun n => k n t) (fun _ => false) u) v) S
noncomputable def zpL (S : List zV) (k : Nat → List zV → Bool) : Bool := List.rec (motive := fun _ => Bool) false (fun v t _ => Sum.rec (motive := fun _ => Bool) (fun _ => false) (fun u => Sum.rec (motive := fun _ => Bool) (fun _ => false) (fun w => Sum.rec (motive := fun _ => Bool) (fun n => k n t) (fun _ => false) w) u) v) S
theorem zpI_t {S : List zV} {k : Nat → List zV → Bool} (h : zpI S k = true) : ∃ n t, S = zI n :: t ∧ k n t = true := by
  match S, h with
  | .inl n :: t, h => exact ⟨n, t, rfl, h⟩
theorem zpR_t {S : List zV} {k : Nat → List zV → Bool} (h : zpR S k = true) : ∃ n t, S = zR n :: t ∧ k n t = true := by
  match S, h with
  | .inr (.inl n) :: t, h => exact ⟨n, t, rfl, h⟩
theorem zpL_t {S : List zV} {k : Nat → List zV → Bool} (h : zpL S k = true) : ∃ n t, S = zL n :: t ∧ k n t = true := by
  match S, h with
  | .inr (.inr (.inl n)) :: t, h => exact ⟨n, t, rfl, h⟩
theorem zRepL_I [zGh] {ad : zA} {n : Nat} {S : List zV} {st : List Value} (h : zRepL ad (zI n :: S) st) : ∃ (i : Int32) (st' : List Value), st = .int i :: st' ∧ zIs n i ∧ zRepL ad S st' := by
  match st, h with
  | x :: st', ⟨⟨i, h1, h2⟩, h3⟩ => exact ⟨i, st', by rw [h1], h2, h3⟩
theorem zRepL_R [zGh] {ad : zA} {n : Nat} {S : List zV} {st : List Value} (h : zRepL ad (zR n :: S) st) : ∃ (o : Option Nat) (st' : List Value), st = va_rf o :: st' ∧ zRf ad n o ∧ zRepL ad S st' := by
  match st, h with
  | x :: st', ⟨⟨i, h1, h2⟩, h3⟩ => exact ⟨i, st', by rw [h1], h2, h3⟩
theorem zRepL_L [zGh] {ad : zA} {n : Nat} {S : List zV} {st : List Value} (h : zRepL ad (zL n :: S) st) : ∃ (i : Int64) (st' : List Value), st = .long i :: st' ∧ zJs n i ∧ zRepL ad S st' := by
  match st, h with
  | x :: st', ⟨⟨i, h1, h2⟩, h3⟩ => exact ⟨i, st', by rw [h1], h2, h3⟩
/-- a local's value, a local set -/
noncomputable def znth (n : Nat) : List zV → (zV → Bool) → Bool := Nat.rec (motive := fun _ => List zV → (zV → Bool) → Bool) (fun L k => List.rec (motive := fun _ => Bool) false (fun v _ _ => k v) L) (fun _ r L k => List.rec (motive := fun _ => Bool) false (fun _ t _ => r t k) L) n
theorem znth_t : ∀ (n : Nat) {L : List zV} {k : zV → Bool}, znth n L k = true → ∃ v, L[n]? = some v ∧ k v = true
  | 0, [], _, h => by cases h
  | 0, v :: L, k, h => ⟨v, rfl, h⟩
  | n + 1, [], _, h => by cases h
  | n + 1, v :: L, k, h => by
    obtain ⟨w, h1, h2⟩ := znth_t n (L := L) (k := k) h
    exact ⟨w, by simpa using h1, h2⟩
/-- what lies ahead of a stored local: a long there is gone -/
noncomputable def zfix (v : zV) (k : zV → Bool) : Bool := Sum.rec (motive := fun _ => Bool) (fun n => k (zI n)) (fun u => Sum.rec (motive := fun _ => Bool) (fun n => k (zR n)) (fun w => Sum.rec (motive := fun _ => Bool) (fun _ => k zU) (fun m => k (zW m)) w) u) v
noncomputable def zst (n : Nat) (x : zV) : List zV → (List zV → Bool) → Bool := Nat.rec (motive := fun _ => List zV → (List zV → Bool) → Bool) (fun L k => List.rec (motive := fun _ => Bool) false (fun _ t _ => k (x :: t)) L)
  (fun n r L k => List.rec (motive := fun _ => Bool) false (fun v t _ => Nat.rec (motive := fun _ => Bool) (zfix v (fun w => r t (fun t => k (w :: t)))) (fun _ _ => r t (fun t => k (v :: t))) n) L) n
/-- the list behind a store at n -/
def zsta (n : Nat) (x : zV) (L : List zV) : Nat → Option zV := fun i => if i = n then some x else if i + 1 = n then (L[i]?).map (fun v => match v with
  | .inl a => zI a
  | .inr (.inl a) => zR a
  | .inr (.inr (.inr m)) => zW m
  | _ => zU) else L[i]?
theorem zst_t : ∀ (n : Nat) {x : zV} {L : List zV} {k : List zV → Bool}, zst n x L k = true → ∃ L', L'.length = L.length ∧ n < L.length ∧ (∀ i, L'[i]? = zsta n x L i) ∧ k L' = true
  | 0, x, [], _, h => by cases h
  | 0, x, v :: L, k, h => ⟨x :: L, rfl, by simp, fun i => by cases i <;> simp [zsta], h⟩
  | n + 1, x, [], _, h => by cases h
  | 1, x, v :: L, k, h => by
    have h' : zfix v (fun w => zst 0 x L (fun t => k (w :: t))) = true := h
    have key : ∃ w : zV, (∀ L : List zV, some w = zsta 1 x (v :: L) 0) ∧ zst 0 x L (fun t => k (w :: t)) = true := by
      match v, h' with
      | .inl a, h' => exact ⟨zI a, fun L => by simp [zsta], h'⟩
      | .inr (.inl a), h' => exact ⟨zR a, fun L => by simp [zsta], h'⟩
      | .inr (.inr (.inl a)), h' => exact ⟨zU, fun L => by simp [zsta], h'⟩
      | .inr (.inr (.inr m)), h' => exact ⟨zW m, fun L => by simp [zsta], h'⟩
    obtain ⟨w, hw, h2⟩ := key
    obtain ⟨L', h3, h4, h5, h6⟩ := zst_t 0 h2
    refine ⟨w :: L', by simp [h3], by simp; omega, fun i => ?_, h6⟩
    cases i with
    | zero => simpa using hw L
    | succ i =>
      rw [List.getElem?_cons_succ, h5 i]
      simp [zsta]
  | n + 2, x, v :: L, k, h => by
    have h' : zst (n + 1) x L (fun t => k (v :: t)) = true := h
    obtain ⟨L', h3, h4, h5, h6⟩ := zst_t (n + 1) h'
    refine ⟨v :: L', by simp [h3], by simp; omega, fun i => ?_, h6⟩
    cases i with
    | zero => simp [zsta]
    | succ i =>
      rw [List.getElem?_cons_succ, h5 i]
      simp [zsta]
