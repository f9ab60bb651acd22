/-- a boolean as the machine has it -/
def bI (b : Bool) : Int32 := if b then 1 else 0
/-- the cells: object number k lies at ad k and holds M k -/
def mm_l (ad : Nat → Nat) (n : Nat) (M : Nat → va_E) : va_W := (List.range n).map (fun k => (ad k, M k))
theorem mm_at {ad : Nat → Nat} {n : Nat} {M : Nat → va_E} {k : Nat} (hk : k < n) : (mm_l ad n M)[k]? = some (ad k, M k) := by
  simp [mm_l, List.getElem?_map, List.getElem?_range hk]
theorem mm_set {ad : Nat → Nat} {n : Nat} {M : Nat → va_E} {k : Nat} {e : va_E} : (mm_l ad n M).set k (ad k, e) = mm_l ad n (va_up M k e) := by
  apply List.ext_getElem?
  intro j
  by_cases hj : j < n
  · by_cases hk : k = j
    · subst hk
      rw [List.getElem?_set_self (by simp [mm_l]; exact hj), mm_at hj, va_up_self]
    · rw [List.getElem?_set_ne hk, mm_at hj, mm_at hj, va_up_ne _ _ (fun h => hk h.symm)]
  · rw [List.getElem?_eq_none (by simp [mm_l]; omega), List.getElem?_eq_none (by simp [mm_l]; omega)]
theorem mm_len {ad : Nat → Nat} {n : Nat} {M : Nat → va_E} {k : Nat} {q : Nat × va_E} (h : (mm_l ad n M)[k]? = some q) : k < n ∧ q = (ad k, M k) := by
  have h1 : k < (mm_l ad n M).length := (List.getElem?_eq_some_iff.mp h).1
  have h2 : k < n := by simpa [mm_l] using h1
  rw [mm_at h2] at h
  exact ⟨h2, (Option.some.inj h).symm⟩
theorem mm_push {ad : Nat → Nat} {n : Nat} {M : Nat → va_E} {q : Nat} {e : va_E} : mm_l ad n M ++ [(q, e)] = mm_l (va_up ad n q) (n + 1) (va_up M n e) := by
  simp only [mm_l, List.range_succ, List.map_append, List.map_cons, List.map_nil, va_up_self]
  congr 1
  apply List.map_congr_left
  intro k hk
  have : k ≠ n := by have := List.mem_range.mp hk; omega
  rw [va_up_ne _ _ this, va_up_ne _ _ this]
def mm (D : va_G) (ad : Nat → Nat) (n : Nat) (M : Nat → va_E) (H : Heap) : Prop := va_P D vwCl (mm_l ad n M) H
def mI (ad : Nat → Nat) (n : Nat) (A : Nat → Prop) : Prop := (∀ i j, i < n → j < n → ad i = ad j → i = j) ∧ ∀ k, k < n → A (ad k)
theorem mI.D {ad : Nat → Nat} {n : Nat} {A : Nat → Prop} {M : Nat → va_E} (h : mI ad n A) : va_D A (mm_l ad n M) := by
  refine ⟨fun i j x y hx hy hxy => ?_, fun k q hk => ?_⟩
  · obtain ⟨h1, rfl⟩ := mm_len hx
    obtain ⟨h2, rfl⟩ := mm_len hy
    exact h.1 i j h1 h2 hxy
  · obtain ⟨h1, rfl⟩ := mm_len hk
    exact h.2 k h1
theorem mI.of {ad : Nat → Nat} {n : Nat} {A : Nat → Prop} {M : Nat → va_E} (h : va_D A (mm_l ad n M)) : mI ad n A :=
  ⟨fun i j hi hj e => h.1 i j _ _ (mm_at hi) (mm_at hj) e, fun k hk => h.2 k _ (mm_at hk)⟩
/-- the array classes: char, int, long, boolean, Argument -/
abbrev tyL (cy : Nat → ClassId) : List (ClassId × FieldType) := [(cy 0, .char), (cy 1, .int), (cy 2, .long), (cy 3, .boolean), (cy 4, .object "FormatDump$Argument")]
/-- the nest mates' private static methods that are called from other classes of the nest -/
abbrev nestL : List (String × Nat × MethodName) := [(RX3, 35, yX11_digitOf), (RX2, 107, yX11_digitOf), (RX5, 41, yX11_digitOf), (RX10, 114, yX11_canBeSeen), (RX6, 22, yX11_pairsWidth), (RX6, 52, yX11_endsGroup), (RX6, 60, yX11_seenAs), (RX7, 33, yX11_pairsWidth), (RX7, 69, yX11_digitOf), (RX7, 75, yX11_endsGroup), (RX7, 81, yX11_seenAs)]
def mK (D : va_G) (cy : Nat → ClassId) (s : State) : Prop := va_K D vwCl (tyL cy) s ∧ ∀ q ∈ nestL, va_Nw (.methodLinkNest q.1 q.2.1 q.2.2 "FormatDump") s
theorem mK.warm {D : va_G} {cy : Nat → ClassId} {s U : State} (h : mK D cy s) (hW : s.WarmedH U.vm) : mK D cy U := ⟨va_K.moved hW.alike h.1, fun q hq => va_Nw.warmM hW (h.2 q hq)⟩
/-- what a walk has in hand all the way -/
def mC (p : Program) (s : State) (m : MethodId) (args : Array Value) (c : Code) (cc : ByteArray) (nL : Nat) (own : String) (Ts : List Cond) (D : va_G) (cy : Nat → ClassId) (ad : Nat → Nat) (n : Nat) (A : Nat → Prop) : Prop :=
  CallFix p m c cc nL s args Ts own ∧ mK D cy s ∧ mI ad n A ∧ ∀ q, s.heap.size ≤ q → A q
/-- the machine at pc, locals lv, stack st, memory M, comes to Q -/
def mW (p : Program) (l : Launch) (e : Env) (R : Room) (s : State) (m : MethodId) (args : Array Value) (below : List Frame) (meth : Method) (c : Code) (D : va_G) (A : Nat → Prop) (nL : Nat) (cells slots : Nat) (Q : State → Prop) (ad : Nat → Nat) (n : Nat) (M : Nat → va_E) (pc : Nat) (lv : List (Nat × Value)) (st : List Value) : Prop :=
  ∀ (H : Heap) (locs : List Loc) (ls : Array Slot), mm D ad n M H → va_S A s.heap H locs → lv_has ls nL lv → W p l e R s m args below meth c H locs cells slots Q (F0 m pc ls st)
/-- a contract's start and end over the memory -/
def mPc (D : va_G) (cy : Nat → ClassId) (ad : Nat → Nat) (n : Nat) (A : Nat → Prop) (as : List Value) (M : Nat → va_E) : Array Value → State → Prop :=
  va_Pc as (fun U => mm D ad n M U.heap ∧ mK D cy U ∧ ∀ q, U.heap.size ≤ q → A q)
def mB (D : va_G) (ad : Nat → Nat) (n : Nat) (M : Nat → va_E) (t : State) : Prop := mm D ad n M t.heap
def mMv (l : Launch) (y : MethodName) (ws : List Cond) (rm : Room) (D : va_G) (cy : Nat → ClassId) (ad : Nat → Nat) (n : Nat) (A : Nat → Prop) (as : List Value) (M : Nat → va_E) (post : (Nat → va_E) → Prop) : Prop :=
  Met l y ws rm (mPc D cy ad n A as M) (va_Qv post (mB D ad n) A) 0 0 A
def mMi (l : Launch) (y : MethodName) (ws : List Cond) (rm : Room) (D : va_G) (cy : Nat → ClassId) (ad : Nat → Nat) (n : Nat) (A : Nat → Prop) (as : List Value) (M : Nat → va_E) (post : Int32 → (Nat → va_E) → Prop) : Prop :=
  Met l y ws rm (mPc D cy ad n A as M) (va_Qi post (mB D ad n) A) 0 0 A
def mMl (l : Launch) (y : MethodName) (ws : List Cond) (rm : Room) (D : va_G) (cy : Nat → ClassId) (ad : Nat → Nat) (n : Nat) (A : Nat → Prop) (as : List Value) (M : Nat → va_E) (post : Int64 → (Nat → va_E) → Prop) : Prop :=
  Met l y ws rm (mPc D cy ad n A as M) (va_Ql post (mB D ad n) A) 0 0 A
def mMq (l : Launch) (y : MethodName) (ws : List Cond) (rm : Room) (D : va_G) (cy : Nat → ClassId) (ad : Nat → Nat) (n : Nat) (A : Nat → Prop) (as : List Value) (M : Nat → va_E) (post : Option Nat → (Nat → va_E) → Prop) : Prop :=
  Met l y ws rm (mPc D cy ad n A as M) (va_Qq post (mB D ad n) A) 0 0 A
/-- nothing but the objects of S has changed -/
def Fr (S : List Nat) (M M' : Nat → va_E) : Prop := ∀ k, k ∉ S → M' k = M k
theorem Fr.rf {S : List Nat} {M : Nat → va_E} : Fr S M M := fun _ _ => rfl
theorem Fr.tr {S : List Nat} {M M' M'' : Nat → va_E} (h : Fr S M M') (h' : Fr S M' M'') : Fr S M M'' := fun k hk => (h' k hk).trans (h k hk)
theorem Fr.up {S : List Nat} {M M' : Nat → va_E} {k : Nat} {e : va_E} (h : Fr S M M') (hk : k ∈ S) : Fr S M (va_up M' k e) := fun j hj => by
  rw [va_up_ne _ _ (fun q => hj (by rw [q]; exact hk))]; exact h j hj
theorem Fr.sub {S S' : List Nat} {M M' : Nat → va_E} (h : Fr S M M') (hs : ∀ k ∈ S, k ∈ S') : Fr S' M M' := fun k hk => h k (fun q => hk (hs k q))
theorem up_up {α : Type} (f : Nat → α) (k : Nat) (v w : α) : va_up (va_up f k v) k w = va_up f k w := bx_uu f k v w
theorem nmc {a b : Int} {l : List Int} (h : ¬ a = b) (hl : a ∉ l) : a ∉ b :: l := fun q => (List.mem_cons.mp q).elim h hl
/-- where a table's switch goes -/
def tabOff (dflt lo hi : Int) (offs : Array Int) (z : Int) : Int := if z < lo ∨ hi < z then dflt else (offs[(z - lo).toNat]?).getD dflt
theorem tab_def {dflt lo hi : Int} {offs : Array Int} {z : Int} (keys : List Int) (h : ∀ j, j < offs.size → (lo + (j : Int)) ∈ keys ∨ offs[j]? = some dflt) (hs : hi - lo + 1 = offs.size) (hz : z ∉ keys) : tabOff dflt lo hi offs z = dflt := by
  unfold tabOff
  by_cases q : z < lo ∨ hi < z
  · rw [if_pos q]
  · rw [if_neg q]
    have hj : (z - lo).toNat < offs.size := by omega
    rcases h _ hj with h1 | h1
    · exact absurd (by rw [show z = lo + ((z - lo).toNat : Int) by omega]; exact h1) hz
    · rw [h1]; rfl
section MEM
variable {p : Program} {l : Launch} {e : Env} {R : Room} {s : State} {m : MethodId} {args : Array Value} {below : List Frame} {meth : Method} {c : Code} {cells slots : Nat} {Q : State → Prop} {D : va_G} {cy : Nat → ClassId} {ad : Nat → Nat} {n : Nat} {A : Nat → Prop} {nL : Nat} {M : Nat → va_E} {pc pc' : Nat} {lv lv' : List (Nat × Value)} {st : List Value} {cc : ByteArray} {own : String} {Ts : List Cond}

theorem m_iconst (C : mC p s m args c cc nL own Ts D cy ad n A) {k : Int} {v : Int32} (hd : decode cc pc = .ok (.iconst k, 1)) (hv : Int32.ofInt k = v) (hp : pc + 1 = pc') (kk : mW p l e R s m args below meth c D A nL cells slots Q ad n M pc' lv (.int v :: st)) : mW p l e R s m args below meth c D A nL cells slots Q ad n M pc lv st := by
  subst hp
  exact fun H locs ls hP hS hl => lv_iconst C.1.1 C.1.2.1 hd hv (kk H locs ls hP hS hl)
theorem m_bipush (C : mC p s m args c cc nL own Ts D cy ad n A) {k : Int} {v : Int32} (hd : decode cc pc = .ok (.bipush k, 2)) (hv : (Int8.ofInt k).toInt32 = v) (hp : pc + 2 = pc') (kk : mW p l e R s m args below meth c D A nL cells slots Q ad n M pc' lv (.int v :: st)) : mW p l e R s m args below meth c D A nL cells slots Q ad n M pc lv st := by
  subst hp
  exact fun H locs ls hP hS hl => lv_bipush C.1.1 C.1.2.1 hd hv (kk H locs ls hP hS hl)
theorem m_sipush (C : mC p s m args c cc nL own Ts D cy ad n A) {k : Int} {v : Int32} (hd : decode cc pc = .ok (.sipush k, 3)) (hv : (Int16.ofInt k).toInt32 = v) (hp : pc + 3 = pc') (kk : mW p l e R s m args below meth c D A nL cells slots Q ad n M pc' lv (.int v :: st)) : mW p l e R s m args below meth c D A nL cells slots Q ad n M pc lv st := by
  subst hp
  exact fun H locs ls hP hS hl => lv_sipush C.1.1 C.1.2.1 hd hv (kk H locs ls hP hS hl)
theorem m_lconst (C : mC p s m args c cc nL own Ts D cy ad n A) {k : Fin 2} {v : Int64} (hd : decode cc pc = .ok (.lconst k, 1)) (hv : Int64.ofNat (k : Nat) = v) (hp : pc + 1 = pc') (kk : mW p l e R s m args below meth c D A nL cells slots Q ad n M pc' lv (.long v :: st)) : mW p l e R s m args below meth c D A nL cells slots Q ad n M pc lv st := by
  subst hp
  exact fun H locs ls hP hS hl => lv_lconst C.1.1 C.1.2.1 hd hv (kk H locs ls hP hS hl)
theorem m_null (C : mC p s m args c cc nL own Ts D cy ad n A)  (hd : decode cc pc = .ok (.aconst_null, 1))  (hp : pc + 1 = pc') (kk : mW p l e R s m args below meth c D A nL cells slots Q ad n M pc' lv (.null :: st)) : mW p l e R s m args below meth c D A nL cells slots Q ad n M pc lv st := by
  subst hp
  exact fun H locs ls hP hS hl => lv_null C.1.1 C.1.2.1 hd  (kk H locs ls hP hS hl)
theorem m_ldc (C : mC p s m args c cc nL own Ts D cy ad n A) {ix : Nat} {v : Int32} (hd : decode cc pc = .ok (.ldc ix, 2)) (hm : Cond.constant own ix v ∈ Ts) (hp : pc + 2 = pc') (kk : mW p l e R s m args below meth c D A nL cells slots Q ad n M pc' lv (.int v :: st)) : mW p l e R s m args below meth c D A nL cells slots Q ad n M pc lv st := by
  subst hp
  exact fun H locs ls hP hS hl => lv_ldc C.1.1 C.1.2.1 C.1.2.2.2.1 (C.1.2.2.2.2 _ hm) hd (kk H locs ls hP hS hl)
theorem m_ldc2 (C : mC p s m args c cc nL own Ts D cy ad n A) {ix : Nat} {v : Int64} (hd : decode cc pc = .ok (.ldc2_w ix, 3)) (hm : Cond.constantLong own ix v ∈ Ts) (hp : pc + 3 = pc') (kk : mW p l e R s m args below meth c D A nL cells slots Q ad n M pc' lv (.long v :: st)) : mW p l e R s m args below meth c D A nL cells slots Q ad n M pc lv st := by
  subst hp
  exact fun H locs ls hP hS hl => lv_ldc2 C.1.1 C.1.2.1 C.1.2.2.2.1 (C.1.2.2.2.2 _ hm) hd (kk H locs ls hP hS hl)
theorem m_iload_n (C : mC p s m args c cc nL own Ts D cy ad n A) {f : Fin 4} {i : Nat} {x : Int32} (hd : decode cc pc = .ok (.iload_n f, 1)) (hi : (f : Nat) = i) (k : Nat) (hk : lv[k]? = some (i, .int x)) (hp : pc + 1 = pc') (kk : mW p l e R s m args below meth c D A nL cells slots Q ad n M pc' lv (.int x :: st)) : mW p l e R s m args below meth c D A nL cells slots Q ad n M pc lv st := by
  subst hp
  exact fun H locs ls hP hS hl => lv_iload_n C.1.1 C.1.2.1 hd hi (lv_at hl k hk) (kk H locs ls hP hS hl)
theorem m_iload (C : mC p s m args c cc nL own Ts D cy ad n A) {i : Nat} {x : Int32} (hd : decode cc pc = .ok (.iload i, 2)) (k : Nat) (hk : lv[k]? = some (i, .int x)) (hp : pc + 2 = pc') (kk : mW p l e R s m args below meth c D A nL cells slots Q ad n M pc' lv (.int x :: st)) : mW p l e R s m args below meth c D A nL cells slots Q ad n M pc lv st := by
  subst hp
  exact fun H locs ls hP hS hl => lv_iload C.1.1 C.1.2.1 hd (lv_at hl k hk) (kk H locs ls hP hS hl)
theorem m_lload_n (C : mC p s m args c cc nL own Ts D cy ad n A) {f : Fin 4} {i : Nat} {x : Int64} (hd : decode cc pc = .ok (.lload_n f, 1)) (hi : (f : Nat) = i) (k : Nat) (hk : lv[k]? = some (i, .long x)) (hp : pc + 1 = pc') (kk : mW p l e R s m args below meth c D A nL cells slots Q ad n M pc' lv (.long x :: st)) : mW p l e R s m args below meth c D A nL cells slots Q ad n M pc lv st := by
  subst hp
  exact fun H locs ls hP hS hl => lv_lload_n C.1.1 C.1.2.1 hd hi (lv_at hl k hk) (kk H locs ls hP hS hl)
theorem m_lload (C : mC p s m args c cc nL own Ts D cy ad n A) {i : Nat} {x : Int64} (hd : decode cc pc = .ok (.lload i, 2)) (k : Nat) (hk : lv[k]? = some (i, .long x)) (hp : pc + 2 = pc') (kk : mW p l e R s m args below meth c D A nL cells slots Q ad n M pc' lv (.long x :: st)) : mW p l e R s m args below meth c D A nL cells slots Q ad n M pc lv st := by
  subst hp
  exact fun H locs ls hP hS hl => lv_lload C.1.1 C.1.2.1 hd (lv_at hl k hk) (kk H locs ls hP hS hl)
theorem m_aload_n (C : mC p s m args c cc nL own Ts D cy ad n A) {f : Fin 4} {i : Nat} {x : Nat} (hd : decode cc pc = .ok (.aload_n f, 1)) (hi : (f : Nat) = i) (k : Nat) (hk : lv[k]? = some (i, .ref x)) (hp : pc + 1 = pc') (kk : mW p l e R s m args below meth c D A nL cells slots Q ad n M pc' lv (.ref x :: st)) : mW p l e R s m args below meth c D A nL cells slots Q ad n M pc lv st := by
  subst hp
  exact fun H locs ls hP hS hl => lv_aload_n C.1.1 C.1.2.1 hd hi (lv_at hl k hk) (kk H locs ls hP hS hl)
theorem m_aload (C : mC p s m args c cc nL own Ts D cy ad n A) {i : Nat} {x : Nat} (hd : decode cc pc = .ok (.aload i, 2)) (k : Nat) (hk : lv[k]? = some (i, .ref x)) (hp : pc + 2 = pc') (kk : mW p l e R s m args below meth c D A nL cells slots Q ad n M pc' lv (.ref x :: st)) : mW p l e R s m args below meth c D A nL cells slots Q ad n M pc lv st := by
  subst hp
  exact fun H locs ls hP hS hl => lv_aload C.1.1 C.1.2.1 hd (lv_at hl k hk) (kk H locs ls hP hS hl)
theorem m_istore_n (C : mC p s m args c cc nL own Ts D cy ad n A) {f : Fin 4} {i : Nat} {x : Int32} (hd : decode cc pc = .ok (.istore_n f, 1)) (hi : (f : Nat) = i) (hn : i < nL) (hl : (i, Value.int x) :: lv.filter (fun q => !(q.1 == i) && !(q.1 + 1 == i && q.2.category == 2)) = lv') (hp : pc + 1 = pc') (kk : mW p l e R s m args below meth c D A nL cells slots Q ad n M pc' lv' st) : mW p l e R s m args below meth c D A nL cells slots Q ad n M pc lv (.int x :: st) := by
  subst hp
  exact fun H locs ls hP hS h => lv_istore_n C.1.1 C.1.2.1 hd hi h hn hl (fun ls' h' => kk H locs ls' hP hS h')
theorem m_istore (C : mC p s m args c cc nL own Ts D cy ad n A) {i : Nat} {x : Int32} (hd : decode cc pc = .ok (.istore i, 2)) (hn : i < nL) (hl : (i, Value.int x) :: lv.filter (fun q => !(q.1 == i) && !(q.1 + 1 == i && q.2.category == 2)) = lv') (hp : pc + 2 = pc') (kk : mW p l e R s m args below meth c D A nL cells slots Q ad n M pc' lv' st) : mW p l e R s m args below meth c D A nL cells slots Q ad n M pc lv (.int x :: st) := by
  subst hp
  exact fun H locs ls hP hS h => lv_istore C.1.1 C.1.2.1 hd h hn hl (fun ls' h' => kk H locs ls' hP hS h')
theorem m_lstore_n (C : mC p s m args c cc nL own Ts D cy ad n A) {f : Fin 4} {i : Nat} {x : Int64} (hd : decode cc pc = .ok (.lstore_n f, 1)) (hi : (f : Nat) = i) (hn : i + 1 < nL) (hl : (i, Value.long x) :: lv.filter (fun q => !(q.1 == i) && (!(q.1 == i + 1) && !(q.1 + 1 == i && q.2.category == 2))) = lv') (hp : pc + 1 = pc') (kk : mW p l e R s m args below meth c D A nL cells slots Q ad n M pc' lv' st) : mW p l e R s m args below meth c D A nL cells slots Q ad n M pc lv (.long x :: st) := by
  subst hp
  exact fun H locs ls hP hS h => lv_lstore_n C.1.1 C.1.2.1 hd hi h hn hl (fun ls' h' => kk H locs ls' hP hS h')
theorem m_lstore (C : mC p s m args c cc nL own Ts D cy ad n A) {i : Nat} {x : Int64} (hd : decode cc pc = .ok (.lstore i, 2)) (hn : i + 1 < nL) (hl : (i, Value.long x) :: lv.filter (fun q => !(q.1 == i) && (!(q.1 == i + 1) && !(q.1 + 1 == i && q.2.category == 2))) = lv') (hp : pc + 2 = pc') (kk : mW p l e R s m args below meth c D A nL cells slots Q ad n M pc' lv' st) : mW p l e R s m args below meth c D A nL cells slots Q ad n M pc lv (.long x :: st) := by
  subst hp
  exact fun H locs ls hP hS h => lv_lstore C.1.1 C.1.2.1 hd h hn hl (fun ls' h' => kk H locs ls' hP hS h')
theorem m_astore_n (C : mC p s m args c cc nL own Ts D cy ad n A) {f : Fin 4} {i : Nat} {x : Nat} (hd : decode cc pc = .ok (.astore_n f, 1)) (hi : (f : Nat) = i) (hn : i < nL) (hl : (i, Value.ref x) :: lv.filter (fun q => !(q.1 == i) && !(q.1 + 1 == i && q.2.category == 2)) = lv') (hp : pc + 1 = pc') (kk : mW p l e R s m args below meth c D A nL cells slots Q ad n M pc' lv' st) : mW p l e R s m args below meth c D A nL cells slots Q ad n M pc lv (.ref x :: st) := by
  subst hp
  exact fun H locs ls hP hS h => lv_astore_n C.1.1 C.1.2.1 hd hi h hn hl (fun ls' h' => kk H locs ls' hP hS h')
theorem m_astore (C : mC p s m args c cc nL own Ts D cy ad n A) {i : Nat} {x : Nat} (hd : decode cc pc = .ok (.astore i, 2)) (hn : i < nL) (hl : (i, Value.ref x) :: lv.filter (fun q => !(q.1 == i) && !(q.1 + 1 == i && q.2.category == 2)) = lv') (hp : pc + 2 = pc') (kk : mW p l e R s m args below meth c D A nL cells slots Q ad n M pc' lv' st) : mW p l e R s m args below meth c D A nL cells slots Q ad n M pc lv (.ref x :: st) := by
  subst hp
  exact fun H locs ls hP hS h => lv_astore C.1.1 C.1.2.1 hd h hn hl (fun ls' h' => kk H locs ls' hP hS h')
theorem m_iinc (C : mC p s m args c cc nL own Ts D cy ad n A) {i k : Nat} {d : Int} {x v : Int32} (hd : decode cc pc = .ok (.iinc i d, 3)) (hk : lv[k]? = some (i, .int x)) (hv : x + Int32.ofInt d = v) (hn : i < nL) (hl : (i, Value.int v) :: lv.filter (fun q => !(q.1 == i) && !(q.1 + 1 == i && q.2.category == 2)) = lv') (hp : pc + 3 = pc') (kk : mW p l e R s m args below meth c D A nL cells slots Q ad n M pc' lv' st) : mW p l e R s m args below meth c D A nL cells slots Q ad n M pc lv st := by
  subst hp
  exact fun H locs ls hP hS h => lv_iinc C.1.1 C.1.2.1 hd h hk hv hn hl (fun ls' h' => kk H locs ls' hP hS h')
theorem m_iadd (C : mC p s m args c cc nL own Ts D cy ad n A) {x y v : Int32} (hd : decode cc pc = .ok (.iadd, 1))  (hv : x + y = v) (hp : pc + 1 = pc') (kk : mW p l e R s m args below meth c D A nL cells slots Q ad n M pc' lv (.int v :: st)) : mW p l e R s m args below meth c D A nL cells slots Q ad n M pc lv (.int y :: .int x :: st) := by
  subst hp
  subst hv
  exact fun H locs ls hP hS hl => lv_iadd C.1.1 C.1.2.1 hd  (kk H locs ls hP hS hl)
theorem m_isub (C : mC p s m args c cc nL own Ts D cy ad n A) {x y v : Int32} (hd : decode cc pc = .ok (.isub, 1))  (hv : x - y = v) (hp : pc + 1 = pc') (kk : mW p l e R s m args below meth c D A nL cells slots Q ad n M pc' lv (.int v :: st)) : mW p l e R s m args below meth c D A nL cells slots Q ad n M pc lv (.int y :: .int x :: st) := by
  subst hp
  subst hv
  exact fun H locs ls hP hS hl => lv_isub C.1.1 C.1.2.1 hd  (kk H locs ls hP hS hl)
theorem m_imul (C : mC p s m args c cc nL own Ts D cy ad n A) {x y v : Int32} (hd : decode cc pc = .ok (.imul, 1))  (hv : x * y = v) (hp : pc + 1 = pc') (kk : mW p l e R s m args below meth c D A nL cells slots Q ad n M pc' lv (.int v :: st)) : mW p l e R s m args below meth c D A nL cells slots Q ad n M pc lv (.int y :: .int x :: st) := by
  subst hp
  subst hv
  exact fun H locs ls hP hS hl => lv_imul C.1.1 C.1.2.1 hd  (kk H locs ls hP hS hl)
theorem m_iand (C : mC p s m args c cc nL own Ts D cy ad n A) {x y v : Int32} (hd : decode cc pc = .ok (.iand, 1))  (hv : x &&& y = v) (hp : pc + 1 = pc') (kk : mW p l e R s m args below meth c D A nL cells slots Q ad n M pc' lv (.int v :: st)) : mW p l e R s m args below meth c D A nL cells slots Q ad n M pc lv (.int y :: .int x :: st) := by
  subst hp
  subst hv
  exact fun H locs ls hP hS hl => lv_iand C.1.1 C.1.2.1 hd  (kk H locs ls hP hS hl)
theorem m_ior (C : mC p s m args c cc nL own Ts D cy ad n A) {x y v : Int32} (hd : decode cc pc = .ok (.ior, 1))  (hv : x ||| y = v) (hp : pc + 1 = pc') (kk : mW p l e R s m args below meth c D A nL cells slots Q ad n M pc' lv (.int v :: st)) : mW p l e R s m args below meth c D A nL cells slots Q ad n M pc lv (.int y :: .int x :: st) := by
  subst hp
  subst hv
  exact fun H locs ls hP hS hl => lv_ior C.1.1 C.1.2.1 hd  (kk H locs ls hP hS hl)
theorem m_ixor (C : mC p s m args c cc nL own Ts D cy ad n A) {x y v : Int32} (hd : decode cc pc = .ok (.ixor, 1))  (hv : x ^^^ y = v) (hp : pc + 1 = pc') (kk : mW p l e R s m args below meth c D A nL cells slots Q ad n M pc' lv (.int v :: st)) : mW p l e R s m args below meth c D A nL cells slots Q ad n M pc lv (.int y :: .int x :: st) := by
  subst hp
  subst hv
  exact fun H locs ls hP hS hl => lv_ixor C.1.1 C.1.2.1 hd  (kk H locs ls hP hS hl)
theorem m_ishl (C : mC p s m args c cc nL own Ts D cy ad n A) {x y v : Int32} (hd : decode cc pc = .ok (.ishl, 1))  (hv : x <<< (y &&& 31) = v) (hp : pc + 1 = pc') (kk : mW p l e R s m args below meth c D A nL cells slots Q ad n M pc' lv (.int v :: st)) : mW p l e R s m args below meth c D A nL cells slots Q ad n M pc lv (.int y :: .int x :: st) := by
  subst hp
  subst hv
  exact fun H locs ls hP hS hl => lv_ishl C.1.1 C.1.2.1 hd  (kk H locs ls hP hS hl)
theorem m_ishr (C : mC p s m args c cc nL own Ts D cy ad n A) {x y v : Int32} (hd : decode cc pc = .ok (.ishr, 1))  (hv : x >>> (y &&& 31) = v) (hp : pc + 1 = pc') (kk : mW p l e R s m args below meth c D A nL cells slots Q ad n M pc' lv (.int v :: st)) : mW p l e R s m args below meth c D A nL cells slots Q ad n M pc lv (.int y :: .int x :: st) := by
  subst hp
  subst hv
  exact fun H locs ls hP hS hl => lv_ishr C.1.1 C.1.2.1 hd  (kk H locs ls hP hS hl)
theorem m_idiv (C : mC p s m args c cc nL own Ts D cy ad n A) {x y v : Int32} (hd : decode cc pc = .ok (.idiv, 1)) (hne : ¬ y = 0) (hv : x / y = v) (hp : pc + 1 = pc') (kk : mW p l e R s m args below meth c D A nL cells slots Q ad n M pc' lv (.int v :: st)) : mW p l e R s m args below meth c D A nL cells slots Q ad n M pc lv (.int y :: .int x :: st) := by
  subst hp
  subst hv
  exact fun H locs ls hP hS hl => lv_idiv C.1.1 C.1.2.1 hd hne (kk H locs ls hP hS hl)
theorem m_irem (C : mC p s m args c cc nL own Ts D cy ad n A) {x y v : Int32} (hd : decode cc pc = .ok (.irem, 1)) (hne : ¬ y = 0) (hv : x - x / y * y = v) (hp : pc + 1 = pc') (kk : mW p l e R s m args below meth c D A nL cells slots Q ad n M pc' lv (.int v :: st)) : mW p l e R s m args below meth c D A nL cells slots Q ad n M pc lv (.int y :: .int x :: st) := by
  subst hp
  subst hv
  exact fun H locs ls hP hS hl => lv_irem C.1.1 C.1.2.1 hd hne (kk H locs ls hP hS hl)
theorem m_ineg (C : mC p s m args c cc nL own Ts D cy ad n A) {x v : Int32} (hd : decode cc pc = .ok (.ineg, 1))  (hv : -x = v) (hp : pc + 1 = pc') (kk : mW p l e R s m args below meth c D A nL cells slots Q ad n M pc' lv (.int v :: st)) : mW p l e R s m args below meth c D A nL cells slots Q ad n M pc lv (.int x :: st) := by
  subst hp
  subst hv
  exact fun H locs ls hP hS hl => lv_ineg C.1.1 C.1.2.1 hd  (kk H locs ls hP hS hl)
theorem m_ladd (C : mC p s m args c cc nL own Ts D cy ad n A) {x y v : Int64} (hd : decode cc pc = .ok (.ladd, 1))  (hv : x + y = v) (hp : pc + 1 = pc') (kk : mW p l e R s m args below meth c D A nL cells slots Q ad n M pc' lv (.long v :: st)) : mW p l e R s m args below meth c D A nL cells slots Q ad n M pc lv (.long y :: .long x :: st) := by
  subst hp
  subst hv
  exact fun H locs ls hP hS hl => lv_ladd C.1.1 C.1.2.1 hd  (kk H locs ls hP hS hl)
theorem m_lsub (C : mC p s m args c cc nL own Ts D cy ad n A) {x y v : Int64} (hd : decode cc pc = .ok (.lsub, 1))  (hv : x - y = v) (hp : pc + 1 = pc') (kk : mW p l e R s m args below meth c D A nL cells slots Q ad n M pc' lv (.long v :: st)) : mW p l e R s m args below meth c D A nL cells slots Q ad n M pc lv (.long y :: .long x :: st) := by
  subst hp
  subst hv
  exact fun H locs ls hP hS hl => lv_lsub C.1.1 C.1.2.1 hd  (kk H locs ls hP hS hl)
theorem m_lmul (C : mC p s m args c cc nL own Ts D cy ad n A) {x y v : Int64} (hd : decode cc pc = .ok (.lmul, 1))  (hv : x * y = v) (hp : pc + 1 = pc') (kk : mW p l e R s m args below meth c D A nL cells slots Q ad n M pc' lv (.long v :: st)) : mW p l e R s m args below meth c D A nL cells slots Q ad n M pc lv (.long y :: .long x :: st) := by
  subst hp
  subst hv
  exact fun H locs ls hP hS hl => lv_lmul C.1.1 C.1.2.1 hd  (kk H locs ls hP hS hl)
theorem m_land (C : mC p s m args c cc nL own Ts D cy ad n A) {x y v : Int64} (hd : decode cc pc = .ok (.land, 1))  (hv : x &&& y = v) (hp : pc + 1 = pc') (kk : mW p l e R s m args below meth c D A nL cells slots Q ad n M pc' lv (.long v :: st)) : mW p l e R s m args below meth c D A nL cells slots Q ad n M pc lv (.long y :: .long x :: st) := by
  subst hp
  subst hv
  exact fun H locs ls hP hS hl => lv_land C.1.1 C.1.2.1 hd  (kk H locs ls hP hS hl)
theorem m_lor (C : mC p s m args c cc nL own Ts D cy ad n A) {x y v : Int64} (hd : decode cc pc = .ok (.lor, 1))  (hv : x ||| y = v) (hp : pc + 1 = pc') (kk : mW p l e R s m args below meth c D A nL cells slots Q ad n M pc' lv (.long v :: st)) : mW p l e R s m args below meth c D A nL cells slots Q ad n M pc lv (.long y :: .long x :: st) := by
  subst hp
  subst hv
  exact fun H locs ls hP hS hl => lv_lor C.1.1 C.1.2.1 hd  (kk H locs ls hP hS hl)
theorem m_ldiv (C : mC p s m args c cc nL own Ts D cy ad n A) {x y v : Int64} (hd : decode cc pc = .ok (.ldiv, 1)) (hne : ¬ y = 0) (hv : x / y = v) (hp : pc + 1 = pc') (kk : mW p l e R s m args below meth c D A nL cells slots Q ad n M pc' lv (.long v :: st)) : mW p l e R s m args below meth c D A nL cells slots Q ad n M pc lv (.long y :: .long x :: st) := by
  subst hp
  subst hv
  exact fun H locs ls hP hS hl => lv_ldiv C.1.1 C.1.2.1 hd hne (kk H locs ls hP hS hl)
theorem m_lneg (C : mC p s m args c cc nL own Ts D cy ad n A) {x v : Int64} (hd : decode cc pc = .ok (.lneg, 1))  (hv : -x = v) (hp : pc + 1 = pc') (kk : mW p l e R s m args below meth c D A nL cells slots Q ad n M pc' lv (.long v :: st)) : mW p l e R s m args below meth c D A nL cells slots Q ad n M pc lv (.long x :: st) := by
  subst hp
  subst hv
  exact fun H locs ls hP hS hl => lv_lneg C.1.1 C.1.2.1 hd  (kk H locs ls hP hS hl)
theorem m_iushr (C : mC p s m args c cc nL own Ts D cy ad n A) {x y v : Int32} (hd : decode cc pc = .ok (.iushr, 1))  (hv : (x.toUInt32 >>> (y.toUInt32 &&& Int32.toUInt32 31)).toInt32 = v) (hp : pc + 1 = pc') (kk : mW p l e R s m args below meth c D A nL cells slots Q ad n M pc' lv (.int v :: st)) : mW p l e R s m args below meth c D A nL cells slots Q ad n M pc lv (.int y :: .int x :: st) := by
  subst hp
  subst hv
  exact fun H locs ls hP hS hl => lv_iushr C.1.1 C.1.2.1 hd rfl (kk H locs ls hP hS hl)
theorem m_lushr (C : mC p s m args c cc nL own Ts D cy ad n A) {x v : Int64} {y : Int32} (hd : decode cc pc = .ok (.lushr, 1))  (hv : (x.toUInt64 >>> (y.toInt64.toUInt64 &&& Int64.toUInt64 63)).toInt64 = v) (hp : pc + 1 = pc') (kk : mW p l e R s m args below meth c D A nL cells slots Q ad n M pc' lv (.long v :: st)) : mW p l e R s m args below meth c D A nL cells slots Q ad n M pc lv (.int y :: .long x :: st) := by
  subst hp
  subst hv
  exact fun H locs ls hP hS hl => lv_lushr C.1.1 C.1.2.1 hd rfl (kk H locs ls hP hS hl)
theorem m_lshl (C : mC p s m args c cc nL own Ts D cy ad n A) {x v : Int64} {y : Int32} (hd : decode cc pc = .ok (.lshl, 1))  (hv : x <<< (y.toInt64 &&& 63) = v) (hp : pc + 1 = pc') (kk : mW p l e R s m args below meth c D A nL cells slots Q ad n M pc' lv (.long v :: st)) : mW p l e R s m args below meth c D A nL cells slots Q ad n M pc lv (.int y :: .long x :: st) := by
  subst hp
  subst hv
  exact fun H locs ls hP hS hl => lv_lshl C.1.1 C.1.2.1 hd rfl (kk H locs ls hP hS hl)
theorem m_lshr (C : mC p s m args c cc nL own Ts D cy ad n A) {x v : Int64} {y : Int32} (hd : decode cc pc = .ok (.lshr, 1))  (hv : x >>> (y.toInt64 &&& 63) = v) (hp : pc + 1 = pc') (kk : mW p l e R s m args below meth c D A nL cells slots Q ad n M pc' lv (.long v :: st)) : mW p l e R s m args below meth c D A nL cells slots Q ad n M pc lv (.int y :: .long x :: st) := by
  subst hp
  subst hv
  exact fun H locs ls hP hS hl => lv_lshr C.1.1 C.1.2.1 hd rfl (kk H locs ls hP hS hl)
theorem m_i2l (C : mC p s m args c cc nL own Ts D cy ad n A) {x : Int32} {v : Int64} (hd : decode cc pc = .ok (.i2l, 1))  (hv : x.toInt64 = v) (hp : pc + 1 = pc') (kk : mW p l e R s m args below meth c D A nL cells slots Q ad n M pc' lv (.long v :: st)) : mW p l e R s m args below meth c D A nL cells slots Q ad n M pc lv (.int x :: st) := by
  subst hp
  subst hv
  exact fun H locs ls hP hS hl => lv_i2l C.1.1 C.1.2.1 hd rfl (kk H locs ls hP hS hl)
theorem m_l2i (C : mC p s m args c cc nL own Ts D cy ad n A) {x : Int64} {v : Int32} (hd : decode cc pc = .ok (.l2i, 1))  (hv : x.toInt32 = v) (hp : pc + 1 = pc') (kk : mW p l e R s m args below meth c D A nL cells slots Q ad n M pc' lv (.int v :: st)) : mW p l e R s m args below meth c D A nL cells slots Q ad n M pc lv (.long x :: st) := by
  subst hp
  subst hv
  exact fun H locs ls hP hS hl => lv_l2i C.1.1 C.1.2.1 hd rfl (kk H locs ls hP hS hl)
theorem m_i2c (C : mC p s m args c cc nL own Ts D cy ad n A) {x v : Int32} (hd : decode cc pc = .ok (.i2c, 1))  (hv : (x.toUInt32 % 65536).toInt32 = v) (hp : pc + 1 = pc') (kk : mW p l e R s m args below meth c D A nL cells slots Q ad n M pc' lv (.int v :: st)) : mW p l e R s m args below meth c D A nL cells slots Q ad n M pc lv (.int x :: st) := by
  subst hp
  subst hv
  exact fun H locs ls hP hS hl => lv_i2c C.1.1 C.1.2.1 hd rfl (kk H locs ls hP hS hl)
theorem m_dup (C : mC p s m args c cc nL own Ts D cy ad n A) {va : Value} (hd : decode cc pc = .ok (.dup, 1)) (h1 : va.category = 1) (hp : pc + 1 = pc') (kk : mW p l e R s m args below meth c D A nL cells slots Q ad n M pc' lv (va :: va :: st)) : mW p l e R s m args below meth c D A nL cells slots Q ad n M pc lv (va :: st) := by
  subst hp
  exact fun H locs ls hP hS hl => lv_dup C.1.1 C.1.2.1 hd h1 (kk H locs ls hP hS hl)
theorem m_pop (C : mC p s m args c cc nL own Ts D cy ad n A) {va : Value} (hd : decode cc pc = .ok (.pop, 1)) (h1 : va.category = 1) (hp : pc + 1 = pc') (kk : mW p l e R s m args below meth c D A nL cells slots Q ad n M pc' lv st) : mW p l e R s m args below meth c D A nL cells slots Q ad n M pc lv (va :: st) := by
  subst hp
  exact fun H locs ls hP hS hl => lv_pop C.1.1 C.1.2.1 hd h1 (kk H locs ls hP hS hl)
theorem m_dup_x1 (C : mC p s m args c cc nL own Ts D cy ad n A) {va vb : Value} (hd : decode cc pc = .ok (.dup_x1, 1)) (h1 : va.category = 1) (h2 : vb.category = 1) (hp : pc + 1 = pc') (kk : mW p l e R s m args below meth c D A nL cells slots Q ad n M pc' lv (va :: vb :: va :: st)) : mW p l e R s m args below meth c D A nL cells slots Q ad n M pc lv (va :: vb :: st) := by
  subst hp
  exact fun H locs ls hP hS hl => lv_dup_x1 C.1.1 C.1.2.1 hd h1 h2 (kk H locs ls hP hS hl)
theorem m_dup2_11 (C : mC p s m args c cc nL own Ts D cy ad n A) {va vb : Value} (hd : decode cc pc = .ok (.dup2, 1)) (h1 : va.category = 1) (h2 : vb.category = 1) (hp : pc + 1 = pc') (kk : mW p l e R s m args below meth c D A nL cells slots Q ad n M pc' lv (va :: vb :: va :: vb :: st)) : mW p l e R s m args below meth c D A nL cells slots Q ad n M pc lv (va :: vb :: st) := by
  subst hp
  exact fun H locs ls hP hS hl => lv_dup2_11 C.1.1 C.1.2.1 hd h1 h2 (kk H locs ls hP hS hl)
theorem m_if_eq (C : mC p s m args c cc nL own Ts D cy ad n A) {x : Int32} {off : Int} {tgt : Nat} (hd : decode cc pc = .ok (.ifCond .eq off, 3)) (ht : (pc : Int) + off = (tgt : Int)) (hp : pc + 3 = pc') (kt : x = 0 → mW p l e R s m args below meth c D A nL cells slots Q ad n M tgt lv st) (kf : ¬ (x = 0) → mW p l e R s m args below meth c D A nL cells slots Q ad n M pc' lv st) : mW p l e R s m args below meth c D A nL cells slots Q ad n M pc lv (.int x :: st) := by
  subst hp
  exact fun H locs ls hP hS hl => lv_if_eq C.1.1 C.1.2.1 hd ht (fun h => kt (by first | exact h | simpa using h) H locs ls hP hS hl) (fun h => kf (by first | exact h | simpa using h) H locs ls hP hS hl)
theorem m_if_ne (C : mC p s m args c cc nL own Ts D cy ad n A) {x : Int32} {off : Int} {tgt : Nat} (hd : decode cc pc = .ok (.ifCond .ne off, 3)) (ht : (pc : Int) + off = (tgt : Int)) (hp : pc + 3 = pc') (kt : ¬ x = 0 → mW p l e R s m args below meth c D A nL cells slots Q ad n M tgt lv st) (kf : ¬ (¬ x = 0) → mW p l e R s m args below meth c D A nL cells slots Q ad n M pc' lv st) : mW p l e R s m args below meth c D A nL cells slots Q ad n M pc lv (.int x :: st) := by
  subst hp
  exact fun H locs ls hP hS hl => lv_if_ne C.1.1 C.1.2.1 hd ht (fun h => kt (by first | exact h | simpa using h) H locs ls hP hS hl) (fun h => kf (by first | exact h | simpa using h) H locs ls hP hS hl)
theorem m_if_lt (C : mC p s m args c cc nL own Ts D cy ad n A) {x : Int32} {off : Int} {tgt : Nat} (hd : decode cc pc = .ok (.ifCond .lt off, 3)) (ht : (pc : Int) + off = (tgt : Int)) (hp : pc + 3 = pc') (kt : x < 0 → mW p l e R s m args below meth c D A nL cells slots Q ad n M tgt lv st) (kf : ¬ (x < 0) → mW p l e R s m args below meth c D A nL cells slots Q ad n M pc' lv st) : mW p l e R s m args below meth c D A nL cells slots Q ad n M pc lv (.int x :: st) := by
  subst hp
  exact fun H locs ls hP hS hl => lv_if_lt C.1.1 C.1.2.1 hd ht (fun h => kt (by first | exact h | simpa using h) H locs ls hP hS hl) (fun h => kf (by first | exact h | simpa using h) H locs ls hP hS hl)
theorem m_if_ge (C : mC p s m args c cc nL own Ts D cy ad n A) {x : Int32} {off : Int} {tgt : Nat} (hd : decode cc pc = .ok (.ifCond .ge off, 3)) (ht : (pc : Int) + off = (tgt : Int)) (hp : pc + 3 = pc') (kt : 0 ≤ x → mW p l e R s m args below meth c D A nL cells slots Q ad n M tgt lv st) (kf : ¬ (0 ≤ x) → mW p l e R s m args below meth c D A nL cells slots Q ad n M pc' lv st) : mW p l e R s m args below meth c D A nL cells slots Q ad n M pc lv (.int x :: st) := by
  subst hp
  exact fun H locs ls hP hS hl => lv_if_ge C.1.1 C.1.2.1 hd ht (fun h => kt (by first | exact h | simpa using h) H locs ls hP hS hl) (fun h => kf (by first | exact h | simpa using h) H locs ls hP hS hl)
theorem m_if_gt (C : mC p s m args c cc nL own Ts D cy ad n A) {x : Int32} {off : Int} {tgt : Nat} (hd : decode cc pc = .ok (.ifCond .gt off, 3)) (ht : (pc : Int) + off = (tgt : Int)) (hp : pc + 3 = pc') (kt : 0 < x → mW p l e R s m args below meth c D A nL cells slots Q ad n M tgt lv st) (kf : ¬ (0 < x) → mW p l e R s m args below meth c D A nL cells slots Q ad n M pc' lv st) : mW p l e R s m args below meth c D A nL cells slots Q ad n M pc lv (.int x :: st) := by
  subst hp
  exact fun H locs ls hP hS hl => lv_if_gt C.1.1 C.1.2.1 hd ht (fun h => kt (by first | exact h | simpa using h) H locs ls hP hS hl) (fun h => kf (by first | exact h | simpa using h) H locs ls hP hS hl)
theorem m_if_le (C : mC p s m args c cc nL own Ts D cy ad n A) {x : Int32} {off : Int} {tgt : Nat} (hd : decode cc pc = .ok (.ifCond .le off, 3)) (ht : (pc : Int) + off = (tgt : Int)) (hp : pc + 3 = pc') (kt : x ≤ 0 → mW p l e R s m args below meth c D A nL cells slots Q ad n M tgt lv st) (kf : ¬ (x ≤ 0) → mW p l e R s m args below meth c D A nL cells slots Q ad n M pc' lv st) : mW p l e R s m args below meth c D A nL cells slots Q ad n M pc lv (.int x :: st) := by
  subst hp
  exact fun H locs ls hP hS hl => lv_if_le C.1.1 C.1.2.1 hd ht (fun h => kt (by first | exact h | simpa using h) H locs ls hP hS hl) (fun h => kf (by first | exact h | simpa using h) H locs ls hP hS hl)
theorem m_icmp_eq (C : mC p s m args c cc nL own Ts D cy ad n A) {x y : Int32} {off : Int} {tgt : Nat} (hd : decode cc pc = .ok (.if_icmp .eq off, 3)) (ht : (pc : Int) + off = (tgt : Int)) (hp : pc + 3 = pc') (kt : x = y → mW p l e R s m args below meth c D A nL cells slots Q ad n M tgt lv st) (kf : ¬ (x = y) → mW p l e R s m args below meth c D A nL cells slots Q ad n M pc' lv st) : mW p l e R s m args below meth c D A nL cells slots Q ad n M pc lv (.int y :: .int x :: st) := by
  subst hp
  exact fun H locs ls hP hS hl => lv_icmp_eq C.1.1 C.1.2.1 hd ht (fun h => kt (by first | exact h | simpa using h) H locs ls hP hS hl) (fun h => kf (by first | exact h | simpa using h) H locs ls hP hS hl)
theorem m_icmp_ne (C : mC p s m args c cc nL own Ts D cy ad n A) {x y : Int32} {off : Int} {tgt : Nat} (hd : decode cc pc = .ok (.if_icmp .ne off, 3)) (ht : (pc : Int) + off = (tgt : Int)) (hp : pc + 3 = pc') (kt : ¬ x = y → mW p l e R s m args below meth c D A nL cells slots Q ad n M tgt lv st) (kf : ¬ (¬ x = y) → mW p l e R s m args below meth c D A nL cells slots Q ad n M pc' lv st) : mW p l e R s m args below meth c D A nL cells slots Q ad n M pc lv (.int y :: .int x :: st) := by
  subst hp
  exact fun H locs ls hP hS hl => lv_icmp_ne C.1.1 C.1.2.1 hd ht (fun h => kt (by first | exact h | simpa using h) H locs ls hP hS hl) (fun h => kf (by first | exact h | simpa using h) H locs ls hP hS hl)
theorem m_icmp_lt (C : mC p s m args c cc nL own Ts D cy ad n A) {x y : Int32} {off : Int} {tgt : Nat} (hd : decode cc pc = .ok (.if_icmp .lt off, 3)) (ht : (pc : Int) + off = (tgt : Int)) (hp : pc + 3 = pc') (kt : x < y → mW p l e R s m args below meth c D A nL cells slots Q ad n M tgt lv st) (kf : ¬ (x < y) → mW p l e R s m args below meth c D A nL cells slots Q ad n M pc' lv st) : mW p l e R s m args below meth c D A nL cells slots Q ad n M pc lv (.int y :: .int x :: st) := by
  subst hp
  exact fun H locs ls hP hS hl => lv_icmp_lt C.1.1 C.1.2.1 hd ht (fun h => kt (by first | exact h | simpa using h) H locs ls hP hS hl) (fun h => kf (by first | exact h | simpa using h) H locs ls hP hS hl)
theorem m_icmp_ge (C : mC p s m args c cc nL own Ts D cy ad n A) {x y : Int32} {off : Int} {tgt : Nat} (hd : decode cc pc = .ok (.if_icmp .ge off, 3)) (ht : (pc : Int) + off = (tgt : Int)) (hp : pc + 3 = pc') (kt : y ≤ x → mW p l e R s m args below meth c D A nL cells slots Q ad n M tgt lv st) (kf : ¬ (y ≤ x) → mW p l e R s m args below meth c D A nL cells slots Q ad n M pc' lv st) : mW p l e R s m args below meth c D A nL cells slots Q ad n M pc lv (.int y :: .int x :: st) := by
  subst hp
  exact fun H locs ls hP hS hl => lv_icmp_ge C.1.1 C.1.2.1 hd ht (fun h => kt (by first | exact h | simpa using h) H locs ls hP hS hl) (fun h => kf (by first | exact h | simpa using h) H locs ls hP hS hl)
theorem m_icmp_gt (C : mC p s m args c cc nL own Ts D cy ad n A) {x y : Int32} {off : Int} {tgt : Nat} (hd : decode cc pc = .ok (.if_icmp .gt off, 3)) (ht : (pc : Int) + off = (tgt : Int)) (hp : pc + 3 = pc') (kt : y < x → mW p l e R s m args below meth c D A nL cells slots Q ad n M tgt lv st) (kf : ¬ (y < x) → mW p l e R s m args below meth c D A nL cells slots Q ad n M pc' lv st) : mW p l e R s m args below meth c D A nL cells slots Q ad n M pc lv (.int y :: .int x :: st) := by
  subst hp
  exact fun H locs ls hP hS hl => lv_icmp_gt C.1.1 C.1.2.1 hd ht (fun h => kt (by first | exact h | simpa using h) H locs ls hP hS hl) (fun h => kf (by first | exact h | simpa using h) H locs ls hP hS hl)
theorem m_icmp_le (C : mC p s m args c cc nL own Ts D cy ad n A) {x y : Int32} {off : Int} {tgt : Nat} (hd : decode cc pc = .ok (.if_icmp .le off, 3)) (ht : (pc : Int) + off = (tgt : Int)) (hp : pc + 3 = pc') (kt : x ≤ y → mW p l e R s m args below meth c D A nL cells slots Q ad n M tgt lv st) (kf : ¬ (x ≤ y) → mW p l e R s m args below meth c D A nL cells slots Q ad n M pc' lv st) : mW p l e R s m args below meth c D A nL cells slots Q ad n M pc lv (.int y :: .int x :: st) := by
  subst hp
  exact fun H locs ls hP hS hl => lv_icmp_le C.1.1 C.1.2.1 hd ht (fun h => kt (by first | exact h | simpa using h) H locs ls hP hS hl) (fun h => kf (by first | exact h | simpa using h) H locs ls hP hS hl)
theorem m_goto (C : mC p s m args c cc nL own Ts D cy ad n A) {off : Int} {tgt : Nat} (hd : decode cc pc = .ok (.goto off, 3)) (ht : (pc : Int) + off = (tgt : Int)) (kk : mW p l e R s m args below meth c D A nL cells slots Q ad n M tgt lv st) : mW p l e R s m args below meth c D A nL cells slots Q ad n M pc lv st :=
  fun H locs ls hP hS hl => lv_goto C.1.1 C.1.2.1 hd ht (kk H locs ls hP hS hl)
theorem m_ifnonnull (C : mC p s m args c cc nL own Ts D cy ad n A) {x : Nat} {off : Int} {tgt : Nat} (hd : decode cc pc = .ok (.ifnonnull off, 3)) (ht : (pc : Int) + off = (tgt : Int)) (kk : mW p l e R s m args below meth c D A nL cells slots Q ad n M tgt lv st) : mW p l e R s m args below meth c D A nL cells slots Q ad n M pc lv (.ref x :: st) :=
  fun H locs ls hP hS hl => lv_ifnonnull C.1.1 C.1.2.1 hd ht (kk H locs ls hP hS hl)
theorem m_ifnonnullN (C : mC p s m args c cc nL own Ts D cy ad n A) {off : Int} (hd : decode cc pc = .ok (.ifnonnull off, 3)) (hp : pc + 3 = pc') (kk : mW p l e R s m args below meth c D A nL cells slots Q ad n M pc' lv st) : mW p l e R s m args below meth c D A nL cells slots Q ad n M pc lv (.null :: st) := by
  subst hp
  exact fun H locs ls hP hS hl => lv_ifnonnullN C.1.1 C.1.2.1 hd (kk H locs ls hP hS hl)
theorem m_aload_nN (C : mC p s m args c cc nL own Ts D cy ad n A) {f : Fin 4} {i : Nat} (hd : decode cc pc = .ok (.aload_n f, 1)) (hi : (f : Nat) = i) (k : Nat) (hk : lv[k]? = some (i, .null)) (hp : pc + 1 = pc') (kk : mW p l e R s m args below meth c D A nL cells slots Q ad n M pc' lv (.null :: st)) : mW p l e R s m args below meth c D A nL cells slots Q ad n M pc lv st := by
  subst hp
  exact fun H locs ls hP hS hl => lv_aload_nN C.1.1 C.1.2.1 hd hi (lv_at hl k hk) (kk H locs ls hP hS hl)
theorem m_astore_nN (C : mC p s m args c cc nL own Ts D cy ad n A) {f : Fin 4} {i : Nat} (hd : decode cc pc = .ok (.astore_n f, 1)) (hi : (f : Nat) = i) (hn : i < nL) (hl : (i, Value.null) :: lv.filter (fun q => !(q.1 == i) && !(q.1 + 1 == i && q.2.category == 2)) = lv') (hp : pc + 1 = pc') (kk : mW p l e R s m args below meth c D A nL cells slots Q ad n M pc' lv' st) : mW p l e R s m args below meth c D A nL cells slots Q ad n M pc lv (.null :: st) := by
  subst hp
  exact fun H locs ls hP hS h => lv_astore_nN C.1.1 C.1.2.1 hd hi h hn hl (fun ls' h' => kk H locs ls' hP hS h')
theorem m_lcmp (C : mC p s m args c cc nL own Ts D cy ad n A) {x y : Int64} (hd : decode cc pc = .ok (.lcmp, 1)) {v : Int32} (hv : lg_cmp x y = v) (hp : pc + 1 = pc') (kk : mW p l e R s m args below meth c D A nL cells slots Q ad n M pc' lv (.int v :: st)) : mW p l e R s m args below meth c D A nL cells slots Q ad n M pc lv (.long y :: .long x :: st) := by
  subst hp
  subst hv
  exact fun H locs ls hP hS hl => W.lcmp C.1.1 C.1.2.1 hd (kk H locs ls hP hS hl)
theorem m_look (C : mC p s m args c cc nL own Ts D cy ad n A) {dflt : Int} {ps : Array (Int × Int)} {len : Nat} {x : Int32} {off : Int} {tgt : Nat} (hd : decode cc pc = .ok (.lookupswitch dflt ps, len)) (hs : (ps.toList.zip (ps.toList.drop 1)).all (fun (a, next) => a.1 < next.1) = true) (ho : Op.lookupswitch.offset ps.toList dflt x.toInt = off) (ht : (pc : Int) + off = (tgt : Int)) (kk : mW p l e R s m args below meth c D A nL cells slots Q ad n M tgt lv st) : mW p l e R s m args below meth c D A nL cells slots Q ad n M pc lv (.int x :: st) :=
  fun H locs ls hP hS hl => lv_lookup C.1.1 C.1.2.1 hd hs ho ht (kk H locs ls hP hS hl)
theorem m_tabIn (C : mC p s m args c cc nL own Ts D cy ad n A) {dflt lo hi : Int} {offs : Array Int} {len : Nat} {x : Int32} {off : Int} {tgt : Nat} (hd : decode cc pc = .ok (.tableswitch dflt lo hi offs, len)) (h1 : ¬ x.toInt < lo) (h2 : ¬ hi < x.toInt) (ho : offs[(x.toInt - lo).toNat]? = some off) (ht : (pc : Int) + off = (tgt : Int)) (kk : mW p l e R s m args below meth c D A nL cells slots Q ad n M tgt lv st) : mW p l e R s m args below meth c D A nL cells slots Q ad n M pc lv (.int x :: st) :=
  fun H locs ls hP hS hl => lv_tableIn C.1.1 C.1.2.1 hd h1 h2 ho ht (kk H locs ls hP hS hl)
theorem m_tab (C : mC p s m args c cc nL own Ts D cy ad n A) {dflt lo hi : Int} {offs : Array Int} {len : Nat} {x : Int32} {off : Int} {tgt : Nat} (hd : decode cc pc = .ok (.tableswitch dflt lo hi offs, len)) (hs : hi - lo + 1 = offs.size) (ho : tabOff dflt lo hi offs x.toInt = off) (ht : (pc : Int) + off = (tgt : Int)) (kk : mW p l e R s m args below meth c D A nL cells slots Q ad n M tgt lv st) : mW p l e R s m args below meth c D A nL cells slots Q ad n M pc lv (.int x :: st) := by
  intro H locs ls hP hS hl
  unfold tabOff at ho
  by_cases q : x.toInt < lo ∨ hi < x.toInt
  · rw [if_pos q] at ho
    subst ho
    exact lv_tableOut C.1.1 C.1.2.1 hd q ht (kk H locs ls hP hS hl)
  · rw [if_neg q] at ho
    have hj : (x.toInt - lo).toNat < offs.size := by omega
    have e9 : offs[(x.toInt - lo).toNat]? = some off := by
      rw [Array.getElem?_eq_getElem hj] at ho ⊢
      exact congrArg some ho
    exact lv_tableIn C.1.1 C.1.2.1 hd (fun h => q (Or.inl h)) (fun h => q (Or.inr h)) e9 ht (kk H locs ls hP hS hl)
theorem m_tabOut (C : mC p s m args c cc nL own Ts D cy ad n A) {dflt lo hi : Int} {offs : Array Int} {len : Nat} {x : Int32} {tgt : Nat} (hd : decode cc pc = .ok (.tableswitch dflt lo hi offs, len)) (h : x.toInt < lo ∨ hi < x.toInt) (ht : (pc : Int) + dflt = (tgt : Int)) (kk : mW p l e R s m args below meth c D A nL cells slots Q ad n M tgt lv st) : mW p l e R s m args below meth c D A nL cells slots Q ad n M pc lv (.int x :: st) :=
  fun H locs ls hP hS hl => lv_tableOut C.1.1 C.1.2.1 hd h ht (kk H locs ls hP hS hl)

theorem m_get (C : mC p s m args c cc nL own Ts D cy ad n A) {ref Cn : String} {T : u_T} {N ci ix : Nat} {fs : List Value} {v : Value} (k : Nat) (hk : k < n) (he : M k = .inr (ci, fs)) (hc : vwCl[ci]? = some (Cn, T, N)) (hin : ∀ w ∈ u_ws Cn T N, w ∈ Ts) (j : Nat) (hj : j < N) (hlk : Cond.fieldLink own ix ref (T j).2.1 (T j).2.2.1 ∈ Ts) (hs : (T j).1 = ref) (hv : fs[j]? = some v) (hd : decode cc pc = .ok (.getfield ix, 3)) (hp : pc + 3 = pc') (kk : mW p l e R s m args below meth c D A nL cells slots Q ad n M pc' lv (v :: st)) : mW p l e R s m args below meth c D A nL cells slots Q ad n M pc lv (.ref (ad k) :: st) := by
  subst hp
  exact fun H locs ls hP hS hl => va_get (D := D) (ci := ci) (v := v) C.1.1 C.1.2.1 C.1.2.2.2.2 hin C.1.2.2.2.1 C.2.1.1 hP k (by rw [mm_at hk, he]) hc j hj (C.1.2.2.2.2 _ hlk) (fun _ h9 => hs ▸ h9) hv hd (kk H locs ls hP hS hl)
theorem m_put (C : mC p s m args c cc nL own Ts D cy ad n A) {ref Cn : String} {T : u_T} {N ci ix : Nat} {fs : List Value} {v : Value} {ty : FieldType} {fs' : List Value} (k : Nat) (hk : k < n) (he : M k = .inr (ci, fs)) (hc : vwCl[ci]? = some (Cn, T, N)) (hin : ∀ w ∈ u_ws Cn T N, w ∈ Ts) (ty0 : Nat → FieldType) (hty : ∀ k, k < N → parseFieldDescriptor (T k).2.2.1 = some (ty0 k)) (hnm : ∀ a, a < N → ∀ b, b < N → a ≠ b → (T a).2.1 ≠ (T b).2.1) (j : Nat) (hj : j < N) (hlk : Cond.fieldLink own ix ref (T j).2.1 (T j).2.2.1 ∈ Ts) (hs : (T j).1 = ref) (hfin : (T j).2.2.2 = false) (hdt : parseFieldDescriptor (T j).2.2.1 = some ty) (hn : narrow ty v = v) (hfit : fits ty v = true) (hl : j < fs.length) (hM : fs.set j v = fs') (hd : decode cc pc = .ok (.putfield ix, 3)) (hp : pc + 3 = pc') (kk : ∀ M' : Nat → va_E, M' k = .inr (ci, fs') → Fr [k] M M' → mW p l e R s m args below meth c D A nL cells slots Q ad n M' pc' lv st) : mW p l e R s m args below meth c D A nL cells slots Q ad n M pc lv (v :: .ref (ad k) :: st) := by
  subst hp
  subst hM
  exact fun H locs ls hP hS hl2 => va_put (D := D) (ci := ci) (v := v) (ty := ty) C.1.1 C.1.2.1 C.1.2.2.2.2 hin ty0 hty hnm C.1.2.2.2.1 C.2.1.1 hP C.2.2.1.D hS k (by rw [mm_at hk, he]) hc j hj (C.1.2.2.2.2 _ hlk) (fun _ h9 => hs ▸ h9) hfin hdt hn hfit hl hd (fun H1 locs1 hP1 _ hS1 => kk _ (va_up_self _ _ _) (Fr.rf.up (List.mem_singleton.mpr rfl)) H1 locs1 ls (by rw [mm_set] at hP1; exact hP1) hS1 hl2)
theorem m_putF (C : mC p s m args c cc nL own Ts D cy ad n A) {ref Cn : String} {T : u_T} {N ci ix : Nat} {fs : List Value} {v : Value} {ty : FieldType} {fs' : List Value} (k : Nat) (hk : k < n) (he : M k = .inr (ci, fs)) (hc : vwCl[ci]? = some (Cn, T, N)) (hin : ∀ w ∈ u_ws Cn T N, w ∈ Ts) (ty0 : Nat → FieldType) (hty : ∀ k, k < N → parseFieldDescriptor (T k).2.2.1 = some (ty0 k)) (hnm : ∀ a, a < N → ∀ b, b < N → a ≠ b → (T a).2.1 ≠ (T b).2.1) (j : Nat) (hj : j < N) (hlk : Cond.fieldLink own ix ref (T j).2.1 (T j).2.2.1 ∈ Ts) (hs : (T j).1 = ref) (hfin : (T j).2.2.2 = true) (hnam : meth.name = "<init>") (hown2 : (T j).1 = own) (hdt : parseFieldDescriptor (T j).2.2.1 = some ty) (hn : narrow ty v = v) (hfit : fits ty v = true) (hl : j < fs.length) (hM : fs.set j v = fs') (hd : decode cc pc = .ok (.putfield ix, 3)) (hp : pc + 3 = pc') (kk : ∀ M' : Nat → va_E, M' k = .inr (ci, fs') → Fr [k] M M' → mW p l e R s m args below meth c D A nL cells slots Q ad n M' pc' lv st) : mW p l e R s m args below meth c D A nL cells slots Q ad n M pc lv (v :: .ref (ad k) :: st) := by
  subst hp
  subst hM
  exact fun H locs ls hP hS hl2 => va_putF (D := D) (ci := ci) (v := v) (ty := ty) C.1.1 C.1.2.1 C.1.2.2.2.2 hin ty0 hty hnm C.1.2.2.2.1 C.2.1.1 hP C.2.2.1.D hS k (by rw [mm_at hk, he]) hc j hj (C.1.2.2.2.2 _ hlk) (fun _ h9 => hs ▸ h9) hfin hnam hown2 hdt hn hfit hl hd (fun H1 locs1 hP1 _ hS1 => kk _ (va_up_self _ _ _) (Fr.rf.up (List.mem_singleton.mpr rfl)) H1 locs1 ls (by rw [mm_set] at hP1; exact hP1) hS1 hl2)

theorem m_iald (C : mC p s m args c cc nL own Ts D cy ad n A) {cap : Nat} {f : Nat → Int32} {i : Int32} {v : Int32} (k : Nat) (hk : k < n) (he : M k = .inl (cy 1, cap, .inl f)) (hin : vp_in i cap) (hv : f i.toNatClampNeg = v) (hd : decode cc pc = .ok (.iaload, 1)) (hp : pc + 1 = pc') (kk : mW p l e R s m args below meth c D A nL cells slots Q ad n M pc' lv (.int v :: st)) : mW p l e R s m args below meth c D A nL cells slots Q ad n M pc lv (.int i :: .ref (ad k) :: st) := by
  subst hp
  subst hv
  exact fun H locs ls hP hS hl => va_iald C.1.1 C.1.2.1 C.2.1.1 hP k 1 (by rw [mm_at hk, he]) rfl hin hd (kk H locs ls hP hS hl)
theorem m_cald (C : mC p s m args c cc nL own Ts D cy ad n A) {cap : Nat} {f : Nat → Int32} {i : Int32} {v : Int32} (k : Nat) (hk : k < n) (he : M k = .inl (cy 0, cap, .inl f)) (hin : vp_in i cap) (hv : f i.toNatClampNeg = v) (hd : decode cc pc = .ok (.caload, 1)) (hp : pc + 1 = pc') (kk : mW p l e R s m args below meth c D A nL cells slots Q ad n M pc' lv (.int v :: st)) : mW p l e R s m args below meth c D A nL cells slots Q ad n M pc lv (.int i :: .ref (ad k) :: st) := by
  subst hp
  subst hv
  exact fun H locs ls hP hS hl => va_cald C.1.1 C.1.2.1 C.2.1.1 hP k 0 (by rw [mm_at hk, he]) rfl hin hd (kk H locs ls hP hS hl)
theorem m_zald (C : mC p s m args c cc nL own Ts D cy ad n A) {cap : Nat} {f : Nat → Int32} {i : Int32} {v : Int32} (k : Nat) (hk : k < n) (he : M k = .inl (cy 3, cap, .inl f)) (hin : vp_in i cap) (hv : f i.toNatClampNeg = v) (hd : decode cc pc = .ok (.baload, 1)) (hp : pc + 1 = pc') (kk : mW p l e R s m args below meth c D A nL cells slots Q ad n M pc' lv (.int v :: st)) : mW p l e R s m args below meth c D A nL cells slots Q ad n M pc lv (.int i :: .ref (ad k) :: st) := by
  subst hp
  subst hv
  exact fun H locs ls hP hS hl => va_zald C.1.1 C.1.2.1 C.2.1.1 hP k 3 (by rw [mm_at hk, he]) rfl hin hd (kk H locs ls hP hS hl)
theorem m_lald (C : mC p s m args c cc nL own Ts D cy ad n A) {cap : Nat} {f : Nat → Int64} {i : Int32} {v : Int64} (k : Nat) (hk : k < n) (he : M k = .inl (cy 2, cap, .inr (.inl f))) (hin : vp_in i cap) (hv : f i.toNatClampNeg = v) (hd : decode cc pc = .ok (.laload, 1)) (hp : pc + 1 = pc') (kk : mW p l e R s m args below meth c D A nL cells slots Q ad n M pc' lv (.long v :: st)) : mW p l e R s m args below meth c D A nL cells slots Q ad n M pc lv (.int i :: .ref (ad k) :: st) := by
  subst hp
  subst hv
  exact fun H locs ls hP hS hl => va_lald C.1.1 C.1.2.1 C.2.1.1 hP k 2 (by rw [mm_at hk, he]) rfl hin hd (kk H locs ls hP hS hl)
theorem m_aldq (C : mC p s m args c cc nL own Ts D cy ad n A) {cap : Nat} {f : Nat → Option Nat} {i : Int32} {v : Value} (k : Nat) (hk : k < n) (he : M k = .inl (cy 4, cap, .inr (.inr (.inr (.inr f))))) (hin : vp_in i cap) (hv : va_rf (f i.toNatClampNeg) = v) (hd : decode cc pc = .ok (.aaload, 1)) (hp : pc + 1 = pc') (kk : mW p l e R s m args below meth c D A nL cells slots Q ad n M pc' lv (v :: st)) : mW p l e R s m args below meth c D A nL cells slots Q ad n M pc lv (.int i :: .ref (ad k) :: st) := by
  subst hp
  subst hv
  exact fun H locs ls hP hS hl => va_aldq C.1.1 C.1.2.1 C.2.1.1 hP k 4 (by rw [mm_at hk, he]) rfl hin hd (kk H locs ls hP hS hl)
theorem m_iast (C : mC p s m args c cc nL own Ts D cy ad n A) {cap : Nat} {f : Nat → Int32} {i : Int32} {x : Int32} {E' : va_E} (k : Nat) (hk : k < n) (he : M k = .inl (cy 1, cap, .inl f)) (hin : vp_in i cap) (hM : (.inl (cy 1, cap, .inl (upd f i.toNatClampNeg x)) : va_E) = E') (hd : decode cc pc = .ok (.iastore, 1)) (hp : pc + 1 = pc') (kk : ∀ M' : Nat → va_E, M' k = E' → Fr [k] M M' → mW p l e R s m args below meth c D A nL cells slots Q ad n M' pc' lv st) : mW p l e R s m args below meth c D A nL cells slots Q ad n M pc lv (.int x :: .int i :: .ref (ad k) :: st) := by
  subst hp
  subst hM
  exact fun H locs ls hP hS hl => va_iast C.1.1 C.1.2.1 C.2.1.1 hP C.2.2.1.D hS k 1 (by rw [mm_at hk, he]) rfl hin hd (fun H1 locs1 hP1 _ hS1 => kk _ (va_up_self _ _ _) (Fr.rf.up (List.mem_singleton.mpr rfl)) H1 locs1 ls (by rw [mm_set] at hP1; exact hP1) hS1 hl)
theorem m_cast (C : mC p s m args c cc nL own Ts D cy ad n A) {cap : Nat} {f : Nat → Int32} {i : Int32} {x : Int32} {E' : va_E} (k : Nat) (hk : k < n) (he : M k = .inl (cy 0, cap, .inl f)) (hin : vp_in i cap) (hM : (.inl (cy 0, cap, .inl (upd f i.toNatClampNeg (vp_nar .char x))) : va_E) = E') (hd : decode cc pc = .ok (.castore, 1)) (hp : pc + 1 = pc') (kk : ∀ M' : Nat → va_E, M' k = E' → Fr [k] M M' → mW p l e R s m args below meth c D A nL cells slots Q ad n M' pc' lv st) : mW p l e R s m args below meth c D A nL cells slots Q ad n M pc lv (.int x :: .int i :: .ref (ad k) :: st) := by
  subst hp
  subst hM
  exact fun H locs ls hP hS hl => va_cast C.1.1 C.1.2.1 C.2.1.1 hP C.2.2.1.D hS k 0 (by rw [mm_at hk, he]) rfl hin hd (fun H1 locs1 hP1 _ hS1 => kk _ (va_up_self _ _ _) (Fr.rf.up (List.mem_singleton.mpr rfl)) H1 locs1 ls (by rw [mm_set] at hP1; exact hP1) hS1 hl)
theorem m_zast (C : mC p s m args c cc nL own Ts D cy ad n A) {cap : Nat} {f : Nat → Int32} {i : Int32} {x : Int32} {E' : va_E} (k : Nat) (hk : k < n) (he : M k = .inl (cy 3, cap, .inl f)) (hin : vp_in i cap) (hM : (.inl (cy 3, cap, .inl (upd f i.toNatClampNeg (vp_nar .boolean x))) : va_E) = E') (hd : decode cc pc = .ok (.bastore, 1)) (hp : pc + 1 = pc') (kk : ∀ M' : Nat → va_E, M' k = E' → Fr [k] M M' → mW p l e R s m args below meth c D A nL cells slots Q ad n M' pc' lv st) : mW p l e R s m args below meth c D A nL cells slots Q ad n M pc lv (.int x :: .int i :: .ref (ad k) :: st) := by
  subst hp
  subst hM
  exact fun H locs ls hP hS hl => va_zast C.1.1 C.1.2.1 C.2.1.1 hP C.2.2.1.D hS k 3 (by rw [mm_at hk, he]) rfl hin hd (fun H1 locs1 hP1 _ hS1 => kk _ (va_up_self _ _ _) (Fr.rf.up (List.mem_singleton.mpr rfl)) H1 locs1 ls (by rw [mm_set] at hP1; exact hP1) hS1 hl)
theorem m_last (C : mC p s m args c cc nL own Ts D cy ad n A) {cap : Nat} {f : Nat → Int64} {i : Int32} {x : Int64} {E' : va_E} (k : Nat) (hk : k < n) (he : M k = .inl (cy 2, cap, .inr (.inl f))) (hin : vp_in i cap) (hM : (.inl (cy 2, cap, .inr (.inl (vp_updL f i.toNatClampNeg x))) : va_E) = E') (hd : decode cc pc = .ok (.lastore, 1)) (hp : pc + 1 = pc') (kk : ∀ M' : Nat → va_E, M' k = E' → Fr [k] M M' → mW p l e R s m args below meth c D A nL cells slots Q ad n M' pc' lv st) : mW p l e R s m args below meth c D A nL cells slots Q ad n M pc lv (.long x :: .int i :: .ref (ad k) :: st) := by
  subst hp
  subst hM
  exact fun H locs ls hP hS hl => va_last C.1.1 C.1.2.1 C.2.1.1 hP C.2.2.1.D hS k 2 (by rw [mm_at hk, he]) rfl hin hd (fun H1 locs1 hP1 _ hS1 => kk _ (va_up_self _ _ _) (Fr.rf.up (List.mem_singleton.mpr rfl)) H1 locs1 ls (by rw [mm_set] at hP1; exact hP1) hS1 hl)
theorem m_alen (C : mC p s m args c cc nL own Ts D cy ad n A) {x : vp_A} {cA : ClassId} {ty : FieldType} {v : Int32} (t0 : Nat) (k : Nat) (hk : k < n) (he : M k = .inl (cA, x)) (ht : (tyL cy)[t0]? = some (cA, ty)) (hv : Int32.ofNat x.1 = v) (hd : decode cc pc = .ok (.arraylength, 1)) (hp : pc + 1 = pc') (kk : mW p l e R s m args below meth c D A nL cells slots Q ad n M pc' lv (.int v :: st)) : mW p l e R s m args below meth c D A nL cells slots Q ad n M pc lv (.ref (ad k) :: st) := by
  subst hp
  exact fun H locs ls hP hS hl => va_alen C.1.1 C.1.2.1 C.2.1.1 hP k t0 (by rw [mm_at hk, he]) ht hv hd (kk H locs ls hP hS hl)

theorem mblind {as : List Value} : FrameBlind (mPc D cy ad n A as M) := fun a U g mk q => by
  obtain ⟨q0, qP, qK, qA⟩ := q
  exact ⟨q0, qP, ⟨va_K.moved (u := U) (U := U.calling g mk a) (Vm.Alike.refl U.vm) qK.1, fun q hq => va_Nw.same rfl (u := U) (U := U.calling g mk a) rfl (qK.2 q hq)⟩, qA⟩
theorem m_callVi (C : mC p s m args c cc nL own Ts D cy ad n A) {Cn : String} {b : Nat} {ix : Nat} {y : MethodName} {bytes : ByteArray} {maxL na : Nat} {rt : Option FieldType} {ws : List Cond} {rm : Room} {As rest : List Value} {post : Int32 → (Nat → va_E) → Prop} (hM : mMi l y ws rm D cy ad n A (.ref (ad b) :: As) M post) (cw : CallW R s args own Cn ix y bytes maxL rt ws rm 0 0 na) (hbn : b < n) {ci : Nat} {fs : List Value} (hob : M b = .inr (ci, fs)) {T : u_T} {N : Nat} (hcl : vwCl[ci]? = some (Cn, T, N)) (hn : As.length = na) (hst : st = As.reverse ++ .ref (ad b) :: rest) (hW : (rest.map fun v => v.category).sum ≤ 8) (hd : decode cc pc = .ok (.invokevirtual ix, 3)) (hp : pc + 3 = pc') (hf : cells ≤ R.cells ∧ slots ≤ R.slots) (kk : ∀ (r : Int32) (M' : Nat → va_E), post r M' → mW p l e R s m args below meth c D A nL cells slots Q ad n M' pc' lv (.int r :: rest)) : mW p l e R s m args below meth c D A nL cells slots Q ad n M pc lv st := by
  subst hp
  subst hst
  intro H locs ls hP hS hl
  exact va_calli (va_runV (As := As) (rest := rest) C.1 hM cw ⟨mblind, va_recv C.2.1.1 hP (ci := ci) (q0 := b) hcl (by rw [mm_at hbn, hob]), fun U hU hW => ⟨rfl, by rw [hU]; exact hP, C.2.1.warm hW, fun q hq => C.2.2.2 q (by rw [hU] at hq; exact Nat.le_trans hS.1 hq)⟩⟩ rfl hn hl.1 rfl (lv_room hW) hd hf) hS (fun q _ h => h) (fun q h => h) (fun r M' t H1 locs1 ht hvm hw hB hz1 hk1 hS1 => kk r M' hw H1 locs1 ls (by have h9 : mm D ad n M' t.heap := hB; rw [ht] at h9; exact h9) hS1 hl)
theorem m_callVv (C : mC p s m args c cc nL own Ts D cy ad n A) {Cn : String} {b : Nat} {ix : Nat} {y : MethodName} {bytes : ByteArray} {maxL na : Nat} {rt : Option FieldType} {ws : List Cond} {rm : Room} {As rest : List Value} {post : (Nat → va_E) → Prop} (hM : mMv l y ws rm D cy ad n A (.ref (ad b) :: As) M post) (cw : CallW R s args own Cn ix y bytes maxL rt ws rm 0 0 na) (hbn : b < n) {ci : Nat} {fs : List Value} (hob : M b = .inr (ci, fs)) {T : u_T} {N : Nat} (hcl : vwCl[ci]? = some (Cn, T, N)) (hn : As.length = na) (hst : st = As.reverse ++ .ref (ad b) :: rest) (hW : (rest.map fun v => v.category).sum ≤ 8) (hd : decode cc pc = .ok (.invokevirtual ix, 3)) (hp : pc + 3 = pc') (hf : cells ≤ R.cells ∧ slots ≤ R.slots) (kk : ∀ (M' : Nat → va_E), post M' → mW p l e R s m args below meth c D A nL cells slots Q ad n M' pc' lv rest) : mW p l e R s m args below meth c D A nL cells slots Q ad n M pc lv st := by
  subst hp
  subst hst
  intro H locs ls hP hS hl
  exact va_callv (va_runV (As := As) (rest := rest) C.1 hM cw ⟨mblind, va_recv C.2.1.1 hP (ci := ci) (q0 := b) hcl (by rw [mm_at hbn, hob]), fun U hU hW => ⟨rfl, by rw [hU]; exact hP, C.2.1.warm hW, fun q hq => C.2.2.2 q (by rw [hU] at hq; exact Nat.le_trans hS.1 hq)⟩⟩ rfl hn hl.1 rfl (lv_room hW) hd hf) hS (fun q _ h => h) (fun q h => h) (fun M' t H1 locs1 ht hvm hw hB hz1 hk1 hS1 => kk M' hw H1 locs1 ls (by have h9 : mm D ad n M' t.heap := hB; rw [ht] at h9; exact h9) hS1 hl)
theorem m_callVl (C : mC p s m args c cc nL own Ts D cy ad n A) {Cn : String} {b : Nat} {ix : Nat} {y : MethodName} {bytes : ByteArray} {maxL na : Nat} {rt : Option FieldType} {ws : List Cond} {rm : Room} {As rest : List Value} {post : Int64 → (Nat → va_E) → Prop} (hM : mMl l y ws rm D cy ad n A (.ref (ad b) :: As) M post) (cw : CallW R s args own Cn ix y bytes maxL rt ws rm 0 0 na) (hbn : b < n) {ci : Nat} {fs : List Value} (hob : M b = .inr (ci, fs)) {T : u_T} {N : Nat} (hcl : vwCl[ci]? = some (Cn, T, N)) (hn : As.length = na) (hst : st = As.reverse ++ .ref (ad b) :: rest) (hW : (rest.map fun v => v.category).sum ≤ 8) (hd : decode cc pc = .ok (.invokevirtual ix, 3)) (hp : pc + 3 = pc') (hf : cells ≤ R.cells ∧ slots ≤ R.slots) (kk : ∀ (r : Int64) (M' : Nat → va_E), post r M' → mW p l e R s m args below meth c D A nL cells slots Q ad n M' pc' lv (.long r :: rest)) : mW p l e R s m args below meth c D A nL cells slots Q ad n M pc lv st := by
  subst hp
  subst hst
  intro H locs ls hP hS hl
  exact va_calll (va_runV (As := As) (rest := rest) C.1 hM cw ⟨mblind, va_recv C.2.1.1 hP (ci := ci) (q0 := b) hcl (by rw [mm_at hbn, hob]), fun U hU hW => ⟨rfl, by rw [hU]; exact hP, C.2.1.warm hW, fun q hq => C.2.2.2 q (by rw [hU] at hq; exact Nat.le_trans hS.1 hq)⟩⟩ rfl hn hl.1 rfl (lv_room hW) hd hf) hS (fun q _ h => h) (fun q h => h) (fun r M' t H1 locs1 ht hvm hw hB hz1 hk1 hS1 => kk r M' hw H1 locs1 ls (by have h9 : mm D ad n M' t.heap := hB; rw [ht] at h9; exact h9) hS1 hl)
theorem m_callVq (C : mC p s m args c cc nL own Ts D cy ad n A) {Cn : String} {b : Nat} {ix : Nat} {y : MethodName} {bytes : ByteArray} {maxL na : Nat} {rt : Option FieldType} {ws : List Cond} {rm : Room} {As rest : List Value} {post : Option Nat → (Nat → va_E) → Prop} (hM : mMq l y ws rm D cy ad n A (.ref (ad b) :: As) M post) (cw : CallW R s args own Cn ix y bytes maxL rt ws rm 0 0 na) (hbn : b < n) {ci : Nat} {fs : List Value} (hob : M b = .inr (ci, fs)) {T : u_T} {N : Nat} (hcl : vwCl[ci]? = some (Cn, T, N)) (hn : As.length = na) (hst : st = As.reverse ++ .ref (ad b) :: rest) (hW : (rest.map fun v => v.category).sum ≤ 8) (hd : decode cc pc = .ok (.invokevirtual ix, 3)) (hp : pc + 3 = pc') (hf : cells ≤ R.cells ∧ slots ≤ R.slots) (kk : ∀ (r : Option Nat) (M' : Nat → va_E), post r M' → mW p l e R s m args below meth c D A nL cells slots Q ad n M' pc' lv (va_rf r :: rest)) : mW p l e R s m args below meth c D A nL cells slots Q ad n M pc lv st := by
  subst hp
  subst hst
  intro H locs ls hP hS hl
  exact va_callq (va_runV (As := As) (rest := rest) C.1 hM cw ⟨mblind, va_recv C.2.1.1 hP (ci := ci) (q0 := b) hcl (by rw [mm_at hbn, hob]), fun U hU hW => ⟨rfl, by rw [hU]; exact hP, C.2.1.warm hW, fun q hq => C.2.2.2 q (by rw [hU] at hq; exact Nat.le_trans hS.1 hq)⟩⟩ rfl hn hl.1 rfl (lv_room hW) hd hf) hS (fun q _ h => h) (fun q h => h) (fun r M' t H1 locs1 ht hvm hw hB hz1 hk1 hS1 => kk r M' hw H1 locs1 ls (by have h9 : mm D ad n M' t.heap := hB; rw [ht] at h9; exact h9) hS1 hl)
theorem m_callSi (C : mC p s m args c cc nL own Ts D cy ad n A) {ix : Nat} {y : MethodName} {bytes : ByteArray} {maxL na : Nat} {rt : Option FieldType} {ws : List Cond} {rm : Room} {As rest : List Value} {post : Int32 → (Nat → va_E) → Prop} (hM : mMi l y ws rm D cy ad n A As M post) (cw : CallB R s args own ix y bytes maxL rt ws rm 0 0 na ∧ (Cond.static y).before args s = true) (hn : As.length = na) (hst : st = As.reverse ++ rest) (hW : (rest.map fun v => v.category).sum ≤ 8) (hd : decode cc pc = .ok (.invokestatic ix, 3)) (hp : pc + 3 = pc') (hf : cells ≤ R.cells ∧ slots ≤ R.slots) (kk : ∀ (r : Int32) (M' : Nat → va_E), post r M' → mW p l e R s m args below meth c D A nL cells slots Q ad n M' pc' lv (.int r :: rest)) : mW p l e R s m args below meth c D A nL cells slots Q ad n M pc lv st := by
  subst hp
  subst hst
  intro H locs ls hP hS hl
  exact va_calli (va_runS (As := As) (rest := rest) C.1 hM cw ⟨mblind, fun U hU hW => ⟨rfl, by rw [hU]; exact hP, C.2.1.warm hW, fun q hq => C.2.2.2 q (by rw [hU] at hq; exact Nat.le_trans hS.1 hq)⟩⟩ rfl hn hl.1 rfl (lv_room hW) hd hf) hS (fun q _ h => h) (fun q h => h) (fun r M' t H1 locs1 ht hvm hw hB hz1 hk1 hS1 => kk r M' hw H1 locs1 ls (by have h9 : mm D ad n M' t.heap := hB; rw [ht] at h9; exact h9) hS1 hl)
theorem m_callSv (C : mC p s m args c cc nL own Ts D cy ad n A) {ix : Nat} {y : MethodName} {bytes : ByteArray} {maxL na : Nat} {rt : Option FieldType} {ws : List Cond} {rm : Room} {As rest : List Value} {post : (Nat → va_E) → Prop} (hM : mMv l y ws rm D cy ad n A As M post) (cw : CallB R s args own ix y bytes maxL rt ws rm 0 0 na ∧ (Cond.static y).before args s = true) (hn : As.length = na) (hst : st = As.reverse ++ rest) (hW : (rest.map fun v => v.category).sum ≤ 8) (hd : decode cc pc = .ok (.invokestatic ix, 3)) (hp : pc + 3 = pc') (hf : cells ≤ R.cells ∧ slots ≤ R.slots) (kk : ∀ (M' : Nat → va_E), post M' → mW p l e R s m args below meth c D A nL cells slots Q ad n M' pc' lv rest) : mW p l e R s m args below meth c D A nL cells slots Q ad n M pc lv st := by
  subst hp
  subst hst
  intro H locs ls hP hS hl
  exact va_callv (va_runS (As := As) (rest := rest) C.1 hM cw ⟨mblind, fun U hU hW => ⟨rfl, by rw [hU]; exact hP, C.2.1.warm hW, fun q hq => C.2.2.2 q (by rw [hU] at hq; exact Nat.le_trans hS.1 hq)⟩⟩ rfl hn hl.1 rfl (lv_room hW) hd hf) hS (fun q _ h => h) (fun q h => h) (fun M' t H1 locs1 ht hvm hw hB hz1 hk1 hS1 => kk M' hw H1 locs1 ls (by have h9 : mm D ad n M' t.heap := hB; rw [ht] at h9; exact h9) hS1 hl)
theorem m_callSl (C : mC p s m args c cc nL own Ts D cy ad n A) {ix : Nat} {y : MethodName} {bytes : ByteArray} {maxL na : Nat} {rt : Option FieldType} {ws : List Cond} {rm : Room} {As rest : List Value} {post : Int64 → (Nat → va_E) → Prop} (hM : mMl l y ws rm D cy ad n A As M post) (cw : CallB R s args own ix y bytes maxL rt ws rm 0 0 na ∧ (Cond.static y).before args s = true) (hn : As.length = na) (hst : st = As.reverse ++ rest) (hW : (rest.map fun v => v.category).sum ≤ 8) (hd : decode cc pc = .ok (.invokestatic ix, 3)) (hp : pc + 3 = pc') (hf : cells ≤ R.cells ∧ slots ≤ R.slots) (kk : ∀ (r : Int64) (M' : Nat → va_E), post r M' → mW p l e R s m args below meth c D A nL cells slots Q ad n M' pc' lv (.long r :: rest)) : mW p l e R s m args below meth c D A nL cells slots Q ad n M pc lv st := by
  subst hp
  subst hst
  intro H locs ls hP hS hl
  exact va_calll (va_runS (As := As) (rest := rest) C.1 hM cw ⟨mblind, fun U hU hW => ⟨rfl, by rw [hU]; exact hP, C.2.1.warm hW, fun q hq => C.2.2.2 q (by rw [hU] at hq; exact Nat.le_trans hS.1 hq)⟩⟩ rfl hn hl.1 rfl (lv_room hW) hd hf) hS (fun q _ h => h) (fun q h => h) (fun r M' t H1 locs1 ht hvm hw hB hz1 hk1 hS1 => kk r M' hw H1 locs1 ls (by have h9 : mm D ad n M' t.heap := hB; rw [ht] at h9; exact h9) hS1 hl)
theorem m_callSq (C : mC p s m args c cc nL own Ts D cy ad n A) {ix : Nat} {y : MethodName} {bytes : ByteArray} {maxL na : Nat} {rt : Option FieldType} {ws : List Cond} {rm : Room} {As rest : List Value} {post : Option Nat → (Nat → va_E) → Prop} (hM : mMq l y ws rm D cy ad n A As M post) (cw : CallB R s args own ix y bytes maxL rt ws rm 0 0 na ∧ (Cond.static y).before args s = true) (hn : As.length = na) (hst : st = As.reverse ++ rest) (hW : (rest.map fun v => v.category).sum ≤ 8) (hd : decode cc pc = .ok (.invokestatic ix, 3)) (hp : pc + 3 = pc') (hf : cells ≤ R.cells ∧ slots ≤ R.slots) (kk : ∀ (r : Option Nat) (M' : Nat → va_E), post r M' → mW p l e R s m args below meth c D A nL cells slots Q ad n M' pc' lv (va_rf r :: rest)) : mW p l e R s m args below meth c D A nL cells slots Q ad n M pc lv st := by
  subst hp
  subst hst
  intro H locs ls hP hS hl
  exact va_callq (va_runS (As := As) (rest := rest) C.1 hM cw ⟨mblind, fun U hU hW => ⟨rfl, by rw [hU]; exact hP, C.2.1.warm hW, fun q hq => C.2.2.2 q (by rw [hU] at hq; exact Nat.le_trans hS.1 hq)⟩⟩ rfl hn hl.1 rfl (lv_room hW) hd hf) hS (fun q _ h => h) (fun q h => h) (fun r M' t H1 locs1 ht hvm hw hB hz1 hk1 hS1 => kk r M' hw H1 locs1 ls (by have h9 : mm D ad n M' t.heap := hB; rw [ht] at h9; exact h9) hS1 hl)
theorem m_callNi (C : mC p s m args c cc nL own Ts D cy ad n A) {host : String} {ix : Nat} {y : MethodName} {bytes : ByteArray} {maxL na : Nat} {rt : Option FieldType} {ws : List Cond} {rm : Room} {As rest : List Value} {post : Int32 → (Nat → va_E) → Prop} (hM : mMi l y ws rm D cy ad n A As M post) (cw : va_CN R s args own ix y host bytes maxL rt ws rm 0 0 na ∧ (Cond.static y).before args s = true ∧ True) (hn : As.length = na) (hst : st = As.reverse ++ rest) (hW : (rest.map fun v => v.category).sum ≤ 8) (hd : decode cc pc = .ok (.invokestatic ix, 3)) (hp : pc + 3 = pc') (hf : cells ≤ R.cells ∧ slots ≤ R.slots) (kk : ∀ (r : Int32) (M' : Nat → va_E), post r M' → mW p l e R s m args below meth c D A nL cells slots Q ad n M' pc' lv (.int r :: rest)) : mW p l e R s m args below meth c D A nL cells slots Q ad n M pc lv st := by
  subst hp
  subst hst
  intro H locs ls hP hS hl
  exact va_calli (va_runSN (As := As) (rest := rest) C.1 hM cw ⟨mblind, fun U hU hW => ⟨rfl, by rw [hU]; exact hP, C.2.1.warm hW, fun q hq => C.2.2.2 q (by rw [hU] at hq; exact Nat.le_trans hS.1 hq)⟩⟩ rfl hn hl.1 rfl (lv_room hW) hd hf) hS (fun q _ h => h) (fun q h => h) (fun r M' t H1 locs1 ht hvm hw hB hz1 hk1 hS1 => kk r M' hw H1 locs1 ls (by have h9 : mm D ad n M' t.heap := hB; rw [ht] at h9; exact h9) hS1 hl)
theorem m_callNv (C : mC p s m args c cc nL own Ts D cy ad n A) {host : String} {ix : Nat} {y : MethodName} {bytes : ByteArray} {maxL na : Nat} {rt : Option FieldType} {ws : List Cond} {rm : Room} {As rest : List Value} {post : (Nat → va_E) → Prop} (hM : mMv l y ws rm D cy ad n A As M post) (cw : va_CN R s args own ix y host bytes maxL rt ws rm 0 0 na ∧ (Cond.static y).before args s = true ∧ True) (hn : As.length = na) (hst : st = As.reverse ++ rest) (hW : (rest.map fun v => v.category).sum ≤ 8) (hd : decode cc pc = .ok (.invokestatic ix, 3)) (hp : pc + 3 = pc') (hf : cells ≤ R.cells ∧ slots ≤ R.slots) (kk : ∀ (M' : Nat → va_E), post M' → mW p l e R s m args below meth c D A nL cells slots Q ad n M' pc' lv rest) : mW p l e R s m args below meth c D A nL cells slots Q ad n M pc lv st := by
  subst hp
  subst hst
  intro H locs ls hP hS hl
  exact va_callv (va_runSN (As := As) (rest := rest) C.1 hM cw ⟨mblind, fun U hU hW => ⟨rfl, by rw [hU]; exact hP, C.2.1.warm hW, fun q hq => C.2.2.2 q (by rw [hU] at hq; exact Nat.le_trans hS.1 hq)⟩⟩ rfl hn hl.1 rfl (lv_room hW) hd hf) hS (fun q _ h => h) (fun q h => h) (fun M' t H1 locs1 ht hvm hw hB hz1 hk1 hS1 => kk M' hw H1 locs1 ls (by have h9 : mm D ad n M' t.heap := hB; rw [ht] at h9; exact h9) hS1 hl)
theorem m_callNl (C : mC p s m args c cc nL own Ts D cy ad n A) {host : String} {ix : Nat} {y : MethodName} {bytes : ByteArray} {maxL na : Nat} {rt : Option FieldType} {ws : List Cond} {rm : Room} {As rest : List Value} {post : Int64 → (Nat → va_E) → Prop} (hM : mMl l y ws rm D cy ad n A As M post) (cw : va_CN R s args own ix y host bytes maxL rt ws rm 0 0 na ∧ (Cond.static y).before args s = true ∧ True) (hn : As.length = na) (hst : st = As.reverse ++ rest) (hW : (rest.map fun v => v.category).sum ≤ 8) (hd : decode cc pc = .ok (.invokestatic ix, 3)) (hp : pc + 3 = pc') (hf : cells ≤ R.cells ∧ slots ≤ R.slots) (kk : ∀ (r : Int64) (M' : Nat → va_E), post r M' → mW p l e R s m args below meth c D A nL cells slots Q ad n M' pc' lv (.long r :: rest)) : mW p l e R s m args below meth c D A nL cells slots Q ad n M pc lv st := by
  subst hp
  subst hst
  intro H locs ls hP hS hl
  exact va_calll (va_runSN (As := As) (rest := rest) C.1 hM cw ⟨mblind, fun U hU hW => ⟨rfl, by rw [hU]; exact hP, C.2.1.warm hW, fun q hq => C.2.2.2 q (by rw [hU] at hq; exact Nat.le_trans hS.1 hq)⟩⟩ rfl hn hl.1 rfl (lv_room hW) hd hf) hS (fun q _ h => h) (fun q h => h) (fun r M' t H1 locs1 ht hvm hw hB hz1 hk1 hS1 => kk r M' hw H1 locs1 ls (by have h9 : mm D ad n M' t.heap := hB; rw [ht] at h9; exact h9) hS1 hl)
theorem m_callNq (C : mC p s m args c cc nL own Ts D cy ad n A) {host : String} {ix : Nat} {y : MethodName} {bytes : ByteArray} {maxL na : Nat} {rt : Option FieldType} {ws : List Cond} {rm : Room} {As rest : List Value} {post : Option Nat → (Nat → va_E) → Prop} (hM : mMq l y ws rm D cy ad n A As M post) (cw : va_CN R s args own ix y host bytes maxL rt ws rm 0 0 na ∧ (Cond.static y).before args s = true ∧ True) (hn : As.length = na) (hst : st = As.reverse ++ rest) (hW : (rest.map fun v => v.category).sum ≤ 8) (hd : decode cc pc = .ok (.invokestatic ix, 3)) (hp : pc + 3 = pc') (hf : cells ≤ R.cells ∧ slots ≤ R.slots) (kk : ∀ (r : Option Nat) (M' : Nat → va_E), post r M' → mW p l e R s m args below meth c D A nL cells slots Q ad n M' pc' lv (va_rf r :: rest)) : mW p l e R s m args below meth c D A nL cells slots Q ad n M pc lv st := by
  subst hp
  subst hst
  intro H locs ls hP hS hl
  exact va_callq (va_runSN (As := As) (rest := rest) C.1 hM cw ⟨mblind, fun U hU hW => ⟨rfl, by rw [hU]; exact hP, C.2.1.warm hW, fun q hq => C.2.2.2 q (by rw [hU] at hq; exact Nat.le_trans hS.1 hq)⟩⟩ rfl hn hl.1 rfl (lv_room hW) hd hf) hS (fun q _ h => h) (fun q h => h) (fun r M' t H1 locs1 ht hvm hw hB hz1 hk1 hS1 => kk r M' hw H1 locs1 ls (by have h9 : mm D ad n M' t.heap := hB; rw [ht] at h9; exact h9) hS1 hl)
theorem m_mmax (C : mC p s m args c cc nL own Ts D cy ad n A) {ix : Nat} {x y v : Int32} (h1 : Cond.methodLink own ix Lib.Math.max.name ∈ Ts) (h2 : Cond.static Lib.Math.max.name ∈ Ts) (h3 : Cond.initialized "java/lang/Math" ∈ Ts) (h4 : Cond.code Lib.Math.max.name Lib.Math.max.code 2 (some .int) ∈ Ts) (hfr : 1 ≤ R.frames) (hlo : (st.map fun v => v.category).sum + 13 ≤ R.locals) (hf : cells ≤ R.cells ∧ slots ≤ R.slots) (hv : (if x < y then y else x) = v) (hd : decode cc pc = .ok (.invokestatic ix, 3)) (hp : pc + 3 = pc') (kk : mW p l e R s m args below meth c D A nL cells slots Q ad n M pc' lv (.int v :: st)) : mW p l e R s m args below meth c D A nL cells slots Q ad n M pc lv (.int y :: .int x :: st) := by
  subst hp
  subst hv
  exact fun H locs ls hP hS hl => va_mmax C.1.1 C.1.2.1 (by rw [C.1.2.2.1]; exact hl.1.symm) C.1.2.2.2.1 (C.1.2.2.2.2 _ h1) (C.1.2.2.2.2 _ h2) (C.1.2.2.2.2 _ h3) (C.1.2.2.2.2 _ h4) hfr hlo hf.1 hf.2 hd (kk H locs ls hP hS hl)
theorem m_mmin (C : mC p s m args c cc nL own Ts D cy ad n A) {ix : Nat} {x y v : Int32} (h1 : Cond.methodLink own ix Lib.Math.min.name ∈ Ts) (h2 : Cond.static Lib.Math.min.name ∈ Ts) (h3 : Cond.initialized "java/lang/Math" ∈ Ts) (h4 : Cond.code Lib.Math.min.name Lib.Math.min.code 2 (some .int) ∈ Ts) (hfr : 1 ≤ R.frames) (hlo : (st.map fun v => v.category).sum + 13 ≤ R.locals) (hf : cells ≤ R.cells ∧ slots ≤ R.slots) (hv : (if y < x then y else x) = v) (hd : decode cc pc = .ok (.invokestatic ix, 3)) (hp : pc + 3 = pc') (kk : mW p l e R s m args below meth c D A nL cells slots Q ad n M pc' lv (.int v :: st)) : mW p l e R s m args below meth c D A nL cells slots Q ad n M pc lv (.int y :: .int x :: st) := by
  subst hp
  subst hv
  exact fun H locs ls hP hS hl => va_mmin C.1.1 C.1.2.1 (by rw [C.1.2.2.1]; exact hl.1.symm) C.1.2.2.2.1 (C.1.2.2.2.2 _ h1) (C.1.2.2.2.2 _ h2) (C.1.2.2.2.2 _ h3) (C.1.2.2.2.2 _ h4) hfr hlo hf.1 hf.2 hd (kk H locs ls hP hS hl)
theorem m_mmaxl (C : mC p s m args c cc nL own Ts D cy ad n A) {ix : Nat} {x y v : Int64} (h1 : Cond.methodLink own ix Lib.MathLoose.max_long.x ∈ Ts) (h2 : Cond.static Lib.MathLoose.max_long.x ∈ Ts) (h3 : Cond.initialized "java/lang/Math" ∈ Ts) (h4 : Cond.code Lib.MathLoose.max_long.x Lib.MathLoose.max_long.code 4 (some .long) ∈ Ts) (hfr : 1 ≤ R.frames) (hlo : (st.map fun v => v.category).sum + 15 ≤ R.locals) (hf : cells ≤ R.cells ∧ slots ≤ R.slots) (hv : (if y < x then x else y) = v) (hd : decode cc pc = .ok (.invokestatic ix, 3)) (hp : pc + 3 = pc') (kk : mW p l e R s m args below meth c D A nL cells slots Q ad n M pc' lv (.long v :: st)) : mW p l e R s m args below meth c D A nL cells slots Q ad n M pc lv (.long y :: .long x :: st) := by
  subst hp
  subst hv
  exact fun H locs ls hP hS hl => va_mmax_long C.1.1 C.1.2.1 (by rw [C.1.2.2.1]; exact hl.1.symm) C.1.2.2.2.1 (C.1.2.2.2.2 _ h1) (C.1.2.2.2.2 _ h2) (C.1.2.2.2.2 _ h3) (C.1.2.2.2.2 _ h4) hfr hlo hf.1 hf.2 hd (kk H locs ls hP hS hl)
theorem m_mminl (C : mC p s m args c cc nL own Ts D cy ad n A) {ix : Nat} {x y v : Int64} (h1 : Cond.methodLink own ix Lib.MathLoose.min_long.x ∈ Ts) (h2 : Cond.static Lib.MathLoose.min_long.x ∈ Ts) (h3 : Cond.initialized "java/lang/Math" ∈ Ts) (h4 : Cond.code Lib.MathLoose.min_long.x Lib.MathLoose.min_long.code 4 (some .long) ∈ Ts) (hfr : 1 ≤ R.frames) (hlo : (st.map fun v => v.category).sum + 15 ≤ R.locals) (hf : cells ≤ R.cells ∧ slots ≤ R.slots) (hv : (if y < x then y else x) = v) (hd : decode cc pc = .ok (.invokestatic ix, 3)) (hp : pc + 3 = pc') (kk : mW p l e R s m args below meth c D A nL cells slots Q ad n M pc' lv (.long v :: st)) : mW p l e R s m args below meth c D A nL cells slots Q ad n M pc lv (.long y :: .long x :: st) := by
  subst hp
  subst hv
  exact fun H locs ls hP hS hl => va_mmin_long C.1.1 C.1.2.1 (by rw [C.1.2.2.1]; exact hl.1.symm) C.1.2.2.2.1 (C.1.2.2.2.2 _ h1) (C.1.2.2.2.2 _ h2) (C.1.2.2.2.2 _ h3) (C.1.2.2.2.2 _ h4) hfr hlo hf.1 hf.2 hd (kk H locs ls hP hS hl)
theorem m_iret (C : mC p s m args c cc nL own Ts D cy ad n A) {post : Int32 → (Nat → va_E) → Prop} {v : Int32} {ty : FieldType} (hr : meth.sig.returnType = some ty) (hk : meth.locks = false) (hn : narrow ty (.int v) = .int v) (hd : decode cc pc = .ok (.ireturn, 1)) (hq : post v M) : mW p l e R s m args below meth c D A nL cells slots (MQ below (va_Qi post (mB D ad n) A) args s cells slots A) ad n M pc lv [.int v] :=
  fun H locs ls hP hS hl => W.zret C.1.1 C.1.2.1 hr hn (fun t ht hW => ⟨⟨v, M, rfl, hq, by show mm D ad n M t.heap; rw [ht]; exact hP⟩, hS.F ht⟩) hS.2.2 hd hk
theorem m_lret (C : mC p s m args c cc nL own Ts D cy ad n A) {post : Int64 → (Nat → va_E) → Prop} {v : Int64} (hr : meth.sig.returnType = some .long) (hk : meth.locks = false) (hd : decode cc pc = .ok (.lreturn, 1)) (hq : post v M) : mW p l e R s m args below meth c D A nL cells slots (MQ below (va_Ql post (mB D ad n) A) args s cells slots A) ad n M pc lv [.long v] :=
  fun H locs ls hP hS hl => W.lret C.1.1 C.1.2.1 hr (fun t ht hW => ⟨⟨v, M, rfl, hq, by show mm D ad n M t.heap; rw [ht]; exact hP⟩, hS.F ht⟩) hS.2.2 hd hk
theorem m_vret (C : mC p s m args c cc nL own Ts D cy ad n A) {post : (Nat → va_E) → Prop} (hr : meth.sig.returnType = none) (hk : meth.locks = false) (hd : decode cc pc = .ok (.return_, 1)) (hq : post M) : mW p l e R s m args below meth c D A nL cells slots (MQ below (va_Qv post (mB D ad n) A) args s cells slots A) ad n M pc lv [] :=
  fun H locs ls hP hS hl => W.vret C.1.1 C.1.2.1 hr (fun t ht hW => ⟨⟨M, rfl, hq, by show mm D ad n M t.heap; rw [ht]; exact hP⟩, hS.F ht⟩) hS.2.2 hd hk
theorem m_aret (C : mC p s m args c cc nL own Ts D cy ad n A) {post : Option Nat → (Nat → va_E) → Prop} {v : Value} (o : Option Nat) {rt : FieldType} (hr : meth.sig.returnType = some rt) (hk : meth.locks = false) (hrt : (∃ n, rt = .object n) ∨ ∃ t, rt = .array t) (hv : v = va_rf o) (hd : decode cc pc = .ok (.areturn, 1)) (hq : post o M) : mW p l e R s m args below meth c D A nL cells slots (MQ below (va_Qq post (mB D ad n) A) args s cells slots A) ad n M pc lv [v] := by
  subst hv
  exact fun H locs ls hP hS hl => W.aret C.1.1 C.1.2.1 hr hrt (by cases o with
    | none => exact Or.inl rfl
    | some a => exact Or.inr ⟨a, rfl⟩) (fun t ht hW => ⟨⟨o, M, rfl, hq, by show mm D ad n M t.heap; rw [ht]; exact hP⟩, hS.F ht⟩) hS.2.2 hd hk
/-- a loop: its states by a type of their own, an invariant, a measure that falls -/
theorem m_loop {σ : Type} (Mf : σ → Nat → va_E) (lvf : σ → List (Nat × Value)) (I : σ → Prop) (μ : σ → Nat) (a : σ) (h : I a)
    (hs : ∀ a, I a → (∀ b, I b → μ b < μ a → mW p l e R s m args below meth c D A nL cells slots Q ad n (Mf b) pc (lvf b) st) → mW p l e R s m args below meth c D A nL cells slots Q ad n (Mf a) pc (lvf a) st) : mW p l e R s m args below meth c D A nL cells slots Q ad n (Mf a) pc (lvf a) st := by
  have key : ∀ (j : Nat) (a : σ), μ a < j → I a → mW p l e R s m args below meth c D A nL cells slots Q ad n (Mf a) pc (lvf a) st := by
    intro j
    induction j with
    | zero => intro a h0; exact absurd h0 (Nat.not_lt_zero _)
    | succ j ih => intro a h1 h2; exact hs a h2 (fun b hb hlt => ih b (by omega) hb)
  exact key (μ a + 1) a (Nat.lt_succ_self _) h
/-- a place where ways meet: proved once, ahead of the ways -/
theorem m_cut {σ : Type} (I : σ → Prop) (Mf : σ → Nat → va_E) (pj : Nat) (lvf : σ → List (Nat × Value)) (stf : σ → List Value) (hJ : ∀ a, I a → mW p l e R s m args below meth c D A nL cells slots Q ad n (Mf a) pj (lvf a) (stf a)) (kk : (∀ a, I a → mW p l e R s m args below meth c D A nL cells slots Q ad n (Mf a) pj (lvf a) (stf a)) → mW p l e R s m args below meth c D A nL cells slots Q ad n M pc lv st) : mW p l e R s m args below meth c D A nL cells slots Q ad n M pc lv st := kk hJ
/-- the locals in another order, or fewer -/
theorem m_lv (ks : List Nat) (hl : lv_pick lv ks = lv') (kk : mW p l e R s m args below meth c D A nL cells slots Q ad n M pc lv' st) : mW p l e R s m args below meth c D A nL cells slots Q ad n M pc lv st :=
  fun H locs ls hP hS h => kk H locs ls hP hS (lv_sub h ks hl)
end MEM
/-- a contract from the walk of its body -/
theorem m_entry {l : Launch} {y : MethodName} {ws ws' : List Cond} {rm : Room} {D : va_G} {cy : Nat → ClassId} {ad : Nat → Nat} {n : Nat} {A : Nat → Prop} {as : List Value} {M : Nat → va_E} {Qc : Array Value → State → Outcome → State → Prop} {cc : ByteArray} {maxL : Nat} {ret : Option FieldType} {lv : List (Nat × Value)} {own : String} (hI : mI ad n A)
    (hy : plainName y.cls = true) (hw : ws = Cond.code y cc maxL ret :: ws') (ho : y.cls = own) (hle : (lg_sl as).length ≤ maxL) (hlv : lv_args 0 as = lv)
    (body : ∀ (p : Program) (e : Env) (s : State) (m : MethodId) (args : Array Value) (below : List Frame) (meth : Method) (c : Code), mC p s m args c cc maxL own ws D cy ad n A → meth.sig.returnType = ret → meth.locks = false → mW p l e rm s m args below meth c D A maxL 0 0 (MQ below Qc args s 0 0 A) ad n M 0 lv []) : Met l y ws rm (mPc D cy ad n A as M) Qc 0 0 A := by
  refine Met.ofW (cc := cc) (maxL := maxL) (ret := ret) hy hw ?_
  intro p e s m args below meth c s₁ B hml hv
  obtain ⟨rfl, hP, hK, hA⟩ := hv
  have hts := atoms_spec (ws := ws) B.pre
  have hown : s.vm.findClass own = some m.cls := by rw [← ho]; exact findClass_of_methodNamed B.named
  have hl := lv_entry as (n := maxL) hle
  rw [hlv] at hl
  rw [lg_entry_eq]
  exact body p e s m as.toArray below meth c ⟨⟨B.exec, B.bytes, hml, hown, hts⟩, hK, hI, hA⟩ B.returns B.notSynchronized s.heap [] _ hP va_S.rf hl
