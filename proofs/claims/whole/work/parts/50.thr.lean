/-! what a throw needs of the state: the statics of the throwables, the words of their classes that a warming keeps by rows of their own -/
def zK (A : Nat → Prop) (U : State) (H : Heap) : Prop := vx_Zq Bundle.tN "UNASSIGNED_STACK" Bundle.steD A U H ∧ vx_Zq Bundle.tN "SUPPRESSED_SENTINEL" Bundle.listD A U H
abbrev eST : String := "java/lang/IllegalStateException"
abbrev eAR : String := "java/lang/IllegalArgumentException"
abbrev eIX : String := "java/lang/IndexOutOfBoundsException"
abbrev eUp : List String := ["java/lang/RuntimeException", "java/lang/Exception"]
abbrev xDe : List MethodName := [⟨"java/lang/RuntimeException", "<init>", "()V"⟩, ⟨"java/lang/Exception", "<init>", "()V"⟩, ⟨"java/lang/Throwable", "<init>", "()V"⟩]
abbrev xCa : List (String × String) := [(eST, eST), (eAR, eAR), (eIX, eIX)]
abbrev xNo : List (String × String) := [(eST, eAR), (eAR, eIX)]
def xK (s : State) : Prop := (∀ x ∈ xDe, va_Nw (.declares x) s) ∧ (∀ q ∈ xCa, va_Nw (.castable q.1 q.2) s) ∧ ∀ q ∈ xNo, va_Nc q.1 q.2 s
theorem xK.warm {s U : State} (h : xK s) (hW : s.WarmedH U.vm) : xK U := ⟨fun x hx => va_Nw.warmD hW (h.1 x hx), fun q hq => va_Nw.warmC hW (h.2.1 q hq), fun q hq => va_Nc.moved hW.alike (h.2.2 q hq)⟩
theorem zK.go {A : Nat → Prop} {s U : State} {H : Heap} {locs : List Loc} (h : zK A s s.heap) (hS : va_S A s.heap H locs) (hW : s.WarmedH U.vm) (hU : U.heap = H) : zK A U U.heap := by
  rw [hU]
  exact ⟨vx_Zq.moved hW.alike (h.1.kept hS.2.1), vx_Zq.moved hW.alike (h.2.kept hS.2.1)⟩
/-- a contract's start where it may throw -/
def mPx (D : va_G) (cy : Nat → ClassId) (ad : Nat → Nat) (n : Nat) (A : Nat → Prop) (as : List Value) (M : Nat → va_E) : Array Value → State → Prop :=
  va_Pc as (fun U => mm D ad n M U.heap ∧ mK D cy U ∧ (∀ q, U.heap.size ≤ q → A q) ∧ zK A U U.heap ∧ xK U)
abbrev xQ (D : va_G) (ad : Nat → Nat) (n : Nat) (A : Nat → Prop) (px : String → (Nat → va_E) → Prop) : String → State → State → Prop :=
  vx_X (fun u : String × (Nat → va_E) => px u.1 u.2) (fun E u t => E = u.1 ∧ mB D ad n u.2 t) A
def mXi (l : Launch) (y : MethodName) (ws : List Cond) (rm : Room) (D : va_G) (cy : Nat → ClassId) (ad : Nat → Nat) (n : Nat) (A : Nat → Prop) (as : List Value) (M : Nat → va_E) (post : Int32 → (Nat → va_E) → Prop) (px : String → (Nat → va_E) → Prop) : Prop :=
  vx_Met l y ws rm (mPx D cy ad n A as M) (va_Qi post (mB D ad n) A) (xQ D ad n A px) 1 6 A
def mXv (l : Launch) (y : MethodName) (ws : List Cond) (rm : Room) (D : va_G) (cy : Nat → ClassId) (ad : Nat → Nat) (n : Nat) (A : Nat → Prop) (as : List Value) (M : Nat → va_E) (post : (Nat → va_E) → Prop) (px : String → (Nat → va_E) → Prop) : Prop :=
  vx_Met l y ws rm (mPx D cy ad n A as M) (va_Qv post (mB D ad n) A) (xQ D ad n A px) 1 6 A
theorem xAt {args : Array Value} {s : State} {own : String} {ic : Nat} {E : String} (h : xK s) (hc : (E, E) ∈ xCa) (h1 : ∀ w ∈ (vx_at0 own ic E eUp).filter goodWord, w.before args s = true)
    (h2 : (vx_at0 own ic E eUp).filter (fun w => !goodWord w) = [.declares ⟨"java/lang/RuntimeException", "<init>", "()V"⟩, .declares ⟨"java/lang/Exception", "<init>", "()V"⟩, .declares ⟨"java/lang/Throwable", "<init>", "()V"⟩, .castable E E]) : ∀ w ∈ vx_at0 own ic E eUp, w.before args s = true := by
  refine vx_hat (B := [.declares ⟨"java/lang/RuntimeException", "<init>", "()V"⟩, .declares ⟨"java/lang/Exception", "<init>", "()V"⟩, .declares ⟨"java/lang/Throwable", "<init>", "()V"⟩, .castable E E]) h1 (fun w hw => by rw [h2] at hw; exact hw) ?_
  exact vx_c (va_Nw.use rfl (h.1 _ (by simp))) (vx_c (va_Nw.use rfl (h.1 _ (by simp))) (vx_c (va_Nw.use rfl (h.1 _ (by simp))) (vx_c (va_Nw.use rfl (h.2.1 _ hc)) vx_n)))
section THR
variable {p : Program} {l : Launch} {e : Env} {R : Room} {s : State} {m : MethodId} {args : Array Value} {below : List Frame} {meth : Method} {c : Code} {cells slots : Nat} {Q : State → Prop} {D : va_G} {cy : Nat → ClassId} {ad : Nat → Nat} {n : Nat} {A : Nat → Prop} {nL : Nat} {M : Nat → va_E} {pc pc' : Nat} {lv lv' : List (Nat × Value)} {st : List Value} {cc : ByteArray} {own : String} {Ts : List Cond} {Qc : Array Value → State → Outcome → State → Prop} {XC : String → State → State → Prop} {mc ms : Nat}
theorem m_xret (hc : cells ≤ mc) (hs : slots ≤ ms) (kk : mW p l e R s m args below meth c D A nL mc ms (MQ below Qc args s mc ms A) ad n M pc lv st) : mW p l e R s m args below meth c D A nL cells slots (vx_MQ below Qc XC args s mc ms A) ad n M pc lv st :=
  fun H locs ls hP hS hl => W.widen hc hs (vx_ret (kk H locs ls hP hS hl))
/-- 'throw new E()' of one of the three classes -/
theorem m_throw (C : mC p s m args c cc nL own Ts D cy ad n A) {ik ic : Nat} {E : String} {px : String → (Nat → va_E) → Prop} (hl : l.stackTraces = false) (hz : zK A s s.heap) (hx : xK s) (hout : ∀ x ∈ c.exceptionTable.toList, False) (hml : c.maxLocals = nL) (hlk : meth.locks = false)
    (hE : (E, E) ∈ xCa) (hfit : Bundle.fit E = true) (h1 : Cond.classLink own ik E ∈ Ts) (h2 : Cond.initialized E ∈ Ts) (h3 : ∀ w ∈ (vx_at0 own ic E eUp).filter goodWord, w ∈ Ts)
    (h4 : (vx_at0 own ic E eUp).filter (fun w => !goodWord w) = [.declares ⟨"java/lang/RuntimeException", "<init>", "()V"⟩, .declares ⟨"java/lang/Exception", "<init>", "()V"⟩, .declares ⟨"java/lang/Throwable", "<init>", "()V"⟩, .castable E E])
    (h5 : ∀ w ∈ Cond.classLink own ik E :: Cond.initialized E :: vx_at0 own ic E eUp, vx_ot w = true)
    (d0 : decode cc pc = .ok (.new ik, 3)) (d3 : decode cc (pc + 3) = .ok (.dup, 1)) (d4 : decode cc (pc + 4) = .ok (.invokespecial ic, 3)) (d7 : decode cc (pc + 7) = .ok (.athrow, 1))
    (hfr : 6 ≤ R.frames) (hlo : (st.map fun v => v.category).sum + 81 ≤ R.locals) (hR : cells + 1 ≤ R.cells ∧ slots + 6 ≤ R.slots) (hm : cells + 1 ≤ mc ∧ slots + 6 ≤ ms) (hq : px E M) :
    mW p l e R s m args below meth c D A nL cells slots (vx_MQ below Qc (xQ D ad n A px) args s mc ms A) ad n M pc lv st := by
  intro H locs ls hP hS hls
  refine vx_throw0 (A := A) (names := eUp) C.1.1 C.1.2.1 hl C.1.2.2.2.1 hfit (by decide) (C.1.2.2.2.2 _ h1) (C.1.2.2.2.2 _ h2) (xAt hx hE (fun w h => C.1.2.2.2.2 _ (h3 w h)) h4) h5 hz.1 hz.2 hS (hls.1.trans hml.symm) d0 d3 d4 d7 (fun x h => (hout x h).elim) (by show 5 < R.frames; omega) (by show _ + (13 * 3 + 42) ≤ _; omega) hR.1 hR.2 hlk ?_ (fun z hz => hS.2.2 z hz) hm.1 hm.2
  intro t hal hsz hk
  refine ⟨(E, M), hq, ⟨rfl, ?_⟩, Nat.le_trans hS.1 hsz, fun q h1 h2 => ?_⟩
  · show mm D ad n M t.heap
    exact va_P.kept hP (fun k q hk9 => hk q.1 (vx_lt hP hk9))
  · rw [hk q (Nat.lt_of_lt_of_le h1 hS.1)]; exact hS.2.1 q h1 h2
end THR
/-- a contract that may throw, from the walk of its body -/
theorem m_entryX {l : Launch} {y : MethodName} {ws ws' : List Cond} {rm : Room} {D : va_G} {cy : Nat → ClassId} {ad : Nat → Nat} {n : Nat} {A : Nat → Prop} {as : List Value} {M : Nat → va_E} {Qc : Array Value → State → Outcome → State → Prop} {XC : String → State → State → Prop} {mc ms : Nat} {cc : ByteArray} {maxL : Nat} {ret : Option FieldType} {lv : List (Nat × Value)} {own : String} (hI : mI ad n A)
    (hy : plainName y.cls = true) (hw : ws = Cond.code y cc maxL ret :: ws') (ho : y.cls = own) (hle : (lg_sl as).length ≤ maxL) (hlv : lv_args 0 as = lv)
    (body : ∀ (p : Program) (e : Env) (s : State) (m : MethodId) (args : Array Value) (below : List Frame) (meth : Method) (c : Code), mC p s m args c cc maxL own ws D cy ad n A → meth.sig.returnType = ret → meth.locks = false → zK A s s.heap → xK s → (∀ x ∈ c.exceptionTable.toList, False) → c.maxLocals = maxL → mW p l e rm s m args below meth c D A maxL 0 0 (vx_MQ below Qc XC args s mc ms A) ad n M 0 lv []) : vx_Met l y ws rm (mPx D cy ad n A as M) Qc XC mc ms A := by
  refine vx_ofW (cc := cc) (maxL := maxL) (ret := ret) hy hw ?_
  intro p e s m args below meth c s₁ B hml htb hv
  obtain ⟨rfl, hP, hK, hA, hz, hx⟩ := hv
  have hts := atoms_spec (ws := ws) B.pre
  have hown : s.vm.findClass own = some m.cls := by rw [← ho]; exact findClass_of_methodNamed B.named
  have hl := lv_entry as (n := maxL) hle
  rw [hlv] at hl
  rw [lg_entry_eq]
  exact body p e s m as.toArray below meth c ⟨⟨B.exec, B.bytes, hml, hown, hts⟩, hK, hI, hA⟩ B.returns B.notSynchronized hz hx htb hml s.heap [] _ hP va_S.rf hl
theorem xw_ST : ∀ w ∈ (vx_at0 RX11 85 eST eUp).filter goodWord, w ∈ GT := fun w hw => List.mem_filter.mpr ⟨(by decide +kernel : ∀ w ∈ (vx_at0 RX11 85 eST eUp).filter goodWord, w ∈ lw_tbl) w hw, (List.mem_filter.mp hw).2⟩
theorem xw_AR : ∀ w ∈ (vx_at0 RX11 105 eAR eUp).filter goodWord, w ∈ GT := fun w hw => List.mem_filter.mpr ⟨(by decide +kernel : ∀ w ∈ (vx_at0 RX11 105 eAR eUp).filter goodWord, w ∈ lw_tbl) w hw, (List.mem_filter.mp hw).2⟩
theorem xw_IX : ∀ w ∈ (vx_at0 RX11 182 eIX eUp).filter goodWord, w ∈ GT := fun w hw => List.mem_filter.mpr ⟨(by decide +kernel : ∀ w ∈ (vx_at0 RX11 182 eIX eUp).filter goodWord, w ∈ lw_tbl) w hw, (List.mem_filter.mp hw).2⟩
abbrev xB (E : String) : List Cond := [.declares ⟨"java/lang/RuntimeException", "<init>", "()V"⟩, .declares ⟨"java/lang/Exception", "<init>", "()V"⟩, .declares ⟨"java/lang/Throwable", "<init>", "()V"⟩, .castable E E]
theorem xb_ST : (vx_at0 RX11 85 eST eUp).filter (fun w => !goodWord w) = xB eST := by decide +kernel
theorem xb_AR : (vx_at0 RX11 105 eAR eUp).filter (fun w => !goodWord w) = xB eAR := by decide +kernel
theorem xb_IX : (vx_at0 RX11 182 eIX eUp).filter (fun w => !goodWord w) = xB eIX := by decide +kernel
theorem xo_ST : ∀ w ∈ Cond.classLink RX11 83 eST :: Cond.initialized eST :: vx_at0 RX11 85 eST eUp, vx_ot w = true := by decide +kernel
theorem xo_AR : ∀ w ∈ Cond.classLink RX11 103 eAR :: Cond.initialized eAR :: vx_at0 RX11 105 eAR eUp, vx_ot w = true := by decide +kernel
theorem xo_IX : ∀ w ∈ Cond.classLink RX11 180 eIX :: Cond.initialized eIX :: vx_at0 RX11 182 eIX eUp, vx_ot w = true := by decide +kernel
theorem m_lvx {p : Program} {l : Launch} {e : Env} {R : Room} {s : State} {m : MethodId} {args : Array Value} {below : List Frame} {meth : Method} {c : Code} {cells slots : Nat} {Q : State → Prop} {D : va_G} {ad : Nat → Nat} {n : Nat} {A : Nat → Prop} {nL : Nat} {M : Nat → va_E} {pc : Nat} {lv lv' : List (Nat × Value)} {st : List Value} (h : lv = lv') (kk : mW p l e R s m args below meth c D A nL cells slots Q ad n M pc lv' st) : mW p l e R s m args below meth c D A nL cells slots Q ad n M pc lv st := by rw [h]; exact kk
