/-! Catching: NAMES' row vx_catch (it rests on the whole library), then rows of a method with handlers. -/
section CAT
variable {p : Program} {l : Launch} {e : Env} {R : Room} {s : State} {m : MethodId} {args : Array Value} {below : List Frame} {meth : Method} {c : Code} {H : Heap} {locs : List Loc} {cells slots : Nat} {Q : State → Prop}
variable {pc : Nat} {ls : Array Slot} {rest st0 : List Value}
theorem vx_catch {own name : String} {E : String} {ce : Cell} {q : Addr} (hown : s.vm.findClass own = some m.cls) (pre : List ExceptionTableEntry) (x : ExceptionTableEntry) (suf : List ExceptionTableEntry) (hsplit : c.exceptionTable.toList = pre ++ x :: suf)
    (hpass : ∀ z ∈ pre, covers z pc = false ∨ (z.catchType ≠ 0 ∧ ∃ nm : String, (Cond.classLink own z.catchType nm).before args s = true ∧ va_Nc E nm s)) (hx : covers x pc = true) (h0 : x.catchType ≠ 0)
    (hlink : (Cond.classLink own x.catchType name).before args s = true) (hcast : (Cond.castable E name).before args s = true) (hcell : H[q]? = some ce) (hv : ce.vm = .none) (hcl : s.vm.findClass E = some ce.cls)
    (kk : W p l e R s m args below meth c H locs cells slots Q (F0 m x.handlerPc ls [.ref q])) : vx_W p l e R s m args below meth c H locs cells slots Q (F0 m pc ls rest) q := by
  intro T hT X
  have hpl : e.platform.magicAccessors = ({} : Platform).magicAccessors := by rw [X.admits.platform]
  obtain ⟨c3, c4, hc3, hc4, hasg⟩ := Cond.castable_spec hcast
  cases Option.some.inj (hc3.symm.trans hcl)
  obtain ⟨c5, hc5, hcl5⟩ := Cond.classLink_spec hown hlink e.platform hpl
  cases Option.some.inj (hc4.symm.trans hc5)
  obtain ⟨vm', X', st⟩ := X.thenCaughtThrough q (g := F0 m pc ls rest) rfl (Steps.refl _) (by rw [hT]; exact hcell) (by rw [hv]; rfl) (by obtain ⟨k9, h9, -⟩ := Vm.findClass_spec hcl; exact ⟨k9, h9⟩) pre x suf hsplit
    (fun z hz => by
      rcases hpass z hz with h | ⟨hz0, nm, hl1, hn1⟩
      · exact Or.inl h
      · obtain ⟨c6, hc6, hcl6⟩ := Cond.classLink_spec hown hl1 e.platform hpl
        obtain ⟨a8, b8, h1, h2, h3⟩ := hn1
        cases Option.some.inj (h1.symm.trans hcl)
        cases Option.some.inj (h2.symm.trans hc6)
        exact Or.inr ⟨hz0, _, hcl6, h3⟩) hx (Or.inr ⟨h0, c4, hcl5, hasg⟩)
  obtain ⟨t, a1, b1⟩ := kk (T.setVm vm') hT X'
  exact ⟨t, st.trans a1, b1⟩
end CAT
abbrev gWH (y : MethodName) (c : ByteArray) (mx : Nat) (rt : Option FieldType) (hh : List (Nat × Nat × Nat × Nat)) : List Cond := Cond.codeWith y c mx rt hh :: GT
theorem hW_of {y : MethodName} {c : ByteArray} {mx : Nat} {rt : Option FieldType} {hh : List (Nat × Nat × Nat × Nat)} {w : Cond} (h : w ∈ GT) : w ∈ gWH y c mx rt hh := List.mem_cons_of_mem _ h
theorem hW_sub {y : MethodName} {c : ByteArray} {mx : Nat} {rt : Option FieldType} {hh : List (Nat × Nat × Nat × Nat)} (h : Cond.codeWith y c mx rt hh ∈ GT) : ∀ w ∈ gWH y c mx rt hh, w ∈ GT := fun w hw => (List.mem_cons.mp hw).elim (fun e => e ▸ h) id
theorem hGoodV {y0 y : MethodName} {c0 c : ByteArray} {m0 m9 : Nat} {r0 r9 : Option FieldType} {hh : List (Nat × Nat × Nat × Nat)} {own C : String} {ix : Nat} (h1 : Cond.methodLink own ix y ∈ GT) (h2 : Cond.instanceMethod y ∈ GT) (h3 : Cond.selects C y y ∈ GT) (h4 : Cond.initialized C ∈ GT) (h5 : Cond.code y c m9 r9 ∈ GT) : GoodIn (gWH y0 c0 m0 r0 hh) (wsV own ix C y (gW y c m9 r9)) :=
  GT_good (fun w h => hW_of h) (fun w h => (List.mem_append.mp h).elim (fun h => by
    rcases List.mem_cons.mp h with e | h
    · rw [e]; exact h1
    · rcases List.mem_cons.mp h with e | h
      · rw [e]; exact h2
      · rcases List.mem_cons.mp h with e | h
        · rw [e]; exact h3
        · rw [List.mem_singleton.mp h]; exact h4) (gW_sub h5 w))
theorem goodSW {y0 y : MethodName} {c0 c : ByteArray} {m0 m9 : Nat} {r0 r9 : Option FieldType} {hh : List (Nat × Nat × Nat × Nat)} {own : String} {ix : Nat} (h1 : Cond.methodLink own ix y ∈ GT) (h2 : Cond.static y ∈ GT) (h4 : Cond.initialized y.cls ∈ GT) (h5 : Cond.codeWith y c m9 r9 hh ∈ GT) : GoodIn (gW y0 c0 m0 r0) (va_wsS own ix y (gWH y c m9 r9 hh)) :=
  GT_good (fun w h => gW_of h) (fun w h => (List.mem_append.mp h).elim (fun h => by
    rcases List.mem_cons.mp h with e | h
    · rw [e]; exact h1
    · rcases List.mem_cons.mp h with e | h
      · rw [e]; exact h2
      · rw [List.mem_singleton.mp h]; exact h4) (hW_sub h5 w))
theorem m_ofWH {l : Launch} {y : MethodName} {ws ws' : List Cond} {rm : Room} {Pc : Array Value → State → Prop} {Qc : Array Value → State → Outcome → State → Prop} {mc ms : Nat} {free : Addr → Prop} {cc : ByteArray} {maxL : Nat} {ret : Option FieldType} {hh : List (Nat × Nat × Nat × Nat)}
    (hy : plainName y.cls = true) (hw : ws = Cond.codeWith y cc maxL ret hh :: ws')
    (body : ∀ p e s m args below meth c s₁, BodyLoose p l y (headSpec ws rm) cc maxL ret e s m args below meth c s₁ → c.maxLocals = maxL → c.exceptionTable.toList = tableOf hh → Pc args s →
      W p l e (headSpec ws rm).room s m args below meth c s.heap [] 0 0 (MQ below Qc args s mc ms free) (entryFrame m args maxL)) : Met l y ws rm Pc Qc mc ms free := by
  refine MetFree.of_bodyS (code := cc) (maxLocals := maxL) (ret := ret) hy ?_ ?_
  · intro args s m h hn
    obtain ⟨m9, meth, c, hn9, h1, h2, h3, h4, -, h5, h6, -⟩ := Cond.codeWith_spec (atoms_spec (ws := ws) h _ (by rw [hw]; exact List.mem_cons_self))
    cases hn.symm.trans hn9
    exact ⟨meth, c, h1, h2, h3, h4, h5, h6⟩
  · intro p e s m args below meth c s₁ B hml hP _
    have hh0 : s₁.heap = s.heap := by rw [B.state]; rfl
    have htb : c.exceptionTable.toList = tableOf hh := vx_table (x := y) B (atoms_spec (ws := ws) B.pre _ (by rw [hw]; exact List.mem_cons_self))
    obtain ⟨t, a1, o, b1, b2, b3, b4⟩ := body p e s m args below meth c s₁ B hml htb hP s₁ hh0 (Stand.of_body B)
    exact ⟨t, o, a1, b1, b2, b3, b4⟩
/-- a wrapper's contract: it does not throw, but it may have made a throwable -/
def mHi (l : Launch) (y : MethodName) (ws : List Cond) (rm : Room) (D : va_G) (cy : Nat → ClassId) (ad : Nat → Nat) (n : Nat) (A : Nat → Prop) (as : List Value) (M : Nat → va_E) (post : Int32 → (Nat → va_E) → Prop) : Prop :=
  Met l y ws rm (mPx D cy ad n A as M) (va_Qi post (mB D ad n) A) 1 6 A
theorem m_entryH {l : Launch} {y : MethodName} {ws ws' : List Cond} {rm : Room} {D : va_G} {cy : Nat → ClassId} {ad : Nat → Nat} {n : Nat} {A : Nat → Prop} {as : List Value} {M : Nat → va_E} {Qc : Array Value → State → Outcome → State → Prop} {mc ms : Nat} {cc : ByteArray} {maxL : Nat} {ret : Option FieldType} {hh : List (Nat × Nat × Nat × Nat)} {lv : List (Nat × Value)} {own : String} (hI : mI ad n A)
    (hy : plainName y.cls = true) (hw : ws = Cond.codeWith y cc maxL ret hh :: ws') (ho : y.cls = own) (hle : (lg_sl as).length ≤ maxL) (hlv : lv_args 0 as = lv)
    (body : ∀ (p : Program) (e : Env) (s : State) (m : MethodId) (args : Array Value) (below : List Frame) (meth : Method) (c : Code), mC p s m args c cc maxL own ws D cy ad n A → meth.sig.returnType = ret → meth.locks = false → zK A s s.heap → xK s → c.exceptionTable.toList = tableOf hh → mW p l e rm s m args below meth c D A maxL 0 0 (MQ below Qc args s mc ms A) ad n M 0 lv []) : Met l y ws rm (mPx D cy ad n A as M) Qc mc ms A := by
  refine m_ofWH (cc := cc) (maxL := maxL) (ret := ret) (hh := hh) hy hw ?_
  intro p e s m args below meth c s₁ B hml htb hv
  obtain ⟨rfl, hP, hK, hA, hz, hx⟩ := hv
  have hts := atoms_spec (ws := ws) B.pre
  have hown : s.vm.findClass own = some m.cls := by rw [← ho]; exact findClass_of_methodNamed B.named
  have hl := lv_entry as (n := maxL) hle
  rw [hlv] at hl
  rw [lg_entry_eq]
  exact body p e s m as.toArray below meth c ⟨⟨B.exec, B.bytes, hml, hown, hts⟩, hK, hI, hA⟩ B.returns B.notSynchronized hz hx htb s.heap [] _ hP va_S.rf hl
section CAT2
variable {p : Program} {l : Launch} {e : Env} {R : Room} {s : State} {m : MethodId} {args : Array Value} {below : List Frame} {meth : Method} {c : Code} {cells slots : Nat} {Q : State → Prop} {D : va_G} {cy : Nat → ClassId} {ad : Nat → Nat} {n : Nat} {A : Nat → Prop} {nL : Nat} {M : Nat → va_E} {pc pc' : Nat} {lv lv' : List (Nat × Value)} {st : List Value} {cc : ByteArray} {own : String} {Ts : List Cond}
theorem mxblind {as : List Value} : FrameBlind (mPx D cy ad n A as M) := fun a U g mk q => by
  obtain ⟨q0, qP, qK, qA, qz, qx⟩ := q
  have hvm : U.vm.Alike (U.calling g mk a).vm := Vm.Alike.refl U.vm
  exact ⟨q0, qP, ⟨va_K.moved (u := U) (U := U.calling g mk a) hvm qK.1, fun q hq => va_Nw.same rfl (u := U) (U := U.calling g mk a) rfl (qK.2 q hq)⟩, qA, ⟨vx_Zq.moved hvm qz.1, vx_Zq.moved hvm qz.2⟩, ⟨fun x hx => va_Nw.same rfl (u := U) (U := U.calling g mk a) rfl (qx.1 x hx), fun x hx => va_Nw.same rfl (u := U) (U := U.calling g mk a) rfl (qx.2.1 x hx), fun x hx => va_Nc.moved hvm (qx.2.2 x hx)⟩⟩
/-- where a throw of E is caught by this method's table -/
def cAt (c : Code) (own : String) (Ts : List Cond) (pc : Nat) (E : String) (h : Nat) : Prop := ∃ (pre : List ExceptionTableEntry) (x : ExceptionTableEntry) (suf : List ExceptionTableEntry) (name : String), c.exceptionTable.toList = pre ++ x :: suf ∧ (∀ z ∈ pre, covers z pc = false ∨ (z.catchType ≠ 0 ∧ ∃ nm : String, Cond.classLink own z.catchType nm ∈ Ts ∧ (E, nm) ∈ xNo)) ∧ covers x pc = true ∧ x.catchType ≠ 0 ∧ Cond.classLink own x.catchType name ∈ Ts ∧ (E, name) ∈ xCa ∧ x.handlerPc = h
theorem m_callXi (C : mC p s m args c cc nL own Ts D cy ad n A) {Cn : String} {b : Nat} {ix : Nat} {y : MethodName} {bytes : ByteArray} {maxL na : Nat} {rt : Option FieldType} {ws : List Cond} {rm : Room} {As rest : List Value} {post : Int32 → (Nat → va_E) → Prop} {px : String → (Nat → va_E) → Prop} (hM : mXi l y ws rm D cy ad n A (.ref (ad b) :: As) M post px) (hz : zK A s s.heap) (hx : xK s) (cw : CallW R s args own Cn ix y bytes maxL rt ws rm 1 6 na) (hbn : b < n) {ci : Nat} {fs : List Value} (hob : M b = .inr (ci, fs)) {T : u_T} {N : Nat} (hcl : vwCl[ci]? = some (Cn, T, N)) (hn : As.length = na) (hst : st = As.reverse ++ .ref (ad b) :: rest) (hW : (rest.map fun v => v.category).sum ≤ 8) (hd : decode cc pc = .ok (.invokevirtual ix, 3)) (hp : pc + 3 = pc') (hf : cells + 1 ≤ R.cells ∧ slots + 6 ≤ R.slots)
    (kx : ∀ (E : String) (M' : Nat → va_E) (q : Nat), px E M' → ∃ h : Nat, cAt c own Ts pc E h ∧ mW p l e R s m args below meth c D A nL (cells + 1) (slots + 6) Q ad n M' h lv [.ref q])
    (kk : ∀ (r : Int32) (M' : Nat → va_E), post r M' → mW p l e R s m args below meth c D A nL (cells + 1) (slots + 6) Q ad n M' pc' lv (.int r :: rest)) : mW p l e R s m args below meth c D A nL cells slots Q ad n M pc lv st := by
  subst hp
  subst hst
  intro H locs ls hP hS hl
  refine vx_calli (vx_runV (As := As) (rest := rest) C.1 hM cw ⟨mxblind, va_recv C.2.1.1 hP (ci := ci) (q0 := b) hcl (by rw [mm_at hbn, hob]), fun U hU hW => ⟨rfl, by rw [hU]; exact hP, C.2.1.warm hW, fun q hq => C.2.2.2 q (by rw [hU] at hq; exact Nat.le_trans hS.1 hq), hz.go hS hW hU, hx.warm hW⟩⟩ rfl hn hl.1 rfl (lv_room hW) hd hf) hS (fun q _ h => h) (fun q h => h) (fun q _ h => h) (fun E ce q9 u t H1 locs1 ht hvm hpx hB hz1 hk1 hS1 hce hcv hcls => ?_) (fun r M' t H1 locs1 ht hvm hw hB hz1 hk1 hS1 => kk r M' hw H1 locs1 ls (by have h9 : mm D ad n M' t.heap := hB; rw [ht] at h9; exact h9) hS1 hl)
  obtain ⟨rfl, hB2⟩ := hB
  obtain ⟨h, ⟨pre, x, suf, name, hsp, hpr, hcv2, h0, hlk, hca, rfl⟩, hk9⟩ := kx u.1 u.2 q9 hpx
  refine vx_catch C.1.2.2.2.1 pre x suf hsp (fun z hz9 => ?_) hcv2 h0 (C.1.2.2.2.2 _ hlk) (va_Nw.use rfl (hx.2.1 _ hca)) hce hcv hcls (hk9 H1 locs1 ls (by have h9 : mm D ad n u.2 t.heap := hB2; rw [ht] at h9; exact h9) hS1 hl)
  rcases hpr z hz9 with q | ⟨q1, nm, q2, q3⟩
  · exact Or.inl q
  · exact Or.inr ⟨q1, nm, C.1.2.2.2.2 _ q2, hx.2.2 _ q3⟩
theorem m_callXv (C : mC p s m args c cc nL own Ts D cy ad n A) {Cn : String} {b : Nat} {ix : Nat} {y : MethodName} {bytes : ByteArray} {maxL na : Nat} {rt : Option FieldType} {ws : List Cond} {rm : Room} {As rest : List Value} {post : (Nat → va_E) → Prop} {px : String → (Nat → va_E) → Prop} (hM : mXv l y ws rm D cy ad n A (.ref (ad b) :: As) M post px) (hz : zK A s s.heap) (hx : xK s) (cw : CallW R s args own Cn ix y bytes maxL rt ws rm 1 6 na) (hbn : b < n) {ci : Nat} {fs : List Value} (hob : M b = .inr (ci, fs)) {T : u_T} {N : Nat} (hcl : vwCl[ci]? = some (Cn, T, N)) (hn : As.length = na) (hst : st = As.reverse ++ .ref (ad b) :: rest) (hW : (rest.map fun v => v.category).sum ≤ 8) (hd : decode cc pc = .ok (.invokevirtual ix, 3)) (hp : pc + 3 = pc') (hf : cells + 1 ≤ R.cells ∧ slots + 6 ≤ R.slots)
    (kx : ∀ (E : String) (M' : Nat → va_E) (q : Nat), px E M' → ∃ h : Nat, cAt c own Ts pc E h ∧ mW p l e R s m args below meth c D A nL (cells + 1) (slots + 6) Q ad n M' h lv [.ref q])
    (kk : ∀ (M' : Nat → va_E), post M' → mW p l e R s m args below meth c D A nL (cells + 1) (slots + 6) Q ad n M' pc' lv rest) : mW p l e R s m args below meth c D A nL cells slots Q ad n M pc lv st := by
  subst hp
  subst hst
  intro H locs ls hP hS hl
  refine vx_callv (vx_runV (As := As) (rest := rest) C.1 hM cw ⟨mxblind, va_recv C.2.1.1 hP (ci := ci) (q0 := b) hcl (by rw [mm_at hbn, hob]), fun U hU hW => ⟨rfl, by rw [hU]; exact hP, C.2.1.warm hW, fun q hq => C.2.2.2 q (by rw [hU] at hq; exact Nat.le_trans hS.1 hq), hz.go hS hW hU, hx.warm hW⟩⟩ rfl hn hl.1 rfl (lv_room hW) hd hf) hS (fun q _ h => h) (fun q h => h) (fun q _ h => h) (fun E ce q9 u t H1 locs1 ht hvm hpx hB hz1 hk1 hS1 hce hcv hcls => ?_) (fun M' t H1 locs1 ht hvm hw hB hz1 hk1 hS1 => kk M' hw H1 locs1 ls (by have h9 : mm D ad n M' t.heap := hB; rw [ht] at h9; exact h9) hS1 hl)
  obtain ⟨rfl, hB2⟩ := hB
  obtain ⟨h, ⟨pre, x, suf, name, hsp, hpr, hcv2, h0, hlk, hca, rfl⟩, hk9⟩ := kx u.1 u.2 q9 hpx
  refine vx_catch C.1.2.2.2.1 pre x suf hsp (fun z hz9 => ?_) hcv2 h0 (C.1.2.2.2.2 _ hlk) (va_Nw.use rfl (hx.2.1 _ hca)) hce hcv hcls (hk9 H1 locs1 ls (by have h9 : mm D ad n u.2 t.heap := hB2; rw [ht] at h9; exact h9) hS1 hl)
  rcases hpr z hz9 with q | ⟨q1, nm, q2, q3⟩
  · exact Or.inl q
  · exact Or.inr ⟨q1, nm, C.1.2.2.2.2 _ q2, hx.2.2 _ q3⟩
/-- a call of a wrapper -/
theorem m_callH (C : mC p s m args c cc nL own Ts D cy ad n A) {ix : Nat} {y : MethodName} {bytes : ByteArray} {maxL na : Nat} {rt : Option FieldType} {hh : List (Nat × Nat × Nat × Nat)} {ws : List Cond} {rm : Room} {As rest : List Value} {post : Int32 → (Nat → va_E) → Prop} (hM : mHi l y ws rm D cy ad n A As M post) (hz : zK A s s.heap) (hx : xK s) (cw : vx_CSW R s args own ix y bytes maxL rt hh ws rm 1 6 na) (hn : As.length = na) (hst : st = As.reverse ++ rest) (hW : (rest.map fun v => v.category).sum ≤ 8) (hd : decode cc pc = .ok (.invokestatic ix, 3)) (hp : pc + 3 = pc') (hf : cells + 1 ≤ R.cells ∧ slots + 6 ≤ R.slots)
    (kk : ∀ (r : Int32) (M' : Nat → va_E), post r M' → mW p l e R s m args below meth c D A nL (cells + 1) (slots + 6) Q ad n M' pc' lv (.int r :: rest)) : mW p l e R s m args below meth c D A nL cells slots Q ad n M pc lv st := by
  subst hp
  subst hst
  intro H locs ls hP hS hl
  exact va_calli (vx_runSW (As := As) (rest := rest) C.1 hM cw ⟨mxblind, fun U hU hW => ⟨rfl, by rw [hU]; exact hP, C.2.1.warm hW, fun q hq => C.2.2.2 q (by rw [hU] at hq; exact Nat.le_trans hS.1 hq), hz.go hS hW hU, hx.warm hW⟩⟩ rfl hn hl.1 rfl (lv_room hW) hd hf) hS (fun q _ h => h) (fun q h => h) (fun r M' t H1 locs1 ht hvm hw hB hz1 hk1 hS1 => kk r M' hw H1 locs1 ls (by have h9 : mm D ad n M' t.heap := hB; rw [ht] at h9; exact h9) hS1 hl)
end CAT2
