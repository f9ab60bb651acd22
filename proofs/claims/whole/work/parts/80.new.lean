/-! Making: a new object is number n; the addresses of those before stay. -/
/-- an end's world: addresses and memory -/
abbrev AM : Type := (Nat → Nat) × (Nat → va_E)
def Ex (n : Nat) (ad ad' : Nat → Nat) : Prop := ∀ k, k < n → ad' k = ad k
theorem Ex.rf {n : Nat} {ad : Nat → Nat} : Ex n ad ad := fun _ _ => rfl
theorem Ex.tr {n n2 : Nat} {ad ad' ad'' : Nat → Nat} (h : Ex n ad ad') (h2 : Ex n2 ad' ad'') (hn : n ≤ n2) : Ex n ad ad'' := fun k hk => (h2 k (by omega)).trans (h k hk)
def mNq (D : va_G) (n0 : Nat) (ad : Nat → Nat) (n1 : Nat) (A : Nat → Prop) (post : (Nat → Nat) → (Nat → va_E) → Prop) : Array Value → State → Outcome → State → Prop :=
  va_Qv (S := AM) (fun u => Ex n0 ad u.1 ∧ mI u.1 n1 A ∧ post u.1 u.2) (fun u t => mm D u.1 n1 u.2 t.heap) A
def mAO (s : State) : Prop := va_AO "FormatDump$Argument" s
/-- a constructor's contract: from n0 objects to n1 -/
def mPn (D : va_G) (cy : Nat → ClassId) (ad : Nat → Nat) (n : Nat) (A : Nat → Prop) (as : List Value) (M : Nat → va_E) : Array Value → State → Prop :=
  va_Pc as (fun U => mm D ad n M U.heap ∧ mK D cy U ∧ (∀ q, U.heap.size ≤ q → A q) ∧ mAO U)
def mCt (l : Launch) (y : MethodName) (ws : List Cond) (rm : Room) (D : va_G) (cy : Nat → ClassId) (ad : Nat → Nat) (n0 n1 : Nat) (A : Nat → Prop) (as : List Value) (M : Nat → va_E) (mc ms : Nat) (post : (Nat → Nat) → (Nat → va_E) → Prop) : Prop :=
  Met l y ws rm (mPn D cy ad n0 A as M) (mNq D n0 ad n1 A post) mc ms A
section NEW
variable {p : Program} {l : Launch} {e : Env} {R : Room} {s : State} {m : MethodId} {args : Array Value} {below : List Frame} {meth : Method} {c : Code} {cells slots : Nat} {Q : State → Prop} {D : va_G} {cy : Nat → ClassId} {ad : Nat → Nat} {n : Nat} {A : Nat → Prop} {nL : Nat} {M : Nat → va_E} {pc pc' : Nat} {lv lv' : List (Nat × Value)} {st : List Value} {cc : ByteArray} {own : String} {Ts : List Cond}
theorem mnblind {as : List Value} : FrameBlind (mPn D cy ad n A as M) := fun a U g mk q => by
  obtain ⟨q0, qP, qK, qA, qO⟩ := q
  exact ⟨q0, qP, ⟨va_K.moved (u := U) (U := U.calling g mk a) (Vm.Alike.refl U.vm) qK.1, fun q hq => va_Nw.same rfl (u := U) (U := U.calling g mk a) rfl (qK.2 q hq)⟩, qA, va_AO.moved (u := U) (U := U.calling g mk a) (Vm.Alike.refl U.vm) qO⟩
theorem m_objI (C : mC p s m args c cc nL own Ts D cy ad n A) {ix : Nat} {b : Nat} (hlk : Cond.methodLink own ix objectInit ∈ Ts) (hin : Cond.instanceMethod objectInit ∈ Ts) (hco : Cond.code objectInit ⟨#[0xb1]⟩ 1 none ∈ Ts) (hd : decode cc pc = .ok (.invokespecial ix, 3)) (hp : pc + 3 = pc') (hfr : 1 ≤ R.frames) (hlo : 20 ≤ R.locals) (hW : (st.map fun v => v.category).sum ≤ 8) (kk : mW p l e R s m args below meth c D A nL cells slots Q ad n M pc' lv st) : mW p l e R s m args below meth c D A nL cells slots Q ad n M pc lv (.ref b :: st) := by
  subst hp
  intro H locs ls hP hS hl
  have h9 : 2 * (F0 m pc ls (.ref b :: st)).monitorRoom + (st.map fun v => v.category).sum ≤ 8 := lv_room hW
  exact W.objInit C.1.1 C.1.2.1 C.1.2.2.2.1 (C.1.2.2.2.2 _ hlk) (C.1.2.2.2.2 _ hin) (C.1.2.2.2.2 _ hco) rfl (hl.1.trans C.1.2.2.1.symm) rfl hd hfr (by have h8 := h9; omega) (kk H locs ls hP hS hl)
theorem m_new (C : mC p s m args c cc nL own Ts D cy ad n A) {ix N ci : Nat} {Cn : String} {T : u_T} {fs : List Value} (lvf : (Nat → Nat) → List (Nat × Value)) (stf : (Nat → Nat) → List Value) (hX : ∀ ad', Ex n ad ad' → lvf ad' = lv ∧ stf ad' = st) (hin : ∀ w ∈ u_ws Cn T N, w ∈ Ts) (ty0 : Nat → FieldType) (hty : ∀ k, k < N → parseFieldDescriptor (T k).2.2.1 = some (ty0 k)) (hlk : Cond.classLink own ix Cn ∈ Ts) (hinst : Cond.instantiable Cn N ∈ Ts) (hini : Cond.initialized Cn ∈ Ts) (hc : vwCl[ci]? = some (Cn, T, N)) (hfs : ∀ j, j < N → defaultValue (ty0 j) = vp_V fs j) (hce : cells + 1 ≤ R.cells) (hsl : slots + N ≤ R.slots) (hd : decode cc pc = .ok (.new ix, 3)) (hp : pc + 3 = pc')
    (kk : ∀ (ad' : Nat → Nat) (M' : Nat → va_E), Ex n ad ad' → M' n = .inr (ci, fs) → (∀ k, k ≠ n → M' k = M k) → mC p s m args c cc nL own Ts D cy ad' (n + 1) A → mW p l e R s m args below meth c D A nL (cells + 1) (slots + N) Q ad' (n + 1) M' pc' (lvf ad') (.ref (ad' n) :: stf ad')) : mW p l e R s m args below meth c D A nL cells slots Q ad n M pc lv st := by
  subst hp
  intro H locs ls hP hS hl
  refine va_new C.1.1 C.1.2.1 C.1.2.2.2.2 hin ty0 hty C.1.2.2.2.1 (C.1.2.2.2.2 _ hlk) (C.1.2.2.2.2 _ hinst) (C.1.2.2.2.2 _ hini) C.2.1.1 hP C.2.2.1.D hS C.2.2.2 hc hfs hce hsl hd (fun q H1 hP1 hD1 hS1 => ?_)
  rw [mm_push] at hP1 hD1
  have hE : Ex n ad (va_up ad n q) := fun k hk => va_up_ne _ _ (by omega)
  have h2 := kk (va_up ad n q) (va_up M n (.inr (ci, fs))) hE (va_up_self _ _ _) (fun k hk => va_up_ne _ _ hk) ⟨C.1, C.2.1, mI.of hD1, C.2.2.2⟩ H1 locs ls hP1 hS1
  rw [(hX _ hE).1, (hX _ hE).2, va_up_self] at h2
  exact h2 hl
theorem cy_of (C : mC p s m args c cc nL own Ts D cy ad n A) {t : Nat} {ty : FieldType} (ht : (tyL cy)[t]? = some (cy t, ty)) (hpr : ∀ C : String, ty ≠ .object C) {cA : ClassId} (hK : va_K D vwCl (tyL cy ++ [(cA, ty)]) s) : cA = cy t := by
  have h1 := (C.2.1.1.2 t _ ht).2
  have h2 := (hK.2 5 (cA, ty) rfl).2
  have e : ∀ q : ClassId, va_RA s q ty → s.vm.findClass ("[" ++ ty.toString) = some q := by
    intro q hq
    cases ty with
    | object C => exact absurd rfl (hpr C)
    | _ => exact hq
  have h3 := (e _ h1).symm.trans (e _ h2)
  exact (Option.some.inj h3).symm
theorem m_newa (C : mC p s m args c cc nL own Ts D cy ad n A) {atype : ArrayType} {ty : FieldType} {x : Int32} {N : Nat} {a0 : vp_A} (t : Nat) (lvf : (Nat → Nat) → List (Nat × Value)) (stf : (Nat → Nat) → List Value) (hX : ∀ ad', Ex n ad ad' → lvf ad' = lv ∧ stf ad' = st) (hty : newarray.typeOf atype = ty) (harr : Cond.arrayClass (newarray.typeOf atype) ∈ Ts) (ht : (tyL cy)[t]? = some (cy t, ty)) (hpr : ∀ C : String, ty ≠ .object C) (ha : ∀ cA : ClassId, vp_cell cA a0 = arrV cA N (fun _ => defaultValue ty)) (hn : ¬ x < 0) (hN : x.toNatClampNeg = N) (hby : N * componentBytes ty ≤ 536870912) (hce : cells + 1 ≤ R.cells) (hsl : slots + N ≤ R.slots) (hd : decode cc pc = .ok (.newarray atype, 2)) (hp : pc + 2 = pc')
    (kk : ∀ (ad' : Nat → Nat) (M' : Nat → va_E), Ex n ad ad' → M' n = .inl (cy t, a0) → (∀ k, k ≠ n → M' k = M k) → mC p s m args c cc nL own Ts D cy ad' (n + 1) A → mW p l e R s m args below meth c D A nL (cells + 1) (slots + N) Q ad' (n + 1) M' pc' (lvf ad') (.ref (ad' n) :: stf ad')) : mW p l e R s m args below meth c D A nL cells slots Q ad n M pc lv (.int x :: st) := by
  subst hp
  intro H locs ls hP hS hl
  refine va_newa C.1.1 C.1.2.1 (C.1.2.2.2.2 _ harr) hty C.2.1.1 hP C.2.2.1.D hS C.2.2.2 ha hn hN hby hce hsl hd (fun q cA H1 hK1 hP1 hD1 hS1 => ?_)
  have ec := cy_of C ht hpr hK1
  subst ec
  rw [mm_push] at hP1 hD1
  have hE : Ex n ad (va_up ad n q) := fun k hk => va_up_ne _ _ (by omega)
  have h2 := kk (va_up ad n q) (va_up M n (.inl (cy t, a0))) hE (va_up_self _ _ _) (fun k hk => va_up_ne _ _ hk) ⟨C.1, C.2.1, mI.of hD1, C.2.2.2⟩ H1 locs ls hP1 hS1
  rw [(hX _ hE).1, (hX _ hE).2, va_up_self] at h2
  exact h2 hl
theorem m_newq (C : mC p s m args c cc nL own Ts D cy ad n A) (hao : mAO s) {ix : Nat} {x : Int32} {N : Nat} (lvf : (Nat → Nat) → List (Nat × Value)) (stf : (Nat → Nat) → List Value) (hX : ∀ ad', Ex n ad ad' → lvf ad' = lv ∧ stf ad' = st) (hlk : Cond.classLink own ix "FormatDump$Argument" ∈ Ts) (hn : ¬ x < 0) (hN : x.toNatClampNeg = N) (hby : N * 4 ≤ 536870912) (hce : cells + 1 ≤ R.cells) (hsl : slots + N ≤ R.slots) (hd : decode cc pc = .ok (.anewarray ix, 3)) (hp : pc + 3 = pc')
    (kk : ∀ (ad' : Nat → Nat) (M' : Nat → va_E), Ex n ad ad' → M' n = .inl (cy 4, N, .inr (.inr (.inr (.inr (fun _ => none))))) → (∀ k, k ≠ n → M' k = M k) → mC p s m args c cc nL own Ts D cy ad' (n + 1) A → mW p l e R s m args below meth c D A nL (cells + 1) (slots + N) Q ad' (n + 1) M' pc' (lvf ad') (.ref (ad' n) :: stf ad')) : mW p l e R s m args below meth c D A nL cells slots Q ad n M pc lv (.int x :: st) := by
  subst hp
  intro H locs ls hP hS hl
  refine va_newq C.1.1 C.1.2.1 C.1.2.2.2.1 (C.1.2.2.2.2 _ hlk) hao C.2.1.1 hP C.2.2.1.D hS C.2.2.2 hn hN hby hce hsl hd (fun q cA H1 hK1 hP1 hD1 hS1 => ?_)
  have ec : cA = cy 4 := by
    obtain ⟨-, -, -, -, -, h1⟩ := (C.2.1.1.2 4 (cy 4, .object "FormatDump$Argument") rfl).2
    obtain ⟨-, -, -, -, -, h2⟩ := (hK1.2 5 (cA, .object "FormatDump$Argument") rfl).2
    exact (Option.some.inj (h1.symm.trans h2)).symm
  subst ec
  rw [mm_push] at hP1 hD1
  have hE : Ex n ad (va_up ad n q) := fun k hk => va_up_ne _ _ (by omega)
  have h2 := kk (va_up ad n q) (va_up M n (.inl (cy 4, N, .inr (.inr (.inr (.inr (fun _ => none))))))) hE (va_up_self _ _ _) (fun k hk => va_up_ne _ _ hk) ⟨C.1, C.2.1, mI.of hD1, C.2.2.2⟩ H1 locs ls hP1 hS1
  rw [(hX _ hE).1, (hX _ hE).2, va_up_self] at h2
  exact h2 hl
theorem m_aast (C : mC p s m args c cc nL own Ts D cy ad n A) {cap : Nat} {f : Nat → Option Nat} {i : Int32} {fs : List Value} {E' : va_E} (k o : Nat) (hk : k < n) (ho : o < n) (he : M k = .inl (cy 4, cap, .inr (.inr (.inr (.inr f))))) (hob : M o = .inr (0, fs)) (hin : vp_in i cap) (hM : (.inl (cy 4, cap, .inr (.inr (.inr (.inr (va_up f i.toNatClampNeg (some (ad o))))))) : va_E) = E') (hd : decode cc pc = .ok (.aastore, 1)) (hp : pc + 1 = pc') (kk : ∀ M' : Nat → va_E, M' k = E' → Fr [k] M M' → mW p l e R s m args below meth c D A nL cells slots Q ad n M' pc' lv st) : mW p l e R s m args below meth c D A nL cells slots Q ad n M pc lv (.ref (ad o) :: .int i :: .ref (ad k) :: st) := by
  subst hp
  subst hM
  exact fun H locs ls hP hS hl => va_astq (r := (RX0, TX0, 3)) C.1.1 C.1.2.1 C.2.1.1 hP C.2.2.1.D hS k 4 o 0 (by rw [mm_at hk, he]) rfl (by rw [mm_at ho, hob]) rfl hin hd (fun H1 locs1 hP1 _ hS1 => kk _ (va_up_self _ _ _) (Fr.rf.up (List.mem_singleton.mpr rfl)) H1 locs1 ls (by rw [mm_set] at hP1; exact hP1) hS1 hl)
theorem m_callI (C : mC p s m args c cc nL own Ts D cy ad n A) (hao : mAO s) {b : Nat} {ix : Nat} {y : MethodName} {bytes : ByteArray} {maxL na : Nat} {ws : List Cond} {rm : Room} {As rest : List Value} {n1 mc ms : Nat} {post : (Nat → Nat) → (Nat → va_E) → Prop} (hM : mCt l y ws rm D cy ad n n1 A (.ref (ad b) :: As) M mc ms post) (lvf : (Nat → Nat) → List (Nat × Value)) (stf : (Nat → Nat) → List Value) (hX : ∀ ad', Ex n ad ad' → lvf ad' = lv ∧ stf ad' = rest) (cw : CallB R s args own ix y bytes maxL none ws rm mc ms na ∧ y.name = "<init>" ∧ (Cond.instanceMethod y).before args s = true) (hn : As.length = na) (hst : st = As.reverse ++ .ref (ad b) :: rest) (hW : (rest.map fun v => v.category).sum ≤ 8) (hd : decode cc pc = .ok (.invokespecial ix, 3)) (hp : pc + 3 = pc') (hf : cells + mc ≤ R.cells ∧ slots + ms ≤ R.slots)
    (kk : ∀ (ad' : Nat → Nat) (M' : Nat → va_E), Ex n ad ad' → post ad' M' → mC p s m args c cc nL own Ts D cy ad' n1 A → mW p l e R s m args below meth c D A nL (cells + mc) (slots + ms) Q ad' n1 M' pc' (lvf ad') (stf ad')) : mW p l e R s m args below meth c D A nL cells slots Q ad n M pc lv st := by
  subst hp
  subst hst
  intro H locs ls hP hS hl
  refine va_callv (va_runI (As := As) (rest := rest) C.1 hM cw ⟨mnblind, fun U hU hW => ⟨rfl, by rw [hU]; exact hP, C.2.1.warm hW, fun q hq => C.2.2.2 q (by rw [hU] at hq; exact Nat.le_trans hS.1 hq), va_AO.moved hW.alike hao⟩⟩ rfl hn hl.1 rfl (lv_room hW) hd hf) hS (fun q _ h => h) (fun q h => h) (fun u t H1 locs1 ht hvm hw hB hz1 hk1 hS1 => ?_)
  obtain ⟨hE, hI1, hpo⟩ := hw
  have h2 := kk u.1 u.2 hE hpo ⟨C.1, C.2.1, hI1, C.2.2.2⟩ H1 locs1 ls (by have h9 : mm D u.1 n1 u.2 t.heap := hB; rw [ht] at h9; exact h9) hS1
  rw [(hX _ hE).1, (hX _ hE).2] at h2
  exact h2 hl
theorem m_vretN (C : mC p s m args c cc nL own Ts D cy ad n A) {n0 : Nat} {ad0 : Nat → Nat} {mc ms : Nat} {post : (Nat → Nat) → (Nat → va_E) → Prop} (hr : meth.sig.returnType = none) (hk : meth.locks = false) (hd : decode cc pc = .ok (.return_, 1)) (hE : Ex n0 ad0 ad) (hc : mc = cells) (hs : ms = slots) {M2 : Nat → va_E} (hM2 : ∀ k, k < n → M2 k = M k) (hq : post ad M2) : mW p l e R s m args below meth c D A nL cells slots (MQ below (mNq D n0 ad0 n A post) args s mc ms A) ad n M pc lv [] := by
  subst hc
  subst hs
  intro H locs ls hP hS hl
  refine W.vret C.1.1 C.1.2.1 hr (fun t ht hW => ⟨⟨(ad, M2), rfl, ⟨hE, C.2.2.1, hq⟩, ?_⟩, hS.F ht⟩) hS.2.2 hd hk
  show mm D ad n M2 t.heap
  have e : mm_l ad n M2 = mm_l ad n M := by
    unfold mm_l
    apply List.map_congr_left
    intro k hk
    rw [hM2 k (List.mem_range.mp hk)]
  unfold mm
  rw [e, ht]
  exact hP
end NEW
theorem m_entryN {l : Launch} {y : MethodName} {ws ws' : List Cond} {rm : Room} {D : va_G} {cy : Nat → ClassId} {ad : Nat → Nat} {n : Nat} {A : Nat → Prop} {as : List Value} {M : Nat → va_E} {mc ms : Nat} {Qc : Array Value → State → Outcome → State → Prop} {cc : ByteArray} {maxL : Nat} {ret : Option FieldType} {lv : List (Nat × Value)} {own : String} (hI : mI ad n A)
    (hy : plainName y.cls = true) (hyi : y.name = "<init>") (hw : ws = Cond.code y cc maxL ret :: ws') (ho : y.cls = own) (hle : (lg_sl as).length ≤ maxL) (hlv : lv_args 0 as = lv)
    (body : ∀ (p : Program) (e : Env) (s : State) (m : MethodId) (args : Array Value) (below : List Frame) (meth : Method) (c : Code), mC p s m args c cc maxL own ws D cy ad n A → meth.sig.returnType = ret → meth.locks = false → meth.name = "<init>" → mAO s → mW p l e rm s m args below meth c D A maxL 0 0 (MQ below Qc args s mc ms A) ad n M 0 lv []) : Met l y ws rm (mPn D cy ad n A as M) Qc mc ms A := by
  refine Met.ofW (cc := cc) (maxL := maxL) (ret := ret) hy hw ?_
  intro p e s m args below meth c s₁ B hml hv
  obtain ⟨rfl, hP, hK, hA, hO⟩ := hv
  have hts := atoms_spec (ws := ws) B.pre
  have hown : s.vm.findClass own = some m.cls := by rw [← ho]; exact findClass_of_methodNamed B.named
  have hl := lv_entry as (n := maxL) hle
  rw [hlv] at hl
  rw [lg_entry_eq]
  exact body p e s m as.toArray below meth c ⟨⟨B.exec, B.bytes, hml, hown, hts⟩, hK, hI, hA⟩ B.returns B.notSynchronized (by rw [(name_of_methodNamed B.named B.method).1]; exact hyi) hO s.heap [] _ hP va_S.rf hl
