/-! the law: its words are GT itself -/
theorem inL_of {w : Cond} (h : w ∈ GT) : w ∈ GT := h
theorem goodVL {y : MethodName} {c : ByteArray} {m9 : Nat} {r9 : Option FieldType} {own C : String} {ix : Nat} (h1 : Cond.methodLink own ix y ∈ GT) (h2 : Cond.instanceMethod y ∈ GT) (h3 : Cond.selects C y y ∈ GT) (h4 : Cond.initialized C ∈ GT) (h5 : Cond.code y c m9 r9 ∈ GT) : GoodIn GT (wsV own ix C y (gW y c m9 r9)) :=
  GT_good (fun w h => h) (fun w h => (List.mem_append.mp h).elim (fun h => by
    rcases List.mem_cons.mp h with e | h
    · rw [e]; exact h1
    · rcases List.mem_cons.mp h with e | h
      · rw [e]; exact h2
      · rcases List.mem_cons.mp h with e | h
        · rw [e]; exact h3
        · rw [List.mem_singleton.mp h]; exact h4) (gW_sub h5 w))
theorem goodSL {y : MethodName} {c : ByteArray} {m9 : Nat} {r9 : Option FieldType} {hh : List (Nat × Nat × Nat × Nat)} {own : String} {ix : Nat} (h1 : Cond.methodLink own ix y ∈ GT) (h2 : Cond.static y ∈ GT) (h4 : Cond.initialized y.cls ∈ GT) (h5 : Cond.codeWith y c m9 r9 hh ∈ GT) : GoodIn GT (va_wsS own ix y (gWH y c m9 r9 hh)) :=
  GT_good (fun w h => h) (fun w h => (List.mem_append.mp h).elim (fun h => by
    rcases List.mem_cons.mp h with e | h
    · rw [e]; exact h1
    · rcases List.mem_cons.mp h with e | h
      · rw [e]; exact h2
      · rw [List.mem_singleton.mp h]; exact h4) (hW_sub h5 w))
theorem goodNL {y : MethodName} {c : ByteArray} {m9 : Nat} {r9 : Option FieldType} (h5 : Cond.code y c m9 r9 ∈ GT) : GoodIn GT (gW y c m9 r9) := GT_good (fun w h => h) (gW_sub h5)
theorem inL_X11 : ∀ w ∈ wsX110, w ∈ GT := fun w h => GT_t (inG_X11 w h).1 (inG_X11 w h).2
theorem inL_X12 : ∀ w ∈ wsX120, w ∈ GT := fun w h => GT_t (inG_X12 w h).1 (inG_X12 w h).2
/-- class and reference in the same state; the law's one long -/
def isS (cy : Nat → ClassId) (ad : Nat → Nat) (M : Nat → va_E) : Prop := (∃ (T : List Nat) (xs : Nat → Arg) (cnt lim : Nat) (O B : List Nat) (fp ot : Int32), isX cy ad 64 M T xs cnt lim O B fp ot ∧ isM cy ad M T xs cnt lim O B fp ot) ∧ ∃ f : Nat → Int64, M 63 = .inl (cy 2, 1, .inr (.inl f))
def lc (x : Int32) : Nat := (x.toUInt32 % 65536).toNat
theorem lc_lt (x : Int32) : lc x < 65536 := by
  unfold lc
  rw [UInt32.toNat_mod]
  exact Nat.mod_lt _ (by decide)
theorem lc_eq (x : Int32) : (x.toUInt32 % 65536).toInt32 = nI (lc x) := by
  apply Int32.toBitVec_inj.mp
  apply BitVec.eq_of_toNat_eq
  show (x.toUInt32 % 65536).toNat = (nI (lc x)).toBitVec.toNat
  rw [pk_tn (by have := lc_lt x; omega)]
  rfl
theorem lcmp_self (x : Int64) : lg_cmp x x = 0 := by
  unfold lg_cmp
  rw [if_neg (Int64.lt_irrefl), if_pos rfl]
section LAW
variable {p : Program} {l : Launch} {e : Env} {R : Room} {s : State} {m : MethodId} {args : Array Value} {below : List Frame} {meth : Method} {c : Code} {cells slots : Nat} {Q : State → Prop} {D : va_G} {cy : Nat → ClassId} {ad : Nat → Nat} {n : Nat} {A : Nat → Prop} {nL : Nat} {M : Nat → va_E} {pc pc' : Nat} {lv lv' : List (Nat × Value)} {st : List Value} {cc : ByteArray} {own : String} {Ts : List Cond} {b L : Nat} {xs : Nat → Int32}
theorem m_sald (C : mC p s m args c cc nL own Ts D cy ad n A) (hS9 : va_X b L xs s s.heap) (hb1 : b < s.heap.size) (hb2 : ¬ A b) {i v : Int32} (hin : vp_in i L) (hv : xs i.toNatClampNeg = v) (hd : decode cc pc = .ok (.iaload, 1)) (hp : pc + 1 = pc') (kk : mW p l e R s m args below meth c D A nL cells slots Q ad n M pc' lv (.int v :: st)) : mW p l e R s m args below meth c D A nL cells slots Q ad n M pc lv (.int i :: .ref b :: st) := by
  subst hp
  subst hv
  exact fun H locs ls hP hS hl => va_sld C.1.1 C.1.2.1 hS9 hb1 hb2 hS hin hd (kk H locs ls hP hS hl)
theorem m_slen (C : mC p s m args c cc nL own Ts D cy ad n A) (hS9 : va_X b L xs s s.heap) (hb1 : b < s.heap.size) (hb2 : ¬ A b) (hd : decode cc pc = .ok (.arraylength, 1)) (hp : pc + 1 = pc') (kk : mW p l e R s m args below meth c D A nL cells slots Q ad n M pc' lv (.int (nI L) :: st)) : mW p l e R s m args below meth c D A nL cells slots Q ad n M pc lv (.ref b :: st) := by
  subst hp
  exact fun H locs ls hP hS hl => va_slen C.1.1 C.1.2.1 hS9 hb1 hb2 hS hd (kk H locs ls hP hS hl)
theorem m_wid {k q : Nat} (hc : cells ≤ k) (hs : slots ≤ q) (kk : mW p l e R s m args below meth c D A nL k q Q ad n M pc lv st) : mW p l e R s m args below meth c D A nL cells slots Q ad n M pc lv st :=
  fun H locs ls hP hS hl => W.widen hc hs (kk H locs ls hP hS hl)
theorem m_loopC {σ : Type} (Mf : σ → Nat → va_E) (lvf : σ → List (Nat × Value)) (cf sf : σ → Nat) (I : σ → Prop) (μ : σ → Nat) (a : σ) (h : I a)
    (hs : ∀ a, I a → (∀ b, I b → μ b < μ a → mW p l e R s m args below meth c D A nL (cf b) (sf b) Q ad n (Mf b) pc (lvf b) st) → mW p l e R s m args below meth c D A nL (cf a) (sf a) Q ad n (Mf a) pc (lvf a) st) : mW p l e R s m args below meth c D A nL (cf a) (sf a) Q ad n (Mf a) pc (lvf a) st := by
  have key : ∀ (j : Nat) (a : σ), μ a < j → I a → mW p l e R s m args below meth c D A nL (cf a) (sf a) Q ad n (Mf a) pc (lvf a) st := by
    intro j
    induction j with
    | zero => intro a h0; exact absurd h0 (Nat.not_lt_zero _)
    | succ j ih => intro a h1 h2; exact hs a h2 (fun b hb hlt => ih b (by omega) hb)
  exact key (μ a + 1) a (Nat.lt_succ_self _) h
end LAW
