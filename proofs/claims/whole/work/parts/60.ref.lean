/-! The reference: one object, 52; its field j is held beside the memory too, at 100 + j (numbers that no cell has): so a field is framed like a cell. Its arrays: 53 line, 54 isText, 55 numbers, 56 textSize, 57 texts, 58 bytes, 59 out, 60 row, 61 digits, 62 found. -/
def gh (v : Value) : va_E := .inr (0, [v])
def gv (M : Nat → va_E) (k : Nat) : Value := match M k with
  | .inr (_, v :: _) => v
  | _ => .null
theorem gv_of {M : Nat → va_E} {k : Nat} {v : Value} (h : M k = gh v) : gv M k = v := by unfold gv; rw [h]; rfl
def rL (ad : Nat → Nat) (M : Nat → va_E) : List Value := [gv M 100, .ref (ad 53), gv M 102, gv M 103, .ref (ad 54), .ref (ad 55), .ref (ad 56), .ref (ad 57), gv M 108, .ref (ad 58), gv M 110, gv M 111, .ref (ad 59), gv M 113, gv M 114, gv M 115, gv M 116, gv M 117, gv M 118, gv M 119, gv M 120, gv M 121, gv M 122, gv M 123, gv M 124, gv M 125, gv M 126, gv M 127, gv M 128, .ref (ad 60), gv M 130, .ref (ad 61), gv M 132, .ref (ad 62), gv M 134, gv M 135]
def rO (ad : Nat → Nat) (M : Nat → va_E) : Prop := M 52 = .inr (12, rL ad M)
theorem rL_eq {ad : Nat → Nat} {M M' : Nat → va_E} (h : ∀ k, 100 ≤ k → M' k = M k) : rL ad M' = rL ad M := by
  have e : ∀ k, 100 ≤ k → gv M' k = gv M k := fun k hk => by unfold gv; rw [h k hk]
  unfold rL
  rw [e 100 (by omega), e 102 (by omega), e 103 (by omega), e 108 (by omega), e 110 (by omega), e 111 (by omega), e 113 (by omega), e 114 (by omega), e 115 (by omega), e 116 (by omega), e 117 (by omega), e 118 (by omega), e 119 (by omega), e 120 (by omega), e 121 (by omega), e 122 (by omega), e 123 (by omega), e 124 (by omega), e 125 (by omega), e 126 (by omega), e 127 (by omega), e 128 (by omega), e 130 (by omega), e 132 (by omega), e 134 (by omega), e 135 (by omega)]
theorem rO.fr {ad : Nat → Nat} {M M' : Nat → va_E} {S : List Nat} (h : rO ad M) (hF : Fr S M M') (hS : ∀ k ∈ S, k ≠ 52 ∧ k < 100) : rO ad M' := by
  unfold rO
  rw [hF 52 (fun q => (hS 52 q).1 rfl), rL_eq (fun k hk => hF k (fun q => by have := (hS k q).2; omega))]
  exact h
theorem rL_up {ad : Nat → Nat} {M : Nat → va_E} {k : Nat} {v : Value} (j : Nat) (hk : k = 100 + j) (hset : ∀ f : Nat → va_E, (rL ad f).set j v = rL ad (va_up f (100 + j) (gh v))) : (rL ad M).set j v = rL ad (va_up M k (gh v)) := by rw [hk]; exact hset M
section REF
variable {p : Program} {l : Launch} {e : Env} {R : Room} {s : State} {m : MethodId} {args : Array Value} {below : List Frame} {meth : Method} {c : Code} {cells slots : Nat} {Q : State → Prop} {D : va_G} {cy : Nat → ClassId} {ad : Nat → Nat} {n : Nat} {A : Nat → Prop} {nL : Nat} {M : Nat → va_E} {pc pc' : Nat} {lv lv' : List (Nat × Value)} {st : List Value} {cc : ByteArray} {own : String} {Ts : List Cond}
theorem r_get (C : mC p s m args c cc nL own Ts D cy ad n A) {ix : Nat} {v : Value} (hn : 63 ≤ n) (hO : rO ad M) (hin : ∀ w ∈ wsX120, w ∈ Ts) (j : Nat) (hj : j < 36) {nm ds : String} (hnm : (TX12 j).2.1 = nm ∧ (TX12 j).2.2.1 = ds ∧ (TX12 j).1 = "FormatDumpModel") (hlk : Cond.fieldLink own ix "FormatDumpModel" nm ds ∈ Ts) (hv : (rL ad M)[j]? = some v) (hd : decode cc pc = .ok (.getfield ix, 3)) (hp : pc + 3 = pc') (kk : mW p l e R s m args below meth c D A nL cells slots Q ad n M pc' lv (v :: st)) : mW p l e R s m args below meth c D A nL cells slots Q ad n M pc lv (.ref (ad 52) :: st) := by
  obtain ⟨rfl, rfl, h3⟩ := hnm
  exact m_get C 52 (by omega) hO rfl hin j hj hlk h3 hv hd hp kk
/-- a field's value by its fact -/
theorem r_at {ad : Nat → Nat} {M : Nat → va_E} {v : Value} (j : Nat) {k : Nat} (hj : (rL ad M)[j]? = some (gv M k)) (h : M k = gh v) : (rL ad M)[j]? = some v := by rw [hj, gv_of h]
theorem r_put (C : mC p s m args c cc nL own Ts D cy ad n A) {ix : Nat} {v : Value} {ty : FieldType} (hn : 63 ≤ n) (hn2 : n ≤ 100) (hO : rO ad M) (hin : ∀ w ∈ wsX120, w ∈ Ts) (j k : Nat) (hj : j < 36) (hk : k = 100 + j) {nm ds : String} (hnm : (TX12 j).2.1 = nm ∧ (TX12 j).2.2.1 = ds ∧ (TX12 j).1 = "FormatDumpModel" ∧ (TX12 j).2.2.2 = false) (hlk : Cond.fieldLink own ix "FormatDumpModel" nm ds ∈ Ts) (hdt : parseFieldDescriptor ds = some ty) (h1 : narrow ty v = v) (h2 : fits ty v = true)
    (hset : ∀ f : Nat → va_E, (rL ad f).set j v = rL ad (va_up f (100 + j) (gh v))) (hd : decode cc pc = .ok (.putfield ix, 3)) (hp : pc + 3 = pc')
    (kk : ∀ M' : Nat → va_E, rO ad M' → M' k = gh v → Fr [52, k] M M' → mW p l e R s m args below meth c D A nL cells slots Q ad n M' pc' lv st) : mW p l e R s m args below meth c D A nL cells slots Q ad n M pc lv (v :: .ref (ad 52) :: st) := by
  obtain ⟨rfl, rfl, h3, h4⟩ := hnm
  refine m_put (ty := ty) (fs' := (rL ad M).set j v) C 52 (by omega) hO rfl hin tyX12 tyX12_ok nmX12 j hj hlk h3 h4 hdt h1 h2 (by show j < 36; exact hj) rfl hd hp (fun M1 g1 F1 => ?_)
  intro H locs ls hP hS hl
  have hN : ∀ q : Nat, q < n → va_up M1 k (gh v) q = M1 q := fun q hq => va_up_ne _ _ (by omega)
  have hmm : mm_l ad n (va_up M1 k (gh v)) = mm_l ad n M1 := by
    unfold mm_l
    apply List.map_congr_left
    intro q hq
    rw [hN q (List.mem_range.mp hq)]
  refine kk (va_up M1 k (gh v)) ?_ (va_up_self _ _ _) ?_ H locs ls (by unfold mm; rw [hmm]; exact hP) hS hl
  · unfold rO
    rw [va_up_ne _ _ (by omega), g1, rL_up j hk hset]
    congr 2
    exact (rL_eq (fun q hq => by
      by_cases e9 : q = k
      · rw [e9, va_up_self, va_up_self]
      · rw [va_up_ne _ _ e9, va_up_ne _ _ e9]
        exact (F1 q (by simp; omega)))).symm
  · intro q hq
    simp only [List.mem_cons, List.not_mem_nil, or_false, not_or] at hq
    rw [va_up_ne _ _ hq.2]
    exact F1 q (by simp; exact hq.1)
end REF
/-- a row of chars (type t) number k, of cap places, that begins with L -/
def isA (cy : Nat → ClassId) (M : Nat → va_E) (t k cap : Nat) (L : List Nat) : Prop := L.length ≤ cap ∧ ∃ g : Nat → Nat, M k = .inl (cy t, cap, .inl (fun i => nI (g i))) ∧ ∀ i, i < L.length → g i = L.getD i 0
theorem isA.fr {cy : Nat → ClassId} {M M' : Nat → va_E} {t k cap : Nat} {L : List Nat} {S : List Nat} (h : isA cy M t k cap L) (hF : Fr S M M') (hS : k ∉ S) : isA cy M' t k cap L := by
  obtain ⟨h1, g, h2, h3⟩ := h
  exact ⟨h1, g, (hF k hS).trans h2, h3⟩
/-- the output while it is written -/
def isOut (cy : Nat → ClassId) (M : Nat → va_E) (lim : Nat) (O : List Nat) : Prop := lim ≤ 2000 ∧ (∀ x ∈ O, x < 256) ∧ M 110 = gh (.int (nI lim)) ∧ M 111 = gh (.int (nI (min O.length lim))) ∧ M 113 = gh (.int (bI (decide (lim < O.length)))) ∧ isA cy M 0 59 2000 (O.take lim)
theorem isOut.fr {cy : Nat → ClassId} {M M' : Nat → va_E} {lim : Nat} {O : List Nat} {S : List Nat} (h : isOut cy M lim O) (hF : Fr S M M') (hS : ∀ k ∈ [59, 110, 111, 113], k ∉ S) : isOut cy M' lim O := by
  obtain ⟨h1, h2, h3, h4, h5, h6⟩ := h
  exact ⟨h1, h2, (hF 110 (hS 110 (by decide))).trans h3, (hF 111 (hS 111 (by decide))).trans h4, (hF 113 (hS 113 (by decide))).trans h5, h6.fr hF (hS 59 (by decide))⟩
/-- the output at rest -/
def isOutR (cy : Nat → ClassId) (M : Nat → va_E) (lim : Nat) (O : List Nat) : Prop := lim ≤ 2000 ∧ O.length ≤ lim ∧ (∀ x ∈ O, x < 256) ∧ M 110 = gh (.int (nI lim)) ∧ M 111 = gh (.int (nI O.length)) ∧ (∃ b : Bool, M 113 = gh (.int (bI b))) ∧ isA cy M 0 59 2000 O
theorem isOutR.fr {cy : Nat → ClassId} {M M' : Nat → va_E} {lim : Nat} {O : List Nat} {S : List Nat} (h : isOutR cy M lim O) (hF : Fr S M M') (hS : ∀ k ∈ [59, 110, 111, 113], k ∉ S) : isOutR cy M' lim O := by
  obtain ⟨h1, h0, h2, h3, h4, ⟨b, h5⟩, h6⟩ := h
  exact ⟨h1, h0, h2, (hF 110 (hS 110 (by decide))).trans h3, (hF 111 (hS 111 (by decide))).trans h4, ⟨b, (hF 113 (hS 113 (by decide))).trans h5⟩, h6.fr hF (hS 59 (by decide))⟩
/-- the digits, the lowest first; a row of characters -/
def isDg (cy : Nat → ClassId) (M : Nat → va_E) (L : List Nat) : Prop := (∀ x ∈ L, x < 256) ∧ M 132 = gh (.int (nI L.length)) ∧ isA cy M 0 61 200 L
theorem isDg.fr {cy : Nat → ClassId} {M M' : Nat → va_E} {L : List Nat} {S : List Nat} (h : isDg cy M L) (hF : Fr S M M') (hS : ∀ k ∈ [61, 132], k ∉ S) : isDg cy M' L := ⟨h.1, (hF 132 (hS 132 (by decide))).trans h.2.1, h.2.2.fr hF (hS 61 (by decide))⟩
def isRw (cy : Nat → ClassId) (M : Nat → va_E) (L : List Nat) : Prop := (∀ x ∈ L, x < 256) ∧ M 130 = gh (.int (nI L.length)) ∧ isA cy M 0 60 200 L
theorem isRw.fr {cy : Nat → ClassId} {M M' : Nat → va_E} {L : List Nat} {S : List Nat} (h : isRw cy M L) (hF : Fr S M M') (hS : ∀ k ∈ [60, 130], k ∉ S) : isRw cy M' L := ⟨h.1, (hF 130 (hS 130 (by decide))).trans h.2.1, h.2.2.fr hF (hS 60 (by decide))⟩
/-- the line: no character of it is 0 -/
def isLn (cy : Nat → ClassId) (M : Nat → va_E) (T : List Nat) : Prop := (∀ x ∈ T, x < 256) ∧ (∀ x ∈ T, x ≠ 0) ∧ M 102 = gh (.int (nI T.length)) ∧ isA cy M 0 53 80 T
theorem isLn.fr {cy : Nat → ClassId} {M M' : Nat → va_E} {L : List Nat} {S : List Nat} (h : isLn cy M L) (hF : Fr S M M') (hS : ∀ k ∈ [53, 102], k ∉ S) : isLn cy M' L := ⟨h.1, h.2.1, (hF 102 (hS 102 (by decide))).trans h.2.2.1, h.2.2.2.fr hF (hS 53 (by decide))⟩
def isBy (cy : Nat → ClassId) (M : Nat → va_E) (B : List Nat) : Prop := (∀ x ∈ B, x < 256) ∧ M 108 = gh (.int (nI B.length)) ∧ isA cy M 1 58 256 B
theorem isBy.fr {cy : Nat → ClassId} {M M' : Nat → va_E} {L : List Nat} {S : List Nat} (h : isBy cy M L) (hF : Fr S M M') (hS : ∀ k ∈ [58, 108], k ∉ S) : isBy cy M' L := ⟨h.1, (hF 108 (hS 108 (by decide))).trans h.2.1, h.2.2.fr hF (hS 58 (by decide))⟩
/-- the arguments -/
def isRA (cy : Nat → ClassId) (M : Nat → va_E) (xs : Nat → Arg) (cnt : Nat) : Prop := cnt ≤ 8 ∧ M 103 = gh (.int (nI cnt)) ∧ ∃ (b : Nat → Bool) (f : Nat → Int64) (z g : Nat → Nat),
  M 54 = .inl (cy 3, 8, .inl (fun i => bI (b i))) ∧ M 55 = .inl (cy 2, 8, .inr (.inl f)) ∧ M 56 = .inl (cy 1, 8, .inl (fun i => nI (z i))) ∧ M 57 = .inl (cy 0, 640, .inl (fun i => nI (g i))) ∧
  ∀ i, i < cnt → match xs i with
    | .inl v => b i = false ∧ f i = v
    | .inr P => b i = true ∧ z i = P.length ∧ P.length ≤ 80 ∧ (∀ x ∈ P, x < 256) ∧ (∀ x ∈ P, x ≠ 0) ∧ ∀ k, k < P.length → g (80 * i + k) = P.getD k 0
theorem isRA.fr {cy : Nat → ClassId} {M M' : Nat → va_E} {xs : Nat → Arg} {cnt : Nat} {S : List Nat} (h : isRA cy M xs cnt) (hF : Fr S M M') (hS : ∀ k ∈ [54, 55, 56, 57, 103], k ∉ S) : isRA cy M' xs cnt := by
  obtain ⟨h1, h2, b, f, z, g, h3, h4, h5, h6, h7⟩ := h
  exact ⟨h1, (hF 103 (hS 103 (by decide))).trans h2, b, f, z, g, (hF 54 (hS 54 (by decide))).trans h3, (hF 55 (hS 55 (by decide))).trans h4, (hF 56 (hS 56 (by decide))).trans h5, (hF 57 (hS 57 (by decide))).trans h6, h7⟩
theorem getD_take {L : List Nat} {k i : Nat} (h : i < k) : (L.take k).getD i 0 = L.getD i 0 := gd_take h
theorem isA.push {cy : Nat → ClassId} {M : Nat → va_E} {t k cap : Nat} {L : List Nat} {g : Nat → Nat} {x : Nat} (he : M k = .inl (cy t, cap, .inl (fun i => nI (va_up g L.length x i)))) (hL : L.length < cap) (h3 : ∀ i, i < L.length → g i = L.getD i 0) : isA cy M t k cap (L ++ [x]) := by
  refine ⟨by rw [List.length_append]; exact hL, _, he, fun i hi => ?_⟩
  rw [List.length_append] at hi
  by_cases q : i = L.length
  · subst q; rw [va_up_self, gd_last]
  · rw [va_up_ne _ _ q, h3 i (by simp at hi; omega), gd_app (by simp at hi; omega)]
theorem nar_cv {k : Nat} (h : k < 65536) : vp_nar .char (nI k) = nI k := by
  have h9 := nar_c h
  unfold vp_nar
  rw [h9]
theorem i2c_nI {k : Nat} (h : k < 65536) : ((nI k).toUInt32 % 65536).toInt32 = nI k := by
  apply Int32.toBitVec_inj.mp
  apply BitVec.eq_of_toNat_eq
  show ((nI k).toUInt32 % 65536).toNat = (nI k).toBitVec.toNat
  have e : (nI k).toUInt32.toNat = k := by
    show (nI k).toBitVec.toNat = k
    exact pk_tn (by omega)
  rw [UInt32.toNat_mod, e, pk_tn (by omega)]
  exact Nat.mod_eq_of_lt h
