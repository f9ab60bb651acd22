/-- the program's own object 0 -/
def fdO (ad : Nat → Nat) (fp ot : Int32) : va_E := .inr (11, [.ref (ad 3), .ref (ad 5), .ref (ad 7), .ref (ad 9), .ref (ad 36), .ref (ad 43), .ref (ad 46), .ref (ad 47), .int fp, .int ot])
/-- the bytes of a word that are not 0, of the first k -/
def wchs (w : Int32) (k : Nat) : List Nat := ((List.range k).map (wby w)).filter (fun b => b != 0)
theorem wchs_succ (w : Int32) (k : Nat) : wchs w (k + 1) = wchs w k ++ (if wby w k = 0 then [] else [wby w k]) := by
  unfold wchs
  rw [List.range_succ, List.map_append, List.filter_append]
  by_cases h : wby w k = 0 <;> simp [h]
theorem wchs_len (w : Int32) (k : Nat) : (wchs w k).length = nzb w k := by
  induction k with
  | zero => rfl
  | succ k ih =>
    rw [wchs_succ, nzb_succ, List.length_append, ih]
    by_cases h : wby w k = 0 <;> simp [h]
/-- the first bytes of a word -/
def wbs (w : Int32) (k : Nat) : List Nat := (List.range k).map (wby w)
theorem wbs_succ (w : Int32) (k : Nat) : wbs w (k + 1) = wbs w k ++ [wby w k] := by
  unfold wbs
  rw [List.range_succ, List.map_append]
  rfl
theorem wbs_len (w : Int32) (k : Nat) : (wbs w k).length = k := by simp [wbs]
/-- a format printed again and again, in so many passes: what is printed, the odd texts, how many arguments are taken -/
def pRun (T : List Nat) (xs : Nat → Arg) (cnt : Nat) : Nat → Nat → List Nat × Nat × Nat
  | 0, tk => ([], 0, tk)
  | f + 1, tk =>
    let r := oRun T xs cnt 80 false 0 tk
    if tk < r.2.1 ∧ r.2.1 < cnt ∧ r.2.2.2 = false then
      let q := pRun T xs cnt f r.2.1
      (r.1 ++ q.1, r.2.2.1 + q.2.1, q.2.2)
    else (r.1, r.2.2.1, r.2.1)
/-- what a page answers when all was written -/
def pgI (lim : Nat) (O : List Nat) : Int32 := if lim < O.length then -3 else nI O.length
def pgO (lim : Nat) (O : List Nat) : List Nat := if lim < O.length then [] else O
theorem isPS.fr {cy : Nat → ClassId} {ad : Nat → Nat} {n : Nat} {M M' : Nat → va_E} {S : List Nat} {ended : Bool} {lim : Nat} {O : List Nat} {xs : Nat → Arg} {cnt tk od : Nat} (h : isPS cy ad n M ended lim O xs cnt tk od) (hF : Fr S M M') (hS : ∀ k ∈ S, k ∉ prtS) : isPS cy ad n M' ended lim O xs cnt tk od := by
  have hx : ∀ k ∈ prtS, k ∉ S := fun k h1 q => hS k q h1
  obtain ⟨h1, h2, h3, h4, ⟨ds, lg, h5⟩, h6, ⟨P, h7⟩, W, h8⟩ := h
  refine ⟨h1, (hF 36 (hx 36 (by decide))).trans h2, h3.fr hF (hx 5 (by decide)) (hx 6 (by decide)), h4.fr hF (fun k hk q => hS k hk ?_), ⟨ds, lg, h5.fr hF (hx 1 (by decide)) (hx 2 (by decide))⟩, h6.fr hF (hx 37 (by decide)), ⟨P, h7.fr hF (hx 39 (by decide)) (hx 40 (by decide))⟩, W, h8.fr hF (hx 41 (by decide)) (hx 42 (by decide))⟩
  have := mem_argS.mp q
  obtain ⟨k1, k2⟩ := this
  have : ∀ j, j ≤ 35 → 9 ≤ j → j ∈ prtS := by decide
  exact this k k2 k1
theorem pRun_last {T : List Nat} {xs : Nat → Arg} {cnt f tk : Nat} (h : ¬ (tk < (oRun T xs cnt 80 false 0 tk).2.1 ∧ (oRun T xs cnt 80 false 0 tk).2.1 < cnt ∧ (oRun T xs cnt 80 false 0 tk).2.2.2 = false)) : pRun T xs cnt (f + 1) tk = ((oRun T xs cnt 80 false 0 tk).1, (oRun T xs cnt 80 false 0 tk).2.2.1, (oRun T xs cnt 80 false 0 tk).2.1) := by
  rw [pRun]
  exact if_neg h
theorem pRun_more {T : List Nat} {xs : Nat → Arg} {cnt f tk : Nat} (h : tk < (oRun T xs cnt 80 false 0 tk).2.1 ∧ (oRun T xs cnt 80 false 0 tk).2.1 < cnt ∧ (oRun T xs cnt 80 false 0 tk).2.2.2 = false) : pRun T xs cnt (f + 1) tk = ((oRun T xs cnt 80 false 0 tk).1 ++ (pRun T xs cnt f (oRun T xs cnt 80 false 0 tk).2.1).1, (oRun T xs cnt 80 false 0 tk).2.2.1 + (pRun T xs cnt f (oRun T xs cnt 80 false 0 tk).2.1).2.1, (pRun T xs cnt f (oRun T xs cnt 80 false 0 tk).2.1).2.2) := by
  rw [pRun]
  exact if_pos h
/-- what print answers, leaves on the page, and leaves as the number of odd texts -/
def ptI (T : List Nat) (xs : Nat → Arg) (cnt lim : Nat) : Int32 := if fltF T 80 0 = none then pgI lim (pRun T xs cnt 9 0).1 else -2
def ptO (T : List Nat) (xs : Nat → Arg) (cnt lim : Nat) (O : List Nat) : List Nat := if fltF T 80 0 = none then pgO lim (pRun T xs cnt 9 0).1 else O
def ptN (T : List Nat) (xs : Nat → Arg) (cnt lim : Nat) (ot : Int32) : Int32 := if fltF T 80 0 = none ∧ ¬ lim < (pRun T xs cnt 9 0).1.length then nI (pRun T xs cnt 9 0).2.1 else ot
theorem fltF_lt (T : List Nat) : ∀ (f i k : Nat), fltF T f i = some k → k < T.length := by
  intro f
  induction f with
  | zero => intro i k h; cases h
  | succ f ih =>
    intro i k h
    rw [fltF] at h
    split at h
    · cases h
    · split at h
      · cases h; omega
      · exact ih _ _ h
theorem fltI_none {T : List Nat} (hT : T.length ≤ 80) : fltI (fltF T 80 0) = -1 ↔ fltF T 80 0 = none := by
  constructor
  · intro h
    cases h9 : fltF T 80 0 with
    | none => rfl
    | some k =>
      rw [h9] at h
      have := fltF_lt T 80 0 k h9
      exact absurd h (by show ¬ nI k = -1; intro q; have q2 := congrArg Int32.toInt q; rw [nI_toInt (by omega)] at q2; have : (-1 : Int32).toInt = -1 := by decide
                         rw [this] at q2; omega)
  · intro h; rw [h]; rfl
def wdOk (letter size : Int32) : Bool := if letter = nI 99 then decide (size = nI 1) else decide ((letter = nI 111 ∨ letter = nI 120 ∨ letter = nI 117 ∨ letter = nI 100) ∧ (size = nI 1 ∨ size = nI 2 ∨ size = nI 4 ∨ size = nI 8))
theorem nI_neg {k : Nat} (h : k < 2 ^ 31) {x : Int32} (hx : x.toInt < 0) : ¬ nI k = x := by
  intro q
  have q2 := congrArg Int32.toInt q
  rw [nI_toInt h] at q2
  omega
theorem pgI_3 {lim : Nat} {O : List Nat} (h : lim ≤ 2000) : pgI lim O = -3 ↔ lim < O.length := by
  unfold pgI
  by_cases q : lim < O.length
  · rw [if_pos q]; exact ⟨fun _ => q, fun _ => rfl⟩
  · rw [if_neg q]
    exact ⟨fun z => absurd z (nI_neg (by omega) (by decide)), fun z => absurd z q⟩
