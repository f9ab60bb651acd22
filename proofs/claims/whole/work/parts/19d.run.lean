theorem isArgs.ob9 {cy : Nat → ClassId} {ad : Nat → Nat} {n : Nat} {M : Nat → va_E} {xs : Nat → Arg} {cnt tk od : Nat} (h : isArgs cy ad n M xs cnt tk od) : M 9 = .inr (1, [.ref (ad 10), .ref (ad 35), .int (nI cnt), .int (nI tk), .int (nI od)]) := h.2.2.2.2.1
theorem isArgs.lt9 {cy : Nat → ClassId} {ad : Nat → Nat} {n : Nat} {M : Nat → va_E} {xs : Nat → Arg} {cnt tk od : Nat} (h : isArgs cy ad n M xs cnt tk od) : 9 < n := by have := h.1; omega
/-- the next argument as a text, and as a character -/
def nxA (xs : Nat → Arg) (cnt tk : Nat) : List Nat := if tk < cnt then argT (xs tk) else []
def nxC (xs : Nat → Arg) (cnt tk : Nat) : List Nat := if tk < cnt then argC (xs tk) else []
def nxR (ad : Nat → Nat) (cnt tk : Nat) : Option Nat := if tk < cnt then some (ad (11 + 3 * tk)) else none
/-- a directive's run: what it prints, how many arguments are taken then, how many odd ones came, whether all ends -/
def w1F (fl sw : Bool) (v : Int64) : Bool := if sw then fl || decide (v < 0) else fl
def w1W (sw : Bool) (w : Nat) (v : Int64) : Nat := if sw then cutA v else w
def w1T (s : Bool) (cnt tk : Nat) : Nat := if s then nextT cnt tk else tk
def w1O (s : Bool) (xs : Nat → Arg) (cnt tk : Nat) : Nat := if s then nextO xs cnt tk else 0
def p1P (sp : Bool) (po : Option Nat) (v : Int64) : Option Nat := if sp then (if v < 0 then none else some (cutA v)) else po
def lastR (xs : Nat → Arg) (cnt : Nat) (fl fp fb fm fz : Bool) (w : Nat) (po : Option Nat) (b : Nat) (lt : Int32) (tk : Nat) : List Nat × Nat × Nat × Bool :=
  if lt = nI 98 then (padT fl w (cutP po (unsT (nxA xs cnt tk))), nextT cnt tk, 0, unsE (nxA xs cnt tk))
  else if lt = nI 99 then (padT fl w (nxC xs cnt tk), nextT cnt tk, 0, false)
  else if lt = nI 115 then (padT fl w (cutP po (nxA xs cnt tk)), nextT cnt tk, 0, false)
  else (fmtN b lt (nextV xs cnt tk) fl fp fb fm fz w po, nextT cnt tk, nextO xs cnt tk, false)
def dRun (xs : Nat → Arg) (cnt : Nat) (fl fp fb fm fz sw sp : Bool) (w : Nat) (po : Option Nat) (b : Nat) (lt : Int32) (tk : Nat) : List Nat × Nat × Nat × Bool :=
  let t1 := w1T sw cnt tk
  let t2 := w1T sp cnt t1
  let r := lastR xs cnt (w1F fl sw (nextV xs cnt tk)) fp fb fm fz (w1W sw w (nextV xs cnt tk)) (p1P sp po (nextV xs cnt t1)) b lt t2
  (r.1, r.2.1, w1O sw xs cnt tk + w1O sp xs cnt t1 + r.2.2.1, r.2.2.2)
/-- the printer at rest: its object, the page, the arguments, its scratch rows -/
def isPS (cy : Nat → ClassId) (ad : Nat → Nat) (n : Nat) (M : Nat → va_E) (ended : Bool) (lim : Nat) (O : List Nat) (xs : Nat → Arg) (cnt tk od : Nat) : Prop :=
  52 ≤ n ∧ M 36 = prO ad ended ∧ isRow cy ad n M 5 6 2000 lim O ∧ isArgs cy ad n M xs cnt tk od ∧ (∃ (ds : List Nat) (lg : Bool), isFig cy ad n M 1 2 ds lg) ∧ isEsc M ∧ (∃ P : List Nat, isRow cy ad n M 39 40 80 80 P) ∧ ∃ W : List Nat, isRow cy ad n M 41 42 80 80 W
def prtS : List Nat := [1, 2, 5, 6, 9, 10, 11, 12, 13, 14, 15, 16, 17, 18, 19, 20, 21, 22, 23, 24, 25, 26, 27, 28, 29, 30, 31, 32, 33, 34, 35, 36, 37, 38, 39, 40, 41, 42]
theorem isEsc.fr {M M' : Nat → va_E} {S : List Nat} (h : isEsc M) (hF : Fr S M M') (h1 : 37 ∉ S) : isEsc M' := by
  obtain ⟨a, b, e⟩ := h
  exact ⟨a, b, (hF 37 h1).trans e⟩
theorem isDir.fr {M M' : Nat → va_E} {S : List Nat} (h : isDir M) (hF : Fr S M M') (h1 : 38 ∉ S) : isDir M' := by
  obtain ⟨a1, a2, a3, a4, a5, a6, a7, a8, a9, b1, b2, b3, e⟩ := h
  exact ⟨a1, a2, a3, a4, a5, a6, a7, a8, a9, b1, b2, b3, (hF 38 h1).trans e⟩
theorem argT_len {x : Arg} (h : ∀ T, x = .inr T → T.length ≤ 80) : (argT x).length ≤ 80 := by
  cases x with
  | inl v => have := numT_len v; show (numT v).length ≤ 80; omega
  | inr T => exact h T rfl
theorem isArgs.len {cy : Nat → ClassId} {ad : Nat → Nat} {n : Nat} {M : Nat → va_E} {xs : Nat → Arg} {cnt tk od : Nat} (h : isArgs cy ad n M xs cnt tk od) (k : Nat) : (nxA xs cnt k).length ≤ 80 := by
  unfold nxA
  split
  · rename_i hk
    have h2 := h.2.1
    obtain ⟨-, t, v, T, -, -, a3, a4⟩ := h.2.2.2.2.2.2.1 k (by omega)
    refine argT_len (fun P hP => ?_)
    rw [hP] at a4
    rw [← a4.2]; exact a3
  · simp
theorem nxC_len (xs : Nat → Arg) (cnt k : Nat) : (nxC xs cnt k).length ≤ 80 := by
  unfold nxC
  split
  · cases xs k with
    | inl v => simp [argC]
    | inr T => simp [argC]; omega
  · simp
theorem cutP_len (po : Option Nat) (P : List Nat) (h : P.length ≤ 80) : (cutP po P).length ≤ 80 := by
  cases po with
  | none => exact h
  | some k => show (P.take k).length ≤ 80; rw [List.length_take]; omega
