/-- an argument: a number or a text -/
abbrev Arg : Type := Int64 ⊕ List Nat
def isArg (cy : Nat → ClassId) (ad : Nat → Nat) (n : Nat) (M : Nat → va_E) (o : Nat) (x : Arg) : Prop :=
  o < n ∧ ∃ (t : Bool) (v : Int64) (T : List Nat), M o = .inr (0, [.ref (ad (o + 1)), .int (bI t), .long v]) ∧ isRow cy ad n M (o + 1) (o + 2) 80 80 T ∧ T.length ≤ 80 ∧
    match x with
    | .inl w => t = false ∧ v = w
    | .inr P => t = true ∧ T = P
theorem isArg.fr {cy : Nat → ClassId} {ad : Nat → Nat} {n : Nat} {M M' : Nat → va_E} {S : List Nat} {o : Nat} {x : Arg} (h : isArg cy ad n M o x) (hF : Fr S M M') (h1 : o ∉ S) (h2 : o + 1 ∉ S) (h3 : o + 2 ∉ S) : isArg cy ad n M' o x := by
  obtain ⟨h0, t, v, T, e1, e2, e3, e4⟩ := h
  exact ⟨h0, t, v, T, (hF o h1).trans e1, e2.fr hF h2 h3, e3, e4⟩
/-- the arguments' object 9, its row 10, the reading 35, the eight arguments 11, 14 .. 32 -/
def isArgs (cy : Nat → ClassId) (ad : Nat → Nat) (n : Nat) (M : Nat → va_E) (xs : Nat → Arg) (cnt tk od : Nat) : Prop :=
  36 ≤ n ∧ cnt ≤ 8 ∧ tk ≤ 8 ∧ od ≤ tk ∧ M 9 = .inr (1, [.ref (ad 10), .ref (ad 35), .int (nI cnt), .int (nI tk), .int (nI od)]) ∧
    (∃ f : Nat → Option Nat, M 10 = .inl (cy 4, 8, .inr (.inr (.inr (.inr f)))) ∧ ∀ i, i < 8 → f i = some (ad (11 + 3 * i))) ∧
    (∀ i, i < 8 → isArg cy ad n M (11 + 3 * i) (xs i)) ∧ ∃ (rv : Int64) (ro : Bool), M 35 = .inr (5, [.long rv, .int (bI ro)])
/-- the numbers of the arguments' objects -/
def argS : List Nat := [9, 10, 11, 12, 13, 14, 15, 16, 17, 18, 19, 20, 21, 22, 23, 24, 25, 26, 27, 28, 29, 30, 31, 32, 33, 34, 35]
theorem mem_argS {k : Nat} : k ∈ argS ↔ 9 ≤ k ∧ k ≤ 35 := by
  unfold argS
  simp only [List.mem_cons, List.not_mem_nil, or_false]
  omega
theorem isArgs.fr {cy : Nat → ClassId} {ad : Nat → Nat} {n : Nat} {M M' : Nat → va_E} {S : List Nat} {xs : Nat → Arg} {cnt tk od : Nat} (h : isArgs cy ad n M xs cnt tk od) (hF : Fr S M M') (hS : ∀ k ∈ S, k ∉ argS) : isArgs cy ad n M' xs cnt tk od := by
  have hx : ∀ k, 9 ≤ k → k ≤ 35 → k ∉ S := fun k h1 h2 q => hS k q (mem_argS.mpr ⟨h1, h2⟩)
  obtain ⟨h1, h2, h3, h4, h5, ⟨f, h6, h7⟩, h8, rv, ro, h9⟩ := h
  exact ⟨h1, h2, h3, h4, (hF 9 (hx 9 (by omega) (by omega))).trans h5, ⟨f, (hF 10 (hx 10 (by omega) (by omega))).trans h6, h7⟩,
    fun i hi => (h8 i hi).fr hF (hx _ (by omega) (by omega)) (hx _ (by omega) (by omega)) (hx _ (by omega) (by omega)), rv, ro, (hF 35 (hx 35 (by omega) (by omega))).trans h9⟩
/-- an argument as a number, and whether it counts as odd -/
def argV (x : Arg) : Int64 := match x with
  | .inl w => w
  | .inr T => txtV T
def argO (x : Arg) : Nat := match x with
  | .inl _ => 0
  | .inr T => if txtO T then 1 else 0
/-- the next argument's number (0 if there is none), how many are taken then, how many odd ones it adds -/
def nextV (xs : Nat → Arg) (cnt tk : Nat) : Int64 := if tk < cnt then argV (xs tk) else 0
def nextT (cnt tk : Nat) : Nat := if tk < cnt then tk + 1 else tk
def nextO (xs : Nat → Arg) (cnt tk : Nat) : Nat := if tk < cnt then argO (xs tk) else 0
