def dg2 (T : List Nat) (i : Nat) : List Nat := dgr 10 T i 2
theorem dgr_len (b : Nat) (T : List Nat) (i m : Nat) : (dgr b T i m).length ≤ m := Nat.le_trans (ldig_len _ _) (by simp; omega)
theorem dg2_len (T : List Nat) (i : Nat) : (dg2 T i).length ≤ 2 := dgr_len 10 T i 2
theorem dg2_lt (T : List Nat) (i : Nat) : valN 10 (dg2 T i) < 100 := by
  have h1 := valN_lt (dg2 T i) (ldig_lt 10 _)
  have h2 : (10 : Nat) ^ (dg2 T i).length ≤ 10 ^ 2 := Nat.pow_le_pow_right (by decide) (dg2_len T i)
  omega
/-- a width at a place: is it a star, its number, its end -/
def wdS (T : List Nat) (i : Nat) : Bool := T.getD i 0 == 42
def wdN (T : List Nat) (i : Nat) : Nat := if T.getD i 0 = 42 then 0 else valN 10 (dg2 T i)
def wdE (T : List Nat) (i : Nat) : Nat := if T.getD i 0 = 42 then i + 1 else i + (dg2 T i).length
/-- a precision at a place -/
def prS (T : List Nat) (i : Nat) : Bool := T.getD i 0 == 46 && T.getD (i + 1) 0 == 42
def prI (T : List Nat) (i : Nat) : Int32 := if T.getD i 0 = 46 then (if T.getD (i + 1) 0 = 42 then -1 else nI (valN 10 (dg2 T (i + 1)))) else -1
def prE (T : List Nat) (i : Nat) : Nat := if T.getD i 0 = 46 then (if T.getD (i + 1) 0 = 42 then i + 2 else i + 1 + (dg2 T (i + 1)).length) else i
/-- a length at a place: its bits, its end -/
def lnB (T : List Nat) (i : Nat) : Nat := if T.getD i 0 = 104 then (if T.getD (i + 1) 0 = 104 then 8 else 16) else if T.getD i 0 = 108 ∨ T.getD i 0 = 106 then 64 else 32
def lnE (T : List Nat) (i : Nat) : Nat := if T.getD i 0 = 104 ∨ T.getD i 0 = 108 then (if T.getD (i + 1) 0 = T.getD i 0 then i + 2 else i + 1) else if T.getD i 0 = 106 then i + 1 else i
def letC (c : Nat) : Bool := c == 88 || c == 98 || c == 99 || c == 100 || c == 105 || c == 111 || c == 115 || c == 117 || c == 120
/-- the whole directive at the place behind its %: the places of its parts -/
def dP1 (T : List Nat) (i : Nat) : Nat := i + (flR (T.drop i)).length
def dP2 (T : List Nat) (i : Nat) : Nat := wdE T (dP1 T i)
def dP3 (T : List Nat) (i : Nat) : Nat := prE T (dP2 T i)
def dP4 (T : List Nat) (i : Nat) : Nat := lnE T (dP3 T i)
theorem wdE_le (T : List Nat) (i : Nat) : i ≤ wdE T i ∧ wdE T i ≤ i + 2 := by
  unfold wdE
  have := dg2_len T i
  split <;> omega
theorem prE_le (T : List Nat) (i : Nat) : i ≤ prE T i ∧ prE T i ≤ i + 3 := by
  unfold prE
  have := dg2_len T (i + 1)
  split
  · split <;> omega
  · omega
theorem lnE_le (T : List Nat) (i : Nat) : i ≤ lnE T i ∧ lnE T i ≤ i + 2 := by
  unfold lnE
  split
  · split <;> omega
  · split <;> omega
theorem dP1_le (T : List Nat) (i : Nat) : i ≤ dP1 T i ∧ dP1 T i ≤ i + T.length := by
  unfold dP1
  have := flR_len (T.drop i)
  rw [List.length_drop] at this
  omega
/-- a star's number -/
def cutL (v : Int64) : Int64 := if (if v < 99 then v else 99) < -99 then -99 else (if v < 99 then v else 99)
def cutI (v : Int64) : Int32 := (cutL v).toInt32
theorem lcmp_ge (v : Int64) : 0 ≤ lg_cmp v 0 ↔ ¬ v < 0 := by
  unfold lg_cmp
  by_cases h1 : v > 0
  · rw [if_pos h1]
    exact ⟨fun _ q => absurd (Int64.lt_trans h1 q) (by decide), fun _ => by decide⟩
  · rw [if_neg h1]
    by_cases h2 : v = 0
    · rw [if_pos h2, h2]; decide
    · rw [if_neg h2]
      refine ⟨fun q => absurd q (by decide), fun q => ?_⟩
      exact absurd (Int64.le_antisymm (Int64.not_lt.mp h1) (Int64.not_lt.mp q)) h2
/-- the directive's fields behind the reading of one at place i -/
abbrev dirF (T : List Nat) (i : Nat) : List Value := [.int (bI (has 45 (flR (T.drop i)))), .int (bI (has 43 (flR (T.drop i)))), .int (bI (has 32 (flR (T.drop i)))), .int (bI (has 35 (flR (T.drop i)))), .int (bI (has 48 (flR (T.drop i)))), .int (bI (wdS T (dP1 T i))), .int (bI (prS T (dP2 T i))), .int (nI (wdN T (dP1 T i))), .int (prI T (dP2 T i)), .int (nI (lnB T (dP3 T i))), .int (chAt T (dP4 T i)), .int (nI (dP4 T i + 1))]
def dirOk (T : List Nat) (i : Nat) : Bool := letC (T.getD (dP4 T i) 0)
