/-- what a letter behind a backslash means, as the class reckons it; -1 if nothing -/
def escC (c : Nat) : Nat := if c = 92 then 92 else if c = 97 then 7 else if c = 98 then 8 else if c = 102 then 12 else if c = 110 then 10 else if c = 114 then 13 else if c = 116 then 9 else if c = 118 then 11 else 0
def escI (c : Nat) : Int32 := if escC c = 0 then -1 else nI (escC c)
theorem escC_lt (c : Nat) : escC c < 256 := by
  unfold escC
  repeat' split
  all_goals omega
/-- up to three octal digits at a place -/
def oct3 (T : List Nat) (i : Nat) : List Nat := ldig 8 ((T.drop i).take 3)
/-- the escape of a format at the place behind its backslash: is it one, its number, its end -/
def escOk (T : List Nat) (i : Nat) : Bool := (escC (T.getD i 0) != 0) || (oct3 T i != [])
def escV (T : List Nat) (i : Nat) : Nat := if escC (T.getD i 0) = 0 then valN 8 (oct3 T i) else escC (T.getD i 0)
def escE (T : List Nat) (i : Nat) : Nat := if escC (T.getD i 0) = 0 then i + (oct3 T i).length else i + 1
theorem ldig_len (b : Nat) : ∀ L : List Nat, (ldig b L).length ≤ L.length := by
  intro L
  induction L with
  | nil => simp [ldig]
  | cons c t ih => unfold ldig; split <;> simp <;> omega
theorem ldig_lt (b : Nat) : ∀ L : List Nat, ∀ x ∈ ldig b L, x < b := by
  intro L
  induction L with
  | nil => intro x hx; cases hx
  | cons c t ih =>
    intro x hx
    unfold ldig at hx
    split at hx
    · rcases List.mem_cons.mp hx with q | q
      · rw [q]; assumption
      · exact ih x q
    · cases hx
theorem oct3_len (T : List Nat) (i : Nat) : (oct3 T i).length ≤ 3 := Nat.le_trans (ldig_len _ _) (by simp; omega)
/-- a run of digits, at most m of them, by one step -/
def dgr (b : Nat) (T : List Nat) (i m : Nat) : List Nat := ldig b ((T.drop i).take m)
theorem dgr_0 (b : Nat) (T : List Nat) (i : Nat) : dgr b T i 0 = [] := by simp [dgr, ldig]
theorem dgr_s {b : Nat} {T : List Nat} {i m : Nat} (hb : b ≤ 16) (h : dvN (T.getD i 0) < b) : dgr b T i (m + 1) = dvN (T.getD i 0) :: dgr b T (i + 1) m := by
  have hi : i < T.length := by
    rcases Nat.lt_or_ge i T.length with q | q
    · exact q
    · rw [gd_out q] at h; exact absurd h (by simp [dvN]; omega)
  have e : T.getD i 0 = T[i] := by simp [List.getD_eq_getElem?_getD, hi]
  unfold dgr
  rw [List.drop_eq_getElem_cons hi, List.take_succ_cons, ldig, ← e, if_pos h]
theorem dgr_n {b : Nat} {T : List Nat} {i m : Nat} (h : ¬ dvN (T.getD i 0) < b) : dgr b T i m = [] := by
  cases m with
  | zero => exact dgr_0 b T i
  | succ m =>
    unfold dgr
    by_cases hi : i < T.length
    · have e : T.getD i 0 = T[i] := by simp [List.getD_eq_getElem?_getD, hi]
      rw [List.drop_eq_getElem_cons hi, List.take_succ_cons, ldig, ← e, if_neg h]
    · rw [List.drop_eq_nil_of_le (by omega)]; simp [ldig]
theorem valN_lt {b : Nat} (ds : List Nat) (h : ∀ x ∈ ds, x < b) : valN b ds < b ^ ds.length := by
  have key : ∀ (ds : List Nat) (a : Nat), (∀ x ∈ ds, x < b) → ds.foldl (fun a d => a * b + d) a < (a + 1) * b ^ ds.length := by
    intro ds
    induction ds with
    | nil => intro a _; simp
    | cons d t ih =>
      intro a h
      rw [List.foldl_cons, List.length_cons]
      have h1 := ih (a * b + d) (fun x hx => h x (List.mem_cons_of_mem _ hx))
      have h2 := h d (by simp)
      have h3 : a * b + d + 1 ≤ (a + 1) * b := by rw [Nat.add_mul]; omega
      have h4 := Nat.mul_le_mul_right (b ^ t.length) h3
      rw [Nat.pow_succ, Nat.mul_comm (b ^ t.length) b, ← Nat.mul_assoc]
      exact Nat.lt_of_lt_of_le h1 h4
  have := key ds 0 h
  simpa [valN] using this
/-- the escape of a text at the place behind its backslash -/
def txOk (T : List Nat) (i : Nat) : Bool := (escC (T.getD i 0) != 0) || (T.getD i 0 == 48)
def txV (T : List Nat) (i : Nat) : Nat := if escC (T.getD i 0) = 0 then valN 8 (oct3 T (i + 1)) else escC (T.getD i 0)
def txE (T : List Nat) (i : Nat) : Nat := if escC (T.getD i 0) = 0 then i + 1 + (oct3 T (i + 1)).length else i + 1
/-- flags -/
def flC (c : Nat) : Bool := c == 45 || c == 43 || c == 32 || c == 35 || c == 48
def flR : List Nat → List Nat
  | [] => []
  | c :: t => if flC c then c :: flR t else []
theorem flR_s {T : List Nat} {i : Nat} (hi : i < T.length) (h : flC (T.getD i 0) = true) : flR (T.drop i) = T.getD i 0 :: flR (T.drop (i + 1)) := by
  have e : T.getD i 0 = T[i] := by simp [List.getD_eq_getElem?_getD, hi]
  rw [List.drop_eq_getElem_cons hi, flR, ← e, if_pos h]
theorem flR_n {T : List Nat} {i : Nat} (hi : i < T.length) (h : flC (T.getD i 0) = false) : flR (T.drop i) = [] := by
  have e : T.getD i 0 = T[i] := by simp [List.getD_eq_getElem?_getD, hi]
  rw [List.drop_eq_getElem_cons hi, flR, ← e, h]
  rfl
theorem flR_e {T : List Nat} {i : Nat} (hi : T.length ≤ i) : flR (T.drop i) = [] := by
  rw [List.drop_eq_nil_of_le hi, flR]
theorem flR_len : ∀ L : List Nat, (flR L).length ≤ L.length := by
  intro L
  induction L with
  | nil => simp [flR]
  | cons c t ih => unfold flR; split <;> simp <;> omega
def has (k : Nat) (ps : List Nat) : Bool := decide (k ∈ ps)
theorem has_s (k c : Nat) (ps : List Nat) : has k (ps ++ [c]) = (has k ps || (c == k)) := by
  unfold has
  by_cases h1 : k ∈ ps
  · rw [decide_eq_true h1, decide_eq_true (List.mem_append_left _ h1)]; rfl
  · by_cases h2 : c = k
    · rw [h2, decide_eq_true (List.mem_append_right _ (List.mem_singleton.mpr rfl))]; simp
    · rw [decide_eq_false h1, decide_eq_false (fun q => (List.mem_append.mp q).elim h1 (fun q => h2 (List.mem_singleton.mp q).symm)), beq_eq_false_iff_ne.mpr h2]; rfl
theorem has_0 (k : Nat) : has k [] = false := by simp [has]
