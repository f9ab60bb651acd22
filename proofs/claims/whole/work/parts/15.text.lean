theorem rowAt_full {O : List Nat} {lim i : Nat} (h : O.length ≤ lim) (hO : O.length < 2 ^ 31) (hi : i < 2 ^ 31) : rowAt (O.take lim) (nI i) = chAt O i := by
  rw [List.take_of_length_le h, rowAt_nI hO hi]
theorem gd_lt {L : List Nat} {b : Nat} (hb : 0 < b) (h : ∀ x ∈ L, x < b) (i : Nat) : L.getD i 0 < b := by
  rw [List.getD_eq_getElem?_getD]
  cases e : L[i]? with
  | none => exact hb
  | some x => exact h x (List.mem_of_getElem? e)
theorem gd_out {L : List Nat} {i : Nat} (h : L.length ≤ i) : L.getD i 0 = 0 := by
  rw [List.getD_eq_getElem?_getD, List.getElem?_eq_none h]; rfl
theorem neg1_nI {k : Nat} (h : k < 2 ^ 31) : ¬ (-1 : Int32) = nI k := by
  intro q
  have a := nI_toInt h
  rw [← q] at a
  have : (-1 : Int32).toInt = -1 := by decide
  omega
theorem chAt_eq {T : List Nat} {i k : Nat} (h : ∀ x ∈ T, x < 256) (hk : k < 256) (h0 : k ≠ 0) : chAt T i = nI k ↔ T.getD i 0 = k := by
  unfold chAt
  by_cases hi : i < T.length
  · rw [if_pos hi]
    have := gd_lt (by decide) h i
    exact nI_eq (by omega) (by omega)
  · rw [if_neg hi, gd_out (by omega)]
    exact ⟨fun q => absurd q (neg1_nI (by omega)), fun q => absurd q.symm h0⟩
/-- a character's worth as a digit; 99 where it is none -/
def dvN (c : Nat) : Nat := if 48 ≤ c ∧ c ≤ 57 then c - 48 else if 97 ≤ c ∧ c ≤ 102 then c - 87 else if 65 ≤ c ∧ c ≤ 70 then c - 55 else 99
def dI (c b : Nat) : Int32 := if dvN c < b then nI (dvN c) else -1
theorem digI_8 : ∀ c, c < 256 → digI (nI c) (nI 8) = dI c 8 := by decide +kernel
theorem digI_10 : ∀ c, c < 256 → digI (nI c) (nI 10) = dI c 10 := by decide +kernel
theorem digI_16 : ∀ c, c < 256 → digI (nI c) (nI 16) = dI c 16 := by decide +kernel
theorem digI_nI {c b : Nat} (hb : b = 8 ∨ b = 10 ∨ b = 16) (h : c < 256) : digI (nI c) (nI b) = dI c b := by
  rcases hb with rfl | rfl | rfl
  · exact digI_8 c h
  · exact digI_10 c h
  · exact digI_16 c h
theorem digI_at {T : List Nat} {i b : Nat} (hb : b = 8 ∨ b = 10 ∨ b = 16) (h : ∀ x ∈ T, x < 256) : digI (chAt T i) (nI b) = dI (T.getD i 0) b := by
  unfold chAt
  by_cases hi : i < T.length
  · rw [if_pos hi, digI_nI hb (gd_lt (by decide) h i)]
  · rw [if_neg hi, gd_out (by omega)]
    rcases hb with rfl | rfl | rfl <;> decide
theorem dI_m1 {c b : Nat} (hb : b ≤ 16) : dI c b = -1 ↔ ¬ dvN c < b := by
  unfold dI
  by_cases h : dvN c < b
  · rw [if_pos h]
    exact ⟨fun q => absurd q.symm (neg1_nI (by omega)), fun q => absurd h q⟩
  · rw [if_neg h]
    exact ⟨fun _ => h, fun _ => rfl⟩
/-- the digits at the front of a text -/
def ldig (b : Nat) : List Nat → List Nat
  | [] => []
  | c :: t => if dvN c < b then dvN c :: ldig b t else []
theorem ldig_s {b : Nat} {T : List Nat} {i : Nat} (hi : i < T.length) (h : dvN (T.getD i 0) < b) : ldig b (T.drop i) = dvN (T.getD i 0) :: ldig b (T.drop (i + 1)) := by
  have e : T.getD i 0 = T[i] := by simp [List.getD_eq_getElem?_getD, hi]
  rw [List.drop_eq_getElem_cons hi, ldig, ← e, if_pos h]
theorem ldig_n {b : Nat} {T : List Nat} {i : Nat} (hi : i < T.length) (h : ¬ dvN (T.getD i 0) < b) : ldig b (T.drop i) = [] := by
  have e : T.getD i 0 = T[i] := by simp [List.getD_eq_getElem?_getD, hi]
  rw [List.drop_eq_getElem_cons hi, ldig, ← e, if_neg h]
theorem ldig_e {b : Nat} {T : List Nat} {i : Nat} (hi : T.length ≤ i) : ldig b (T.drop i) = [] := by
  rw [List.drop_eq_nil_of_le hi, ldig]
/-- digits, the highest first, as a number -/
def valN (b : Nat) (ds : List Nat) : Nat := ds.foldl (fun a d => a * b + d) 0
theorem valN_s (b : Nat) (ds : List Nat) (d : Nat) : valN b (ds ++ [d]) = valN b ds * b + d := by
  simp [valN, List.foldl_append]
def hexB (T : List Nat) (s : Nat) : Bool := (T.getD (s + 1) 0 == 120 || T.getD (s + 1) 0 == 88) && decide (dvN (T.getD (s + 2) 0) < 16)
/-- a text as a number: where its digits begin, their base, the digits; the number, and whether it is odd -/
def tQ (T : List Nat) : Bool := T.getD 0 0 == 39 || T.getD 0 0 == 34
def tS0 (T : List Nat) : Nat := if T.getD 0 0 = 43 ∨ T.getD 0 0 = 45 then 1 else 0
def tB (T : List Nat) : Nat := if T.getD (tS0 T) 0 = 48 then (if hexB T (tS0 T) then 16 else 8) else 10
def tS (T : List Nat) : Nat := if T.getD (tS0 T) 0 = 48 then (if hexB T (tS0 T) then tS0 T + 2 else tS0 T) else tS0 T
def tDs (T : List Nat) : List Nat := ldig (tB T) (T.drop (tS T))
def oddD (T ds : List Nat) (s : Nat) : Bool := decide (ds = [] ∨ s + ds.length < T.length)
def txtV (T : List Nat) : Int64 := if tQ T then (if 1 < T.length then lN (T.getD 1 0) else 0) else if T.getD 0 0 = 45 then -(lN (valN (tB T) (tDs T))) else lN (valN (tB T) (tDs T))
def txtO (T : List Nat) : Bool := if tQ T then decide (T.length ≠ 2) else oddD T (tDs T) (tS T)
theorem hexB_t {T : List Nat} {s : Nat} (h : T.getD (s + 1) 0 = 120 ∨ T.getD (s + 1) 0 = 88) (h2 : dvN (T.getD (s + 2) 0) < 16) : hexB T s = true := by
  unfold hexB
  rw [decide_eq_true h2]
  rcases h with h | h <;> rw [h] <;> rfl
theorem hexB_f1 {T : List Nat} {s : Nat} (h : ¬ T.getD (s + 1) 0 = 120) (h1 : ¬ T.getD (s + 1) 0 = 88) : hexB T s = false := by
  unfold hexB
  rw [beq_eq_false_iff_ne.mpr h, beq_eq_false_iff_ne.mpr h1]
  rfl
theorem hexB_f2 {T : List Nat} {s : Nat} (h2 : ¬ dvN (T.getD (s + 2) 0) < 16) : hexB T s = false := by
  unfold hexB
  rw [decide_eq_false h2, Bool.and_false]
theorem ts_of {b : Bool} (h : ¬ bI b = 0) : b = true := by cases b; exact absurd rfl h; rfl
