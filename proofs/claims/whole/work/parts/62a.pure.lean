theorem dv10 {c : Nat} : dvN c < 10 ↔ 48 ≤ c ∧ c ≤ 57 := by
  unfold dvN
  split
  · omega
  · split
    · omega
    · split <;> omega
theorem dv10v {c : Nat} (h : 48 ≤ c ∧ c ≤ 57) : dvN c = c - 48 := by unfold dvN; rw [if_pos h]
theorem octB_v {c : Nat} (h : octB c = true) : dvN c = c - 48 ∧ 48 ≤ c ∧ c ≤ 55 := by
  have h1 := of_decide_eq_true h
  exact ⟨dv10v ⟨h1.1, by omega⟩, h1⟩
theorem octB_esc {c : Nat} (h : octB c = true) : escC c = 0 := by
  have h1 := of_decide_eq_true h
  unfold escC
  rw [if_neg (by omega), if_neg (by omega), if_neg (by omega), if_neg (by omega), if_neg (by omega), if_neg (by omega), if_neg (by omega), if_neg (by omega)]
theorem oct3_ne {T : List Nat} {i : Nat} (h : octB (T.getD i 0) = true) : oct3 T i ≠ [] := by
  have h8 := (octB_dv _).mp h
  show dgr 8 T i (2 + 1) ≠ []
  rw [dgr_s (by decide) h8]
  simp
theorem oct3_nil {T : List Nat} {i : Nat} (h : octB (T.getD i 0) = false) : oct3 T i = [] := by
  have h8 : ¬ dvN (T.getD i 0) < 8 := fun q => by rw [(octB_dv _).mpr q] at h; cases h
  exact dgr_n h8
/-- the reference's reading of an escape: its answer, the place behind it -/
def rEv (T : List Nat) (i : Nat) : Int32 := if octB (T.getD i 0) then nI (valN 8 (oct3 T i) % 256) else escI (T.getD i 0)
def rEe (T : List Nat) (i : Nat) : Nat := if octB (T.getD i 0) then i + (oct3 T i).length else i + 1
theorem rE_ok {T : List Nat} {i : Nat} (h : escOk T i = true) : rEv T i = nI (escV T i % 256) ∧ rEe T i = escE T i := by
  unfold rEv rEe escV escE escI
  cases ho : octB (T.getD i 0)
  · have h1 : escC (T.getD i 0) ≠ 0 := by
      intro q
      unfold escOk at h
      rw [q, oct3_nil ho] at h
      cases h
    have := escC_lt (T.getD i 0)
    rw [if_neg (by decide), if_neg h1, if_neg h1, if_neg (by decide), if_neg h1, Nat.mod_eq_of_lt this]
    exact ⟨rfl, rfl⟩
  · have h1 := octB_esc ho
    rw [if_pos rfl, if_pos h1, if_pos rfl, if_pos h1]
    exact ⟨rfl, rfl⟩
theorem rE_no {T : List Nat} {i : Nat} (h : escOk T i = false) : rEv T i = -1 := by
  unfold rEv escI
  cases ho : octB (T.getD i 0)
  · have h1 : escC (T.getD i 0) = 0 := by
      unfold escOk at h
      rw [Bool.or_eq_false_iff] at h
      have := h.1
      simpa using this
    rw [if_neg (by decide), if_pos h1]
  · unfold escOk at h
    rw [Bool.or_eq_false_iff] at h
    have h2 := h.2
    exact absurd (by simpa using h2) (oct3_ne ho)
theorem rEe_le (T : List Nat) (i : Nat) : i < rEe T i ∧ rEe T i ≤ i + 3 := by
  unfold rEe
  split
  · rename_i ho
    have := oct3_len T i
    have := List.length_pos_iff.mpr (oct3_ne (T := T) (i := i) ho)
    omega
  · omega
/-- the width and the precision as the reference holds them -/
def rWd (T : List Nat) (i : Nat) : Int32 := if T.getD i 0 = 42 then -2 else nI (valN 10 (dg2 T i))
def rPc (T : List Nat) (i : Nat) : Int32 := if T.getD i 0 = 46 then (if T.getD (i + 1) 0 = 42 then -3 else nI (valN 10 (dg2 T (i + 1)))) else -1
theorem flC_f {c : Nat} (h : flC c = false) : ¬ c = 45 ∧ ¬ c = 43 ∧ ¬ c = 32 ∧ ¬ c = 35 ∧ ¬ c = 48 := by
  unfold flC at h
  simp only [Bool.or_eq_false_iff, beq_eq_false_iff_ne, ne_eq] at h
  exact ⟨h.1.1.1.1, h.1.1.1.2, h.1.1.2, h.1.2, h.2⟩
theorem flC_in {T : List Nat} {i : Nat} (h : flC (T.getD i 0) = true) : i < T.length := by
  rcases Nat.lt_or_ge i T.length with q | q
  · exact q
  · rw [gd_out q] at h; cases h
