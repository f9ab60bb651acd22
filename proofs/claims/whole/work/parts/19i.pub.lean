/-- an int as a natural number, where it is none below 0 -/
abbrev cl (x : Int32) : Nat := x.toNatClampNeg
theorem of_nn {x : Int32} (h : ¬ x < 0) : x = nI (cl x) := by
  have h0 : 0 ≤ x := Int32.not_lt.mp h
  have h1 : (0 : Int) ≤ x.toInt := by rw [Int32.le_iff_toInt_le] at h0; simpa using h0
  apply Int32.toInt_inj.mp
  rw [nI_toInt (clamp_lt x)]
  show x.toInt = (x.toInt.toNat : Int)
  omega
/-- what type puts behind the line -/
def ty5 (a b c d e : Int32) : List Nat := wchs a 4 ++ wchs b 4 ++ wchs c 4 ++ wchs d 4 ++ wchs e 4
def tn5 (a b c d e : Int32) : Nat := nzb a 4 + nzb b 4 + nzb c 4 + nzb d 4 + nzb e 4
theorem ty5_len (a b c d e : Int32) : (ty5 a b c d e).length = tn5 a b c d e := by
  unfold ty5 tn5
  simp only [List.length_append, wchs_len]
theorem tn5_le (a b c d e : Int32) : tn5 a b c d e ≤ 20 := by
  unfold tn5
  have := nzb_le a 4
  have := nzb_le b 4
  have := nzb_le c 4
  have := nzb_le d 4
  have := nzb_le e 4
  omega
/-- what feed puts behind the bytes -/
def fd4 (q : Nat) (a b c d : Int32) : List Nat := wbs a (min 4 q) ++ wbs b (min 4 (q - 4)) ++ wbs c (min 4 (q - 8)) ++ wbs d (min 4 (q - 12))
theorem fd4_len {q : Nat} (h : q ≤ 16) (a b c d : Int32) : (fd4 q a b c d).length = q := by
  unfold fd4
  simp only [List.length_append, wbs_len]
  omega
def abOk (x : Int32) : Bool := decide (x = 0 ∨ x = nI 8 ∨ x = nI 10 ∨ x = nI 16)
def shOk (x g : Int32) : Bool := decide (nI 1 ≤ x ∧ x ≤ nI 32 ∧ 0 ≤ g ∧ g ≤ x)
/-- the group that is meant: all columns, where it is 0 -/
def grN (x g : Int32) : Nat := if g = 0 then cl x else cl g
theorem abOk_N {x : Int32} (h : abOk x = true) : x = nI (cl x) ∧ (cl x = 0 ∨ cl x = 8 ∨ cl x = 10 ∨ cl x = 16) := by
  rcases of_decide_eq_true h with q | q | q | q <;> subst q <;> decide
theorem shOk_N {x g : Int32} (h : shOk x g = true) : x = nI (cl x) ∧ (if g = 0 then x else g) = nI (grN x g) ∧ 1 ≤ cl x ∧ cl x ≤ 32 ∧ 0 < grN x g ∧ grN x g ≤ 32 := by
  obtain ⟨h1, h2, h3, h4⟩ := of_decide_eq_true h
  have hx : ¬ x < 0 := Int32.not_lt.mpr (Int32.le_trans (by decide) h1)
  have ex := of_nn hx
  have hg : ¬ g < 0 := Int32.not_lt.mpr h3
  have eg := of_nn hg
  have b1 : 1 ≤ cl x := by rw [ex] at h1; exact (nI_leI (by decide) (clamp_lt x)).mp h1
  have b2 : cl x ≤ 32 := by rw [ex] at h2; exact (nI_leI (clamp_lt x) (by decide)).mp h2
  have b3 : cl g ≤ cl x := by
    have h5 := h4
    rw [ex] at h5
    rw [eg] at h5
    exact (nI_leI (clamp_lt g) (clamp_lt x)).mp h5
  refine ⟨ex, ?_, b1, b2, ?_, ?_⟩
  · unfold grN
    split
    · exact ex
    · exact eg
  · unfold grN
    split
    · omega
    · rename_i q
      rcases Nat.eq_zero_or_pos (cl g) with z | z
      · exact absurd (by rw [eg, z]; rfl) q
      · exact z
  · unfold grN
    split <;> omega
theorem wdOk_N {lt : Nat} {y : Int32} (hl : lt < 65536) (h : wdOk (nI lt) y = true) : y = nI (cl y) ∧ 1 ≤ cl y ∧ cl y ≤ 8 ∧ (lt = 99 → cl y = 1) := by
  unfold wdOk at h
  split at h
  · rename_i q
    have := of_decide_eq_true h
    subst this
    exact ⟨by decide, by decide, by decide, fun _ => by decide⟩
  · rename_i q
    obtain ⟨-, h2⟩ := of_decide_eq_true h
    have h99 : ¬ lt = 99 := fun z => q (by rw [z])
    rcases h2 with r | r | r | r <;> subst r <;> exact ⟨by decide, by decide, by decide, fun z => absurd z h99⟩
/-- what back reads: whether the page is good, where it stops, the bytes -/
abbrev bkR (O : List Nat) (x g : Int32) : Bool × Nat × List Nat := rPg O (cl x) (grN x g) 2000 0 true []
def bkI (O : List Nat) (x g : Int32) : Int32 := if (bkR O x g).1 = false then -2 else if 256 < (bkR O x g).2.2.length then -3 else nI (bkR O x g).2.2.length
def bkB (O : List Nat) (x g : Int32) (B : List Nat) : List Nat := if (bkR O x g).1 = false then B else if 256 < (bkR O x g).2.2.length then B else (bkR O x g).2.2
def bkF (O : List Nat) (x g : Int32) : Int32 := if (bkR O x g).1 = false then nI (bkR O x g).2.1 else -1
theorem rowAt_in {L : List Nat} {k : Int32} (hL : L.length < 2 ^ 31) (h256 : ∀ x ∈ L, x < 256) : rowAt L k = -1 ↔ ¬ (0 ≤ k ∧ k < nI L.length) := by
  unfold rowAt
  split
  · rename_i q
    exact ⟨fun z => absurd z (nI_neg (by have := gd_lt0 h256 k.toNatClampNeg; omega) (by decide)), fun z => absurd q z⟩
  · rename_i q
    exact ⟨fun _ => q, fun _ => rfl⟩
