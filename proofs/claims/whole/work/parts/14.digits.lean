/-- the digits of a number, the lowest first; 0 has none -/
def dg (b n : Nat) : List Nat := if h : n = 0 ∨ b < 2 then [] else (n % b) :: dg b (n / b)
termination_by n
decreasing_by exact Nat.div_lt_self (by omega) (by omega)
theorem dg_0 (b : Nat) : dg b 0 = [] := by rw [dg]; simp
theorem dg_s {b n : Nat} (hb : 2 ≤ b) (hn : n ≠ 0) : dg b n = (n % b) :: dg b (n / b) := by
  rw [dg, dif_neg (by omega)]
theorem dg_lt {b : Nat} (hb : 2 ≤ b) : ∀ (n : Nat), ∀ x ∈ dg b n, x < b := by
  intro n
  induction n using Nat.strongRecOn with
  | _ n ih =>
    intro x hx
    by_cases h : n = 0
    · rw [h, dg_0] at hx; cases hx
    · rw [dg_s hb h] at hx
      rcases List.mem_cons.mp hx with q | q
      · rw [q]; exact Nat.mod_lt _ (by omega)
      · exact ih (n / b) (Nat.div_lt_self (by omega) (by omega)) x q
theorem dg_len {b : Nat} (hb : 2 ≤ b) : ∀ (k n : Nat), n < b ^ k → (dg b n).length ≤ k := by
  intro k
  induction k with
  | zero => intro n h; rw [show n = 0 by simpa using h, dg_0]; simp
  | succ k ih =>
    intro n h
    by_cases h0 : n = 0
    · rw [h0, dg_0]; simp
    · rw [dg_s hb h0, List.length_cons]
      have := ih (n / b) (by rw [Nat.div_lt_iff_lt_mul (by omega)]; rw [Nat.pow_succ] at h; exact h)
      omega
/-- a digit as a character -/
def dch (lg : Bool) (d : Nat) : Nat := if d < 10 then 48 + d else (if lg then 65 else 97) + d - 10
def chd (lg : Bool) (ds : List Nat) (k : Nat) : Nat := if k < ds.length then dch lg (ds.getD k 0) else 48
/-- a number's characters, at least so many -/
def numS (lg : Bool) (ds : List Nat) (m : Nat) : List Nat := (List.range (max m ds.length)).map (fun t => chd lg ds (max m ds.length - 1 - t))
theorem numS_len (lg : Bool) (ds : List Nat) (m : Nat) : (numS lg ds m).length = max m ds.length := by simp [numS]
theorem numS_at {lg : Bool} {ds : List Nat} {m t : Nat} (h : t < max m ds.length) : (numS lg ds m).getD t 0 = chd lg ds (max m ds.length - 1 - t) := by
  simp [numS, List.getD_eq_getElem?_getD, List.getElem?_map, List.getElem?_range h]
theorem dch_lt {lg : Bool} {d : Nat} (h : d < 16) : dch lg d < 256 := by
  unfold dch
  split
  · omega
  · split <;> omega
theorem chd_lt {lg : Bool} {ds : List Nat} (h : ∀ x ∈ ds, x < 16) (k : Nat) : chd lg ds k < 256 := by
  unfold chd
  split
  · rename_i q
    exact dch_lt (h _ (by rw [List.getD_eq_getElem?_getD, List.getElem?_eq_getElem q]; exact List.getElem_mem q))
  · omega
theorem numS_lt {lg : Bool} {ds : List Nat} {m : Nat} (h : ∀ x ∈ ds, x < 16) : ∀ x ∈ numS lg ds m, x < 256 := by
  intro x hx
  obtain ⟨t, -, rfl⟩ := List.mem_map.mp hx
  exact chd_lt h _
/-- the digits' object fo and its cells fa -/
def isFig (cy : Nat → ClassId) (ad : Nat → Nat) (n : Nat) (M : Nat → va_E) (fo fa : Nat) (ds : List Nat) (lg : Bool) : Prop :=
  fo < n ∧ fa < n ∧ ds.length ≤ 22 ∧ (∀ x ∈ ds, x < 16) ∧ ∃ g : Nat → Nat,
    M fo = .inr (4, [.ref (ad fa), .int (nI ds.length), .int (bI lg)]) ∧ M fa = .inl (cy 1, 22, .inl (fun i => nI (g i))) ∧ ∀ i, i < ds.length → g i = ds.getD i 0
theorem isFig.ob {cy : Nat → ClassId} {ad : Nat → Nat} {n : Nat} {M : Nat → va_E} {fo fa : Nat} {ds : List Nat} {lg : Bool} (h : isFig cy ad n M fo fa ds lg) : M fo = .inr (4, [.ref (ad fa), .int (nI ds.length), .int (bI lg)]) := by
  obtain ⟨h1, h2, h3, h4, g, h5, h6, h7⟩ := h
  exact h5
theorem isFig.ne {cy : Nat → ClassId} {ad : Nat → Nat} {n : Nat} {M : Nat → va_E} {fo fa : Nat} {ds : List Nat} {lg : Bool} (h : isFig cy ad n M fo fa ds lg) : fo ≠ fa := by
  obtain ⟨h1, h2, h3, h4, g, h5, h6, h7⟩ := h
  intro q
  subst q
  rw [h5] at h6
  cases h6
theorem isFig.fr {cy : Nat → ClassId} {ad : Nat → Nat} {n : Nat} {M M' : Nat → va_E} {S : List Nat} {fo fa : Nat} {ds : List Nat} {lg : Bool} (h : isFig cy ad n M fo fa ds lg) (hF : Fr S M M') (h1 : fo ∉ S) (h2 : fa ∉ S) : isFig cy ad n M' fo fa ds lg := by
  unfold isFig at h ⊢
  rw [hF fo h1, hF fa h2]
  exact h
theorem lcmp_0 {r : Nat} (h : r < 2 ^ 64) : lg_cmp (lN r) 0 = 0 ↔ r = 0 := by
  unfold lg_cmp
  by_cases h0 : r = 0
  · subst h0; simp [lN]
  · have hne : lN r ≠ 0 := by
      intro q
      have := wb_tn h
      rw [q] at this
      exact h0 this.symm
    constructor
    · intro q
      by_cases hp : lN r > 0
      · rw [if_pos hp] at q; exact absurd q (by decide)
      · rw [if_neg hp, if_neg hne] at q; exact absurd q (by decide)
    · intro q; exact absurd q h0
theorem div_mod_sub (r b : Nat) : r - r / b * b = r % b := by
  have := Nat.div_add_mod r b
  rw [Nat.mul_comm] at this
  omega
