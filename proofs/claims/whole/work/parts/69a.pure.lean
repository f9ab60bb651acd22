theorem lastR_le {xs : Nat → Arg} {cnt : Nat} {fl fp fb fm fz : Bool} {w : Nat} {po : Option Nat} {b : Nat} {lt : Int32} {tk : Nat} (h : tk ≤ cnt) : (lastR xs cnt fl fp fb fm fz w po b lt tk).2.1 ≤ cnt := by
  have h2 := nextT_le h
  unfold lastR
  split
  · exact h2
  · split
    · exact h2
    · split <;> exact h2
theorem dRun_le {xs : Nat → Arg} {cnt : Nat} {fl fp fb fm fz sw sp : Bool} {w : Nat} {po : Option Nat} {b : Nat} {lt : Int32} {tk : Nat} (h : tk ≤ cnt) : (dRun xs cnt fl fp fb fm fz sw sp w po b lt tk).2.1 ≤ cnt := lastR_le (w1T_le (w1T_le h))
theorem oRun_le {T : List Nat} {xs : Nat → Arg} {cnt : Nat} : ∀ (f : Nat) (e : Bool) (i tk : Nat), tk ≤ cnt → (oRun T xs cnt f e i tk).2.1 ≤ cnt := by
  intro f
  induction f with
  | zero => intro e i tk h; exact h
  | succ f ih =>
    intro e i tk h
    rw [oRun]
    split
    · exact h
    · split
      · exact h
      · split
        · exact ih _ _ _ h
        · split
          · exact ih _ _ _ (dRun_le h)
          · exact ih _ _ _ h
theorem flt_go {T : List Nat} {f i : Nat} (hi : i < T.length) (h : fltF T (f + 1) i = none) : ¬ pcI T i = -1 := by
  intro q
  rw [fltF_b hi q] at h
  cases h
theorem lnB_in (T : List Nat) (i : Nat) : lnB T i = 8 ∨ lnB T i = 16 ∨ lnB T i = 32 ∨ lnB T i = 64 := by
  unfold lnB
  split
  · split
    · exact Or.inl rfl
    · exact Or.inr (Or.inl rfl)
  · split
    · exact Or.inr (Or.inr (Or.inr rfl))
    · exact Or.inr (Or.inr (Or.inl rfl))
theorem prP_99 (T : List Nat) (i : Nat) : ∀ k, prP T i = some k → k ≤ 99 := by
  intro k h
  unfold prP at h
  split at h
  · split at h
    · cases h
    · have := dg2_lt T (i + 1)
      cases h
      omega
  · cases h
theorem dir_ch {T : List Nat} {i : Nat} (h : dirOk T i = true) : chAt T (dP4 T i) = nI (T.getD (dP4 T i) 0) := by
  unfold chAt
  split
  · rfl
  · rename_i q
    unfold dirOk at h
    rw [gd_out (by omega)] at h
    cases h
theorem pc_esc {T : List Nat} {i : Nat} (h : T.getD i 0 = 92) (hp : ¬ pcI T i = -1) : escOk T (i + 1) = true := by
  cases q : escOk T (i + 1) with
  | true => rfl
  | false => exact absurd (pcI_eb h q) hp
theorem pc_dir {T : List Nat} {i : Nat} (h : T.getD i 0 = 37) (h1 : ¬ T.getD (i + 1) 0 = 37) (hp : ¬ pcI T i = -1) : dirOk T (i + 1) = true := by
  cases q : dirOk T (i + 1) with
  | true => rfl
  | false => exact absurd (pcI_db h h1 q) hp
theorem flt_lt0 {T : List Nat} (hT : T.length ≤ 80) : fltI (fltF T 80 0) < 0 ↔ fltF T 80 0 = none := by
  cases h : fltF T 80 0 with
  | none => exact ⟨fun _ => rfl, fun _ => by decide⟩
  | some k =>
    have := fltF_lt T 80 0 k h
    exact ⟨fun q => absurd q (nI_nlt0 (by omega)), fun q => by cases q⟩
/-- the reference at rest: the line, the arguments, the output, the bytes, the place of the fault, the odd texts -/
def isM (cy : Nat → ClassId) (ad : Nat → Nat) (M : Nat → va_E) (T : List Nat) (xs : Nat → Arg) (cnt lim : Nat) (O B : List Nat) (fp ot : Int32) : Prop :=
  rO ad M ∧ isLn cy M T ∧ isRA cy M xs cnt ∧ isOutR cy M lim O ∧ isBy cy M B ∧ M 114 = gh (.int fp) ∧ M 115 = gh (.int ot) ∧ (∃ W, isRw cy M W) ∧ (∃ D, isDg cy M D) ∧ ∃ g : Nat → Nat, M 62 = .inl (cy 1, 2000, .inl (fun i => nI (g i)))
def refS : List Nat := [52, 53, 54, 55, 56, 57, 58, 59, 60, 61, 62, 100, 102, 103, 108, 110, 111, 113, 114, 115, 116, 117, 118, 119, 120, 121, 122, 123, 124, 125, 126, 127, 128, 130, 132, 134, 135]
theorem isM.fr {cy : Nat → ClassId} {ad : Nat → Nat} {M M' : Nat → va_E} {S : List Nat} {T : List Nat} {xs : Nat → Arg} {cnt lim : Nat} {O B : List Nat} {fp ot : Int32} (h : isM cy ad M T xs cnt lim O B fp ot) (hF : Fr S M M') (hS : ∀ k ∈ S, k < 52 ∨ k = 63) : isM cy ad M' T xs cnt lim O B fp ot := by
  have hx : ∀ k, 52 ≤ k → k ≠ 63 → k ∉ S := fun k h1 h2 q => by have := hS k q; omega
  obtain ⟨h1, h2, h3, h4, h5, h6, h7, ⟨W, h8⟩, ⟨D, h9⟩, g, h10⟩ := h
  refine ⟨h1.fr hF (fun k hk => by have := hS k hk; omega), h2.fr hF (fun k hk => ?_), h3.fr hF (fun k hk => ?_), h4.fr hF (fun k hk => ?_), h5.fr hF (fun k hk => ?_), (hF 114 (hx 114 (by decide) (by decide))).trans h6, (hF 115 (hx 115 (by decide) (by decide))).trans h7, ⟨W, h8.fr hF (fun k hk => ?_)⟩, ⟨D, h9.fr hF (fun k hk => ?_)⟩, g, (hF 62 (hx 62 (by decide) (by decide))).trans h10⟩
  all_goals (simp only [List.mem_cons, List.not_mem_nil, or_false] at hk; exact hx k (by omega) (by omega))
def sel {α : Type} (k : Nat) (a b : α) : α := if k = 0 then a else b
theorem sel0 {α : Type} {k : Nat} {a b : α} (h : k = 0) : sel k a b = a := if_pos h
theorem sel1 {α : Type} {k : Nat} {a b : α} (h : ¬ k = 0) : sel k a b = b := if_neg h
