theorem lastR_le {xs : Nat → Arg} {cnt : Nat} {fl fp fb fm fz : Bool} {w : Nat} {po : Option Nat} {b : Nat} {lt : Int32} {tk : Nat} (h : tk ≤ cnt) : (lastR xs cnt fl fp fb fm fz w po b lt tk).2.1 ≤ cnt := by
  have h2 := nextT_le h
  unfold lastR
  split
  · exact h2
  · split
    · exact h2
    · split <;> exact h2
theorem dRun_le {xs : Nat → Arg} {cnt : Nat} {fl fp fb fm fz sw sp : Bool} {w : Nat} {po : Option Nat} {b : Nat} {lt : Int32} {tk : Nat} (h : tk ≤ cnt) : (dRun xs cnt fl fp fb fm fz sw sp w po b lt tk).2.1 ≤ cnt := lastR_le (w1T_le (w1T_le h))
theorem oRun_le {T : List Nat} {xs : Nat → Arg} {cnt : Nat} : ∀ (f : Nat) (e : Bool) (i tk : Nat), tk ≤ cnt → (oRun T xs cnt f e i tk).2.1 ≤ cnt := by
  intro f
  induction f with
  | zero => intro e i tk h; exact h
  | succ f ih =>
    intro e i tk h
    rw [oRun]
    split
    · exact h
    · split
      · exact h
      · split
        · exact ih _ _ _ h
        · split
          · exact ih _ _ _ (dRun_le h)
          · exact ih _ _ _ h
theorem flt_go {T : List Nat} {f i : Nat} (hi : i < T.length) (h : fltF T (f + 1) i = none) : ¬ pcI T i = -1 := by
  intro q
  rw [fltF_b hi q] at h
  cases h
theorem lnB_in (T : List Nat) (i : Nat) : lnB T i = 8 ∨ lnB T i = 16 ∨ lnB T i = 32 ∨ lnB T i = 64 := by
  unfold lnB
  split
  · split
    · exact Or.inl rfl
    · exact Or.inr (Or.inl rfl)
  · split
    · exact Or.inr (Or.inr (Or.inr rfl))
    · exact Or.inr (Or.inr (Or.inl rfl))
theorem prP_99 (T : List Nat) (i : Nat) : ∀ k, prP T i = some k → k ≤ 99 := by
  intro k h
  unfold prP at h
  split at h
  · split at h
    · cases h
    · have := dg2_lt T (i + 1)
      cases h
      omega
  · cases h
theorem dir_ch {T : List Nat} {i : Nat} (h : dirOk T i = true) : chAt T (dP4 T i) = nI (T.getD (dP4 T i) 0) := by
  unfold chAt
  split
  · rfl
  · rename_i q
    unfold dirOk at h
    rw [gd_out (by omega)] at h
    cases h
theorem pc_esc {T : List Nat} {i : Nat} (h : T.getD i 0 = 92) (hp : ¬ pcI T i = -1) : escOk T (i + 1) = true := by
  cases q : escOk T (i + 1) with
  | true => rfl
  | false => exact absurd (pcI_eb h q) hp
theorem pc_dir {T : List Nat} {i : Nat} (h : T.getD i 0 = 37) (h1 : ¬ T.getD (i + 1) 0 = 37) (hp : ¬ pcI T i = -1) : dirOk T (i + 1) = true := by
  cases q : dirOk T (i + 1) with
  | true => rfl
  | false => exact absurd (pcI_db h h1 q) hp
theorem flt_lt0 {T : List Nat} (hT : T.length ≤ 80) : fltI (fltF T 80 0) < 0 ↔ fltF T 80 0 = none := by
  cases h : fltF T 80 0 with
  | none => exact ⟨fun _ => rfl, fun _ => by decide⟩
  | some k =>
    have := fltF_lt T 80 0 k h
    exact ⟨fun q => absurd q (nI_nlt0 (by omega)), fun q => by cases q⟩
