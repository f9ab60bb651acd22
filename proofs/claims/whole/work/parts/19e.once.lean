/-- the first place of a format that is bad, in so many pieces -/
def fltF (T : List Nat) : Nat → Nat → Option Nat
  | 0, _ => none
  | f + 1, i => if T.length ≤ i then none else if pcI T i = -1 then some i else fltF T f (pcI T i).toNatClampNeg
def fltI (o : Option Nat) : Int32 := match o with
  | none => -1
  | some i => nI i
theorem pcI_le {T : List Nat} {i : Nat} (hT : T.length ≤ 80) (hi : i < T.length) : pcI T i = -1 ∨ ∃ e, pcI T i = nI e ∧ i < e ∧ e ≤ 200 := by
  unfold pcI
  split
  · split
    · refine Or.inr ⟨_, rfl, ?_⟩
      unfold escE
      have := oct3_len T (i + 1)
      split <;> omega
    · exact Or.inl rfl
  · split
    · split
      · exact Or.inr ⟨_, rfl, by omega, by omega⟩
      · split
        · refine Or.inr ⟨_, rfl, ?_⟩
          have h1 := dP1_le T (i + 1)
          have h2 : dP1 T (i + 1) ≤ dP2 T (i + 1) ∧ dP2 T (i + 1) ≤ dP1 T (i + 1) + 2 := wdE_le T (dP1 T (i + 1))
          have h3 : dP2 T (i + 1) ≤ dP3 T (i + 1) ∧ dP3 T (i + 1) ≤ dP2 T (i + 1) + 3 := prE_le T (dP2 T (i + 1))
          have h4 : dP3 T (i + 1) ≤ dP4 T (i + 1) ∧ dP4 T (i + 1) ≤ dP3 T (i + 1) + 2 := lnE_le T (dP3 T (i + 1))
          omega
        · exact Or.inl rfl
    · exact Or.inr ⟨_, rfl, by omega, by omega⟩
/-- a directive read at place i of a format, run -/
def dDir (T : List Nat) (xs : Nat → Arg) (cnt i tk : Nat) : List Nat × Nat × Nat × Bool :=
  dRun xs cnt (has 45 (flR (T.drop i))) (has 43 (flR (T.drop i))) (has 32 (flR (T.drop i))) (has 35 (flR (T.drop i))) (has 48 (flR (T.drop i))) (wdS T (dP1 T i)) (prS T (dP2 T i)) (wdN T (dP1 T i)) (prP T (dP2 T i)) (lnB T (dP3 T i)) (chAt T (dP4 T i)) tk
/-- once through a format from a place on, in so many pieces -/
def oRun (T : List Nat) (xs : Nat → Arg) (cnt : Nat) : Nat → Bool → Nat → Nat → List Nat × Nat × Nat × Bool
  | 0, e, _, tk => ([], tk, 0, e)
  | f + 1, e, i, tk => if T.length ≤ i ∨ e = true then ([], tk, 0, e) else if pcI T i = -1 then ([], tk, 0, e)
    else if T.getD i 0 = 92 then ((escV T (i + 1) % 256) :: (oRun T xs cnt f e (pcI T i).toNatClampNeg tk).1, (oRun T xs cnt f e (pcI T i).toNatClampNeg tk).2)
    else if T.getD i 0 = 37 ∧ ¬ T.getD (i + 1) 0 = 37 then
      let r := dDir T xs cnt (i + 1) tk
      let q := oRun T xs cnt f (e || r.2.2.2) (pcI T i).toNatClampNeg r.2.1
      (r.1 ++ q.1, q.2.1, r.2.2.1 + q.2.2.1, q.2.2.2)
    else (T.getD i 0 :: (oRun T xs cnt f e (pcI T i).toNatClampNeg tk).1, (oRun T xs cnt f e (pcI T i).toNatClampNeg tk).2)
theorem escV_lt (T : List Nat) (i : Nat) : escV T i < 2 ^ 10 := by
  unfold escV
  split
  · have h1 := valN_lt (oct3 T i) (ldig_lt 8 _)
    have h2 : (8 : Nat) ^ (oct3 T i).length ≤ 8 ^ 3 := Nat.pow_le_pow_right (by decide) (oct3_len T i)
    omega
  · have := escC_lt (T.getD i 0)
    omega
theorem wdN_lt (T : List Nat) (i : Nat) : wdN T i < 2 ^ 20 := by
  unfold wdN
  have := dg2_lt T i
  split <;> omega
theorem lnB_le (T : List Nat) (i : Nat) : lnB T i ≤ 64 := by
  unfold lnB
  split
  · split <;> omega
  · split <;> omega
