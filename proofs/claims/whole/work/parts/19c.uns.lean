/-- a text's escapes undone from a place on, in so many steps: the characters, and whether all printing ends -/
def unsF (T : List Nat) : Nat → Nat → List Nat × Bool
  | 0, _ => ([], false)
  | f + 1, i => if T.length ≤ i then ([], false) else if T.getD i 0 = 92 ∧ T.getD (i + 1) 0 = 99 then ([], true) else if T.getD i 0 = 92 ∧ txOk T (i + 1) = true then (txV T (i + 1) % 256 :: (unsF T f (txE T (i + 1))).1, (unsF T f (txE T (i + 1))).2) else (T.getD i 0 :: (unsF T f (i + 1)).1, (unsF T f (i + 1)).2)
def unsT (T : List Nat) : List Nat := (unsF T 80 0).1
def unsE (T : List Nat) : Bool := (unsF T 80 0).2
theorem unsF_e {T : List Nat} {f i : Nat} (h : T.length ≤ i) : unsF T f i = ([], false) := by
  cases f with
  | zero => rfl
  | succ f => rw [unsF, if_pos h]
theorem unsF_c {T : List Nat} {f i : Nat} (h : i < T.length) (h1 : T.getD i 0 = 92) (h2 : T.getD (i + 1) 0 = 99) : unsF T (f + 1) i = ([], true) := by
  rw [unsF, if_neg (by omega), if_pos ⟨h1, h2⟩]
theorem unsF_x {T : List Nat} {f i : Nat} (h : i < T.length) (h1 : T.getD i 0 = 92) (h2 : ¬ T.getD (i + 1) 0 = 99) (h3 : txOk T (i + 1) = true) : unsF T (f + 1) i = (txV T (i + 1) % 256 :: (unsF T f (txE T (i + 1))).1, (unsF T f (txE T (i + 1))).2) := by
  rw [unsF, if_neg (by omega), if_neg (fun q => h2 q.2), if_pos ⟨h1, h3⟩]
theorem unsF_p1 {T : List Nat} {f i : Nat} (h : i < T.length) (h1 : ¬ T.getD i 0 = 92) : unsF T (f + 1) i = (T.getD i 0 :: (unsF T f (i + 1)).1, (unsF T f (i + 1)).2) := by
  rw [unsF, if_neg (by omega), if_neg (fun q => h1 q.1), if_neg (fun q => h1 q.1)]
theorem unsF_p2 {T : List Nat} {f i : Nat} (h : i < T.length) (h2 : ¬ T.getD (i + 1) 0 = 99) (h3 : txOk T (i + 1) = false) : unsF T (f + 1) i = (T.getD i 0 :: (unsF T f (i + 1)).1, (unsF T f (i + 1)).2) := by
  rw [unsF, if_neg (by omega), if_neg (fun q => h2 q.2), if_neg (fun q => by rw [h3] at q; exact absurd q.2 (by decide))]
theorem lowb_mod {k : Nat} (h : k < 2 ^ 31) : lowb (nI k) = k % 256 := by
  unfold lowb
  rw [pk_tn (by omega)]
theorem txV_lt (T : List Nat) (i : Nat) : txV T i < 2 ^ 10 := by
  unfold txV
  split
  · have h1 := valN_lt (oct3 T (i + 1)) (ldig_lt 8 _)
    have h2 : (8 : Nat) ^ (oct3 T (i + 1)).length ≤ 8 ^ 3 := Nat.pow_le_pow_right (by decide) (oct3_len T (i + 1))
    omega
  · have := escC_lt (T.getD i 0)
    omega
theorem txE_le (T : List Nat) (i : Nat) : txE T i ≤ i + 4 := by
  unfold txE
  have := oct3_len T (i + 1)
  split <;> omega
theorem app1 {Q R : List Nat} {c : Nat} : Q ++ (c :: R) = (Q ++ [c]) ++ R := by simp
