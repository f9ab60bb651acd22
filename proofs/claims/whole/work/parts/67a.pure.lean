theorem unsF_p {T : List Nat} {f i : Nat} (h : i < T.length) (h1 : ¬ (T.getD i 0 = 92 ∧ T.getD (i + 1) 0 = 99)) (h2 : ¬ (T.getD i 0 = 92 ∧ txOk T (i + 1) = true)) : unsF T (f + 1) i = (T.getD i 0 :: (unsF T f (i + 1)).1, (unsF T f (i + 1)).2) := by
  rw [unsF, if_neg (by omega), if_neg h1, if_neg h2]
theorem escI_lt0 {c : Nat} : escI c < 0 ↔ escC c = 0 := by
  unfold escI
  by_cases h : escC c = 0
  · rw [if_pos h]; exact ⟨fun _ => h, fun _ => by decide⟩
  · rw [if_neg h]
    have := escC_lt c
    exact ⟨fun q => absurd q (nI_nlt0 (by omega)), fun q => absurd q h⟩
theorem escI_v {c : Nat} (h : ¬ escI c < 0) : escI c = nI (escC c) ∧ ¬ escC c = 0 := by
  have h1 : ¬ escC c = 0 := fun q => h (escI_lt0.mpr q)
  refine ⟨?_, h1⟩
  unfold escI
  rw [if_neg h1]
theorem tx48 {T : List Nat} {i : Nat} (h : T.getD i 0 = 48) : txOk T i = true ∧ txV T i = valN 8 (oct3 T (i + 1)) ∧ txE T i = i + 1 + (oct3 T (i + 1)).length := by
  unfold txOk txV txE
  rw [h]
  exact ⟨rfl, rfl, rfl⟩
theorem txE_s {T : List Nat} {i : Nat} (h : ¬ escC (T.getD i 0) = 0) : txOk T i = true ∧ txV T i = escC (T.getD i 0) ∧ txE T i = i + 1 := by
  unfold txOk txV txE
  rw [if_neg h, if_neg h, Bool.or_eq_true]
  exact ⟨Or.inl (by simpa using h), rfl, rfl⟩
theorem txN {T : List Nat} {i : Nat} (h : escC (T.getD i 0) = 0) (h2 : ¬ T.getD i 0 = 48) : ¬ txOk T i = true := by
  unfold txOk
  rw [h, beq_eq_false_iff_ne.mpr h2]
  decide
theorem txE_gt (T : List Nat) (i : Nat) : i < txE T i := by
  unfold txE
  split <;> omega
theorem isRw.cut {cy : Nat → ClassId} {M M' : Nat → va_E} {P : List Nat} (h : isRw cy M P) {S : List Nat} (hF : Fr S M M') (hS : 60 ∉ S) {m : Nat} (hm : M' 130 = gh (.int (nI (P.take m).length))) : isRw cy M' (P.take m) := by
  obtain ⟨h1, h2, h3, g, h4, h5⟩ := h
  refine ⟨fun x hx => h1 x (List.mem_of_mem_take hx), hm, ?_, g, (hF 60 hS).trans h4, fun i hi => ?_⟩
  · rw [List.length_take]; omega
  · rw [List.length_take] at hi
    rw [gd_take (by omega), h5 i (by omega)]
theorem i2c_low (v : Int64) : (((v &&& 255).toInt32).toUInt32 % 65536).toInt32 = nI (lowb v.toInt32) := by
  obtain ⟨n, hn, rfl⟩ := wb_of v
  rw [show (255 : Int64) = lN (2 ^ 8 - 1) from rfl, wb_mask hn (by decide), lN_i, lN_i, i2c_nI (by have := Nat.mod_lt n (show 0 < 2 ^ 8 by decide); omega)]
  congr 1
  unfold lowb
  show n % 2 ^ 8 = (BitVec.ofNat 32 n).toNat % 256
  rw [BitVec.toNat_ofNat]
  omega
theorem pI_ne3 (p : Option Nat) (hp : ∀ k, p = some k → k < 2 ^ 20) : ¬ pI p = -3 := by
  cases p with
  | none => decide
  | some k =>
    intro q
    have h := hp k rfl
    have a : (nI k).toInt = k := nI_toInt (by omega)
    have b : (nI k) = -3 := q
    rw [b] at a
    have : (-3 : Int32).toInt = -3 := by decide
    omega
theorem nI_ne2 {k : Nat} (h : k < 2 ^ 31) : ¬ nI k = -2 := by
  intro q
  have a := nI_toInt h
  rw [q] at a
  have : (-2 : Int32).toInt = -2 := by decide
  omega
theorem rWd_eq (T : List Nat) (i : Nat) : rWd T i = (if wdS T i then -2 else nI (wdN T i)) := by
  unfold rWd wdS wdN
  by_cases h : T.getD i 0 = 42
  · rw [if_pos h, h]; rfl
  · rw [if_neg h, if_neg h, beq_eq_false_iff_ne.mpr h]; rfl
theorem rPc_eq (T : List Nat) (i : Nat) : rPc T i = (if prS T i then -3 else pI (prP T i)) := by
  unfold rPc prS prP
  by_cases h : T.getD i 0 = 46
  · rw [if_pos h, if_pos h, h]
    by_cases h2 : T.getD (i + 1) 0 = 42
    · rw [if_pos h2, if_pos h2, h2]; rfl
    · rw [if_neg h2, if_neg h2, beq_eq_false_iff_ne.mpr h2]; rfl
  · rw [if_neg h, if_neg h, beq_eq_false_iff_ne.mpr h]; rfl
theorem unsF_len (T : List Nat) : ∀ f i : Nat, (unsF T f i).1.length ≤ T.length - i := by
  intro f
  induction f with
  | zero => intro i; simp [unsF]
  | succ f ih =>
    intro i
    rw [unsF]
    split
    · simp
    · split
      · simp
      · split
        · have h1 := ih (txE T (i + 1))
          have h2 := txE_gt T (i + 1)
          simp only [List.length_cons]
          omega
        · have h1 := ih (i + 1)
          simp only [List.length_cons]
          omega
theorem cutP_len2 (po : Option Nat) (P : List Nat) : (cutP po P).length = match po with
    | none => P.length
    | some k => min k P.length := by
  cases po with
  | none => rfl
  | some k => exact List.length_take
theorem take_s {P : List Nat} {k : Nat} (h : k < P.length) : P.take (k + 1) = P.take k ++ [P.getD k 0] := by
  rw [List.take_succ, List.getElem?_eq_getElem h]
  simp [List.getD_eq_getElem?_getD, h]
