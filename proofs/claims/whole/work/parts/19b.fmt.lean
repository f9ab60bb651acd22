def baseN (lt : Int32) : Nat := if lt = nI 111 then 8 else if lt = nI 120 ∨ lt = nI 88 then 16 else 10
theorem baseN_in (lt : Int32) : baseN lt = 8 ∨ baseN lt = 10 ∨ baseN lt = 16 := by
  unfold baseN
  split
  · exact Or.inl rfl
  · split
    · exact Or.inr (Or.inr rfl)
    · exact Or.inr (Or.inl rfl)
theorem baseN_eq (lt : Int32) : (if lt = nI 111 then nI 8 else if lt = nI 120 ∨ lt = nI 88 then nI 16 else nI 10) = nI (baseN lt) := by
  unfold baseN
  split
  · rfl
  · split <;> rfl
theorem sub2_clamp {a b c : Nat} (ha : a < 2 ^ 28) (hb : b < 2 ^ 28) (hc : c < 2 ^ 28) : (nI a - nI b - nI c).toNatClampNeg = a - b - c := by
  have e : nI a - nI b - nI c = nI a - nI (b + c) := by rw [← nI_add, Int32.sub_eq_add_neg, Int32.sub_eq_add_neg, Int32.sub_eq_add_neg, Int32.neg_add, Int32.sub_eq_add_neg, Int32.add_assoc]
  rw [e, sub_clamp (by omega) (by omega)]
  omega
theorem fill2_eq {w f d k : Nat} (hk : k < 256) (hw : w < 2 ^ 28) (hf : f < 2 ^ 28) (hd : d < 2 ^ 28) : List.replicate (nI w - nI f - nI d).toNatClampNeg (lowb (nI k)) = List.replicate (w - f - d) k := by
  rw [sub2_clamp hw hf hd, lowb_nI hk]
theorem dueN_lt {p : Option Nat} {L : Nat} {mk : Bool} (hp : ∀ k, p = some k → k < 2 ^ 20) (hL : L ≤ 22) : dueN p L mk < 2 ^ 21 := by
  have hl : leastP p < 2 ^ 20 := by
    cases p with
    | none => simp [leastP]
    | some k => exact hp k rfl
  unfold dueN
  split <;> omega
/-- the parts of a printed number: its value, the digits, what stands in front -/
def nmV (b : Nat) (lt : Int32) (x : Int64) : Int64 := narI b (sgdL lt) x
def nmB (b : Nat) (lt : Int32) (x : Int64) : Bool := sgdL lt && decide (nmV b lt x < 0)
def nmD (b : Nat) (lt : Int32) (x : Int64) : List Nat := dg (baseN lt) (uL (if nmB b lt x then -(nmV b lt x) else nmV b lt x))
def nmM (b : Nat) (lt : Int32) (x : Int64) (fm : Bool) : Bool := fm && hexL lt && decide (nmV b lt x ≠ 0)
def nmS (b : Nat) (lt : Int32) (x : Int64) (fp fb : Bool) : Int32 := sgI (sgdL lt) (nmB b lt x) fp fb
def nmF (mk : Bool) (sg : Int32) : Nat := if mk then 2 else if sg = -1 then 0 else 1
def nmP (mk : Bool) (sg lt : Int32) : List Nat := if mk then [48, lowb lt] else if sg = -1 then [] else [lowb sg]
def nmZ (fz fl : Bool) (po : Option Nat) : Bool := fz && !fl && decide (pI po = -1)
def nmK (b : Nat) (lt : Int32) (x : Int64) (po : Option Nat) (fm : Bool) : Nat := dueN po (nmD b lt x).length (fm && decide (lt = nI 111))
/-- a printed number -/
def fmtN (b : Nat) (lt : Int32) (x : Int64) (fl fp fb fm fz : Bool) (w : Nat) (po : Option Nat) : List Nat :=
  let mk := nmM b lt x fm
  let sg := nmS b lt x fp fb
  let k := nmK b lt x po fm
  let g := w - nmF mk sg - k
  let z := nmZ fz fl po
  ((((if !fl && !z then List.replicate g 32 else []) ++ nmP mk sg lt) ++ (if z then List.replicate g 48 else [])) ++ numS (decide (lt = nI 88)) (nmD b lt x) k) ++ (if fl then List.replicate g 32 else [])
theorem lcmp_eq {v : Int64} (h : lg_cmp v 0 = 0) : v = 0 := by
  rw [← lN_uL v] at h ⊢
  rw [(lcmp_0 (uL_lt v)).mp h]; rfl
theorem lcmp_eq0 {v : Int64} (h : v = 0) : lg_cmp v 0 = 0 := by rw [h]; decide
theorem nz_f {v : Int64} (h : v = 0) : decide (v ≠ 0) = false := by rw [h]; decide
theorem nz_t {v : Int64} (h : v ≠ 0) : decide (v ≠ 0) = true := decide_eq_true h
/-- a star's number: its size -/
def cutA (v : Int64) : Nat := (max (-99) (min 99 v.toInt)).natAbs
theorem cutA_le (v : Int64) : cutA v ≤ 99 := by unfold cutA; omega
theorem cut_tab : ∀ k : Nat, k < 199 → ((if (Int64.ofInt ((k : Int) - 99)).toInt32 < 0 then -((Int64.ofInt ((k : Int) - 99)).toInt32) else (Int64.ofInt ((k : Int) - 99)).toInt32) = nI ((k : Int) - 99).natAbs) ∧ ((Int64.ofInt ((k : Int) - 99)).toInt32 < 0 ↔ (k : Int) - 99 < 0) := by decide +kernel
theorem cut_case (v : Int64) : ∃ k : Nat, k < 199 ∧ cutL v = Int64.ofInt ((k : Int) - 99) ∧ ((k : Int) - 99 < 0 ↔ v < 0) ∧ ((k : Int) - 99).natAbs = cutA v := by
  have h99 : (99 : Int64).toInt = 99 := by decide
  have hm99 : (-99 : Int64).toInt = -99 := by decide
  have h0 : (0 : Int64).toInt = 0 := by decide
  have e : ∀ z : Int, -99 ≤ z → z ≤ 99 → ∀ u : Int64, u.toInt = z → u = Int64.ofInt z := by
    intro z _ _ u hu
    rw [← hu, Int64.ofInt_toInt]
  refine ⟨(max (-99) (min 99 v.toInt) + 99).toNat, by omega, ?_, ?_, ?_⟩
  · rw [show (((max (-99) (min 99 v.toInt) + 99).toNat : Nat) : Int) - 99 = max (-99) (min 99 v.toInt) by omega]
    apply e _ (by omega) (by omega)
    unfold cutL
    by_cases h1 : v < 99
    · rw [if_pos h1]
      rw [Int64.lt_iff_toInt_lt, h99] at h1
      by_cases h2 : v < -99
      · rw [if_pos h2, hm99]
        rw [Int64.lt_iff_toInt_lt, hm99] at h2
        omega
      · rw [if_neg h2]
        rw [Int64.lt_iff_toInt_lt, hm99] at h2
        omega
    · rw [if_neg h1, if_neg (by decide), h99]
      rw [Int64.lt_iff_toInt_lt, h99] at h1
      omega
  · rw [Int64.lt_iff_toInt_lt, h0]
    omega
  · unfold cutA
    omega
theorem cut_w (v : Int64) : (if cutI v < 0 then -(cutI v) else cutI v) = nI (cutA v) := by
  obtain ⟨k, hk, h1, -, h3⟩ := cut_case v
  unfold cutI
  rw [h1, ← h3]
  exact (cut_tab k hk).1
theorem cut_n (v : Int64) : decide (cutI v < 0) = decide (v < 0) := by
  obtain ⟨k, hk, h1, h2, -⟩ := cut_case v
  unfold cutI
  rw [h1]
  exact decide_eq_decide.mpr ((cut_tab k hk).2.trans h2)
theorem cut_p (v : Int64) : (if v < 0 then -1 else cutI v) = pI (if v < 0 then none else some (cutA v)) := by
  by_cases h : v < 0
  · rw [if_pos h, if_pos h]; rfl
  · rw [if_neg h, if_neg h]
    show cutI v = nI (cutA v)
    have h2 : ¬ cutI v < 0 := fun q => h (of_decide_eq_true ((cut_n v).symm.trans (decide_eq_true q)))
    rw [← cut_w v, if_neg h2]
def prP (T : List Nat) (i : Nat) : Option Nat := if T.getD i 0 = 46 then (if T.getD (i + 1) 0 = 42 then none else some (valN 10 (dg2 T (i + 1)))) else none
theorem prI_eq (T : List Nat) (i : Nat) : prI T i = pI (prP T i) := by
  unfold prI prP
  split
  · split <;> rfl
  · rfl
theorem prP_lt (T : List Nat) (i : Nat) : ∀ k, prP T i = some k → k < 2 ^ 20 := by
  intro k h
  unfold prP at h
  split at h
  · split at h
    · cases h
    · have := dg2_lt T (i + 1)
      cases h
      omega
  · cases h
