def baseN (lt : Int32) : Nat := if lt = nI 111 then 8 else if lt = nI 120 ∨ lt = nI 88 then 16 else 10
theorem baseN_in (lt : Int32) : baseN lt = 8 ∨ baseN lt = 10 ∨ baseN lt = 16 := by
  unfold baseN
  split
  · exact Or.inl rfl
  · split
    · exact Or.inr (Or.inr rfl)
    · exact Or.inr (Or.inl rfl)
theorem baseN_eq (lt : Int32) : (if lt = nI 111 then nI 8 else if lt = nI 120 ∨ lt = nI 88 then nI 16 else nI 10) = nI (baseN lt) := by
  unfold baseN
  split
  · rfl
  · split <;> rfl
theorem sub2_clamp {a b c : Nat} (ha : a < 2 ^ 28) (hb : b < 2 ^ 28) (hc : c < 2 ^ 28) : (nI a - nI b - nI c).toNatClampNeg = a - b - c := by
  have e : nI a - nI b - nI c = nI a - nI (b + c) := by rw [← nI_add, Int32.sub_eq_add_neg, Int32.sub_eq_add_neg, Int32.sub_eq_add_neg, Int32.neg_add, Int32.sub_eq_add_neg, Int32.add_assoc]
  rw [e, sub_clamp (by omega) (by omega)]
  omega
theorem fill2_eq {w f d k : Nat} (hk : k < 256) (hw : w < 2 ^ 28) (hf : f < 2 ^ 28) (hd : d < 2 ^ 28) : List.replicate (nI w - nI f - nI d).toNatClampNeg (lowb (nI k)) = List.replicate (w - f - d) k := by
  rw [sub2_clamp hw hf hd, lowb_nI hk]
theorem dueN_lt {p : Option Nat} {L : Nat} {mk : Bool} (hp : ∀ k, p = some k → k < 2 ^ 20) (hL : L ≤ 22) : dueN p L mk < 2 ^ 21 := by
  have hl : leastP p < 2 ^ 20 := by
    cases p with
    | none => simp [leastP]
    | some k => exact hp k rfl
  unfold dueN
  split <;> omega
/-- the parts of a printed number: its value, the digits, what stands in front -/
def nmV (b : Nat) (lt : Int32) (x : Int64) : Int64 := narI b (sgdL lt) x
def nmB (b : Nat) (lt : Int32) (x : Int64) : Bool := sgdL lt && decide (nmV b lt x < 0)
def nmD (b : Nat) (lt : Int32) (x : Int64) : List Nat := dg (baseN lt) (uL (if nmB b lt x then -(nmV b lt x) else nmV b lt x))
def nmM (b : Nat) (lt : Int32) (x : Int64) (fm : Bool) : Bool := fm && hexL lt && decide (nmV b lt x ≠ 0)
def nmS (b : Nat) (lt : Int32) (x : Int64) (fp fb : Bool) : Int32 := sgI (sgdL lt) (nmB b lt x) fp fb
def nmF (mk : Bool) (sg : Int32) : Nat := if mk then 2 else if sg = -1 then 0 else 1
def nmP (mk : Bool) (sg lt : Int32) : List Nat := if mk then [48, lowb lt] else if sg = -1 then [] else [lowb sg]
def nmZ (fz fl : Bool) (po : Option Nat) : Bool := fz && !fl && decide (pI po = -1)
def nmK (b : Nat) (lt : Int32) (x : Int64) (po : Option Nat) (fm : Bool) : Nat := dueN po (nmD b lt x).length (fm && decide (lt = nI 111))
/-- a printed number -/
def fmtN (b : Nat) (lt : Int32) (x : Int64) (fl fp fb fm fz : Bool) (w : Nat) (po : Option Nat) : List Nat :=
  let mk := nmM b lt x fm
  let sg := nmS b lt x fp fb
  let k := nmK b lt x po fm
  let g := w - nmF mk sg - k
  let z := nmZ fz fl po
  ((((if !fl && !z then List.replicate g 32 else []) ++ nmP mk sg lt) ++ (if z then List.replicate g 48 else [])) ++ numS (decide (lt = nI 88)) (nmD b lt x) k) ++ (if fl then List.replicate g 32 else [])
theorem lcmp_eq {v : Int64} (h : lg_cmp v 0 = 0) : v = 0 := by
  rw [← lN_uL v] at h ⊢
  rw [(lcmp_0 (uL_lt v)).mp h]; rfl
theorem lcmp_eq0 {v : Int64} (h : v = 0) : lg_cmp v 0 = 0 := by rw [h]; decide
theorem nz_f {v : Int64} (h : v = 0) : decide (v ≠ 0) = false := by rw [h]; decide
theorem nz_t {v : Int64} (h : v ≠ 0) : decide (v ≠ 0) = true := decide_eq_true h
