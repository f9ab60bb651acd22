theorem uL_lN {v : Nat} (h : v < 2 ^ 64) : uL (lN v) = v := wb_tn h
/-- the dump by words: its object 43 -/
def wdO (ad : Nat → Nat) (ab lt sz : Int32) : va_E := .inr (10, [.ref (ad 5), .ref (ad 7), .ref (ad 1), .ref (ad 44), .int ab, .int lt, .int sz])
/-- a field's base, its least digits, its width -/
def fB (lt : Nat) : Nat := if lt = 111 then 8 else if lt = 120 then 16 else 10
theorem fB_or (lt : Nat) : fB lt = 8 ∨ fB lt = 10 ∨ fB lt = 16 := by unfold fB; split; omega; split <;> omega
def lD (lt sz : Nat) : Nat := if lt = 111 then (8 * sz + 2) / 3 else if lt = 120 then 2 * sz else 1
theorem lD_le (lt : Nat) {sz : Nat} (h : sz ≤ 8) : lD lt sz ≤ 22 := by unfold lD; split; omega; split <;> omega
def dW (sz : Nat) : Nat := if sz = 1 then 3 else if sz = 2 then 5 else if sz = 4 then 10 else 20
def fW (lt sz : Nat) : Nat := if lt = 99 then 3 else if lt = 100 then (if sz = 8 then 20 else dW sz + 1) else if lt = 117 then dW sz else 0
theorem dW_le (sz : Nat) : dW sz ≤ 20 := by unfold dW; split; omega; split; omega; split <;> omega
theorem fW_le (lt sz : Nat) : fW lt sz ≤ 21 := by
  unfold fW
  have := dW_le sz
  split
  · omega
  · split
    · split <;> omega
    · split <;> omega
/-- the letter behind a backslash that names a byte, or -1 -/
def nmW (x : Int32) : Int32 := if x = nI 0 then nI 48 else if x = nI 7 then nI 97 else if x = nI 8 then nI 98 else if x = nI 9 then nI 116 else if x = nI 10 then nI 110 else if x = nI 11 then nI 118 else if x = nI 12 then nI 102 else if x = nI 13 then nI 114 else -1
def fldC (v : Nat) : List Nat := if seen (nI v) then [v] else if nmW (nI v) = -1 then numS false (dg 8 v) 3 else [92, lowb (nmW (nI v))]
/-- a word, its unused bits shifted out, and back with their sign -/
def wShl (sz : Nat) (x : Int64) : Int64 := x <<< ((nI (64 - 8 * sz)).toInt64 &&& 63)
def wSar (sz : Nat) (x : Int64) : Int64 := wShl sz x >>> ((nI (64 - 8 * sz)).toInt64 &&& 63)
def wNeg (lt sz : Nat) (x : Int64) : Bool := decide (lt = 100 ∧ wShl sz x < 0)
def fldN (lt sz : Nat) (x : Int64) : List Nat := if wNeg lt sz x then 45 :: numS false (dg 10 (uL (-(wSar sz x)))) (lD lt sz) else numS false (dg (fB lt) (uL x)) (lD lt sz)
def fldX (lt sz v : Nat) : List Nat := if lt = 99 then fldC v else fldN lt sz (lN v)
def fldS (lt sz v : Nat) : List Nat := List.replicate (fW lt sz - (fldX lt sz v).length) 32 ++ fldX lt sz v
theorem fldC_len {v : Nat} (h : v < 256) : (fldC v).length ≤ 22 := by
  unfold fldC
  split
  · simp
  · split
    · rw [numS_len]
      have := dg_len (b := 8) (by decide) 3 v (by omega)
      omega
    · simp
theorem fldN_len (lt : Nat) {sz : Nat} (h : sz ≤ 8) (x : Int64) : (fldN lt sz x).length ≤ 22 := by
  unfold fldN
  have h1 := lD_le lt h
  have h64 := uL_lt x
  split
  · rename_i hw
    rw [List.length_cons, numS_len]
    have h2 := dg10_len (-(wSar sz x))
    have h3 : lt = 100 := (of_decide_eq_true hw).1
    have h4 : lD lt sz = 1 := by rw [h3]; rfl
    omega
  · rw [numS_len]
    have h2 : (dg (fB lt) (uL x)).length ≤ 22 := by
      rcases fB_or lt with q | q | q <;> rw [q]
      · exact dg_len (by decide) 22 _ (Nat.lt_of_lt_of_le h64 (by decide))
      · exact dg_len (by decide) 22 _ (Nat.lt_of_lt_of_le h64 (by decide))
      · exact dg_len (by decide) 22 _ (Nat.lt_of_lt_of_le h64 (by decide))
    omega
theorem fldX_len {lt sz v : Nat} (h : sz ≤ 8) (hv : lt = 99 → v < 256) : (fldX lt sz v).length ≤ 22 := by
  unfold fldX
  split
  · rename_i q; exact fldC_len (hv q)
  · exact fldN_len lt h _
/-- an address -/
def adrS (ab a : Nat) : List Nat := numS false (dg ab a) (if ab = 16 then 6 else 7)
/-- the word of m bytes at a place, the lowest first -/
def wdv (B : List Nat) : Nat → Nat → Nat
  | _, 0 => 0
  | s, m + 1 => B.getD s 0 + 256 * wdv B (s + 1) m
theorem gd_lt0 {B : List Nat} (h : ∀ x ∈ B, x < 256) (i : Nat) : B.getD i 0 < 256 := by
  rw [List.getD_eq_getElem?_getD]
  by_cases q : i < B.length
  · rw [List.getElem?_eq_getElem q]; exact h _ (List.getElem_mem q)
  · rw [List.getElem?_eq_none (by omega)]; decide
theorem wdv_lt {B : List Nat} (h : ∀ x ∈ B, x < 256) : ∀ (m s : Nat), wdv B s m < 256 ^ m := by
  intro m
  induction m with
  | zero => intro s; simp [wdv]
  | succ m ih =>
    intro s
    have h1 := ih (s + 1)
    have h2 := gd_lt0 h s
    rw [wdv, Nat.pow_succ]
    omega
theorem wdv_lt8 {B : List Nat} (h : ∀ x ∈ B, x < 256) {m : Nat} (hm : m ≤ 8) (s : Nat) : wdv B s m < 2 ^ 64 := Nat.lt_of_lt_of_le (wdv_lt h m s) (Nat.le_trans (Nat.pow_le_pow_right (by decide) hm) (by decide))
theorem or_sum (a : Nat) {b : Nat} (h : b < 256) : a * 256 ||| b = a * 256 + b := by
  have := Nat.two_pow_add_eq_or_of_lt (i := 8) h a
  rw [Nat.mul_comm]
  exact this.symm
/-- whether the sixteen bytes here are those before -/
def likeB (B : List Nat) (s : Nat) : Bool := decide (16 ≤ s) && (decide (s + 16 ≤ B.length) && (List.range 16).all (fun k => B.getD (s + k) 0 == B.getD (s - 16 + k) 0))
theorem likeB_t {B : List Nat} {s : Nat} : likeB B s = true ↔ 16 ≤ s ∧ s + 16 ≤ B.length ∧ ∀ k, k < 16 → B.getD (s + k) 0 = B.getD (s - 16 + k) 0 := by
  unfold likeB
  rw [Bool.and_eq_true, Bool.and_eq_true, decide_eq_true_eq, decide_eq_true_eq, List.all_eq_true]
  simp only [List.mem_range, beq_iff_eq]
theorem likeB_f {B : List Nat} {s : Nat} (h : ¬ (16 ≤ s ∧ s + 16 ≤ B.length ∧ ∀ k, k < 16 → B.getD (s + k) 0 = B.getD (s - 16 + k) 0)) : likeB B s = false := by
  cases q : likeB B s
  · rfl
  · exact absurd (likeB_t.mp q) h
/-- the fields of a line, up to e, in so many steps -/
def flds (B : List Nat) (lt sz e : Nat) : Nat → Nat → List Nat
  | 0, _ => []
  | f + 1, i => if i < e then 32 :: (fldS lt sz (wdv B i sz) ++ flds B lt sz e f (i + sz)) else []
def wLine (B : List Nat) (ab lt sz s : Nat) : List Nat := (if ab = 0 then [] else adrS ab s) ++ flds B lt sz (min (s + 16) B.length) 16 s ++ [10]
/-- the lines of a dump, in so many steps -/
def wLines (B : List Nat) (ab lt sz : Nat) (all : Bool) : Nat → Nat → Bool → List Nat
  | 0, _, _ => []
  | f + 1, s, lo => if B.length ≤ s then [] else if all || !likeB B s then wLine B ab lt sz s ++ wLines B ab lt sz all f (s + 16) false else (if lo then [] else [42, 10]) ++ wLines B ab lt sz all f (s + 16) true
def wDump (B : List Nat) (ab lt sz : Nat) (all : Bool) : List Nat := wLines B ab lt sz all 17 0 false ++ (if ab = 0 then [] else adrS ab B.length ++ [10])
theorem nar_c {k : Nat} (h : k < 65536) : narrow .char (.int (nI k)) = .int (nI k) := by
  have e : (nI k).toUInt32.toNat = k := by
    show (nI k).toBitVec.toNat = k
    exact pk_tn (by omega)
  show Value.int _ = _
  congr 1
  apply Int32.toBitVec_inj.mp
  apply BitVec.eq_of_toNat_eq
  show ((nI k).toUInt32 % 65536).toNat = (nI k).toBitVec.toNat
  rw [UInt32.toNat_mod, e, pk_tn (by omega)]
  exact Nat.mod_eq_of_lt h
theorem fit_c {k : Nat} (h : k < 65536) : fits .char (.int (nI k)) = true := by
  show (decide (0 ≤ nI k) && decide (nI k ≤ nI 65535)) = true
  rw [decide_eq_true (nI_pos' (by omega)), decide_eq_true (nI_le (by omega) (by omega))]
  rfl
