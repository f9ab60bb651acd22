def uL (x : Int64) : Nat := x.toBitVec.toNat
theorem uL_lt (x : Int64) : uL x < 2 ^ 64 := x.toBitVec.isLt
theorem lN_uL (x : Int64) : lN (uL x) = x := wb_inj (by rw [wb_tb]; simp [uL])
theorem sub_clamp {a b : Nat} (ha : a < 2 ^ 30) (hb : b < 2 ^ 30) : (nI a - nI b).toNatClampNeg = a - b := by
  show (nI a - nI b).toInt.toNat = a - b
  rw [pk_sub_toInt ha hb]
  omega
/-- a number as a text -/
def numT (x : Int64) : List Nat := (if x < 0 then [45] else []) ++ numS false (dg 10 (uL (if x < 0 then -x else x))) 1
theorem dg10_len (x : Int64) : (dg 10 (uL x)).length ≤ 20 := dg_len (by decide) 20 _ (Nat.lt_of_lt_of_le (uL_lt x) (by decide))
theorem numT_len (x : Int64) : (numT x).length ≤ 21 := by
  unfold numT
  rw [List.length_append, numS_len]
  have h1 := dg10_len (if x < 0 then -x else x)
  have h2 : (if x < 0 then [45] else [] : List Nat).length ≤ 1 := by split <;> simp
  omega
theorem numT_lt (x : Int64) : ∀ y ∈ numT x, y < 256 := by
  intro y hy
  unfold numT at hy
  rcases List.mem_append.mp hy with q | q
  · split at q
    · rw [List.mem_singleton.mp q]; decide
    · cases q
  · exact numS_lt (fun z hz => by have := dg_lt (by decide : 2 ≤ 10) _ z hz; omega) y q
/-- an argument as a text, and as a character -/
def argT (x : Arg) : List Nat := match x with
  | .inl v => numT v
  | .inr T => T
def argC (x : Arg) : List Nat := match x with
  | .inl v => [lowb v.toInt32]
  | .inr T => T.take 1
/-- filled up to a width -/
def padT (left : Bool) (w : Nat) (P : List Nat) : List Nat := if left then P ++ List.replicate (w - P.length) 32 else List.replicate (w - P.length) 32 ++ P
/-- a precision in the machine's word -/
def pI (p : Option Nat) : Int32 := match p with
  | none => -1
  | some k => nI k
def cutP (p : Option Nat) (P : List Nat) : List Nat := match p with
  | none => P
  | some k => P.take k
def isEsc (M : Nat → va_E) : Prop := ∃ ev ee : Int32, M 37 = .inr (3, [.int ev, .int ee])
abbrev dF (fl fp fb fm fz sw sp : Bool) (wd pr bt lt en : Int32) : List Value := [.int (bI fl), .int (bI fp), .int (bI fb), .int (bI fm), .int (bI fz), .int (bI sw), .int (bI sp), .int wd, .int pr, .int bt, .int lt, .int en]
def isDir (M : Nat → va_E) : Prop := ∃ (fl fp fb fm fz sw sp : Bool) (wd pr bt lt en : Int32), M 38 = .inr (2, dF fl fp fb fm fz sw sp wd pr bt lt en)
abbrev prO (ad : Nat → Nat) (ended : Bool) : va_E := .inr (8, [.ref (ad 5), .ref (ad 9), .ref (ad 1), .ref (ad 37), .ref (ad 38), .ref (ad 39), .ref (ad 41), .int (bI ended)])
/-- the piece of a format at a place: its end, or -1 -/
def pcI (T : List Nat) (i : Nat) : Int32 := if T.getD i 0 = 92 then (if escOk T (i + 1) then nI (escE T (i + 1)) else -1) else if T.getD i 0 = 37 then (if T.getD (i + 1) 0 = 37 then nI (i + 2) else if dirOk T (i + 1) then nI (dP4 T (i + 1) + 1) else -1) else nI (i + 1)
theorem take1 {T : List Nat} (h : ¬ T = []) (h5 : ∀ x ∈ T, x < 256) : T.take 1 = [lowb (chAt T 0)] := by
  cases T with
  | nil => exact absurd rfl h
  | cons c t =>
    have hc := h5 c List.mem_cons_self
    have e : chAt (c :: t) 0 = nI c := by simp [chAt]
    rw [e, lowb_nI hc]
    simp
theorem fill_eq {w L : Nat} (hw : w < 2 ^ 30) (hL : L < 2 ^ 30) : List.replicate (nI w - nI L).toNatClampNeg (lowb (nI 32)) = List.replicate (w - L) 32 := by
  rw [sub_clamp hw hL]; rfl
theorem app_take {Q P : List Nat} {k : Nat} (h : k < P.length) (h5 : ∀ x ∈ P, x < 256) : (Q ++ P.take k) ++ [lowb (nI (P.getD k 0))] = Q ++ P.take (k + 1) := by
  rw [List.append_assoc, take_gd h h5]
/-- the lowest bits, with their sign or without -/
def narI (b : Nat) (sg : Bool) (x : Int64) : Int64 := if sg then (x <<< ((nI (64 - b)).toInt64 &&& 63)) >>> ((nI (64 - b)).toInt64 &&& 63) else ((x <<< ((nI (64 - b)).toInt64 &&& 63)).toUInt64 >>> ((nI (64 - b)).toInt64.toUInt64 &&& Int64.toUInt64 63)).toInt64
def sgdL (lt : Int32) : Bool := decide (lt = nI 100 ∨ lt = nI 105)
def hexL (lt : Int32) : Bool := decide (lt = nI 120 ∨ lt = nI 88)
def sgI (sgd below fp fb : Bool) : Int32 := if sgd then (if below then nI 45 else if fp then nI 43 else if fb then nI 32 else -1) else -1
/-- how many digits are due -/
def leastP (p : Option Nat) : Nat := match p with
  | none => 1
  | some k => k
def dueN (p : Option Nat) (L : Nat) (mk : Bool) : Nat := if mk && decide (max (leastP p) L = L) then max (leastP p) L + 1 else max (leastP p) L
