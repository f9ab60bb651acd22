/-- the digit that a character is in a base, as the class reckons it -/
def digV (x : Int32) : Int32 := if x < nI 48 then (if x < nI 97 then (if x < nI 65 then -1 else if nI 70 < x then -1 else x - nI 65 + nI 10) else if nI 102 < x then (if x < nI 65 then -1 else if nI 70 < x then -1 else x - nI 65 + nI 10) else x - nI 97 + nI 10)
  else if nI 57 < x then (if x < nI 97 then (if x < nI 65 then -1 else if nI 70 < x then -1 else x - nI 65 + nI 10) else if nI 102 < x then (if x < nI 65 then -1 else if nI 70 < x then -1 else x - nI 65 + nI 10) else x - nI 97 + nI 10) else x - nI 48
def digI (x b : Int32) : Int32 := if b ≤ digV x then -1 else digV x
/-- byte k of a word, the highest first -/
def wby (w : Int32) (k : Nat) : Nat := w.toBitVec.toNat / 2 ^ (24 - 8 * k) % 256
def nzb (w : Int32) (k : Nat) : Nat := ((List.range k).filter (fun j => wby w j != 0)).length
def seen (x : Int32) : Bool := if x < nI 32 then false else if nI 126 < x then false else true
/-- whether a blank is due behind byte k of so many -/
def egB (k many g : Nat) : Bool := (k + 1 == many) || ((k + 1) % g == 0)
def egN (many g k : Nat) : Nat := ((List.range k).filter (fun j => egB j many g)).length
def pwN (c g : Nat) : Nat := 2 * c + egN c g c
theorem egN_succ (many g k : Nat) : egN many g (k + 1) = egN many g k + (if egB k many g then 1 else 0) := by
  unfold egN
  rw [List.range_succ, List.filter_append, List.length_append]
  by_cases h : egB k many g <;> simp [h]
theorem nzb_succ (w : Int32) (k : Nat) : nzb w (k + 1) = nzb w k + (if wby w k = 0 then 0 else 1) := by
  unfold nzb
  rw [List.range_succ, List.filter_append, List.length_append]
  by_cases h : wby w k = 0 <;> simp [h]
theorem egN_le (many g k : Nat) : egN many g k ≤ k := by
  unfold egN
  exact Nat.le_trans (List.length_filter_le _ _) (by simp)
theorem nzb_le (w : Int32) (k : Nat) : nzb w k ≤ k := by
  unfold nzb
  exact Nat.le_trans (List.length_filter_le _ _) (by simp)
theorem wby_lt (w : Int32) (k : Nat) : wby w k < 256 := Nat.mod_lt _ (by decide)
def ushI (x : Int32) (k : Nat) : Int32 := (x.toUInt32 >>> ((nI k).toUInt32 &&& Int32.toUInt32 31)).toInt32
theorem sh_u : ∀ k, k < 32 → (((nI k).toUInt32 &&& Int32.toUInt32 31).toBitVec % 32).toNat = k := by decide +kernel
theorem ushI_eq (x : Int32) {k : Nat} (h : k < 32) : (x.toUInt32 >>> ((nI k).toUInt32 &&& Int32.toUInt32 31)).toInt32 = ushI x k := rfl
theorem ushI_and (x : Int32) {j : Nat} (h : j < 4) : ushI x (24 - 8 * j) &&& nI 255 = nI (wby x j) := by
  rw [and255]
  unfold lowb wby ushI
  rw [pk_ushr x (nI (24 - 8 * j)) (24 - 8 * j) (sh_u _ (by omega))]
theorem egB_t1 {k many g : Nat} (h : k + 1 = many) : egB k many g = true := by simp [egB, h]
theorem egB_t2 {k many g : Nat} (h : (k + 1) % g = 0) : egB k many g = true := by simp [egB, h]
theorem egB_f {k many g : Nat} (h : ¬ k + 1 = many) (h2 : ¬ (k + 1) % g = 0) : egB k many g = false := by simp [egB, h, h2]
