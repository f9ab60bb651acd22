theorem wLines_e {B : List Nat} {ab lt sz : Nat} {all : Bool} {f s : Nat} {lo : Bool} (h : B.length ≤ s) : wLines B ab lt sz all f s lo = [] := by
  cases f with
  | zero => rfl
  | succ f => rw [wLines, if_pos h]
theorem flds_e {B : List Nat} {lt sz e : Nat} {f i : Nat} (h : ¬ i < e) : flds B lt sz e f i = [] := by
  cases f with
  | zero => rfl
  | succ f => rw [flds, if_neg h]
theorem fl_mul {sz : Nat} (h : 1 ≤ sz) (g : Nat) : g ≤ g * sz := Nat.le_mul_of_pos_right g h
