theorem sar_i {x : Int64} {k : Nat} (hk : k < 64) : (x >>> ((nI k).toInt64 &&& 63)).toInt = x.toInt / 2 ^ k := by
  rw [wb_c k hk]
  show (x >>> lN k).toBitVec.toInt = x.toBitVec.toInt / 2 ^ k
  rw [Int64.toBitVec_shiftRight, wb_tb, wb_sm k hk, BitVec.sshiftRight_eq', BitVec.toNat_ofNat, Nat.mod_eq_of_lt (by omega), BitVec.toInt_sshiftRight, Int.shiftRight_eq_div_pow]
  rfl
theorem sar_neg {x : Int64} {k : Nat} (hk : k < 64) : (x >>> ((nI k).toInt64 &&& 63)) < 0 ↔ x < 0 := by
  rw [Int64.lt_iff_toInt_lt, Int64.lt_iff_toInt_lt, sar_i hk]
  have hp : (0 : Int) < 2 ^ k := Int.pow_pos (by decide)
  have h0 : (0 : Int64).toInt = 0 := by decide
  rw [h0]
  constructor
  · intro h
    rcases Int.lt_or_le x.toInt 0 with q | q
    · exact q
    · exact absurd (Int.ediv_nonneg q (Int.le_of_lt hp)) (by omega)
  · intro h
    exact Int.ediv_neg_of_neg_of_pos h hp
theorem wSar_8 (x : Int64) : wSar 8 x = x := narI_64 true x
theorem wSar_neg {sz : Nat} (h : sz = 1 ∨ sz = 2 ∨ sz = 4 ∨ sz = 8) (x : Int64) : wSar sz x < 0 ↔ wShl sz x < 0 := by
  unfold wSar
  exact sar_neg (by omega)
theorem wSar_pos {sz v : Nat} (h : sz = 1 ∨ sz = 2 ∨ sz = 4 ∨ sz = 8) (hv : v < 2 ^ (8 * sz)) (hn : ¬ wShl sz (lN v) < 0) : wSar sz (lN v) = lN v := by
  have hk : 64 - 8 * sz < 64 := by omega
  have e1 : wShl sz (lN v) = lN (v * 2 ^ (64 - 8 * sz)) := wb_shl v hk
  have hlt : v * 2 ^ (64 - 8 * sz) < 2 ^ 64 := by
    have e : 2 ^ 64 = 2 ^ (8 * sz) * 2 ^ (64 - 8 * sz) := wb_pw (by omega)
    rw [e]
    exact Nat.mul_lt_mul_of_pos_right hv (Nat.two_pow_pos _)
  have hnn : (v * 2 ^ (64 - 8 * sz)) < 2 ^ 63 := by
    rcases Nat.lt_or_ge (v * 2 ^ (64 - 8 * sz)) (2 ^ 63) with q | q
    · exact q
    · refine absurd ?_ hn
      rw [e1, Int64.lt_iff_toInt_lt]
      show (lN (v * 2 ^ (64 - 8 * sz))).toBitVec.toInt < _
      rw [BitVec.toInt_eq_toNat_cond, wb_tn hlt, if_neg (by omega)]
      have h0 : (0 : Int64).toInt = 0 := by decide
      rw [h0]
      omega
  have ti : ∀ m : Nat, m < 2 ^ 63 → (lN m).toInt = m := by
    intro m hm
    show (lN m).toBitVec.toInt = m
    rw [BitVec.toInt_eq_toNat_cond, wb_tn (by omega), if_pos (by omega)]
  have hv63 : v < 2 ^ 63 := Nat.lt_of_le_of_lt (Nat.le_mul_of_pos_right v (Nat.two_pow_pos _)) hnn
  apply Int64.toInt_inj.mp
  unfold wSar
  rw [sar_i hk, e1, ti _ hnn, ti v hv63]
  have e3 : ((v * 2 ^ (64 - 8 * sz) : Nat) : Int) / 2 ^ (64 - 8 * sz) = ((v * 2 ^ (64 - 8 * sz) / 2 ^ (64 - 8 * sz) : Nat) : Int) := by
    rw [Int.natCast_ediv]
    congr 1
  rw [e3, Nat.mul_div_cancel _ (Nat.two_pow_pos _)]
def ixN (sz : Nat) : Nat := if sz = 1 then 0 else if sz = 2 then 1 else if sz = 4 then 2 else 3
def chN (i a b c d : Nat) : Nat := if i = 0 then a else if i = 1 then b else if i = 2 then c else d
theorem ch_o {sz : Nat} (h : sz = 1 ∨ sz = 2 ∨ sz = 4 ∨ sz = 8) : chN (ixN sz) 3 6 11 22 = lD 111 sz := by rcases h with rfl | rfl | rfl | rfl <;> decide
theorem ch_x {sz : Nat} (h : sz = 1 ∨ sz = 2 ∨ sz = 4 ∨ sz = 8) : chN (ixN sz) 2 4 8 16 = lD 120 sz := by rcases h with rfl | rfl | rfl | rfl <;> decide
theorem ch_d {sz : Nat} (h : sz = 1 ∨ sz = 2 ∨ sz = 4 ∨ sz = 8) : chN (ixN sz) 4 6 11 20 = fW 100 sz := by rcases h with rfl | rfl | rfl | rfl <;> decide
theorem ch_u {sz : Nat} (h : sz = 1 ∨ sz = 2 ∨ sz = 4 ∨ sz = 8) : chN (ixN sz) 3 5 10 20 = fW 117 sz := by rcases h with rfl | rfl | rfl | rfl <;> decide
def cN (v : Nat) : Nat := if nmW (nI v) = -1 then 0 else lowb (nmW (nI v))
theorem cN_lt (v : Nat) : cN v < 256 := by
  unfold cN
  split
  · decide
  · exact lowb_lt2 _
theorem cN_tab : ∀ v, v < 256 → (seen (nI v) = decide (32 ≤ v ∧ v ≤ 126)) ∧ (cN v = 0 ↔ nmW (nI v) = -1) ∧ (¬ cN v = 0 → cN v = lowb (nmW (nI v))) := by decide +kernel
theorem shown_s {v : Nat} (hv : v < 256) (h : 32 ≤ v ∧ v ≤ 126) : fldS 99 1 v = [32, 32, v] := by
  have h1 : seen (nI v) = true := by rw [(cN_tab v hv).1, decide_eq_true h]
  unfold fldS fldX fldC
  rw [if_pos rfl, if_pos h1]
  rfl
theorem shown_e {v : Nat} (hv : v < 256) (h : ¬ (32 ≤ v ∧ v ≤ 126)) (h2 : ¬ cN v = 0) : fldS 99 1 v = [32, 92, cN v] := by
  have h1 : seen (nI v) = false := by rw [(cN_tab v hv).1, decide_eq_false h]
  have h3 : ¬ nmW (nI v) = -1 := fun q => h2 ((cN_tab v hv).2.1.mpr q)
  unfold fldS fldX fldC
  rw [if_pos rfl, if_neg (by rw [h1]; decide), if_neg h3, ← (cN_tab v hv).2.2 h2]
  rfl
theorem shown_n {v : Nat} (hv : v < 256) (h : ¬ (32 ≤ v ∧ v ≤ 126)) (h2 : cN v = 0) : fldS 99 1 v = numS false (dg 8 v) 3 := by
  have h1 : seen (nI v) = false := by rw [(cN_tab v hv).1, decide_eq_false h]
  have h3 : nmW (nI v) = -1 := (cN_tab v hv).2.1.mp h2
  have h4 := dg_len (b := 8) (by decide) 3 v (by omega)
  unfold fldS fldX fldC
  rw [if_pos rfl, if_neg (by rw [h1]; decide), if_pos h3, numS_len, show fW 99 1 - max 3 (dg 8 v).length = 0 by show 3 - _ = 0; omega]
  rfl
theorem fld_ox {lt sz v : Nat} (h : lt = 111 ∨ lt = 120) (hv : v < 2 ^ 64) : fldS lt sz v = (fillD (dg (fB lt) v) false (lD lt sz)).reverse := by
  have h99 : ¬ lt = 99 := by omega
  have hw : wNeg lt sz (lN v) = false := decide_eq_false (fun q => by have := q.1; omega)
  have hf : fW lt sz = 0 := by rcases h with rfl | rfl <;> rfl
  unfold fldS fldX
  rw [if_neg h99, hf, Nat.zero_sub, List.replicate_zero, List.nil_append]
  unfold fldN
  rw [if_neg (by rw [hw]; decide), numS_rev, uL_lN hv]
/-- the number that a field of u or d shows, and whether it is below 0 -/
def fdV (lt sz v : Nat) : Int64 := if lt = 100 then wSar sz (lN v) else lN v
def fdNg (lt sz v : Nat) : Bool := decide (lt = 100 ∧ fdV lt sz v < 0)
theorem fld_ud {lt sz v : Nat} (h : lt = 100 ∨ lt = 117) (hs : sz = 1 ∨ sz = 2 ∨ sz = 4 ∨ sz = 8) (hv : v < 2 ^ (8 * sz)) : fldS lt sz v = (List.replicate (fW lt sz - max 1 (dg 10 (uL (if fdNg lt sz v then -(fdV lt sz v) else fdV lt sz v))).length - (if fdNg lt sz v then 1 else 0)) 32 ++ (if fdNg lt sz v then [45] else [])) ++ (fillD (dg 10 (uL (if fdNg lt sz v then -(fdV lt sz v) else fdV lt sz v))) false 1).reverse := by
  have h99 : ¬ lt = 99 := by omega
  have hl : lD lt sz = 1 := by rcases h with rfl | rfl <;> rfl
  have hb : fB lt = 10 := by rcases h with rfl | rfl <;> rfl
  have e1 : wNeg lt sz (lN v) = fdNg lt sz v := by
    unfold wNeg fdNg fdV
    apply decide_eq_decide.mpr
    constructor
    · intro ⟨q1, q2⟩
      rw [if_pos q1]
      exact ⟨q1, (wSar_neg hs _).mpr q2⟩
    · intro ⟨q1, q2⟩
      rw [if_pos q1] at q2
      exact ⟨q1, (wSar_neg hs _).mp q2⟩
  unfold fldS fldX
  rw [if_neg h99]
  unfold fldN
  rw [e1, hl, hb]
  by_cases q : fdNg lt sz v = true
  · have q1 : lt = 100 := (of_decide_eq_true q).1
    have q2 : fdV lt sz v = wSar sz (lN v) := by unfold fdV; rw [if_pos q1]
    rw [if_pos q, if_pos q, if_pos q, if_pos q, ← numS_rev, q2, List.length_cons, numS_len, List.append_assoc]
    congr 2
  · have q2 : fdV lt sz v = lN v := by
      unfold fdV
      split
      · rename_i z
        exact wSar_pos hs hv (fun y => q (by rw [← e1]; exact decide_eq_true ⟨z, y⟩))
      · rfl
    rw [if_neg q, if_neg q, if_neg q, if_neg q, ← numS_rev, q2, numS_len, List.append_nil, Nat.sub_zero]
theorem wdv_s8 {B : List Nat} (h : ∀ x ∈ B, x < 256) {sz : Nat} (s : Nat) : wdv B s sz < 2 ^ (8 * sz) := by
  have := wdv_lt h sz s
  rw [Nat.pow_mul]; exact this
theorem shl_or {V b : Nat} (hV : V < 256 ^ 7) (hb : b < 256) : (lN V <<< ((nI 8).toInt64 &&& 63)) ||| lN b = lN (b + 256 * V) := by
  have h7 : V * 2 ^ 8 < 2 ^ 64 := by
    have : (256 : Nat) ^ 7 * 2 ^ 8 = 2 ^ 64 := by decide
    rw [← this]
    exact Nat.mul_lt_mul_of_pos_right hV (by decide)
  rw [wb_shl V (by decide), wb_or h7 (by omega), show (2 : Nat) ^ 8 = 256 from rfl, or_sum V hb]
  congr 1
  omega
theorem wdOk_sz {lt : Nat} {y : Int32} (h : wdOk (nI lt) y = true) : cl y = 1 ∨ cl y = 2 ∨ cl y = 4 ∨ cl y = 8 := by
  unfold wdOk at h
  split at h
  · have := of_decide_eq_true h
    subst this
    decide
  · obtain ⟨-, h2⟩ := of_decide_eq_true h
    rcases h2 with r | r | r | r <;> subst r <;> decide
theorem wdOk_lt {lt : Nat} {y : Int32} (hl : lt < 65536) (h : wdOk (nI lt) y = true) : lt = 111 ∨ lt = 120 ∨ lt = 117 ∨ lt = 100 ∨ lt = 99 := by
  unfold wdOk at h
  split at h
  · rename_i q
    exact Or.inr (Or.inr (Or.inr (Or.inr ((nI_eq (by omega) (by decide)).mp q))))
  · obtain ⟨h2, -⟩ := of_decide_eq_true h
    rcases h2 with r | r | r | r <;> have r2 := (nI_eq (by omega) (by decide)).mp r <;> omega
