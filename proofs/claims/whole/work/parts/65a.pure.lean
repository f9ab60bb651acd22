theorem sh0 : ((nI (64 - 64)).toInt64 &&& 63) = (0 : Int64) := by decide
theorem narI_64 (sg : Bool) (x : Int64) : narI 64 sg x = x := by
  obtain ⟨n, hn, rfl⟩ := wb_of x
  cases sg
  · unfold narI
    rw [if_neg (by decide), show (64 - 64 : Nat) = 0 from rfl, wb_shl n (by decide), Nat.pow_zero, Nat.mul_one, wb_shr hn (by decide), Nat.pow_zero, Nat.div_one]
  · unfold narI
    rw [if_pos rfl, show (64 - 64 : Nat) = 0 from rfl, wb_shl n (by decide), Nat.pow_zero, Nat.mul_one, wb_c 0 (by decide)]
    apply wb_inj
    rw [Int64.toBitVec_shiftRight, wb_tb 0, show (BitVec.ofNat 64 0).smod 64 = 0#64 by decide]
    exact BitVec.sshiftRight_zero
theorem narI_u {b : Nat} (hb : b = 8 ∨ b = 16 ∨ b = 32) (x : Int64) : narI b false x = x &&& ((1 <<< ((nI b).toInt64 &&& 63)) - 1) := by
  obtain ⟨n, hn, rfl⟩ := wb_of x
  have hb64 : b < 64 := by omega
  have hp : 1 ≤ 2 ^ b := Nat.one_le_two_pow
  unfold narI
  rw [if_neg (by decide), wb_shl n (by omega), show (1 : Int64) = lN 1 from rfl, wb_shl 1 hb64, Nat.one_mul, lN_sub hp, wb_mask hn hb64, wb_mod (n * _), wb_shr (Nat.mod_lt _ (by decide)) (by omega)]
  congr 1
  have e : 2 ^ 64 = 2 ^ b * 2 ^ (64 - b) := wb_pw (by omega)
  rw [e, Nat.mul_mod_mul_right, Nat.mul_div_cancel _ (Nat.two_pow_pos _)]
theorem hexL_base (lt : Int32) : hexL lt = decide (baseN lt = 16) := by
  unfold hexL baseN
  by_cases h1 : lt = nI 111
  · rw [if_pos h1, h1]; decide
  · rw [if_neg h1]
    by_cases h2 : lt = nI 120 ∨ lt = nI 88
    · rw [if_pos h2, decide_eq_true h2]; rfl
    · rw [if_neg h2, decide_eq_false h2]; rfl
theorem pI_ge {p : Option Nat} (hp : ∀ k, p = some k → k < 2 ^ 20) (h : 0 ≤ pI p) : pI p = nI (leastP p) ∧ ¬ p = none ∧ ¬ pI p = -1 := by
  cases p with
  | none => exact absurd h (by decide)
  | some k =>
    refine ⟨rfl, by simp, fun q => ?_⟩
    rw [q] at h; exact absurd h (by decide)
theorem pI_lt {p : Option Nat} (hp : ∀ k, p = some k → k < 2 ^ 20) (h : ¬ 0 ≤ pI p) : p = none := by
  cases p with
  | none => rfl
  | some k => exact absurd (by show (0 : Int32) ≤ nI k; exact Int32.not_lt.mp (nI_nlt0 (by have := hp k rfl; omega))) h
theorem dg_top {b : Nat} (hb : 2 ≤ b) : ∀ n : Nat, dg b n ≠ [] → (dg b n).getD ((dg b n).length - 1) 0 ≠ 0 := by
  intro n
  induction n using Nat.strongRecOn with
  | ind n ih =>
    intro h
    by_cases hn : n = 0
    · rw [hn, dg_0] at h; exact absurd rfl h
    · by_cases hq : n / b = 0
      · have e : dg b n = [n % b] := by rw [dg_s hb hn, hq, dg_0]
        rw [e]
        show n % b ≠ 0
        have hl : n < b := by
          rcases Nat.lt_or_ge n b with q | q
          · exact q
          · have := Nat.div_pos q (by omega); omega
        rw [Nat.mod_eq_of_lt hl]; exact hn
      · have e : dg b n = n % b :: dg b (n / b) := dg_s hb hn
        have h2 : dg b (n / b) ≠ [] := by rw [dg_s hb hq]; simp
        have h3 := ih (n / b) (Nat.div_lt_self (by omega) (by omega)) h2
        rw [e]
        have hl : 0 < (dg b (n / b)).length := List.length_pos_iff.mpr h2
        rw [List.length_cons, show (dg b (n / b)).length + 1 - 1 = ((dg b (n / b)).length - 1) + 1 by omega, List.getD_cons_succ]
        exact h3
theorem dch_48 {lg : Bool} {d : Nat} (hd : d < 16) : dch lg d = 48 ↔ d = 0 := by
  revert d; cases lg <;> decide
/-- the digits with the zeros that are due -/
abbrev fillD (ds : List Nat) (lg : Bool) (m : Nat) : List Nat := ds.map (dch lg) ++ List.replicate (m - ds.length) 48
theorem fillD_len (ds : List Nat) (lg : Bool) (m : Nat) : (fillD ds lg m).length = max m ds.length := by
  simp [fillD]; omega
theorem fillD_last {b n : Nat} {lg : Bool} (hb : 2 ≤ b) (hb2 : b ≤ 16) {m : Nat} (h0 : (fillD (dg b n) lg m).length ≠ 0) : (fillD (dg b n) lg m).getD ((fillD (dg b n) lg m).length - 1) 0 = 48 ↔ (dg b n).length < m := by
  rw [fillD_len] at h0 ⊢
  constructor
  · intro h
    rcases Nat.lt_or_ge (dg b n).length m with q | q
    · exact q
    · exfalso
      have hm : max m (dg b n).length = (dg b n).length := by omega
      rw [hm] at h h0
      have e : (fillD (dg b n) lg m) = (dg b n).map (dch lg) := by
        unfold fillD
        rw [show m - (dg b n).length = 0 by omega, List.replicate_zero, List.append_nil]
      rw [e] at h
      have hl : (dg b n).length - 1 < (dg b n).length := by omega
      have h2 : ((dg b n).map (dch lg)).getD ((dg b n).length - 1) 0 = dch lg ((dg b n).getD ((dg b n).length - 1) 0) := by
        rw [List.getD_eq_getElem?_getD, List.getD_eq_getElem?_getD, List.getElem?_map, List.getElem?_eq_getElem hl]
        rfl
      rw [h2] at h
      have hd : (dg b n).getD ((dg b n).length - 1) 0 < 16 := by
        have := gd_lt (by omega) (dg_lt hb n) ((dg b n).length - 1)
        omega
      exact dg_top hb n (fun z => h0 (by rw [z]; rfl)) ((dch_48 hd).mp h)
  · intro h
    rw [show max m (dg b n).length = m by omega]
    unfold fillD
    rw [List.getD_eq_getElem?_getD, List.getElem?_append_right (by simp; omega), List.getElem?_replicate, if_pos (by simp; omega)]
    rfl
theorem due_no {p : Option Nat} {L : Nat} {mk : Bool} (h : mk = false ∨ L < leastP p) : dueN p L mk = max (leastP p) L := by
  unfold dueN
  rcases h with h | h
  · rw [h]; rfl
  · rw [decide_eq_false (show ¬ max (leastP p) L = L by omega), Bool.and_false]; rfl
theorem due_yes {p : Option Nat} {L : Nat} {mk : Bool} (h : mk = true) (h2 : ¬ L < leastP p) : dueN p L mk = L + 1 := by
  unfold dueN
  rw [h, decide_eq_true (show max (leastP p) L = L by omega)]
  show max (leastP p) L + 1 = L + 1
  omega
theorem fillD_due {p : Option Nat} {ds : List Nat} {lg mk : Bool} (h : mk = false ∨ ds.length < leastP p) : fillD ds lg (leastP p) = fillD ds lg (dueN p ds.length mk) := by
  unfold fillD
  rw [due_no h]
  congr 2
  omega
theorem fillD_push {p : Option Nat} {ds : List Nat} {lg mk : Bool} (h : mk = true) (h2 : ¬ ds.length < leastP p) : fillD ds lg (leastP p) ++ [48] = fillD ds lg (dueN p ds.length mk) := by
  unfold fillD
  rw [due_yes h h2, show leastP p - ds.length = 0 by omega, show ds.length + 1 - ds.length = 1 by omega, List.replicate_zero, List.append_nil]
  rfl
theorem due_ge (p : Option Nat) (L : Nat) (mk : Bool) : L ≤ dueN p L mk := by
  unfold dueN
  split <;> omega
/-- the sign as the reference holds it -/
def sgN (s : Int32) : Nat := if s = -1 then 0 else lowb s
theorem sgN_lt (s : Int32) : sgN s < 256 := by
  unfold sgN
  split
  · decide
  · exact Nat.mod_lt _ (by decide)
theorem sgI_cases (a b c d : Bool) : sgI a b c d = nI 45 ∨ sgI a b c d = nI 43 ∨ sgI a b c d = nI 32 ∨ sgI a b c d = -1 := by
  cases a <;> cases b <;> cases c <;> cases d <;> decide
theorem sgN_0 {a b c d : Bool} : sgN (sgI a b c d) = 0 ↔ sgI a b c d = -1 := by
  cases a <;> cases b <;> cases c <;> cases d <;> decide
theorem sgI_uns (b c d : Bool) : sgI false b c d = -1 := rfl
theorem nmM_sg {b : Nat} {lt : Int32} {x : Int64} {fm fp fb : Bool} (h : nmM b lt x fm = true) : nmS b lt x fp fb = -1 := by
  have h1 : hexL lt = true := by
    unfold nmM at h
    rw [Bool.and_eq_true, Bool.and_eq_true] at h
    exact h.1.2
  have h2 : sgdL lt = false := by
    have := of_decide_eq_true h1
    rcases this with q | q <;> rw [q] <;> decide
  unfold nmS
  rw [h2]; rfl
theorem size_eq {b : Nat} {lt : Int32} {x : Int64} {fm fp fb : Bool} : (if sgN (nmS b lt x fp fb) = 0 then 0 else 1) + (if nmM b lt x fm then 2 else 0) = nmF (nmM b lt x fm) (nmS b lt x fp fb) := by
  unfold nmF
  cases h : nmM b lt x fm with
  | true =>
    rw [nmM_sg h]
    decide
  | false =>
    by_cases q : nmS b lt x fp fb = -1
    · rw [if_pos q, q]; decide
    · have z : ¬ sgN (nmS b lt x fp fb) = 0 := fun z => q (sgN_0.mp z)
      rw [if_neg q, if_neg z]; rfl
theorem pre_eq {b c : Nat} {x : Int64} {fm fp fb : Bool} (hc : c < 256) : (if sgN (nmS b (nI c) x fp fb) = 0 then [] else [sgN (nmS b (nI c) x fp fb)]) ++ (if nmM b (nI c) x fm then [48, c] else []) = nmP (nmM b (nI c) x fm) (nmS b (nI c) x fp fb) (nI c) := by
  unfold nmP
  cases h : nmM b (nI c) x fm with
  | true =>
    rw [nmM_sg h, if_pos rfl, if_pos rfl, lowb_nI hc, if_pos (show sgN (-1) = 0 by decide)]
    rfl
  | false =>
    by_cases q : nmS b (nI c) x fp fb = -1
    · rw [if_pos q, q]; rfl
    · have z : ¬ sgN (nmS b (nI c) x fp fb) = 0 := fun z => q (sgN_0.mp z)
      rw [if_neg q, if_neg z]
      unfold sgN
      rw [if_neg q]; rfl
theorem fmt_eq {b c : Nat} {x : Int64} {fl fp fb fm fz : Bool} {w : Nat} {po : Option Nat} {O : List Nat} (hc : c < 256) :
    ((((((O ++ List.replicate (if fl || nmZ fz fl po then 0 else w - (nmK b (nI c) x po fm + nmF (nmM b (nI c) x fm) (nmS b (nI c) x fp fb))) 32) ++ (if sgN (nmS b (nI c) x fp fb) = 0 then [] else [sgN (nmS b (nI c) x fp fb)])) ++ (if nmM b (nI c) x fm then [48, c] else [])) ++ List.replicate (if nmZ fz fl po then w - (nmK b (nI c) x po fm + nmF (nmM b (nI c) x fm) (nmS b (nI c) x fp fb)) else 0) 48) ++ (fillD (nmD b (nI c) x) (decide (nI c = nI 88)) (nmK b (nI c) x po fm)).reverse) ++ List.replicate (if fl then w - (nmK b (nI c) x po fm + nmF (nmM b (nI c) x fm) (nmS b (nI c) x fp fb)) else 0) 32) = O ++ fmtN b (nI c) x fl fp fb fm fz w po := by
  have e1 : w - (nmK b (nI c) x po fm + nmF (nmM b (nI c) x fm) (nmS b (nI c) x fp fb)) = w - nmF (nmM b (nI c) x fm) (nmS b (nI c) x fp fb) - nmK b (nI c) x po fm := by omega
  unfold fmtN
  dsimp only
  rw [e1, ← pre_eq hc, numS_rev]
  generalize w - nmF (nmM b (nI c) x fm) (nmS b (nI c) x fp fb) - nmK b (nI c) x po fm = g
  have a1 : List.replicate (if fl || nmZ fz fl po then 0 else g) 32 = (if !fl && !nmZ fz fl po then List.replicate g 32 else []) := by
    cases fl <;> cases nmZ fz _ po <;> rfl
  have a2 : List.replicate (if nmZ fz fl po then g else 0) 48 = (if nmZ fz fl po then List.replicate g 48 else []) := by
    split <;> rfl
  have a3 : List.replicate (if fl then g else 0) 32 = (if fl then List.replicate g 32 else []) := by
    split <;> rfl
  rw [a1, a2, a3]
  simp only [List.append_assoc]
