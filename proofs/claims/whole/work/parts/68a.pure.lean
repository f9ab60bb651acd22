theorem w1W_lt {sw : Bool} {w : Nat} {v : Int64} (h : w < 2 ^ 20) : w1W sw w v < 2 ^ 20 := by
  unfold w1W
  have := cutA_le v
  split <;> omega
theorem w1T_le {s : Bool} {cnt tk : Nat} (h : tk ≤ cnt) : w1T s cnt tk ≤ cnt := by
  unfold w1T nextT
  split
  · split <;> omega
  · exact h
theorem nextT_le {cnt tk : Nat} (h : tk ≤ cnt) : nextT cnt tk ≤ cnt := by
  unfold nextT
  split <;> omega
theorem p1P_le {sp : Bool} {po : Option Nat} {v : Int64} (h : ∀ k, po = some k → k ≤ 99) : ∀ k, p1P sp po v = some k → k ≤ 99 := by
  intro k hk
  unfold p1P at hk
  split at hk
  · split at hk
    · cases hk
    · have := cutA_le v
      cases hk; exact this
  · exact h k hk
theorem pI_neg {p : Option Nat} (hp : ∀ k, p = some k → k ≤ 99) (h : pI p < 0) : p = none := by
  cases p with
  | none => rfl
  | some k => exact absurd h (nI_nlt0 (by have := hp k rfl; omega))
theorem cutP_g {p : Option Nat} {P : List Nat} (hp : ∀ k, p = some k → k ≤ 99) (hP : P.length ≤ 200) (h0 : ¬ pI p < 0) (h : nI P.length ≤ pI p) : cutP p P = P := by
  cases p with
  | none => rfl
  | some k =>
    have hk := hp k rfl
    have h2 : P.length ≤ k := (nI_leI (by omega) (by omega)).mp h
    exact List.take_of_length_le h2
theorem cutP_l {p : Option Nat} {P : List Nat} (hp : ∀ k, p = some k → k ≤ 99) (hP : P.length ≤ 200) (h0 : ¬ pI p < 0) (h : ¬ nI P.length ≤ pI p) : pI p = nI (cutP p P).length := by
  cases p with
  | none => exact absurd (by decide) h0
  | some k =>
    have hk := hp k rfl
    have h2 : ¬ P.length ≤ k := fun q => h ((nI_leI (by omega) (by omega)).mpr q)
    show nI k = nI (P.take k).length
    rw [List.length_take, Nat.min_eq_left (by omega)]
theorem isRw.cutP {cy : Nat → ClassId} {M M' : Nat → va_E} {P : List Nat} {p : Option Nat} (h : isRw cy M P) {S : List Nat} (hF : Fr S M M') (hS : 60 ∉ S) (hm : M' 130 = gh (.int (nI (cutP p P).length))) : isRw cy M' (cutP p P) := by
  cases p with
  | none =>
    have e : P = P.take P.length := (List.take_length).symm
    have h2 := h.cut (m := P.length) hF hS (by rw [← e]; exact hm)
    rw [← e] at h2
    exact h2
  | some k => exact h.cut hF hS hm
theorem nxC_txt {xs : Nat → Arg} {cnt tk : Nat} {P : List Nat} (h : tk < cnt) (hx : xs tk = .inr P) : nxA xs cnt tk = P ∧ nxC xs cnt tk = P.take 1 := by
  unfold nxA nxC
  rw [if_pos h, if_pos h, hx]
  exact ⟨rfl, rfl⟩
theorem nxC_num {xs : Nat → Arg} {cnt tk : Nat} {v : Int64} (h : tk < cnt) (hx : xs tk = .inl v) : nxC xs cnt tk = [lowb v.toInt32] ∧ nextV xs cnt tk = v ∧ nextO xs cnt tk = 0 := by
  unfold nxC nextV nextO
  rw [if_pos h, if_pos h, if_pos h, hx]
  exact ⟨rfl, rfl, rfl⟩
theorem nxC_none {xs : Nat → Arg} {cnt tk : Nat} (h : cnt ≤ tk) : nxC xs cnt tk = [] ∧ nextV xs cnt tk = 0 ∧ nextO xs cnt tk = 0 := by
  unfold nxC nextV nextO
  rw [if_neg (by omega), if_neg (by omega), if_neg (by omega)]
  exact ⟨rfl, rfl, rfl⟩
theorem lowb_lt2 (x : Int32) : lowb x < 256 := Nat.mod_lt _ (by decide)
theorem isRw.one {cy : Nat → ClassId} {M : Nat → va_E} {w0 : Nat → Nat} {x : Nat} (hx : x < 256) (h1 : M 130 = gh (.int (nI 1))) (h2 : M 60 = .inl (cy 0, 200, .inl (fun i => nI (va_up w0 0 x i)))) : isRw cy M [x] := by
  refine ⟨(fun y hy => by rw [List.mem_singleton.mp hy]; exact hx), h1, (by simp), _, h2, fun i hi => ?_⟩
  have : i = 0 := by simp at hi; omega
  subst this
  rw [va_up_self]; rfl
theorem isRw.nil {cy : Nat → ClassId} {M : Nat → va_E} {w0 : Nat → Nat} (h1 : M 130 = gh (.int (nI 0))) (h2 : M 60 = .inl (cy 0, 200, .inl (fun i => nI (w0 i)))) : isRw cy M [] :=
  ⟨(fun y hy => by cases hy), h1, (by decide), _, h2, (fun i hi => by cases hi)⟩
theorem isRA.len {cy : Nat → ClassId} {M : Nat → va_E} {xs : Nat → Arg} {cnt : Nat} (h : isRA cy M xs cnt) (k : Nat) : (nxA xs cnt k).length ≤ 80 := by
  unfold nxA
  split
  · rename_i hk
    obtain ⟨-, -, b, f, z, g, -, -, -, -, h7⟩ := h
    have h8 := h7 k hk
    refine argT_len (fun P hP => ?_)
    rw [hP] at h8
    exact h8.2.2.1
  · simp
theorem unsT_len {P : List Nat} (h : P.length ≤ 80) : (unsT P).length ≤ 80 := by
  have := unsF_len P 80 0
  show (unsF P 80 0).1.length ≤ 80
  omega
