theorem nar_bv (c : Bool) : vp_nar .boolean (bI c) = bI c := by cases c <;> rfl
theorem upd_bI (b : Nat → Bool) (k : Nat) (c : Bool) : upd (fun i => bI (b i)) k (bI c) = fun i => bI (va_up b k c i) := by
  funext j
  unfold upd va_up
  split <;> rfl
theorem isRA.addN {cy : Nat → ClassId} {M : Nat → va_E} {xs : Nat → Arg} {cnt : Nat} {b : Nat → Bool} {f : Nat → Int64} {z g : Nat → Nat} {x : Int64} (hc : cnt < 8) (h7 : ∀ i, i < cnt → match xs i with
    | .inl v => b i = false ∧ f i = v
    | .inr P => b i = true ∧ z i = P.length ∧ P.length ≤ 80 ∧ (∀ x ∈ P, x < 256) ∧ (∀ x ∈ P, x ≠ 0) ∧ ∀ k, k < P.length → g (80 * i + k) = P.getD k 0)
    (m103 : M 103 = gh (.int (nI (cnt + 1)))) (m54 : M 54 = .inl (cy 3, 8, .inl (fun i => bI (va_up b cnt false i)))) (m55 : M 55 = .inl (cy 2, 8, .inr (.inl (va_up f cnt x)))) (m56 : M 56 = .inl (cy 1, 8, .inl (fun i => nI (z i)))) (m57 : M 57 = .inl (cy 0, 640, .inl (fun i => nI (g i)))) : isRA cy M (va_up xs cnt (.inl x)) (cnt + 1) := by
  refine ⟨by omega, m103, _, _, z, g, m54, m55, m56, m57, fun i hi => ?_⟩
  by_cases q : i = cnt
  · subst q
    rw [va_up_self]
    exact ⟨va_up_self _ _ _, va_up_self _ _ _⟩
  · rw [va_up_ne _ _ q, va_up_ne _ _ q, va_up_ne _ _ q]
    exact h7 i (by omega)
theorem isRA.addT {cy : Nat → ClassId} {M : Nat → va_E} {xs : Nat → Arg} {cnt : Nat} {b : Nat → Bool} {f : Nat → Int64} {z g g2 : Nat → Nat} {T : List Nat} (hc : cnt < 8) (h7 : ∀ i, i < cnt → match xs i with
    | .inl v => b i = false ∧ f i = v
    | .inr P => b i = true ∧ z i = P.length ∧ P.length ≤ 80 ∧ (∀ x ∈ P, x < 256) ∧ (∀ x ∈ P, x ≠ 0) ∧ ∀ k, k < P.length → g (80 * i + k) = P.getD k 0)
    (hT : T.length ≤ 80) (hT2 : ∀ x ∈ T, x < 256) (hT3 : ∀ x ∈ T, x ≠ 0) (hg : ∀ m, m < 80 * cnt → g2 m = g m) (hg2 : ∀ k, k < T.length → g2 (80 * cnt + k) = T.getD k 0)
    (m103 : M 103 = gh (.int (nI (cnt + 1)))) (m54 : M 54 = .inl (cy 3, 8, .inl (fun i => bI (va_up b cnt true i)))) (m55 : M 55 = .inl (cy 2, 8, .inr (.inl f))) (m56 : M 56 = .inl (cy 1, 8, .inl (fun i => nI (va_up z cnt T.length i)))) (m57 : M 57 = .inl (cy 0, 640, .inl (fun i => nI (g2 i)))) : isRA cy M (va_up xs cnt (.inr T)) (cnt + 1) := by
  refine ⟨by omega, m103, _, f, _, g2, m54, m55, m56, m57, fun i hi => ?_⟩
  by_cases q : i = cnt
  · subst q
    rw [va_up_self]
    exact ⟨va_up_self _ _ _, va_up_self _ _ _, hT, hT2, hT3, hg2⟩
  · rw [va_up_ne _ _ q, va_up_ne _ _ q, va_up_ne _ _ q]
    have h8 := h7 i (by omega)
    cases e : xs i with
    | inl v => rw [e] at h8; exact h8
    | inr P =>
      rw [e] at h8
      obtain ⟨y1, y2, y3, y4, y5, y6⟩ := h8
      exact ⟨y1, y2, y3, y4, y5, fun k hk => by rw [hg _ (by omega)]; exact y6 k hk⟩
theorem lowb_cl {y : Int32} (h : ¬ y < 0) (h2 : cl y ≤ 255) : lowb y = cl y := by
  have e := of_nn h
  have h3 := lowb_nI (k := cl y) (by omega)
  rw [← e] at h3
  exact h3
