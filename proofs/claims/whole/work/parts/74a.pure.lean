theorem rem_tab : ∀ k, k < 33 → ∀ g, g < 33 → g ≠ 0 → nI k - nI k / nI g * nI g = nI (k % g) := by decide +kernel
theorem grp_tab : ∀ k, k < 33 → ∀ g, g < 33 → g ≠ 0 → ((k % g = g - 1) ↔ (k + 1) % g = 0) := by decide +kernel
/-- the group that is meant -/
def gN (c g : Nat) : Nat := if g = 0 then c else g
theorem egB_gN {k c g : Nat} (hk : k < c) (hc : c ≤ 32) (hg : g ≤ 32) : egB k c (gN c g) = decide (k + 1 = c ∨ (0 < g ∧ k % g = g - 1)) := by
  unfold egB gN
  by_cases h : g = 0
  · rw [if_pos h]
    by_cases h2 : k + 1 = c
    · rw [decide_eq_true (Or.inl h2), h2]; simp
    · rw [decide_eq_false (fun q => q.elim h2 (fun q => by omega)), Nat.mod_eq_of_lt (show k + 1 < c by omega)]
      simp
      exact h2
  · rw [if_neg h]
    have h3 := grp_tab k (by omega) g (by omega) h
    by_cases h2 : k + 1 = c
    · rw [decide_eq_true (Or.inl h2), h2]; simp
    · by_cases h4 : (k + 1) % g = 0
      · rw [decide_eq_true (Or.inr ⟨by omega, h3.mpr h4⟩), h4]; simp
      · rw [decide_eq_false (fun q => q.elim h2 (fun q => h4 (h3.mp q.2)))]
        simp [h2, h4]
theorem shr4 : ∀ v, v < 256 → nI v >>> (nI 4 &&& 31) = nI (v / 16) := by decide +kernel
theorem and15 : ∀ v, v < 256 → nI v &&& nI 15 = nI (v % 16) := by decide +kernel
theorem num2 : ∀ lg : Bool, ∀ v, v < 256 → numS lg (dg 16 v) 2 = [dch lg (v / 16), dch lg (v % 16)] := by
  intro lg v hv
  by_cases h0 : v = 0
  · subst h0; rw [dg_0]; cases lg <;> rfl
  · by_cases h1 : v / 16 = 0
    · have hm : v % 16 = v := Nat.mod_eq_of_lt (by omega)
      rw [dg_s (by decide) h0, h1, dg_0, hm]
      rfl
    · have h2 : v / 16 / 16 = 0 := by omega
      have h3 : v / 16 % 16 = v / 16 := Nat.mod_eq_of_lt (by omega)
      rw [dg_s (by decide) h0, dg_s (by decide) h1, h2, dg_0, h3]
      rfl
/-- the pairs of a line as the reference puts them -/
def rPairs (B : List Nat) (lg : Bool) (c g s k : Nat) : List Nat := (List.range k).flatMap (fun j => (if s + j < B.length then numS lg (dg 16 (B.getD (s + j) 0)) 2 else [32, 32]) ++ (if egB j c g then [32] else []))
theorem rPairs_succ (B : List Nat) (lg : Bool) (c g s k : Nat) : rPairs B lg c g s (k + 1) = rPairs B lg c g s k ++ ((if s + k < B.length then numS lg (dg 16 (B.getD (s + k) 0)) 2 else [32, 32]) ++ (if egB k c g then [32] else [])) := by
  unfold rPairs
  rw [List.range_succ, List.flatMap_append]
  simp
theorem egN_mono (c g k m : Nat) : egN c g k ≤ egN c g (k + m) := by
  induction m with
  | zero => exact Nat.le_refl _
  | succ m ih => rw [← Nat.add_assoc, egN_succ]; omega
theorem egB_eq {j many c g : Nat} (h : j + 1 < many) (h2 : many ≤ c) : egB j many g = egB j c g := by
  unfold egB
  rw [beq_eq_false_iff_ne.mpr (show j + 1 ≠ many by omega), beq_eq_false_iff_ne.mpr (show j + 1 ≠ c by omega)]
theorem egN_eq {many c g : Nat} (h2 : many ≤ c) : ∀ m, m < many → egN many g m = egN c g m := by
  intro m
  induction m with
  | zero => intro _; rfl
  | succ m ih => intro hm; rw [egN_succ, egN_succ, ih (by omega), egB_eq hm h2]
theorem rPairs_pre {B : List Nat} {lg : Bool} {many c g s : Nat} (h2 : many ≤ c) (h3 : s + many ≤ B.length) : ∀ m, m < many → rPairs B lg c g s m = pPairs B lg many g s m := by
  intro m
  induction m with
  | zero => intro _; rfl
  | succ m ih =>
    intro hm
    rw [rPairs_succ, pPairs_succ, ih (by omega), if_pos (show s + m < B.length by omega), egB_eq hm h2]
theorem rPairs_post {B : List Nat} {lg : Bool} {many c g s : Nat} (h3 : B.length ≤ s + many) : ∀ m, rPairs B lg c g s (many + m) = rPairs B lg c g s many ++ List.replicate (2 * m + (egN c g (many + m) - egN c g many)) 32 := by
  intro m
  induction m with
  | zero => simp
  | succ m ih =>
    have hmo := egN_mono c g many m
    rw [← Nat.add_assoc, rPairs_succ, ih, if_neg (show ¬ s + (many + m) < B.length by omega), List.append_assoc, egN_succ]
    congr 1
    cases egB (many + m) c g
    · rw [if_neg (by decide), if_neg (by decide), List.append_nil, show ([32, 32] : List Nat) = List.replicate 2 32 from rfl, List.replicate_append_replicate]
      congr 1
      omega
    · rw [if_pos rfl, if_pos rfl, show ([32, 32] ++ [32] : List Nat) = List.replicate 3 32 from rfl, List.replicate_append_replicate]
      congr 1
      omega
theorem rPairs_eq {B : List Nat} {lg : Bool} {c g s : Nat} (hc : 1 ≤ c) (hs : s < B.length) : rPairs B lg c g s c ++ [32] = pPairs B lg (min c (B.length - s)) g s (min c (B.length - s)) ++ List.replicate (pwN c g + 1 - pwN (min c (B.length - s)) g) 32 := by
  obtain ⟨many, hm⟩ : ∃ z, z = min c (B.length - s) := ⟨_, rfl⟩
  rw [← hm]
  obtain ⟨m, hm1⟩ : ∃ z, many = z + 1 := ⟨many - 1, by omega⟩
  have hpre := rPairs_pre (B := B) (lg := lg) (many := many) (c := c) (g := g) (s := s) (by omega) (by omega) m (by omega)
  by_cases hcm : many = c
  · have e1 : pwN c g + 1 - pwN many g = 1 := by rw [hcm]; omega
    rw [e1, ← hcm]
    congr 1
    rw [hm1, rPairs_succ, pPairs_succ, ← hm1, if_pos (show s + m < B.length by omega)]
    have : rPairs B lg many g s m = pPairs B lg many g s m := by
      have := hpre
      rw [hcm] at this ⊢
      exact this
    rw [this]
  · have hlen : B.length ≤ s + many := by omega
    have e0 : c = many + (c - many) := by omega
    have hpo := rPairs_post (B := B) (lg := lg) (many := many) (c := c) (g := g) (s := s) hlen (c - many)
    rw [← e0] at hpo
    rw [hpo, List.append_assoc]
    have hx := egN_eq (g := g) (show many ≤ c by omega) m (by omega)
    have hmo := egN_mono c g many (c - many)
    rw [← e0] at hmo
    have eA : rPairs B lg c g s many = pPairs B lg many g s m ++ (numS lg (dg 16 (B.getD (s + m) 0)) 2 ++ (if egB m c g then [32] else [])) := by
      rw [hm1, rPairs_succ, ← hm1, if_pos (show s + m < B.length by omega), hpre]
    have eB : pPairs B lg many g s many = pPairs B lg many g s m ++ (numS lg (dg 16 (B.getD (s + m) 0)) 2 ++ [32]) := by
      rw [show pPairs B lg many g s many = pPairs B lg many g s (m + 1) by rw [← hm1], pPairs_succ, show egB m many g = true from egB_t1 hm1.symm]
      rfl
    rw [eA, eB, List.append_assoc, List.append_assoc, List.append_assoc, List.append_assoc]
    congr 2
    have pw1 : pwN many g = 2 * many + (egN c g m + 1) := by
      unfold pwN
      rw [show egN many g many = egN many g (m + 1) by rw [← hm1], egN_succ, hx, if_pos (egB_t1 hm1.symm)]
    have pw2 : pwN c g = 2 * c + egN c g c := rfl
    have hs1 : egN c g many = egN c g m + (if egB m c g then 1 else 0) := by rw [hm1, egN_succ]
    rw [pw1, pw2]
    cases hb : egB m c g
    · rw [hb, if_neg (by decide)] at hs1
      rw [if_neg (by decide), List.nil_append, show ([32] : List Nat) = List.replicate 1 32 from rfl, List.replicate_append_replicate, List.replicate_append_replicate]
      congr 1
      omega
    · rw [hb, if_pos rfl] at hs1
      rw [if_pos rfl, show ([32] : List Nat) = List.replicate 1 32 from rfl, List.replicate_append_replicate, List.replicate_append_replicate, List.replicate_append_replicate]
      congr 1
      omega
theorem pLines_e {B : List Nat} {c g : Nat} {lg : Bool} {f s : Nat} (h : B.length ≤ s) : pLines B c g lg f s = [] := by
  cases f with
  | zero => rfl
  | succ f => rw [pLines, if_pos h]
theorem gN_eq {x g : Int32} (h : shOk x g = true) : gN (cl x) (cl g) = grN x g := by
  unfold gN grN
  have h3 := (of_decide_eq_true h).2.2.1
  have eg := of_nn (Int32.not_lt.mpr h3)
  by_cases q : g = 0
  · rw [if_pos q, if_pos (by rw [q]; rfl)]
  · rw [if_neg q, if_neg (fun z => q (by rw [eg, z]; rfl))]
theorem shOk_M {x g : Int32} (h : shOk x g = true) : x = nI (cl x) ∧ g = nI (cl g) ∧ 1 ≤ cl x ∧ cl x ≤ 32 ∧ cl g ≤ 32 := by
  obtain ⟨h1, h2, h3, h4⟩ := of_decide_eq_true h
  have ex := of_nn (Int32.not_lt.mpr (Int32.le_trans (by decide) h1))
  have eg := of_nn (Int32.not_lt.mpr h3)
  have hN := shOk_N h
  refine ⟨ex, eg, hN.2.2.1, hN.2.2.2.1, ?_⟩
  have h5 := h4
  rw [ex] at h5
  rw [eg] at h5
  have h6 : cl g ≤ cl x := (nI_leI (clamp_lt g) (clamp_lt x)).mp h5
  have := hN.2.2.2.1
  omega
theorem seN_tab : ∀ v, v < 256 → (32 ≤ v ∧ v ≤ 126 → seN v = v) ∧ (¬ (32 ≤ v ∧ v ≤ 126) → seN v = 46) := by decide +kernel
