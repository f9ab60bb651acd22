theorem dP4_le (T : List Nat) (i : Nat) : i ≤ dP4 T i ∧ dP4 T i ≤ i + T.length + 7 := by
  have h1 := dP1_le T i
  have h2 : dP1 T i ≤ dP2 T i ∧ dP2 T i ≤ dP1 T i + 2 := wdE_le T (dP1 T i)
  have h3 : dP2 T i ≤ dP3 T i ∧ dP3 T i ≤ dP2 T i + 3 := prE_le T (dP2 T i)
  have h4 : dP3 T i ≤ dP4 T i ∧ dP4 T i ≤ dP3 T i + 2 := lnE_le T (dP3 T i)
  omega
theorem escOk_out {T : List Nat} {i : Nat} (h : T.length ≤ i) : escOk T i = false := by
  have e := gd_out (L := T) (i := i) h
  have e2 : oct3 T i = [] := oct3_nil (by rw [e]; decide)
  unfold escOk
  rw [e, e2]; decide
theorem nI_nlt0 {k : Nat} (h : k < 2 ^ 31) : ¬ nI k < 0 := by
  rw [Int32.lt_iff_toInt_lt, nI_toInt h]
  have : (0 : Int32).toInt = 0 := by decide
  omega
theorem rEv_lt0 {T : List Nat} {i : Nat} : rEv T i < 0 ↔ escOk T i = false := by
  constructor
  · intro h
    cases q : escOk T i with
    | false => rfl
    | true => rw [(rE_ok q).1] at h; exact absurd h (nI_nlt0 (by have := Nat.mod_lt (escV T i) (show 0 < 256 by decide); omega))
  · intro h
    rw [rE_no h]; decide
theorem dI_lt0 {c b : Nat} (hb : b ≤ 16) : dI c b < 0 ↔ ¬ dvN c < b := by
  unfold dI
  by_cases h : dvN c < b
  · rw [if_pos h]
    exact ⟨fun q => absurd q (nI_nlt0 (by omega)), fun q => absurd h q⟩
  · rw [if_neg h]
    exact ⟨fun _ => h, fun _ => by decide⟩
theorem fltF_s {T : List Nat} {f i e : Nat} (hi : i < T.length) (he : e < 2 ^ 31) (h : pcI T i = nI e) : fltF T (f + 1) i = fltF T f e := by
  rw [fltF, if_neg (by omega), h, if_neg (fun q => neg1_nI he q.symm), nI_clamp he]
theorem fltF_b {T : List Nat} {f i : Nat} (hi : i < T.length) (h : pcI T i = -1) : fltF T (f + 1) i = some i := by
  rw [fltF, if_neg (by omega), if_pos h]
theorem fltF_e {T : List Nat} {f i : Nat} (hi : T.length ≤ i) : fltF T f i = none := by
  cases f with
  | zero => rfl
  | succ f => rw [fltF, if_pos hi]
theorem pcI_e {T : List Nat} {i : Nat} (h : T.getD i 0 = 92) (h2 : escOk T (i + 1) = true) : pcI T i = nI (rEe T (i + 1)) := by
  unfold pcI
  rw [if_pos h, if_pos h2, (rE_ok h2).2]
theorem pcI_eb {T : List Nat} {i : Nat} (h : T.getD i 0 = 92) (h2 : escOk T (i + 1) = false) : pcI T i = -1 := by
  unfold pcI
  rw [if_pos h, if_neg (by rw [h2]; decide)]
theorem pcI_d {T : List Nat} {i : Nat} (h : T.getD i 0 = 37) (h1 : ¬ T.getD (i + 1) 0 = 37) (h2 : dirOk T (i + 1) = true) : pcI T i = nI (dP4 T (i + 1) + 1) := by
  unfold pcI
  rw [if_neg (by omega), if_pos h, if_neg h1, if_pos h2]
theorem pcI_db {T : List Nat} {i : Nat} (h : T.getD i 0 = 37) (h1 : ¬ T.getD (i + 1) 0 = 37) (h2 : dirOk T (i + 1) = false) : pcI T i = -1 := by
  unfold pcI
  rw [if_neg (by omega), if_pos h, if_neg h1, if_neg (by rw [h2]; decide)]
theorem pcI_p {T : List Nat} {i : Nat} (h : T.getD i 0 = 37) (h1 : T.getD (i + 1) 0 = 37) : pcI T i = nI (i + 2) := by
  unfold pcI
  rw [if_neg (by omega), if_pos h, if_pos h1]
theorem pcI_o {T : List Nat} {i : Nat} (h : ¬ T.getD i 0 = 92) (h1 : ¬ T.getD i 0 = 37) : pcI T i = nI (i + 1) := by
  unfold pcI
  rw [if_neg h, if_neg h1]
theorem lg_ge {x y : Int64} : 0 ≤ lg_cmp x y ↔ ¬ x < y := by
  unfold lg_cmp
  by_cases h1 : x > y
  · rw [if_pos h1]
    exact ⟨fun _ q => absurd (Int64.lt_trans h1 q) (Int64.lt_irrefl), fun _ => by decide⟩
  · rw [if_neg h1]
    by_cases h2 : x = y
    · rw [if_pos h2, h2]; exact ⟨fun _ => Int64.lt_irrefl, fun _ => by decide⟩
    · rw [if_neg h2]
      refine ⟨fun q => absurd q (by decide), fun q => ?_⟩
      exact absurd (Int64.le_antisymm (Int64.not_lt.mp h1) (Int64.not_lt.mp q)) h2
theorem lg_le {x y : Int64} : lg_cmp x y ≤ 0 ↔ ¬ y < x := by
  unfold lg_cmp
  by_cases h1 : x > y
  · rw [if_pos h1]
    exact ⟨fun q => absurd q (by decide), fun q => absurd h1 q⟩
  · rw [if_neg h1]
    by_cases h2 : x = y
    · rw [if_pos h2]; exact ⟨fun _ => h1, fun _ => by decide⟩
    · rw [if_neg h2]
      exact ⟨fun _ => h1, fun _ => by decide⟩
theorem cutI_lo {v : Int64} (h : v < -99) : cutI v = -99 := by
  have h9 : v < 99 := Int64.lt_trans h (by decide)
  unfold cutI cutL
  rw [if_pos h9, if_pos h]; decide
theorem cutI_hi {v : Int64} (h : 99 < v) : cutI v = nI 99 := by
  have h9 : ¬ v < 99 := fun q => absurd (Int64.lt_trans h q) (Int64.lt_irrefl)
  unfold cutI cutL
  rw [if_neg h9, if_neg (by decide)]; decide
theorem cutI_in {v : Int64} (h1 : ¬ v < -99) (h : ¬ 99 < v) : cutI v = v.toInt32 := by
  unfold cutI cutL
  by_cases q : v < 99
  · rw [if_pos q, if_neg h1]
  · have e : v = 99 := Int64.le_antisymm (Int64.not_lt.mp h) (Int64.not_lt.mp q)
    rw [e]; decide
theorem isRA.num {cy : Nat → ClassId} {M : Nat → va_E} {xs : Nat → Arg} {cnt : Nat} {b : Nat → Bool} {f : Nat → Int64} {z g : Nat → Nat} {i : Nat} (h : match xs i with
    | .inl v => b i = false ∧ f i = v
    | .inr P => b i = true ∧ z i = P.length ∧ P.length ≤ 80 ∧ (∀ x ∈ P, x < 256) ∧ (∀ x ∈ P, x ≠ 0) ∧ ∀ k, k < P.length → g (80 * i + k) = P.getD k 0) (hb : b i = false) : xs i = .inl (f i) := by
  cases e : xs i with
  | inl v => rw [e] at h; rw [h.2]
  | inr P => rw [e] at h; rw [h.1] at hb; cases hb
theorem isRA.txt {cy : Nat → ClassId} {M : Nat → va_E} {xs : Nat → Arg} {cnt : Nat} {b : Nat → Bool} {f : Nat → Int64} {z g : Nat → Nat} {i : Nat} (h : match xs i with
    | .inl v => b i = false ∧ f i = v
    | .inr P => b i = true ∧ z i = P.length ∧ P.length ≤ 80 ∧ (∀ x ∈ P, x < 256) ∧ (∀ x ∈ P, x ≠ 0) ∧ ∀ k, k < P.length → g (80 * i + k) = P.getD k 0) (hb : b i = true) : ∃ P, xs i = .inr P ∧ z i = P.length ∧ P.length ≤ 80 ∧ (∀ x ∈ P, x < 256) ∧ (∀ x ∈ P, x ≠ 0) ∧ ∀ k, k < P.length → g (80 * i + k) = P.getD k 0 := by
  cases e : xs i with
  | inl v => rw [e] at h; rw [h.1] at hb; cases hb
  | inr P => rw [e] at h; exact ⟨P, rfl, h.2⟩
theorem hexB_out {T : List Nat} {s : Nat} (h : T.length ≤ s + 2) : hexB T s = false := hexB_f2 (by rw [gd_out h]; decide)
theorem numT_rev (v : Int64) : numT v = ((dg 10 (uL (if v < 0 then -v else v))).map (dch false) ++ List.replicate (1 - (dg 10 (uL (if v < 0 then -v else v))).length) 48 ++ (if v < 0 then [45] else [])).reverse := by
  unfold numT
  rw [numS_rev]
  split
  · rw [List.reverse_append (bs := [45])]; rfl
  · rw [List.append_nil]; rfl
theorem rev_gd {L : List Nat} {i : Nat} (h : i < L.length) : L.reverse.getD i 0 = L.getD (L.length - 1 - i) 0 := by
  rw [List.getD_eq_getElem?_getD, List.getD_eq_getElem?_getD, List.getElem?_reverse h]
