theorem nar_z (b : Bool) : narrow .boolean (.int (bI b)) = .int (bI b) := by cases b <;> decide
theorem fit_z (b : Bool) : fits .boolean (.int (bI b)) = true := by cases b <;> decide
/-- the lowest eight bits -/
def lowb (v : Int32) : Nat := v.toBitVec.toNat % 256
theorem lowb_lt (v : Int32) : lowb v < 256 := Nat.mod_lt _ (by decide)
theorem and255 (v : Int32) : v &&& nI 255 = nI (lowb v) := pk_and v 8 (by decide)
theorem lowb_nI {k : Nat} (h : k < 256) : lowb (nI k) = k := by
  unfold lowb
  rw [pk_tn (by omega)]
  omega
theorem bI_0 (b : Bool) : bI b = 0 ↔ b = false := by cases b <;> decide
theorem nI_inj {a b : Nat} (ha : a < 2 ^ 31) (hb : b < 2 ^ 31) (h : nI a = nI b) : a = b := (nI_eq ha hb).mp h
/-- a row: its object r, its cells ra, at most lim of cap; O is all that was added since it was cleared -/
def isRow (cy : Nat → ClassId) (ad : Nat → Nat) (n : Nat) (M : Nat → va_E) (r ra cap lim : Nat) (O : List Nat) : Prop :=
  r < n ∧ ra < n ∧ lim ≤ cap ∧ cap ≤ 2000 ∧ (∀ x ∈ O, x < 256) ∧ ∃ g : Nat → Nat,
    M r = .inr (9, [.ref (ad ra), .int (nI lim), .int (nI (min O.length lim)), .int (bI (decide (lim < O.length)))]) ∧
    M ra = .inl (cy 1, cap, .inl (fun i => nI (g i))) ∧ ∀ i, i < min O.length lim → g i = O.getD i 0
/-- a row of which only its limit is known -/
def preRow (cy : Nat → ClassId) (ad : Nat → Nat) (n : Nat) (M : Nat → va_E) (r ra cap lim : Nat) : Prop :=
  r < n ∧ ra < n ∧ lim ≤ cap ∧ cap ≤ 2000 ∧ ∃ (sz : Int32) (ov : Bool) (g : Nat → Nat),
    M r = .inr (9, [.ref (ad ra), .int (nI lim), .int sz, .int (bI ov)]) ∧ M ra = .inl (cy 1, cap, .inl (fun i => nI (g i)))
theorem isRow.pre {cy : Nat → ClassId} {ad : Nat → Nat} {n : Nat} {M : Nat → va_E} {r ra cap lim : Nat} {O : List Nat} (h : isRow cy ad n M r ra cap lim O) : preRow cy ad n M r ra cap lim := by
  obtain ⟨h1, h2, h3, h4, h5, g, h6, h7, h8⟩ := h
  exact ⟨h1, h2, h3, h4, _, _, g, h6, h7⟩
theorem isRow.ne {cy : Nat → ClassId} {ad : Nat → Nat} {n : Nat} {M : Nat → va_E} {r ra cap lim : Nat} {O : List Nat} (h : isRow cy ad n M r ra cap lim O) : r ≠ ra := by
  obtain ⟨h1, h2, h3, h4, h5, g, h6, h7, h8⟩ := h
  intro q
  subst q
  rw [h6] at h7
  cases h7
theorem isRow.fr {cy : Nat → ClassId} {ad : Nat → Nat} {n : Nat} {M M' : Nat → va_E} {S : List Nat} {r ra cap lim : Nat} {O : List Nat} (h : isRow cy ad n M r ra cap lim O) (hF : Fr S M M') (h1 : r ∉ S) (h2 : ra ∉ S) : isRow cy ad n M' r ra cap lim O := by
  unfold isRow at h ⊢
  rw [hF r h1, hF ra h2]
  exact h
/-- what Row.at answers -/
def rowAt (L : List Nat) (k : Int32) : Int32 := if 0 ≤ k ∧ k < nI L.length then nI (L.getD k.toNatClampNeg 0) else -1
def chAt (L : List Nat) (i : Nat) : Int32 := if i < L.length then nI (L.getD i 0) else -1
theorem rowAt_nI {L : List Nat} {i : Nat} (hL : L.length < 2 ^ 31) (hi : i < 2 ^ 31) : rowAt L (nI i) = chAt L i := by
  unfold rowAt chAt
  rw [nI_clamp hi]
  by_cases h : i < L.length
  · rw [if_pos h, if_pos ⟨nI_pos' hi, nI_lt h hL⟩]
  · rw [if_neg h, if_neg (fun q => nI_nlt (by omega) hi q.2)]
theorem gd_app {L : List Nat} {x i : Nat} (h : i < L.length) : (L ++ [x]).getD i 0 = L.getD i 0 := by
  simp [List.getD_eq_getElem?_getD, List.getElem?_append_left h]
theorem gd_last {L : List Nat} {x : Nat} : (L ++ [x]).getD L.length 0 = x := by
  simp [List.getD_eq_getElem?_getD]
theorem gd_take {L : List Nat} {k i : Nat} (h : i < k) : (L.take k).getD i 0 = L.getD i 0 := by
  simp [List.getD_eq_getElem?_getD, List.getElem?_take, h]
theorem upd_nI (g : Nat → Nat) (k v : Nat) : upd (fun i => nI (g i)) k (nI v) = fun i => nI (va_up g k v i) := by
  funext i
  unfold upd va_up
  split <;> rfl
theorem isRow.ob {cy : Nat → ClassId} {ad : Nat → Nat} {n : Nat} {M : Nat → va_E} {r ra cap lim : Nat} {O : List Nat} (h : isRow cy ad n M r ra cap lim O) : M r = .inr (9, [.ref (ad ra), .int (nI lim), .int (nI (min O.length lim)), .int (bI (decide (lim < O.length)))]) := by
  obtain ⟨h1, h2, h3, h4, h5, g, h6, h7, h8⟩ := h
  exact h6
theorem max0_nI {k : Nat} (h : k < 2 ^ 31) : (if nI 0 < nI k then nI k else nI 0) = nI k := by
  by_cases h0 : k = 0
  · subst h0; split <;> rfl
  · rw [if_pos (nI_lt (by omega) h)]
theorem min_nI {a b : Nat} (ha : a < 2 ^ 31) (hb : b < 2 ^ 31) : (if nI b < nI a then nI b else nI a) = nI (min a b) := by
  by_cases h : b < a
  · rw [if_pos (nI_lt h ha), Nat.min_eq_right (by omega)]
  · rw [if_neg (nI_nlt (by omega) hb), Nat.min_eq_left (by omega)]
theorem max_nI {a b : Nat} (ha : a < 2 ^ 31) (hb : b < 2 ^ 31) : (if nI a < nI b then nI b else nI a) = nI (max a b) := by
  by_cases h : a < b
  · rw [if_pos (nI_lt h hb), Nat.max_eq_right (by omega)]
  · rw [if_neg (nI_nlt (by omega) ha), Nat.max_eq_left (by omega)]
theorem clamp_lt (x : Int32) : x.toNatClampNeg < 2 ^ 31 := by
  have h := Int32.toInt_lt x
  show x.toInt.toNat < 2 ^ 31
  omega
theorem le_clamp {x : Int32} {k : Nat} (hk : k < 2 ^ 31) : x ≤ nI k ↔ x.toNatClampNeg ≤ k := by
  rw [Int32.le_iff_toInt_le, nI_toInt hk]
  show x.toInt ≤ (k : Int) ↔ x.toInt.toNat ≤ k
  omega
theorem take_gd {L : List Nat} {k : Nat} (h : k < L.length) (h5 : ∀ x ∈ L, x < 256) : L.take k ++ [lowb (nI (L.getD k 0))] = L.take (k + 1) := by
  have e : L.getD k 0 = L[k] := by simp [List.getD_eq_getElem?_getD, h]
  rw [e, lowb_nI (h5 _ (List.getElem_mem h)), List.take_succ]
  simp [h]
theorem Met.weaken_q {l : Launch} {y : MethodName} {ws : List Cond} {rm : Room} {D : va_G} {cy : Nat → ClassId} {ad : Nat → Nat} {n : Nat} {A : Nat → Prop} {as : List Value} {M : Nat → va_E} {P P' : Option Nat → (Nat → va_E) → Prop} (h : mMq l y ws rm D cy ad n A as M P) (hp : ∀ r u, P r u → P' r u) : mMq l y ws rm D cy ad n A as M P' := by
  intro p e ha hc hk s m args below hf happ hpre hK
  obtain ⟨k, o, h1, h2, h3, ⟨⟨⟨r, u, q1, q2, q3⟩, q4⟩, q5⟩⟩ := h p e ha hc hk s m args below hf happ hpre hK
  exact ⟨k, o, h1, h2, h3, ⟨⟨⟨r, u, q1, hp r u q2, q3⟩, q4⟩, q5⟩⟩
theorem Met.weaken_v {l : Launch} {y : MethodName} {ws : List Cond} {rm : Room} {D : va_G} {cy : Nat → ClassId} {ad : Nat → Nat} {n : Nat} {A : Nat → Prop} {as : List Value} {M : Nat → va_E} {P P' : (Nat → va_E) → Prop} (h : mMv l y ws rm D cy ad n A as M P) (hp : ∀ u, P u → P' u) : mMv l y ws rm D cy ad n A as M P' := by
  intro p e ha hc hk s m args below hf happ hpre hK
  obtain ⟨k, o, h1, h2, h3, ⟨⟨⟨u, q1, q2, q3⟩, q4⟩, q5⟩⟩ := h p e ha hc hk s m args below hf happ hpre hK
  exact ⟨k, o, h1, h2, h3, ⟨⟨⟨u, q1, hp u q2, q3⟩, q4⟩, q5⟩⟩
theorem Met.weaken_i {l : Launch} {y : MethodName} {ws : List Cond} {rm : Room} {D : va_G} {cy : Nat → ClassId} {ad : Nat → Nat} {n : Nat} {A : Nat → Prop} {as : List Value} {M : Nat → va_E} {P P' : Int32 → (Nat → va_E) → Prop} (h : mMi l y ws rm D cy ad n A as M P) (hp : ∀ r u, P r u → P' r u) : mMi l y ws rm D cy ad n A as M P' := by
  intro p e ha hc hk s m args below hf happ hpre hK
  obtain ⟨k, o, h1, h2, h3, ⟨⟨⟨r, u, q1, q2, q3⟩, q4⟩, q5⟩⟩ := h p e ha hc hk s m args below hf happ hpre hK
  exact ⟨k, o, h1, h2, h3, ⟨⟨⟨r, u, q1, hp r u q2, q3⟩, q4⟩, q5⟩⟩
