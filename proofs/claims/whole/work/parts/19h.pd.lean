/-- the dump by pairs: its object 46 -/
def pdO (ad : Nat → Nat) : va_E := .inr (6, [.ref (ad 5), .ref (ad 7), .ref (ad 1)])
def seN (v : Nat) : Nat := if seen (nI v) then v else 46
theorem seN_lt {v : Nat} (h : v < 256) : seN v < 256 := by unfold seN; split <;> omega
theorem seN_pos {v : Nat} : seN v ≠ 0 := by
  unfold seN
  split
  · rename_i h
    intro q
    rw [q] at h
    exact absurd h (by decide)
  · decide
theorem seI_eq (v : Nat) : (if seen (nI v) then nI v else nI 46) = nI (seN v) := by unfold seN; split <;> rfl
def pPairs (B : List Nat) (lg : Bool) (many g s k : Nat) : List Nat := (List.range k).flatMap (fun j => numS lg (dg 16 (B.getD (s + j) 0)) 2 ++ (if egB j many g then [32] else []))
theorem pPairs_succ (B : List Nat) (lg : Bool) (many g s k : Nat) : pPairs B lg many g s (k + 1) = pPairs B lg many g s k ++ (numS lg (dg 16 (B.getD (s + k) 0)) 2 ++ (if egB k many g then [32] else [])) := by
  unfold pPairs
  rw [List.range_succ, List.flatMap_append]
  simp
def sChars (B : List Nat) (s k : Nat) : List Nat := (List.range k).map (fun j => seN (B.getD (s + j) 0))
theorem sChars_succ (B : List Nat) (s k : Nat) : sChars B s (k + 1) = sChars B s k ++ [seN (B.getD (s + k) 0)] := by
  unfold sChars
  rw [List.range_succ, List.map_append]
  rfl
def pLine (B : List Nat) (c g : Nat) (lg : Bool) (s : Nat) : List Nat := numS lg (dg 16 s) 8 ++ [58] ++ [32] ++ pPairs B lg (min c (B.length - s)) g s (min c (B.length - s)) ++ List.replicate (pwN c g + 1 - pwN (min c (B.length - s)) g) 32 ++ sChars B s (min c (B.length - s)) ++ [10]
def pLines (B : List Nat) (c g : Nat) (lg : Bool) : Nat → Nat → List Nat
  | 0, _ => []
  | f + 1, s => if B.length ≤ s then [] else pLine B c g lg s ++ pLines B c g lg f (s + c)
def pDump (B : List Nat) (c g : Nat) (lg : Bool) : List Nat := pLines B c g lg 257 0
theorem pwN_le (c g : Nat) : pwN c g ≤ 3 * c := by unfold pwN; have := egN_le c g c; omega
theorem fill_eq1 {a b : Nat} (ha : a < 2 ^ 29) (hb : b < 2 ^ 30) : List.replicate (nI a - nI b + nI 1).toNatClampNeg (lowb (nI 32)) = List.replicate (a + 1 - b) 32 := by
  rw [show nI a - nI b + nI 1 = nI (a + 1) - nI b by rw [← nI_add, Int32.sub_eq_add_neg, Int32.sub_eq_add_neg, Int32.add_assoc, Int32.add_assoc, Int32.add_comm (-(nI b))], sub_clamp (by omega) hb]
  rfl
/-- the reader of a dump by pairs: its object 47 -/
def rdO (ad : Nat → Nat) (tot i : Int32) : va_E := .inr (7, [.ref (ad 5), .ref (ad 48), .ref (ad 50), .int tot, .int i])
/-- the first place, from i on and in so many steps, where p holds no more -/
def mN (p : Nat → Bool) : Nat → Nat → Nat
  | 0, i => i
  | f + 1, i => if p i then mN p f (i + 1) else i
theorem mN_le {p : Nat → Bool} {a N : Nat} (h : ∀ i, p i = true → a + i < N) : ∀ (f i : Nat), a + i ≤ N → a + mN p f i ≤ N := by
  intro f
  induction f with
  | zero => intro i hi; exact hi
  | succ f ih =>
    intro i hi
    rw [mN]
    split
    · rename_i q; exact ih (i + 1) (h i q)
    · exact hi
theorem gd_in {P : List Nat} {i k : Nat} (h : P.getD i 0 = k) (hk : k ≠ 0) : i < P.length := by
  rcases Nat.lt_or_ge i P.length with q | q
  · exact q
  · rw [gd_out q] at h; exact absurd h.symm hk
theorem dv_in {P : List Nat} {i : Nat} (h : dvN (P.getD i 0) < 16) : i < P.length := by
  rcases Nat.lt_or_ge i P.length with q | q
  · exact q
  · rw [gd_out q] at h; exact absurd h (by decide)
def pAdr (P : List Nat) (tot i k : Nat) : Bool := decide (dvN (P.getD (i + k) 0) = tot / 2 ^ (28 - 4 * k) % 16)
def rAdr (P : List Nat) (tot i : Nat) : Nat := mN (pAdr P tot i) 8 0
def pBl (P : List Nat) (i k : Nat) : Bool := decide (P.getD (i + k) 0 = 32)
def rBl (P : List Nat) (e i : Nat) : Nat := mN (pBl P i) (e - i) 0
def pSn (P L : List Nat) (i k : Nat) : Bool := decide (P.getD (i + k) 0 = seN (L.getD k 0))
def rSn (P L : List Nat) (i : Nat) : Nat := mN (pSn P L i) L.length 0
theorem rAdr_le {P : List Nat} {tot i : Nat} (h : i ≤ P.length) : i + rAdr P tot i ≤ P.length := mN_le (fun k hk => by
  have := of_decide_eq_true hk
  exact dv_in (by rw [this]; exact Nat.mod_lt _ (by decide))) 8 0 h
theorem rBl_le {P : List Nat} {e i : Nat} (h : i ≤ P.length) : i + rBl P e i ≤ P.length := mN_le (fun k hk => gd_in (of_decide_eq_true hk) (by decide)) _ 0 h
theorem rSn_le {P L : List Nat} {i : Nat} (h : i ≤ P.length) : i + rSn P L i ≤ P.length := mN_le (fun k hk => gd_in (of_decide_eq_true hk) seN_pos) _ 0 h
/-- one pair of digits -/
def rPr (P : List Nat) (i : Nat) : Bool × Nat := if ¬ dvN (P.getD i 0) < 16 then (false, i) else if ¬ dvN (P.getD (i + 1) 0) < 16 then (false, i + 1) else (true, i + 2)
def rBy (P : List Nat) (i : Nat) : Nat := dvN (P.getD i 0) * 16 + dvN (P.getD (i + 1) 0)
theorem rPr_le {P : List Nat} {i : Nat} (h : i ≤ P.length) : (rPr P i).2 ≤ P.length := by
  unfold rPr
  split
  · exact h
  · rename_i h1
    have h2 := dv_in (Classical.not_not.mp h1)
    split
    · show i + 1 ≤ _; omega
    · rename_i h3
      have h4 := dv_in (Classical.not_not.mp h3)
      show i + 2 ≤ _; omega
/-- the pairs of a line: whether they are good, where the reading stopped, the bytes -/
def rPs (P : List Nat) (c g : Nat) : Nat → Nat → Nat → List Nat → Bool × Nat × List Nat
  | 0, _, i, L => (true, i, L)
  | f + 1, k, i, L => if 0 < k ∧ P.getD i 0 = 32 then (true, i, L)
    else if (rPr P i).1 = false then (false, (rPr P i).2, L)
    else if egB k c g = false then rPs P c g f (k + 1) (i + 2) (L ++ [rBy P i])
    else if P.getD (i + 2) 0 = 32 then rPs P c g f (k + 1) (i + 3) (L ++ [rBy P i])
    else (false, i + 2, L ++ [rBy P i])
theorem rPr_t {P : List Nat} {i : Nat} (h : ¬ (rPr P i).1 = false) : rPr P i = (true, i + 2) := by
  unfold rPr at h ⊢
  split
  · rename_i q; rw [if_pos q] at h; exact absurd rfl h
  · rename_i q
    rw [if_neg q] at h
    split
    · rename_i q2; rw [if_pos q2] at h; exact absurd rfl h
    · rfl
theorem rPs_le {P : List Nat} {c g : Nat} : ∀ (f k i : Nat) (L : List Nat), i ≤ P.length → (rPs P c g f k i L).2.1 ≤ P.length ∧ (rPs P c g f k i L).2.2.length ≤ L.length + f := by
  intro f
  induction f with
  | zero => intro k i L h; exact ⟨h, Nat.le_refl _⟩
  | succ f ih =>
    intro k i L h
    rw [rPs]
    have h9 := rPr_le h
    split
    · exact ⟨h, Nat.le_add_right _ _⟩
    · split
      · exact ⟨h9, Nat.le_add_right _ _⟩
      · rename_i h1
        rw [rPr_t h1] at h9
        have h9 : i + 2 ≤ P.length := h9
        split
        · have := ih (k + 1) (i + 2) (L ++ [rBy P i]) h9
          rw [List.length_append] at this
          exact ⟨this.1, Nat.le_trans this.2 (by simp; omega)⟩
        · split
          · rename_i h3
            have h4 := gd_in h3 (by decide)
            have := ih (k + 1) (i + 3) (L ++ [rBy P i]) h4
            rw [List.length_append] at this
            exact ⟨this.1, Nat.le_trans this.2 (by simp; omega)⟩
          · exact ⟨h9, by simp⟩
/-- a line: whether it is good, where the reading stopped, its bytes -/
def rLine (P : List Nat) (c g tot i : Nat) : Bool × Nat × List Nat :=
  if ¬ rAdr P tot i = 8 then (false, i + rAdr P tot i, [])
  else if ¬ P.getD (i + 8) 0 = 58 then (false, i + 8, [])
  else if ¬ P.getD (i + 9) 0 = 32 then (false, i + 9, [])
  else if (rPs P c g c 0 (i + 10) []).1 = false then (false, (rPs P c g c 0 (i + 10) []).2.1, [])
  else
    let a := (rPs P c g c 0 (i + 10) []).2.1
    let L := (rPs P c g c 0 (i + 10) []).2.2
    let b := a + rBl P (i + 10 + pwN c g + 1) a
    if b < i + 10 + pwN c g + 1 then (false, b, [])
    else if ¬ rSn P L b = L.length then (false, b + rSn P L b, [])
    else if P.getD (b + L.length) 0 = 10 then (true, b + L.length + 1, L) else (false, b + L.length, [])
theorem rLine_le {P : List Nat} {c g tot i : Nat} (h : i ≤ P.length) : (rLine P c g tot i).2.1 ≤ P.length ∧ (rLine P c g tot i).2.2.length ≤ c := by
  unfold rLine
  have h1 := rAdr_le (tot := tot) h
  split
  · exact ⟨h1, Nat.zero_le _⟩
  · rename_i q1
    rw [Classical.not_not.mp q1] at h1
    split
    · exact ⟨h1, Nat.zero_le _⟩
    · rename_i q2
      have h2 := gd_in (Classical.not_not.mp q2) (by decide)
      split
      · exact ⟨h2, Nat.zero_le _⟩
      · rename_i q3
        have h3 := gd_in (Classical.not_not.mp q3) (by decide)
        have h4 := rPs_le (P := P) (c := c) (g := g) c 0 (i + 10) [] h3
        split
        · exact ⟨h4.1, Nat.zero_le _⟩
        · dsimp only
          have h5 := rBl_le (e := i + 10 + pwN c g + 1) h4.1
          split
          · exact ⟨h5, Nat.zero_le _⟩
          · have h6 := rSn_le (L := (rPs P c g c 0 (i + 10) []).2.2) h5
            split
            · exact ⟨h6, Nat.zero_le _⟩
            · rename_i q6
              rw [Classical.not_not.mp q6] at h6
              split
              · rename_i q7
                exact ⟨gd_in q7 (by decide), by simpa using h4.2⟩
              · exact ⟨h6, Nat.zero_le _⟩
/-- the page, line after line: whether it is good, where the reading stopped, the bytes -/
def rPg (P : List Nat) (c g : Nat) : Nat → Nat → Bool → List Nat → Bool × Nat × List Nat
  | 0, i, _, Fd => (true, i, Fd)
  | f + 1, i, full, Fd => if P.length ≤ i then (true, i, Fd) else if full = false then (false, i, [])
    else if (rLine P c g Fd.length i).1 = false then (false, (rLine P c g Fd.length i).2.1, [])
    else rPg P c g f (rLine P c g Fd.length i).2.1 (decide ((rLine P c g Fd.length i).2.2.length = c)) (Fd ++ (rLine P c g Fd.length i).2.2)
theorem ush15 {t k : Nat} (ht : t < 2 ^ 31) (hk : k < 32) : ushI (nI t) k &&& nI 15 = nI (t / 2 ^ k % 16) := by
  rw [pk_and _ 4 (by decide)]
  unfold ushI
  rw [pk_ushr (nI t) (nI k) k (sh_u _ hk), pk_tn (by omega)]
theorem dI_cmp {c q : Nat} (hq : q < 16) : dI c 16 = nI q ↔ dvN c = q := by
  unfold dI
  by_cases h : dvN c < 16
  · rw [if_pos h]; exact nI_eq (by omega) (by omega)
  · rw [if_neg h]
    exact ⟨fun z => absurd z (neg1_nI (by omega)), fun z => by omega⟩
theorem mN_t {p : Nat → Bool} {f i : Nat} (h : p i = true) : mN p (f + 1) i = mN p f (i + 1) := by rw [mN, if_pos h]
theorem mN_f {p : Nat → Bool} {f i : Nat} (h : ¬ p i = true) : mN p (f + 1) i = i := by rw [mN, if_neg h]
