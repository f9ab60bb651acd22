theorem sar15 {t s : Nat} (ht : t < 2 ^ 31) (hs : s ≤ 28) : (nI t >>> (nI s &&& 31)) &&& nI 15 = nI (t / 2 ^ s % 16) := by
  rw [pk_and _ 4 (by decide)]
  congr 1
  have hb : (nI t >>> (nI s &&& 31)).toBitVec = (nI t).toBitVec.sshiftRight s := by
    rw [Int32.toBitVec_shiftRight, BitVec.sshiftRight_eq', sar_tab s (by omega)]
  have hm : (nI t).toBitVec.msb = false := by
    rw [BitVec.msb_eq_decide, pk_tn (by omega)]
    exact decide_eq_false (by show ¬ 2 ^ 31 ≤ t; omega)
  rw [hb, BitVec.sshiftRight_eq_of_msb_false hm, BitVec.toNat_ushiftRight, pk_tn (by omega), Nat.shiftRight_eq_div_pow]
theorem mN_skip {p : Nat → Bool} : ∀ (m f i : Nat), (∀ j, i ≤ j → j < i + m → p j = true) → mN p (f + m) i = mN p f (i + m) := by
  intro m
  induction m with
  | zero => intro f i _; rfl
  | succ m ih =>
    intro f i h
    rw [← Nat.add_assoc, mN, if_pos (h i (Nat.le_refl _) (by omega)), ih f (i + 1) (fun j h1 h2 => h j (by omega) (by omega)), show i + 1 + m = i + (m + 1) by omega]
theorem mN_first {p : Nat → Bool} {m f : Nat} (h : ∀ j, j < m → p j = true) (hm : ¬ p m = true) (hf : m < f) : mN p f 0 = m := by
  have := mN_skip (p := p) m (f - m) 0 (fun j _ h2 => h j (by omega))
  rw [show f - m + m = f by omega, Nat.zero_add] at this
  rw [this, show f - m = (f - m - 1) + 1 by omega, mN_f hm]
theorem mN_all {p : Nat → Bool} {f : Nat} (h : ∀ j, j < f → p j = true) : mN p f 0 = f := by
  have := mN_skip (p := p) f 0 0 (fun j _ h2 => h j (by omega))
  rw [Nat.zero_add] at this
  exact this
/-- the reading of a line's pairs: its state before pair k; where blanks are read -/
abbrev PS0 (P : List Nat) (c g i0 : Nat) : Bool × Nat × List Nat := rPs P c g c 0 (i0 + 10) []
def BL (P : List Nat) (c g i0 : Nat) (L : List Nat) (r : Nat) : Prop := ∃ a, PS0 P c g i0 = (true, a, L) ∧ a ≤ r ∧ ∀ j, a ≤ j → j < r → P.getD j 0 = 32
def PH (P : List Nat) (c g i0 k n rd : Nat) (L : List Nat) : Prop := rd = i0 + 10 + 2 * k + egN c g k ∧ L.length = n ∧ ((n = k ∧ PS0 P c g i0 = rPs P c g (c - k) k rd L) ∨ (n < k ∧ BL P c g i0 L rd))
def HD (P : List Nat) (tot i0 : Nat) : Prop := rAdr P tot i0 = 8 ∧ P.getD (i0 + 8) 0 = 58 ∧ P.getD (i0 + 9) 0 = 32
theorem rl_1 {P : List Nat} {c g tot i0 : Nat} (h : ¬ rAdr P tot i0 = 8) : rLine P c g tot i0 = (false, i0 + rAdr P tot i0, []) := by unfold rLine; rw [if_pos h]
theorem rl_2 {P : List Nat} {c g tot i0 : Nat} (h : rAdr P tot i0 = 8) (h2 : ¬ P.getD (i0 + 8) 0 = 58) : rLine P c g tot i0 = (false, i0 + 8, []) := by unfold rLine; rw [if_neg (fun q => q h), if_pos h2]
theorem rl_3 {P : List Nat} {c g tot i0 : Nat} (h : rAdr P tot i0 = 8) (h2 : P.getD (i0 + 8) 0 = 58) (h3 : ¬ P.getD (i0 + 9) 0 = 32) : rLine P c g tot i0 = (false, i0 + 9, []) := by unfold rLine; rw [if_neg (fun q => q h), if_neg (fun q => q h2), if_pos h3]
theorem rl_ps {P : List Nat} {c g tot i0 r : Nat} {L : List Nat} (h : HD P tot i0) (hp : PS0 P c g i0 = (false, r, L)) : rLine P c g tot i0 = (false, r, []) := by
  obtain ⟨h1, h2, h3⟩ := h
  unfold rLine
  rw [if_neg (fun q => q h1), if_neg (fun q => q h2), if_neg (fun q => q h3)]
  have e : rPs P c g c 0 (i0 + 10) [] = (false, r, L) := hp
  rw [e, if_pos rfl]
theorem rl_t {P : List Nat} {c g tot i0 a : Nat} {L : List Nat} (h : HD P tot i0) (hp : PS0 P c g i0 = (true, a, L)) : rLine P c g tot i0 = (if a + rBl P (i0 + 10 + pwN c g + 1) a < i0 + 10 + pwN c g + 1 then (false, a + rBl P (i0 + 10 + pwN c g + 1) a, []) else if ¬ rSn P L (a + rBl P (i0 + 10 + pwN c g + 1) a) = L.length then (false, a + rBl P (i0 + 10 + pwN c g + 1) a + rSn P L (a + rBl P (i0 + 10 + pwN c g + 1) a), []) else if P.getD (a + rBl P (i0 + 10 + pwN c g + 1) a + L.length) 0 = 10 then (true, a + rBl P (i0 + 10 + pwN c g + 1) a + L.length + 1, L) else (false, a + rBl P (i0 + 10 + pwN c g + 1) a + L.length, [])) := by
  obtain ⟨h1, h2, h3⟩ := h
  unfold rLine
  rw [if_neg (fun q => q h1), if_neg (fun q => q h2), if_neg (fun q => q h3)]
  have e : rPs P c g c 0 (i0 + 10) [] = (true, a, L) := hp
  rw [e, if_neg (fun q => by cases q)]
theorem rl_bl {P : List Nat} {c g tot i0 r : Nat} {L : List Nat} (h : HD P tot i0) (hb : BL P c g i0 L r) (hr : r < i0 + 10 + pwN c g + 1) (hn : ¬ P.getD r 0 = 32) : rLine P c g tot i0 = (false, r, []) := by
  obtain ⟨a, h1, h2, h3⟩ := hb
  have e : rBl P (i0 + 10 + pwN c g + 1) a = r - a := by
    unfold rBl
    refine mN_first (fun j hj => decide_eq_true (h3 _ (by omega) (by omega))) (fun q => hn ?_) (by omega)
    have := of_decide_eq_true q
    rw [show a + (r - a) = r by omega] at this
    exact this
  rw [rl_t h h1, e, show a + (r - a) = r by omega, if_pos hr]
theorem rl_go {P : List Nat} {c g tot i0 : Nat} {L : List Nat} (h : HD P tot i0) (hb : BL P c g i0 L (i0 + 10 + pwN c g + 1)) : rLine P c g tot i0 = (if ¬ rSn P L (i0 + 10 + pwN c g + 1) = L.length then (false, i0 + 10 + pwN c g + 1 + rSn P L (i0 + 10 + pwN c g + 1), []) else if P.getD (i0 + 10 + pwN c g + 1 + L.length) 0 = 10 then (true, i0 + 10 + pwN c g + 1 + L.length + 1, L) else (false, i0 + 10 + pwN c g + 1 + L.length, [])) := by
  obtain ⟨a, h1, h2, h3⟩ := hb
  have e : rBl P (i0 + 10 + pwN c g + 1) a = i0 + 10 + pwN c g + 1 - a := by
    unfold rBl
    exact mN_all (fun j hj => decide_eq_true (h3 _ (by omega) (by omega)))
  rw [rl_t h h1, e, show a + (i0 + 10 + pwN c g + 1 - a) = i0 + 10 + pwN c g + 1 by omega, if_neg (Nat.lt_irrefl _)]
theorem BL.step {P : List Nat} {c g i0 r : Nat} {L : List Nat} (hb : BL P c g i0 L r) (h : P.getD r 0 = 32) : BL P c g i0 L (r + 1) := by
  obtain ⟨a, h1, h2, h3⟩ := hb
  refine ⟨a, h1, by omega, fun j hj hj2 => ?_⟩
  rcases Nat.lt_or_ge j r with q | q
  · exact h3 j hj q
  · rw [show j = r by omega]; exact h
/-- one pair more -/
theorem ps_no {P : List Nat} {c g i0 k rd : Nat} {L : List Nat} (hk : k < c) (h : PS0 P c g i0 = rPs P c g (c - k) k rd L) (hns : ¬ (0 < k ∧ P.getD rd 0 = 32)) : PS0 P c g i0 = (if (rPr P rd).1 = false then (false, (rPr P rd).2, L) else if egB k c g = false then rPs P c g (c - (k + 1)) (k + 1) (rd + 2) (L ++ [rBy P rd]) else if P.getD (rd + 2) 0 = 32 then rPs P c g (c - (k + 1)) (k + 1) (rd + 3) (L ++ [rBy P rd]) else (false, rd + 2, L ++ [rBy P rd])) := by
  rw [h, show c - k = (c - (k + 1)) + 1 by omega, rPs, if_neg hns]
theorem ps_1 {P : List Nat} {c g i0 k rd : Nat} {L : List Nat} (hk : k < c) (h : PS0 P c g i0 = rPs P c g (c - k) k rd L) (hns : ¬ (0 < k ∧ P.getD rd 0 = 32)) (h1 : ¬ dvN (P.getD rd 0) < 16) : PS0 P c g i0 = (false, rd, L) := by
  have e : rPr P rd = (false, rd) := by unfold rPr; rw [if_pos h1]
  rw [ps_no hk h hns, e]
  rfl
theorem ps_2 {P : List Nat} {c g i0 k rd : Nat} {L : List Nat} (hk : k < c) (h : PS0 P c g i0 = rPs P c g (c - k) k rd L) (hns : ¬ (0 < k ∧ P.getD rd 0 = 32)) (h1 : dvN (P.getD rd 0) < 16) (h2 : ¬ dvN (P.getD (rd + 1) 0) < 16) : PS0 P c g i0 = (false, rd + 1, L) := by
  have e : rPr P rd = (false, rd + 1) := by unfold rPr; rw [if_neg (fun q => q h1), if_pos h2]
  rw [ps_no hk h hns, e]
  rfl
theorem ps_3 {P : List Nat} {c g i0 k rd : Nat} {L : List Nat} (hk : k < c) (h : PS0 P c g i0 = rPs P c g (c - k) k rd L) (hns : ¬ (0 < k ∧ P.getD rd 0 = 32)) (h1 : dvN (P.getD rd 0) < 16) (h2 : dvN (P.getD (rd + 1) 0) < 16) : PS0 P c g i0 = (if egB k c g = false then rPs P c g (c - (k + 1)) (k + 1) (rd + 2) (L ++ [rBy P rd]) else if P.getD (rd + 2) 0 = 32 then rPs P c g (c - (k + 1)) (k + 1) (rd + 3) (L ++ [rBy P rd]) else (false, rd + 2, L ++ [rBy P rd])) := by
  have e : rPr P rd = (true, rd + 2) := by unfold rPr; rw [if_neg (fun q => q h1), if_neg (fun q => q h2)]
  rw [ps_no hk h hns, e]
  rfl
theorem ps_s {P : List Nat} {c g i0 k rd : Nat} {L : List Nat} (hk : k < c) (h : PS0 P c g i0 = rPs P c g (c - k) k rd L) (hs : 0 < k ∧ P.getD rd 0 = 32) : PS0 P c g i0 = (true, rd, L) := by
  rw [h, show c - k = (c - (k + 1)) + 1 by omega, rPs, if_pos hs]
/-- a step that reads blanks -/
theorem bl_no {P : List Nat} {c g tot i0 k n rd : Nat} {L : List Nat} (hh : HD P tot i0) (hk : k < c) (h : PH P c g i0 k n rd L) (hj : (n = k ∧ 0 < k ∧ ¬ dvN (P.getD rd 0) < 16) ∨ n < k) (hr : rd < i0 + 10 + pwN c g + 1) (hn : ¬ P.getD rd 0 = 32) : rLine P c g tot i0 = (false, rd, []) := by
  obtain ⟨-, -, h3⟩ := h
  rcases h3 with ⟨q1, q2⟩ | ⟨q1, q2⟩
  · rcases hj with j | j
    · exact rl_ps hh (ps_1 hk q2 (fun z => hn z.2) j.2.2)
    · omega
  · exact rl_bl hh q2 hr hn
theorem bl_yes {P : List Nat} {c g i0 k n rd : Nat} {L : List Nat} (hk : k < c) (h : PH P c g i0 k n rd L) (hj : (n = k ∧ 0 < k ∧ ¬ dvN (P.getD rd 0) < 16) ∨ n < k) (hn : P.getD rd 0 = 32) : BL P c g i0 L (rd + 1) := by
  obtain ⟨-, -, h3⟩ := h
  rcases h3 with ⟨q1, q2⟩ | ⟨q1, q2⟩
  · rcases hj with j | j
    · exact ⟨rd, ps_s hk q2 ⟨j.2.1, hn⟩, by omega, fun z h1 h2 => by rw [show z = rd by omega]; exact hn⟩
    · omega
  · exact q2.step hn
theorem ph_end {P : List Nat} {c g i0 n rd : Nat} {L : List Nat} (h : PH P c g i0 c n rd L) : BL P c g i0 L rd ∧ rd + 1 = i0 + 10 + pwN c g + 1 := by
  obtain ⟨h1, h2, h3⟩ := h
  refine ⟨?_, by unfold pwN; omega⟩
  rcases h3 with ⟨q1, q2⟩ | ⟨q1, q2⟩
  · rw [Nat.sub_self] at q2
    exact ⟨rd, q2, Nat.le_refl _, fun j a b => by omega⟩
  · exact q2
theorem eg_le (c g k : Nat) (h : k ≤ c) : 2 * k + egN c g k ≤ pwN c g := by
  have := egN_mono c g k (c - k)
  rw [show k + (c - k) = c by omega] at this
  unfold pwN
  omega
theorem dv32 {P : List Nat} {i : Nat} (h : dvN (P.getD i 0) < 16) : ¬ P.getD i 0 = 32 := fun q => by rw [q] at h; exact absurd h (by decide)
theorem dI_v {c : Nat} (h : dvN c < 16) : dI c 16 = nI (dvN c) := by unfold dI; rw [if_pos h]
theorem dI_ge0 {c : Nat} : 0 ≤ dI c 16 ↔ dvN c < 16 := by
  constructor
  · intro h
    exact Classical.not_not.mp (fun q => absurd ((dI_lt0 (b := 16) (by decide)).mpr q) (Int32.not_lt.mpr h))
  · intro h
    exact Int32.not_lt.mp (fun q => (dI_lt0 (b := 16) (by decide)).mp q h)
/-- the bytes that are found -/
def isFd (cy : Nat → ClassId) (M : Nat → va_E) (F : List Nat) : Prop := (∀ x ∈ F, x < 256) ∧ M 134 = gh (.int (nI F.length)) ∧ isA cy M 1 62 2000 F
theorem isFd.fr {cy : Nat → ClassId} {M M' : Nat → va_E} {L : List Nat} {S : List Nat} (h : isFd cy M L) (hF : Fr S M M') (hS : ∀ k ∈ [62, 134], k ∉ S) : isFd cy M' L := ⟨h.1, (hF 134 (hS 134 (by decide))).trans h.2.1, h.2.2.fr hF (hS 62 (by decide))⟩
theorem isA.pre {cy : Nat → ClassId} {M : Nat → va_E} {t k cap : Nat} {X Y : List Nat} (h : isA cy M t k cap (X ++ Y)) : isA cy M t k cap X := by
  obtain ⟨h1, g, h2, h3⟩ := h
  rw [List.length_append] at h1
  refine ⟨by omega, g, h2, fun i hi => ?_⟩
  rw [h3 i (by rw [List.length_append]; omega), List.getD_eq_getElem?_getD, List.getD_eq_getElem?_getD, List.getElem?_append_left hi]
theorem rBy_lt {P : List Nat} {i : Nat} (h1 : dvN (P.getD i 0) < 16) (h2 : dvN (P.getD (i + 1) 0) < 16) : rBy P i < 256 := by unfold rBy; omega
theorem k7 : ∀ j, j < 8 → nI 7 - nI j = nI (7 - j) ∧ ¬ (nI 7 - nI j) < 0 ∧ nI (7 - j) + (-1) = nI 7 - nI (j + 1) := by decide +kernel
theorem k7e : (nI 7 - nI 8) < 0 := by decide
theorem isA.same {cy : Nat → ClassId} {M' : Nat → va_E} {t k cap : Nat} {L : List Nat} (h : L.length ≤ cap) {q : Nat → Nat} {m : Nat} (h3 : ∀ i, i < L.length → q i = L.getD i 0) (he : M' k = .inl (cy t, cap, .inl (fun i => nI (va_up (va_up q m (q m)) m ((va_up q m (q m)) m) i)))) : isA cy M' t k cap L := by
  refine ⟨h, _, he, fun i hi => ?_⟩
  by_cases z : i = m
  · rw [z, va_up_self, va_up_self, ← z]; exact h3 i hi
  · rw [va_up_ne _ _ z, va_up_ne _ _ z]; exact h3 i hi
theorem isA.push2 {cy : Nat → ClassId} {M : Nat → va_E} {t k cap : Nat} {L : List Nat} {q : Nat → Nat} {x y z : Nat} (hL : L.length < cap) (h3 : ∀ i, i < L.length → q i = L.getD i 0) (hz : x + y = z) (he : M k = .inl (cy t, cap, .inl (fun i => nI (va_up (va_up q L.length x) L.length ((va_up q L.length x) L.length + y) i)))) : isA cy M t k cap (L ++ [z]) := by
  have e : (va_up q L.length x) L.length + y = z := by rw [va_up_self]; exact hz
  rw [e] at he
  exact isA.push he hL (fun i hi => by rw [va_up_ne _ _ (by omega)]; exact h3 i hi)
