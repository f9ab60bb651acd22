theorem sar_tab : ∀ s, s < 32 → ((nI s &&& 31).toBitVec.smod 32).toNat = s := by decide +kernel
theorem sar_and (x : Int32) {s : Nat} (hs : s ≤ 24) : (x >>> (nI s &&& 31)) &&& nI 255 = nI (x.toBitVec.toNat / 2 ^ s % 256) := by
  rw [and255]
  congr 1
  unfold lowb
  have hb : (x >>> (nI s &&& 31)).toBitVec = x.toBitVec.sshiftRight s := by
    rw [Int32.toBitVec_shiftRight, BitVec.sshiftRight_eq', sar_tab s (by omega)]
  rw [hb, show (256 : Nat) = 2 ^ 8 from rfl]
  apply Nat.eq_of_testBit_eq
  intro i
  rw [Nat.testBit_mod_two_pow, Nat.testBit_mod_two_pow, Nat.testBit_div_two_pow, Nat.add_comm i s]
  by_cases h : i < 8
  · rw [decide_eq_true h]
    show (true && (x.toBitVec.sshiftRight s).getLsbD i) = (true && x.toBitVec.getLsbD (s + i))
    rw [BitVec.getLsbD_sshiftRight, decide_eq_false (show ¬ 32 ≤ i by omega), if_pos (show s + i < 32 by omega)]
    simp
  · rw [decide_eq_false h]; rfl
theorem sar_wby (x : Int32) {j : Nat} (h : j < 4) : (x >>> (nI (24 - 8 * j) &&& 31)) &&& nI 255 = nI (wby x j) := sar_and x (by omega)
theorem k24 : ∀ j, j < 4 → nI 24 - nI (8 * j) = nI (24 - 8 * j) ∧ ¬ (nI 24 - nI (8 * j)) < 0 ∧ nI 24 - nI (8 * j) + (-8) = nI 24 - nI (8 * (j + 1)) := by decide +kernel
theorem k24e : (nI 24 - nI (8 * 4)) < 0 := by decide
theorem irem4 : ∀ k, k < 16 → nI k - nI k / nI 4 * nI 4 = nI (k % 4) := by decide +kernel
theorem nI8m : ∀ k, k < 4 → nI 24 - nI (8 * k) = nI (24 - 8 * k) := by decide +kernel
/-- the line while it is typed, perhaps too long -/
def isLnW (cy : Nat → ClassId) (M : Nat → va_E) (X : List Nat) : Prop := (∀ x ∈ X, x < 256) ∧ (∀ x ∈ X, x ≠ 0) ∧ isA cy M 0 53 80 (X.take 80)
theorem isLnW.fr {cy : Nat → ClassId} {M M' : Nat → va_E} {L : List Nat} {S : List Nat} (h : isLnW cy M L) (hF : Fr S M M') (hS : ∀ k ∈ [53], k ∉ S) : isLnW cy M' L := ⟨h.1, h.2.1, h.2.2.fr hF (hS 53 (by decide))⟩
theorem isLnW.of {cy : Nat → ClassId} {M : Nat → va_E} {T : List Nat} (h : isLn cy M T) : isLnW cy M T := by
  obtain ⟨h1, h2, h3, h4⟩ := h
  exact ⟨h1, h2, by rw [List.take_of_length_le h4.1]; exact h4⟩
theorem isLnW.to {cy : Nat → ClassId} {M : Nat → va_E} {T : List Nat} (h : isLnW cy M T) (hl : T.length ≤ 80) (hs : M 102 = gh (.int (nI T.length))) : isLn cy M T := by
  obtain ⟨h1, h2, h3⟩ := h
  rw [List.take_of_length_le hl] at h3
  exact ⟨h1, h2, hs, h3⟩
theorem isLnW.push {cy : Nat → ClassId} {M M' : Nat → va_E} {X : List Nat} {x : Nat} (h : isLnW cy M X) (hx : x < 256) (h0 : x ≠ 0) {g : Nat → Nat} (hg : M 53 = .inl (cy 0, 80, .inl (fun i => nI (g i)))) (hg2 : ∀ i, i < (X.take 80).length → g i = (X.take 80).getD i 0) (he : (X.length < 80 ∧ M' 53 = .inl (cy 0, 80, .inl (fun i => nI (va_up g X.length x i)))) ∨ (80 ≤ X.length ∧ M' 53 = M 53)) : isLnW cy M' (X ++ [x]) := by
  obtain ⟨h1, h2, h3⟩ := h
  refine ⟨fun y hy => ?_, fun y hy => ?_, ?_⟩
  · rcases List.mem_append.mp hy with q | q
    · exact h1 y q
    · rw [List.mem_singleton.mp q]; exact hx
  · rcases List.mem_append.mp hy with q | q
    · exact h2 y q
    · rw [List.mem_singleton.mp q]; exact h0
  · rcases he with ⟨hl, he⟩ | ⟨hl, he⟩
    · rw [List.take_of_length_le (show (X ++ [x]).length ≤ 80 by rw [List.length_append]; simp; omega)]
      rw [List.take_of_length_le (show X.length ≤ 80 by omega)] at hg2
      exact isA.push he hl hg2
    · rw [List.take_append_of_le_length hl]
      obtain ⟨z1, g9, z2, z3⟩ := h3
      exact ⟨z1, g9, he.trans z2, z3⟩
/-- the codes of what is thrown, 0 for none; and what is left -/
def tyK (T : List Nat) (a b c d e : Int32) : Nat := if 80 < T.length + tn5 a b c d e then 1 else 0
def nuK (cnt : Nat) : Nat := if cnt = 8 then 1 else 0
def rmK (x : Int32) : Nat := if x < 0 ∨ 2000 < cl x then 1 else 0
def fdK (B : List Nat) (x : Int32) : Nat := if x < 0 ∨ 16 < cl x then 1 else if 256 < B.length + cl x then 2 else 0
def cuK (B : List Nat) (x : Int32) : Nat := if x < 0 ∨ B.length < cl x then 1 else 0
def wdK (x y : Int32) (lt : Nat) : Nat := if abOk x = true ∧ wdOk (nI lt) y = true then 0 else 1
def prK (x g : Int32) : Nat := if shOk x g = true then 0 else 1
def paK (O : List Nat) (x y : Int32) : Nat := if ¬ (0 ≤ x ∧ x < nI O.length) then 1 else if y < 0 ∨ 255 < cl y then 2 else 0
theorem in_range {x : Int32} {k : Nat} (hk : k < 2 ^ 31) : (0 ≤ x ∧ x ≤ nI k) ↔ ¬ (x < 0 ∨ k < cl x) := by
  constructor
  · intro ⟨h1, h2⟩ q
    rcases q with q | q
    · exact absurd q (Int32.not_lt.mpr h1)
    · have ex := of_nn (Int32.not_lt.mpr h1)
      rw [ex] at h2
      have h9 : cl x ≤ k := (nI_leI (clamp_lt x) hk).mp h2
      omega
  · intro q
    have h0 : ¬ x < 0 := fun z => q (Or.inl z)
    have ex := of_nn h0
    refine ⟨Int32.not_lt.mp h0, ?_⟩
    rw [ex]
    exact (nI_leI (clamp_lt x) hk).mpr (Nat.le_of_not_lt (fun z => q (Or.inr z)))
theorem in_size {x : Int32} {k : Nat} (hk : k < 2 ^ 31) : (0 ≤ x ∧ x ≤ nI k - nI 1) ↔ (0 ≤ x ∧ x < nI k) := by
  rcases Nat.eq_zero_or_pos k with z | z
  · subst z
    constructor
    · intro ⟨h1, h2⟩
      exact absurd (Int32.le_trans h1 h2) (by decide)
    · intro ⟨h1, h2⟩
      exact absurd (Int32.lt_of_le_of_lt h1 h2) (by decide)
  · rw [pk_sub (by omega)]
    constructor
    · intro ⟨h1, h2⟩
      have ex := of_nn (Int32.not_lt.mpr h1)
      refine ⟨h1, ?_⟩
      rw [ex] at h2 ⊢
      have := (nI_leI (clamp_lt x) (by omega)).mp h2
      exact (nI_ltI (clamp_lt x) hk).mpr (by omega)
    · intro ⟨h1, h2⟩
      have ex := of_nn (Int32.not_lt.mpr h1)
      refine ⟨h1, ?_⟩
      rw [ex] at h2 ⊢
      have := (nI_ltI (clamp_lt x) hk).mp h2
      exact (nI_leI (clamp_lt x) (by omega)).mpr (by omega)
/-- the bytes that feed takes -/
def fdw (a b c d : Int32) (k : Nat) : Int32 := if k < 4 then a else if k < 8 then b else if k < 12 then c else d
def fdL (a b c d : Int32) : List Nat := (List.range 16).map (fun k => wby (fdw a b c d k) (k % 4))
theorem fdL_eq {q : Nat} (h : q ≤ 16) (a b c d : Int32) : fd4 q a b c d = (fdL a b c d).take q := by
  match q, h with
  | 0, _ => rfl
  | 1, _ => rfl
  | 2, _ => rfl
  | 3, _ => rfl
  | 4, _ => rfl
  | 5, _ => rfl
  | 6, _ => rfl
  | 7, _ => rfl
  | 8, _ => rfl
  | 9, _ => rfl
  | 10, _ => rfl
  | 11, _ => rfl
  | 12, _ => rfl
  | 13, _ => rfl
  | 14, _ => rfl
  | 15, _ => rfl
  | 16, _ => rfl
  | n + 17, h => exact absurd h (by omega)
theorem fdL_s {k : Nat} (h : k < 16) (a b c d : Int32) : (fdL a b c d).take (k + 1) = (fdL a b c d).take k ++ [wby (fdw a b c d k) (k % 4)] := by
  rw [take_s (by simp [fdL]; exact h)]
  congr 2
  unfold fdL
  rw [List.getD_eq_getElem?_getD, List.getElem?_map, List.getElem?_range h]
  rfl
theorem fdL_len (a b c d : Int32) : (fdL a b c d).length = 16 := by simp [fdL]
theorem isBy.push {cy : Nat → ClassId} {M : Nat → va_E} {L : List Nat} {g : Nat → Nat} {x : Nat} (h0 : ∀ y ∈ L, y < 256) (hx : x < 256) (h1 : M 108 = gh (.int (nI (L.length + 1)))) (he : M 58 = .inl (cy 1, 256, .inl (fun i => nI (va_up g L.length x i)))) (hL : L.length < 256) (h3 : ∀ i, i < L.length → g i = L.getD i 0) : isBy cy M (L ++ [x]) := by
  refine ⟨fun y hy => ?_, by rw [List.length_append]; exact h1, isA.push he hL h3⟩
  rcases List.mem_append.mp hy with q | q
  · exact h0 y q
  · rw [List.mem_singleton.mp q]; exact hx
theorem isBy.cut {cy : Nat → ClassId} {M M' : Nat → va_E} {P : List Nat} (h : isBy cy M P) {S : List Nat} (hF : Fr S M M') (hS : 58 ∉ S) {m : Nat} (hl : m ≤ P.length) (hm : M' 108 = gh (.int (nI m))) : isBy cy M' (P.take m) := by
  obtain ⟨h1, h2, h3, g, h4, h5⟩ := h
  refine ⟨fun x hx => h1 x (List.mem_of_mem_take hx), by rw [List.length_take, Nat.min_eq_left hl]; exact hm, ?_, g, (hF 58 hS).trans h4, fun i hi => ?_⟩
  · rw [List.length_take]; omega
  · rw [List.length_take] at hi
    rw [gd_take (by omega), h5 i (by omega)]
theorem isOutR.cut {cy : Nat → ClassId} {M M' : Nat → va_E} {lim : Nat} {P : List Nat} (h : isOutR cy M lim P) {S : List Nat} (hF : Fr S M M') (hS : ∀ k ∈ [59, 110, 113], k ∉ S) {m : Nat} (hl : m ≤ P.length) (hm : M' 111 = gh (.int (nI m))) : isOutR cy M' lim (P.take m) := by
  obtain ⟨h1, h0, h2, h3, h4, ⟨b, h5⟩, h6, g, h7, h8⟩ := h
  refine ⟨h1, by rw [List.length_take]; omega, fun x hx => h2 x (List.mem_of_mem_take hx), (hF 110 (hS 110 (by decide))).trans h3, by rw [List.length_take, Nat.min_eq_left hl]; exact hm, ⟨b, (hF 113 (hS 113 (by decide))).trans h5⟩, ?_, g, (hF 59 (hS 59 (by decide))).trans h7, fun i hi => ?_⟩
  · rw [List.length_take]; omega
  · rw [List.length_take] at hi
    rw [gd_take (by omega), h8 i (by omega)]
theorem isOutR.room {cy : Nat → ClassId} {M M' : Nat → va_E} {lim m : Nat} {P : List Nat} (h : isOutR cy M lim P) {S : List Nat} (hF : Fr S M M') (hS : ∀ k ∈ [59, 113], k ∉ S) (hl : m ≤ 2000) (hm : M' 110 = gh (.int (nI m))) (hs : M' 111 = gh (.int (nI 0))) : isOutR cy M' m [] := by
  obtain ⟨h1, h0, h2, h3, h4, ⟨b, h5⟩, h6, g, h7, h8⟩ := h
  exact ⟨hl, Nat.zero_le _, (fun x hx => by cases hx), hm, hs, ⟨b, (hF 113 (hS 113 (by decide))).trans h5⟩, Nat.zero_le _, g, (hF 59 (hS 59 (by decide))).trans h7, (fun i hi => by cases hi)⟩
theorem isOutR.put {cy : Nat → ClassId} {M M' : Nat → va_E} {lim k x : Nat} {P : List Nat} (h : isOutR cy M lim P) {S : List Nat} (hF : Fr S M M') (hS : ∀ k ∈ [110, 111, 113], k ∉ S) (hx : x < 256) {g : Nat → Nat} (hg8 : ∀ i, i < P.length → g i = P.getD i 0) (he : M' 59 = .inl (cy 0, 2000, .inl (fun i => nI (va_up g k x i)))) : isOutR cy M' lim (P.set k x) := by
  obtain ⟨h1, h0, h2, h3, h4, ⟨b, h5⟩, h6, -⟩ := h
  refine ⟨h1, by rw [List.length_set]; exact h0, fun y hy => ?_, (hF 110 (hS 110 (by decide))).trans h3, by rw [List.length_set]; exact (hF 111 (hS 111 (by decide))).trans h4, ⟨b, (hF 113 (hS 113 (by decide))).trans h5⟩, by rw [List.length_set]; exact h6, _, he, fun i hi => ?_⟩
  · rcases List.mem_or_eq_of_mem_set hy with q | q
    · exact h2 y q
    · rw [q]; exact hx
  · rw [List.length_set] at hi
    rw [List.getD_eq_getElem?_getD, List.getElem?_set]
    by_cases z : k = i
    · rw [if_pos z, if_pos (by omega), z, va_up_self]; rfl
    · rw [if_neg z, va_up_ne _ _ (fun q => z q.symm), hg8 i hi, List.getD_eq_getElem?_getD]
theorem isLn.nil {cy : Nat → ClassId} {M M' : Nat → va_E} {T : List Nat} (h : isLn cy M T) {S : List Nat} (hF : Fr S M M') (hS : 53 ∉ S) (hs : M' 102 = gh (.int (nI 0))) : isLn cy M' [] := by
  obtain ⟨h1, h2, h3, h4, g, h5, h6⟩ := h
  exact ⟨(fun x hx => by cases hx), (fun x hx => by cases hx), hs, Nat.zero_le _, g, (hF 53 hS).trans h5, (fun i hi => by cases hi)⟩
theorem isRA.nil {cy : Nat → ClassId} {M M' : Nat → va_E} {xs : Nat → Arg} {cnt : Nat} (h : isRA cy M xs cnt) {S : List Nat} (hF : Fr S M M') (hS : ∀ k ∈ [54, 55, 56, 57], k ∉ S) (hs : M' 103 = gh (.int (nI 0))) : isRA cy M' xs 0 := by
  obtain ⟨h1, h2, b, f, z, g, h3, h4, h5, h6, h7⟩ := h
  exact ⟨Nat.zero_le _, hs, b, f, z, g, (hF 54 (hS 54 (by decide))).trans h3, (hF 55 (hS 55 (by decide))).trans h4, (hF 56 (hS 56 (by decide))).trans h5, (hF 57 (hS 57 (by decide))).trans h6, (fun i hi => by cases hi)⟩
theorem ty_back {cy : Nat → ClassId} {M : Nat → va_E} {T Y1 Y2 Y3 Y4 Y5 : List Nat} (h : isLnW cy M (((((T ++ Y1) ++ Y2) ++ Y3) ++ Y4) ++ Y5)) (hl : T.length ≤ 80) (hs : M 102 = gh (.int (nI T.length))) : isLn cy M T := by
  rw [List.append_assoc, List.append_assoc, List.append_assoc, List.append_assoc] at h
  obtain ⟨h1, h2, h3, g, h4, h5⟩ := h
  refine ⟨fun x hx => h1 x (List.mem_append_left _ hx), fun x hx => h2 x (List.mem_append_left _ hx), hs, hl, g, h4, fun i hi => ?_⟩
  rw [h5 i (by rw [List.length_take, List.length_append]; omega), gd_take (by omega), List.getD_eq_getElem?_getD, List.getD_eq_getElem?_getD, List.getElem?_append_left hi]
