theorem rPg_e {P : List Nat} {c g : Nat} {f i : Nat} {fl : Bool} {Fd : List Nat} (h : P.length ≤ i) : rPg P c g f i fl Fd = (true, i, Fd) := by
  cases f with
  | zero => rfl
  | succ f => rw [rPg, if_pos h]
theorem rPg_s {P : List Nat} {c g : Nat} {f i : Nat} {Fd : List Nat} (h : i < P.length) : rPg P c g (f + 1) i true Fd = (if (rLine P c g Fd.length i).1 = false then (false, (rLine P c g Fd.length i).2.1, []) else rPg P c g f (rLine P c g Fd.length i).2.1 (decide ((rLine P c g Fd.length i).2.2.length = c)) (Fd ++ (rLine P c g Fd.length i).2.2)) := by
  rw [rPg, if_neg (by omega), if_neg (by decide)]
theorem rPg_n {P : List Nat} {c g : Nat} {f i : Nat} {Fd : List Nat} (h : i < P.length) : rPg P c g (f + 1) i false Fd = (false, i, []) := by
  rw [rPg, if_neg (by omega), if_pos rfl]
theorem rLine_adv {P : List Nat} {c g tot i : Nat} (hi : i ≤ P.length) (h : (rLine P c g tot i).1 = true) : i + 10 + 2 * (rLine P c g tot i).2.2.length < (rLine P c g tot i).2.1 := by
  have hl := (rLine_le (P := P) (c := c) (g := g) (tot := tot) hi).2
  have hp : 2 * c ≤ pwN c g := by unfold pwN; omega
  unfold rLine at h hl ⊢
  split at h
  · cases h
  · rename_i q1
    rw [if_neg q1] at hl ⊢
    split at h
    · cases h
    · rename_i q2
      rw [if_neg q2] at hl ⊢
      split at h
      · cases h
      · rename_i q3
        rw [if_neg q3] at hl ⊢
        split at h
        · cases h
        · rename_i q4
          rw [if_neg q4] at hl ⊢
          dsimp only at h hl ⊢
          split at h
          · cases h
          · rename_i q5
            rw [if_neg q5] at hl ⊢
            split at h
            · cases h
            · rename_i q6
              rw [if_neg q6] at hl ⊢
              split at h
              · rename_i q7
                rw [if_pos q7] at hl ⊢
                dsimp only at hl ⊢
                omega
              · cases h
theorem isBy.of {cy : Nat → ClassId} {M : Nat → va_E} {F : List Nat} (h0 : ∀ x ∈ F, x < 256) (h1 : M 108 = gh (.int (nI F.length))) (hl : F.length ≤ 256) {q : Nat → Nat} (he : M 58 = .inl (cy 1, 256, .inl (fun i => nI (q i)))) (h3 : ∀ i, i < F.length → q i = F.getD i 0) : isBy cy M F := ⟨h0, h1, hl, q, he, h3⟩
