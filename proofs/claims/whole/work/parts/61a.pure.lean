theorem numS_rev (lg : Bool) (ds : List Nat) (m : Nat) : numS lg ds m = (ds.map (dch lg) ++ List.replicate (m - ds.length) 48).reverse := by
  apply List.ext_getElem?
  intro t
  by_cases ht : t < max m ds.length
  · have h1 : (numS lg ds m)[t]? = some (chd lg ds (max m ds.length - 1 - t)) := by
      simp [numS, List.getElem?_map, List.getElem?_range ht]
    have hl : (ds.map (dch lg) ++ List.replicate (m - ds.length) 48).length = max m ds.length := by simp; omega
    rw [h1, List.getElem?_reverse (by rw [hl]; exact ht), hl]
    unfold chd
    split
    · rename_i q
      rw [List.getElem?_append_left (by simpa using q), List.getElem?_map, List.getElem?_eq_getElem q]
      simp [List.getD_eq_getElem?_getD, q]
    · rename_i q
      rw [List.getElem?_append_right (by simp; omega), List.getElem?_replicate]
      rw [if_pos (by simp; omega)]
  · rw [List.getElem?_eq_none (by rw [numS_len]; omega), List.getElem?_eq_none (by simp; omega)]
theorem dch_lt8 {lg : Bool} {d : Nat} (h : d < 16) : dch lg d < 256 := dch_lt h
/-- the character at a place of the line, 0 behind its end -/
theorem dg_map_lt {b : Nat} {lg : Bool} (hb : 2 ≤ b) (hb2 : b ≤ 16) (n : Nat) : ∀ x ∈ (dg b n).map (dch lg), x < 256 := by
  intro x hx
  obtain ⟨d, hd, rfl⟩ := List.mem_map.mp hx
  have := dg_lt hb n d hd
  exact dch_lt (by omega)
theorem isDg.push {cy : Nat → ClassId} {M : Nat → va_E} {L : List Nat} {g : Nat → Nat} {x : Nat} (h0 : ∀ y ∈ L, y < 256) (hx : x < 256) (h1 : M 132 = gh (.int (nI (L.length + 1)))) (he : M 61 = .inl (cy 0, 200, .inl (fun i => nI (va_up g L.length x i)))) (hL : L.length < 200) (h3 : ∀ i, i < L.length → g i = L.getD i 0) : isDg cy M (L ++ [x]) := by
  refine ⟨fun y hy => ?_, by rw [List.length_append]; exact h1, isA.push he hL h3⟩
  rcases List.mem_append.mp hy with q | q
  · exact h0 y q
  · rw [List.mem_singleton.mp q]; exact hx
theorem isRw.push {cy : Nat → ClassId} {M : Nat → va_E} {L : List Nat} {g : Nat → Nat} {x : Nat} (h0 : ∀ y ∈ L, y < 256) (hx : x < 256) (h1 : M 130 = gh (.int (nI (L.length + 1)))) (he : M 60 = .inl (cy 0, 200, .inl (fun i => nI (va_up g L.length x i)))) (hL : L.length < 200) (h3 : ∀ i, i < L.length → g i = L.getD i 0) : isRw cy M (L ++ [x]) := by
  refine ⟨fun y hy => ?_, by rw [List.length_append]; exact h1, isA.push he hL h3⟩
  rcases List.mem_append.mp hy with q | q
  · exact h0 y q
  · rw [List.mem_singleton.mp q]; exact hx
def octB (c : Nat) : Bool := decide (48 ≤ c ∧ c ≤ 55)
theorem octB_dv (c : Nat) : octB c = true ↔ dvN c < 8 := by
  unfold octB dvN
  rw [decide_eq_true_eq]
  split
  · omega
  · split
    · omega
    · split <;> omega
