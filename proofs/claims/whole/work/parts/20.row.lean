set_option maxRecDepth 20000 in
theorem inX9_size_X9 : ∀ w ∈ wsX90, w ∈ wsX9_size := by decide +kernel
set_option maxRecDepth 20000 in
theorem lkX9_size_19 : Cond.fieldLink RX9 19 "FormatDump$Row" "size" "I" ∈ wsX9_size := by decide +kernel
set_option maxHeartbeats 4000000 in
set_option maxRecDepth 100000 in
theorem kX9_size {l : Launch} {D : va_G} {cy : Nat → ClassId} {ad : Nat → Nat} {n : Nat} {A : Nat → Prop} (hI : mI ad n A) {M : Nat → va_E} {r ra cap lim : Nat} {O : List Nat} (h : isRow cy ad n M r ra cap lim O) : mMi l yX9_size wsX9_size { frames := 0, cells := 0, slots := 0, locals := 0 } D cy ad n A [.ref (ad r)] M (fun x M' => x = nI (min O.length lim) ∧ M' = M) := by
  have hne := h.ne
  obtain ⟨h1, h2, h3, h4, h5, g, h6, h7, h8⟩ := h
  refine m_entry (cc := cX9_size) (maxL := 1) (ret := (some .int)) (own := RX9) (lv := [(0, .ref (ad r))]) hI (by decide) rfl rfl (Nat.le_of_ble_eq_true rfl) rfl (fun p e s m args below meth c C hr hk => ?_)
  refine m_aload_n C dX9_size_0 rfl 0 rfl rfl ?_
  refine m_get C r h1 h6 rfl inX9_size_X9 2 (by decide) lkX9_size_19 rfl rfl dX9_size_1 rfl ?_
  exact m_iret C hr hk rfl dX9_size_4 ⟨rfl, rfl⟩
set_option maxRecDepth 20000 in
theorem inX9_isOver_X9 : ∀ w ∈ wsX90, w ∈ wsX9_isOver := by decide +kernel
set_option maxRecDepth 20000 in
theorem lkX9_isOver_22 : Cond.fieldLink RX9 22 "FormatDump$Row" "over" "Z" ∈ wsX9_isOver := by decide +kernel
set_option maxHeartbeats 4000000 in
set_option maxRecDepth 100000 in
theorem kX9_isOver {l : Launch} {D : va_G} {cy : Nat → ClassId} {ad : Nat → Nat} {n : Nat} {A : Nat → Prop} (hI : mI ad n A) {M : Nat → va_E} {r ra cap lim : Nat} {O : List Nat} (h : isRow cy ad n M r ra cap lim O) : mMi l yX9_isOver wsX9_isOver { frames := 0, cells := 0, slots := 0, locals := 0 } D cy ad n A [.ref (ad r)] M (fun x M' => x = bI (decide (lim < O.length)) ∧ M' = M) := by
  have hne := h.ne
  obtain ⟨h1, h2, h3, h4, h5, g, h6, h7, h8⟩ := h
  refine m_entry (cc := cX9_isOver) (maxL := 1) (ret := (some .boolean)) (own := RX9) (lv := [(0, .ref (ad r))]) hI (by decide) rfl rfl (Nat.le_of_ble_eq_true rfl) rfl (fun p e s m args below meth c C hr hk => ?_)
  refine m_aload_n C dX9_isOver_0 rfl 0 rfl rfl ?_
  refine m_get C r h1 h6 rfl inX9_isOver_X9 3 (by decide) lkX9_isOver_22 rfl rfl dX9_isOver_1 rfl ?_
  exact m_iret C hr hk (nar_z _) dX9_isOver_4 ⟨rfl, rfl⟩
set_option maxRecDepth 20000 in
theorem inX9_clear_X9 : ∀ w ∈ wsX90, w ∈ wsX9_clear := by decide +kernel
set_option maxRecDepth 20000 in
theorem lkX9_clear_19 : Cond.fieldLink RX9 19 "FormatDump$Row" "size" "I" ∈ wsX9_clear := by decide +kernel
set_option maxRecDepth 20000 in
theorem lkX9_clear_22 : Cond.fieldLink RX9 22 "FormatDump$Row" "over" "Z" ∈ wsX9_clear := by decide +kernel
set_option maxHeartbeats 4000000 in
set_option maxRecDepth 100000 in
theorem kX9_clear {l : Launch} {D : va_G} {cy : Nat → ClassId} {ad : Nat → Nat} {n : Nat} {A : Nat → Prop} (hI : mI ad n A) {M : Nat → va_E} {r ra cap lim : Nat} (h : preRow cy ad n M r ra cap lim) : mMv l yX9_clear wsX9_clear { frames := 0, cells := 0, slots := 0, locals := 0 } D cy ad n A [.ref (ad r)] M (fun M' => isRow cy ad n M' r ra cap lim [] ∧ Fr [r] M M') := by
  obtain ⟨h1, h2, h3, h4, sz, ov, g, h6, h7⟩ := h
  have hne : r ≠ ra := by
    intro q
    subst q
    rw [h6] at h7
    cases h7
  refine m_entry (cc := cX9_clear) (maxL := 1) (ret := none) (own := RX9) (lv := [(0, .ref (ad r))]) hI (by decide) rfl rfl (Nat.le_of_ble_eq_true rfl) rfl (fun p e s m args below meth c C hr hk => ?_)
  refine m_aload_n C dX9_clear_0 rfl 0 rfl rfl ?_
  refine m_iconst (v := nI 0) C dX9_clear_1 (by decide) rfl ?_
  refine m_put (ty := .int) (fs' := [.ref (ad ra), .int (nI lim), .int (nI 0), .int (bI ov)]) C r h1 h6 rfl inX9_clear_X9 tyX9 tyX9_ok nmX9 2 (by decide) lkX9_clear_19 rfl rfl (by decide +kernel) rfl rfl (by simp) rfl dX9_clear_2 rfl (fun M1 g_1 F_1 => ?_)
  refine m_aload_n C dX9_clear_5 rfl 0 rfl rfl ?_
  refine m_iconst (v := bI false) C dX9_clear_6 (by decide) rfl ?_
  refine m_put (ty := .boolean) (fs' := [.ref (ad ra), .int (nI lim), .int (nI 0), .int (bI false)]) C r h1 g_1 rfl inX9_clear_X9 tyX9 tyX9_ok nmX9 3 (by decide) lkX9_clear_22 rfl rfl (by decide +kernel) (nar_z _) (fit_z _) (by simp) rfl dX9_clear_7 rfl (fun M2 g_2 F_2 => ?_)
  refine m_vret C hr hk dX9_clear_10 ?_
  have fra_3 : M1 ra = .inl (cy 1, cap, .inl (fun i => nI (g i))) := (F_1 ra (by simp <;> omega)).trans h7
  have fra_4 : M2 ra = .inl (cy 1, cap, .inl (fun i => nI (g i))) := (F_2 ra (by simp <;> omega)).trans fra_3
  exact ⟨⟨h1, h2, h3, h4, by simp, g, by rw [g_2]; simp [nI_0, bI, nI], fra_4, by simp⟩, ((F_1.sub (by simp)).tr (F_2.sub (by simp)))⟩
set_option maxRecDepth 20000 in
theorem inX9_add_X9 : ∀ w ∈ wsX90, w ∈ wsX9_add := by decide +kernel
set_option maxRecDepth 20000 in
theorem lkX9_add_19 : Cond.fieldLink RX9 19 "FormatDump$Row" "size" "I" ∈ wsX9_add := by decide +kernel
set_option maxRecDepth 20000 in
theorem lkX9_add_15 : Cond.fieldLink RX9 15 "FormatDump$Row" "limit" "I" ∈ wsX9_add := by decide +kernel
set_option maxRecDepth 20000 in
theorem lkX9_add_22 : Cond.fieldLink RX9 22 "FormatDump$Row" "over" "Z" ∈ wsX9_add := by decide +kernel
set_option maxRecDepth 20000 in
theorem lkX9_add_9 : Cond.fieldLink RX9 9 "FormatDump$Row" "cells" "[I" ∈ wsX9_add := by decide +kernel
set_option maxHeartbeats 4000000 in
set_option maxRecDepth 100000 in
theorem kX9_add {l : Launch} {D : va_G} {cy : Nat → ClassId} {ad : Nat → Nat} {n : Nat} {A : Nat → Prop} (hI : mI ad n A) {M : Nat → va_E} {r ra cap lim : Nat} {O : List Nat} (h : isRow cy ad n M r ra cap lim O) (v : Int32) : mMv l yX9_add wsX9_add { frames := 0, cells := 0, slots := 0, locals := 0 } D cy ad n A [.ref (ad r), .int v] M (fun M' => isRow cy ad n M' r ra cap lim (O ++ [lowb v]) ∧ Fr [r, ra] M M') := by
  have hne := h.ne
  obtain ⟨h1, h2, h3, h4, h5, g, h6, h7, h8⟩ := h
  refine m_entry (cc := cX9_add) (maxL := 2) (ret := none) (own := RX9) (lv := [(0, .ref (ad r)), (1, .int (v))]) hI (by decide) rfl rfl (Nat.le_of_ble_eq_true rfl) rfl (fun p e s m args below meth c C hr hk => ?_)
  refine m_aload_n C dX9_add_0 rfl 0 rfl rfl ?_
  refine m_get C r h1 h6 rfl inX9_add_X9 2 (by decide) lkX9_add_19 rfl rfl dX9_add_1 rfl ?_
  refine m_aload_n C dX9_add_4 rfl 0 rfl rfl ?_
  refine m_get C r h1 h6 rfl inX9_add_X9 1 (by decide) lkX9_add_15 rfl rfl dX9_add_5 rfl ?_
  refine m_icmp_ge (tgt := 38) C dX9_add_8 (by decide) rfl (fun c_8 => ?_) (fun c_8 => ?_)
  · have hge : lim ≤ O.length := by
      rcases Nat.lt_or_ge O.length lim with q | q
      · exact absurd c_8 (by rw [Nat.min_eq_left (by omega)]; exact nI_ge q (by omega))
      · exact q
    refine m_aload_n C dX9_add_38 rfl 0 rfl rfl ?_
    refine m_iconst (v := bI true) C dX9_add_39 (by decide) rfl ?_
    refine m_put (ty := .boolean) (fs' := [.ref (ad ra), .int (nI lim), .int (nI (min O.length lim)), .int (bI true)]) C r h1 h6 rfl inX9_add_X9 tyX9 tyX9_ok nmX9 3 (by decide) lkX9_add_22 rfl rfl (by decide +kernel) (nar_z _) (fit_z _) (by simp) rfl dX9_add_40 rfl (fun M1 g_1 F_1 => ?_)
    refine m_vret C hr hk dX9_add_43 ?_
    have fra_2 : M1 ra = .inl (cy 1, cap, .inl (fun i => nI (g i))) := (F_1 ra (by simp <;> omega)).trans h7
    refine ⟨⟨h1, h2, h3, h4, ?_, g, ?_, fra_2, ?_⟩, (F_1.sub (by simp))⟩
    · intro x hx
      rcases List.mem_append.mp hx with q | q
      · exact h5 x q
      · rw [List.mem_singleton.mp q]; exact lowb_lt v
    · rw [g_1, List.length_append, List.length_singleton, Nat.min_eq_right hge, Nat.min_eq_right (by omega : lim ≤ O.length + 1), decide_eq_true (by omega : lim < O.length + 1)]
    · intro i hi
      rw [List.length_append, List.length_singleton] at hi
      rw [h8 i (by omega), gd_app (by omega)]
  · have hlt : O.length < lim := by
      rcases Nat.lt_or_ge O.length lim with q | q
      · exact q
      · exact absurd (by rw [Nat.min_eq_right q]; exact nI_le (Nat.le_refl _) (by omega)) c_8
    have hm : min O.length lim = O.length := Nat.min_eq_left (by omega)
    refine m_aload_n C dX9_add_11 rfl 0 rfl rfl ?_
    refine m_get C r h1 h6 rfl inX9_add_X9 0 (by decide) lkX9_add_9 rfl rfl dX9_add_12 rfl ?_
    refine m_aload_n C dX9_add_15 rfl 0 rfl rfl ?_
    refine m_get C r h1 h6 rfl inX9_add_X9 2 (by decide) lkX9_add_19 rfl rfl dX9_add_16 rfl ?_
    refine m_iload_n C dX9_add_19 rfl 1 rfl rfl ?_
    refine m_sipush (v := nI 255) C dX9_add_20 (by decide) rfl ?_
    refine m_iand (v := nI (lowb v)) C dX9_add_23 (and255 v) rfl ?_
    refine m_iast (E' := .inl (cy 1, cap, .inl (fun i => nI (va_up g O.length (lowb v) i)))) C ra h2 h7 (vp_in_nI (by omega) (by omega)) (by rw [nI_clamp (by omega), hm, upd_nI]) dX9_add_24 rfl (fun M3 g_3 F_3 => ?_)
    refine m_aload_n C dX9_add_25 rfl 0 rfl rfl ?_
    refine m_dup C dX9_add_26 rfl rfl ?_
    have fr_4 : M3 r = .inr (9, [.ref (ad ra), .int (nI lim), .int (nI (min O.length lim)), .int (bI (decide (lim < O.length)))]) := (F_3 r (by simp <;> omega)).trans h6
    refine m_get C r h1 fr_4 rfl inX9_add_X9 2 (by decide) lkX9_add_19 rfl rfl dX9_add_27 rfl ?_
    refine m_iconst (v := nI 1) C dX9_add_30 (by decide) rfl ?_
    refine m_iadd (v := nI ((min O.length lim) + 1)) C dX9_add_31 (nI_add _ _) rfl ?_
    refine m_put (ty := .int) (fs' := [.ref (ad ra), .int (nI lim), .int (nI ((min O.length lim) + 1)), .int (bI (decide (lim < O.length)))]) C r h1 fr_4 rfl inX9_add_X9 tyX9 tyX9_ok nmX9 2 (by decide) lkX9_add_19 rfl rfl (by decide +kernel) rfl rfl (by simp) rfl dX9_add_32 rfl (fun M5 g_5 F_5 => ?_)
    refine m_goto (tgt := 43) C dX9_add_35 (by decide) ?_
    refine m_vret C hr hk dX9_add_43 ?_
    have fra_6 : M5 ra = .inl (cy 1, cap, .inl (fun i => nI (va_up g O.length (lowb v) i))) := (F_5 ra (by simp <;> omega)).trans g_3
    refine ⟨⟨h1, h2, h3, h4, ?_, va_up g O.length (lowb v), ?_, fra_6, ?_⟩, ((F_3.sub (by simp)).tr (F_5.sub (by simp)))⟩
    · intro x hx
      rcases List.mem_append.mp hx with q | q
      · exact h5 x q
      · rw [List.mem_singleton.mp q]; exact lowb_lt v
    · rw [g_5, hm, List.length_append, List.length_singleton, Nat.min_eq_left (by omega : O.length + 1 ≤ lim), decide_eq_false (by omega : ¬ lim < O.length), decide_eq_false (by omega : ¬ lim < O.length + 1)]
    · intro i hi
      rw [List.length_append, List.length_singleton] at hi
      unfold va_up
      by_cases q : i = O.length
      · rw [if_pos q, q, gd_last]
      · rw [if_neg q, h8 i (by omega), gd_app (by omega)]
set_option maxRecDepth 20000 in
theorem inX9_at_X9 : ∀ w ∈ wsX90, w ∈ wsX9_at := by decide +kernel
set_option maxRecDepth 20000 in
theorem lkX9_at_19 : Cond.fieldLink RX9 19 "FormatDump$Row" "size" "I" ∈ wsX9_at := by decide +kernel
set_option maxRecDepth 20000 in
theorem lkX9_at_9 : Cond.fieldLink RX9 9 "FormatDump$Row" "cells" "[I" ∈ wsX9_at := by decide +kernel
set_option maxHeartbeats 4000000 in
set_option maxRecDepth 100000 in
theorem kX9_at {l : Launch} {D : va_G} {cy : Nat → ClassId} {ad : Nat → Nat} {n : Nat} {A : Nat → Prop} (hI : mI ad n A) {M : Nat → va_E} {r ra cap lim : Nat} {O : List Nat} (h : isRow cy ad n M r ra cap lim O) (k : Int32) : mMi l yX9_at wsX9_at { frames := 0, cells := 0, slots := 0, locals := 0 } D cy ad n A [.ref (ad r), .int k] M (fun x M' => x = rowAt (O.take lim) k ∧ M' = M) := by
  have hne := h.ne
  obtain ⟨h1, h2, h3, h4, h5, g, h6, h7, h8⟩ := h
  refine m_entry (cc := cX9_at) (maxL := 2) (ret := (some .int)) (own := RX9) (lv := [(0, .ref (ad r)), (1, .int (k))]) hI (by decide) rfl rfl (Nat.le_of_ble_eq_true rfl) rfl (fun p e s m args below meth c C hr hk => ?_)
  refine m_iload_n C dX9_at_0 rfl 1 rfl rfl ?_
  refine m_if_lt (tgt := 21) C dX9_at_1 (by decide) rfl (fun c_1 => ?_) (fun c_1 => ?_)
  · refine m_iconst (v := (-1)) C dX9_at_21 (by decide) rfl ?_
    refine m_iret C hr hk rfl dX9_at_22 ?_
    refine ⟨?_, rfl⟩
    unfold rowAt
    rw [if_neg (fun q => absurd c_1 (Int32.not_lt.mpr q.1))]
  · refine m_iload_n C dX9_at_4 rfl 1 rfl rfl ?_
    refine m_aload_n C dX9_at_5 rfl 0 rfl rfl ?_
    refine m_get C r h1 h6 rfl inX9_at_X9 2 (by decide) lkX9_at_19 rfl rfl dX9_at_6 rfl ?_
    refine m_icmp_ge (tgt := 21) C dX9_at_9 (by decide) rfl (fun c_9 => ?_) (fun c_9 => ?_)
    · refine m_iconst (v := (-1)) C dX9_at_21 (by decide) rfl ?_
      refine m_iret C hr hk rfl dX9_at_22 ?_
      refine ⟨?_, rfl⟩
      unfold rowAt
      rw [List.length_take, Nat.min_comm, if_neg (fun q => absurd q.2 (Int32.not_lt.mpr c_9))]
    · have hk0 : 0 ≤ k := Int32.not_lt.mp c_1
      have hk1 : k < nI (min O.length lim) := Int32.not_le.mp c_9
      obtain ⟨j, hj, hkj⟩ := nI_of (fun q => c_1 q)
      have hj2 : j < min O.length lim := (nI_ltI hj (by omega)).mp (hkj ▸ hk1)
      have hin : vp_in k cap := by rw [hkj]; exact vp_in_nI (by omega) (by omega)
      have hlt : k.toNatClampNeg < min O.length lim := by rw [hkj, nI_clamp hj]; exact hj2
      refine m_aload_n C dX9_at_12 rfl 0 rfl rfl ?_
      refine m_get C r h1 h6 rfl inX9_at_X9 0 (by decide) lkX9_at_9 rfl rfl dX9_at_13 rfl ?_
      refine m_iload_n C dX9_at_16 rfl 1 rfl rfl ?_
      refine m_iald (v := nI (O.getD k.toNatClampNeg 0)) C ra h2 h7 hin (by rw [h8 _ hlt]) dX9_at_17 rfl ?_
      refine m_goto (tgt := 22) C dX9_at_18 (by decide) ?_
      refine m_iret C hr hk rfl dX9_at_22 ?_
      refine ⟨?_, rfl⟩
      unfold rowAt
      rw [List.length_take, Nat.min_comm, if_pos ⟨hk0, hk1⟩, gd_take (by omega)]
