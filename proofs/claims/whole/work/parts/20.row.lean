set_option maxHeartbeats 4000000 in
set_option maxRecDepth 100000 in
theorem kX9_size {l : Launch} {D : va_G} {cy : Nat → ClassId} {ad : Nat → Nat} {n : Nat} {A : Nat → Prop} (hI : mI ad n A) {M : Nat → va_E} {r ra cap lim : Nat} {O : List Nat} (h : isRow cy ad n M r ra cap lim O) : mMi l yX9_size (gW yX9_size cX9_size 1 (some .int)) { frames := 0, cells := 0, slots := 0, locals := 0 } D cy ad n A [.ref (ad r)] M (fun x M' => x = nI (min O.length lim) ∧ M' = M) := by
  have hne := h.ne
  obtain ⟨h1, h2, h3, h4, h5, g, h6, h7, h8⟩ := h
  refine m_entry (cc := cX9_size) (maxL := 1) (ret := (some .int)) (own := RX9) (lv := [(0, .ref (ad r))]) hI (by decide) rfl rfl (Nat.le_of_ble_eq_true rfl) rfl (fun pX eX sX mX aX bX tX cX C hrt0 hlk0 => ?_)
  refine m_aload_n (pc' := 1) C dX9_size_0 rfl 0 rfl rfl ?_
  refine m_get (pc' := 4) C r h1 h6 rfl inW_X9 2 (by decide) (gW_of tm_1_54) rfl rfl dX9_size_1 rfl ?_
  exact m_iret C hrt0 hlk0 rfl dX9_size_4 ⟨rfl, rfl⟩
set_option maxHeartbeats 4000000 in
set_option maxRecDepth 100000 in
theorem kX9_isOver {l : Launch} {D : va_G} {cy : Nat → ClassId} {ad : Nat → Nat} {n : Nat} {A : Nat → Prop} (hI : mI ad n A) {M : Nat → va_E} {r ra cap lim : Nat} {O : List Nat} (h : isRow cy ad n M r ra cap lim O) : mMi l yX9_isOver (gW yX9_isOver cX9_isOver 1 (some .boolean)) { frames := 0, cells := 0, slots := 0, locals := 0 } D cy ad n A [.ref (ad r)] M (fun x M' => x = bI (decide (lim < O.length)) ∧ M' = M) := by
  have hne := h.ne
  obtain ⟨h1, h2, h3, h4, h5, g, h6, h7, h8⟩ := h
  refine m_entry (cc := cX9_isOver) (maxL := 1) (ret := (some .boolean)) (own := RX9) (lv := [(0, .ref (ad r))]) hI (by decide) rfl rfl (Nat.le_of_ble_eq_true rfl) rfl (fun pX eX sX mX aX bX tX cX C hrt0 hlk0 => ?_)
  refine m_aload_n (pc' := 1) C dX9_isOver_0 rfl 0 rfl rfl ?_
  refine m_get (pc' := 4) C r h1 h6 rfl inW_X9 3 (by decide) (gW_of tm_1_55) rfl rfl dX9_isOver_1 rfl ?_
  exact m_iret C hrt0 hlk0 (nar_z _) dX9_isOver_4 ⟨rfl, rfl⟩
set_option maxHeartbeats 4000000 in
set_option maxRecDepth 100000 in
theorem kX9_clear {l : Launch} {D : va_G} {cy : Nat → ClassId} {ad : Nat → Nat} {n : Nat} {A : Nat → Prop} (hI : mI ad n A) {M : Nat → va_E} {r ra cap lim : Nat} (h : preRow cy ad n M r ra cap lim) : mMv l yX9_clear (gW yX9_clear cX9_clear 1 none) { frames := 0, cells := 0, slots := 0, locals := 0 } D cy ad n A [.ref (ad r)] M (fun M' => isRow cy ad n M' r ra cap lim [] ∧ Fr [r] M M') := by
  obtain ⟨h1, h2, h3, h4, sz, ov, g, h6, h7⟩ := h
  have hne : r ≠ ra := by
    intro q
    subst q
    rw [h6] at h7
    cases h7
  refine m_entry (cc := cX9_clear) (maxL := 1) (ret := none) (own := RX9) (lv := [(0, .ref (ad r))]) hI (by decide) rfl rfl (Nat.le_of_ble_eq_true rfl) rfl (fun pX eX sX mX aX bX tX cX C hrt0 hlk0 => ?_)
  refine m_aload_n (pc' := 1) C dX9_clear_0 rfl 0 rfl rfl ?_
  refine m_iconst (pc' := 2) (v := nI 0) C dX9_clear_1 (by decide) rfl ?_
  refine m_put (pc' := 5) (ty := .int) (fs' := [.ref (ad ra), .int (nI lim), .int (nI 0), .int (bI ov)]) C r h1 h6 rfl inW_X9 tyX9 tyX9_ok nmX9 2 (by decide) (gW_of tm_1_54) rfl rfl (by decide +kernel) rfl rfl (by simp) rfl dX9_clear_2 rfl (fun M1 g_1 F_1 => ?_)
  refine m_aload_n (pc' := 6) C dX9_clear_5 rfl 0 rfl rfl ?_
  refine m_iconst (pc' := 7) (v := bI false) C dX9_clear_6 (by decide) rfl ?_
  refine m_put (pc' := 10) (ty := .boolean) (fs' := [.ref (ad ra), .int (nI lim), .int (nI 0), .int (bI false)]) C r h1 g_1 rfl inW_X9 tyX9 tyX9_ok nmX9 3 (by decide) (gW_of tm_1_55) rfl rfl (by decide +kernel) (nar_z _) (fit_z _) (by simp) rfl dX9_clear_7 rfl (fun M2 g_2 F_2 => ?_)
  refine m_vret C hrt0 hlk0 dX9_clear_10 ?_
  have fra_3 : M1 ra = .inl (cy 1, cap, .inl (fun i => nI (g i))) := (F_1 ra (by simp <;> omega)).trans h7
  have fra_4 : M2 ra = .inl (cy 1, cap, .inl (fun i => nI (g i))) := (F_2 ra (by simp <;> omega)).trans fra_3
  exact ⟨⟨h1, h2, h3, h4, by simp, g, by rw [g_2]; simp [nI_0, bI, nI], fra_4, by simp⟩, ((F_1.sub (by simp)).tr (F_2.sub (by simp)))⟩
set_option maxHeartbeats 4000000 in
set_option maxRecDepth 100000 in
theorem kX9_add {l : Launch} {D : va_G} {cy : Nat → ClassId} {ad : Nat → Nat} {n : Nat} {A : Nat → Prop} (hI : mI ad n A) {M : Nat → va_E} {r ra cap lim : Nat} {O : List Nat} (h : isRow cy ad n M r ra cap lim O) (v : Int32) : mMv l yX9_add (gW yX9_add cX9_add 2 none) { frames := 0, cells := 0, slots := 0, locals := 0 } D cy ad n A [.ref (ad r), .int v] M (fun M' => isRow cy ad n M' r ra cap lim (O ++ [lowb v]) ∧ Fr [r, ra] M M') := by
  have hne := h.ne
  obtain ⟨h1, h2, h3, h4, h5, g, h6, h7, h8⟩ := h
  refine m_entry (cc := cX9_add) (maxL := 2) (ret := none) (own := RX9) (lv := [(0, .ref (ad r)), (1, .int (v))]) hI (by decide) rfl rfl (Nat.le_of_ble_eq_true rfl) rfl (fun pX eX sX mX aX bX tX cX C hrt0 hlk0 => ?_)
  refine m_aload_n (pc' := 1) C dX9_add_0 rfl 0 rfl rfl ?_
  refine m_get (pc' := 4) C r h1 h6 rfl inW_X9 2 (by decide) (gW_of tm_1_54) rfl rfl dX9_add_1 rfl ?_
  refine m_aload_n (pc' := 5) C dX9_add_4 rfl 0 rfl rfl ?_
  refine m_get (pc' := 8) C r h1 h6 rfl inW_X9 1 (by decide) (gW_of tm_1_53) rfl rfl dX9_add_5 rfl ?_
  refine m_icmp_ge (pc' := 11) (tgt := 38) C dX9_add_8 (by decide) rfl (fun c_8 => ?_) (fun c_8 => ?_)
  · have hge : lim ≤ O.length := by
      rcases Nat.lt_or_ge O.length lim with q | q
      · exact absurd c_8 (by rw [Nat.min_eq_left (by omega)]; exact nI_ge q (by omega))
      · exact q
    refine m_aload_n (pc' := 39) C dX9_add_38 rfl 0 rfl rfl ?_
    refine m_iconst (pc' := 40) (v := bI true) C dX9_add_39 (by decide) rfl ?_
    refine m_put (pc' := 43) (ty := .boolean) (fs' := [.ref (ad ra), .int (nI lim), .int (nI (min O.length lim)), .int (bI true)]) C r h1 h6 rfl inW_X9 tyX9 tyX9_ok nmX9 3 (by decide) (gW_of tm_1_55) rfl rfl (by decide +kernel) (nar_z _) (fit_z _) (by simp) rfl dX9_add_40 rfl (fun M1 g_1 F_1 => ?_)
    refine m_vret C hrt0 hlk0 dX9_add_43 ?_
    have fra_2 : M1 ra = .inl (cy 1, cap, .inl (fun i => nI (g i))) := (F_1 ra (by simp <;> omega)).trans h7
    refine ⟨⟨h1, h2, h3, h4, ?_, g, ?_, fra_2, ?_⟩, (F_1.sub (by simp))⟩
    · intro x hx
      rcases List.mem_append.mp hx with q | q
      · exact h5 x q
      · rw [List.mem_singleton.mp q]; exact lowb_lt v
    · rw [g_1, List.length_append, List.length_singleton, Nat.min_eq_right hge, Nat.min_eq_right (by omega : lim ≤ O.length + 1), decide_eq_true (by omega : lim < O.length + 1)]
    · intro i hi
      rw [List.length_append, List.length_singleton] at hi
      rw [h8 i (by omega), gd_app (by omega)]
  · have hlt : O.length < lim := by
      rcases Nat.lt_or_ge O.length lim with q | q
      · exact q
      · exact absurd (by rw [Nat.min_eq_right q]; exact nI_le (Nat.le_refl _) (by omega)) c_8
    have hm : min O.length lim = O.length := Nat.min_eq_left (by omega)
    refine m_aload_n (pc' := 12) C dX9_add_11 rfl 0 rfl rfl ?_
    refine m_get (pc' := 15) C r h1 h6 rfl inW_X9 0 (by decide) (gW_of tm_1_52) rfl rfl dX9_add_12 rfl ?_
    refine m_aload_n (pc' := 16) C dX9_add_15 rfl 0 rfl rfl ?_
    refine m_get (pc' := 19) C r h1 h6 rfl inW_X9 2 (by decide) (gW_of tm_1_54) rfl rfl dX9_add_16 rfl ?_
    refine m_iload_n (pc' := 20) C dX9_add_19 rfl 1 rfl rfl ?_
    refine m_sipush (pc' := 23) (v := nI 255) C dX9_add_20 (by decide) rfl ?_
    refine m_iand (pc' := 24) (v := nI (lowb v)) C dX9_add_23 (and255 v) rfl ?_
    refine m_iast (pc' := 25) (E' := .inl (cy 1, cap, .inl (fun i => nI (va_up g O.length (lowb v) i)))) C ra h2 h7 (vp_in_nI (by omega) (by omega)) (by rw [nI_clamp (by omega), hm, upd_nI]) dX9_add_24 rfl (fun M3 g_3 F_3 => ?_)
    refine m_aload_n (pc' := 26) C dX9_add_25 rfl 0 rfl rfl ?_
    refine m_dup (pc' := 27) C dX9_add_26 rfl rfl ?_
    have fr_4 : M3 r = .inr (9, [.ref (ad ra), .int (nI lim), .int (nI (min O.length lim)), .int (bI (decide (lim < O.length)))]) := (F_3 r (by simp <;> omega)).trans h6
    refine m_get (pc' := 30) C r h1 fr_4 rfl inW_X9 2 (by decide) (gW_of tm_1_54) rfl rfl dX9_add_27 rfl ?_
    refine m_iconst (pc' := 31) (v := nI 1) C dX9_add_30 (by decide) rfl ?_
    refine m_iadd (pc' := 32) (v := nI ((min O.length lim) + 1)) C dX9_add_31 (nI_add _ _) rfl ?_
    refine m_put (pc' := 35) (ty := .int) (fs' := [.ref (ad ra), .int (nI lim), .int (nI ((min O.length lim) + 1)), .int (bI (decide (lim < O.length)))]) C r h1 fr_4 rfl inW_X9 tyX9 tyX9_ok nmX9 2 (by decide) (gW_of tm_1_54) rfl rfl (by decide +kernel) rfl rfl (by simp) rfl dX9_add_32 rfl (fun M5 g_5 F_5 => ?_)
    refine m_goto (tgt := 43) C dX9_add_35 (by decide) ?_
    refine m_vret C hrt0 hlk0 dX9_add_43 ?_
    have fra_6 : M5 ra = .inl (cy 1, cap, .inl (fun i => nI (va_up g O.length (lowb v) i))) := (F_5 ra (by simp <;> omega)).trans g_3
    refine ⟨⟨h1, h2, h3, h4, ?_, va_up g O.length (lowb v), ?_, fra_6, ?_⟩, ((F_3.sub (by simp)).tr (F_5.sub (by simp)))⟩
    · intro x hx
      rcases List.mem_append.mp hx with q | q
      · exact h5 x q
      · rw [List.mem_singleton.mp q]; exact lowb_lt v
    · rw [g_5, hm, List.length_append, List.length_singleton, Nat.min_eq_left (by omega : O.length + 1 ≤ lim), decide_eq_false (by omega : ¬ lim < O.length), decide_eq_false (by omega : ¬ lim < O.length + 1)]
    · intro i hi
      rw [List.length_append, List.length_singleton] at hi
      unfold va_up
      by_cases q : i = O.length
      · rw [if_pos q, q, gd_last]
      · rw [if_neg q, h8 i (by omega), gd_app (by omega)]
set_option maxHeartbeats 4000000 in
set_option maxRecDepth 100000 in
theorem kX9_at {l : Launch} {D : va_G} {cy : Nat → ClassId} {ad : Nat → Nat} {n : Nat} {A : Nat → Prop} (hI : mI ad n A) {M : Nat → va_E} {r ra cap lim : Nat} {O : List Nat} (h : isRow cy ad n M r ra cap lim O) (k : Int32) : mMi l yX9_at (gW yX9_at cX9_at 2 (some .int)) { frames := 0, cells := 0, slots := 0, locals := 0 } D cy ad n A [.ref (ad r), .int k] M (fun x M' => x = rowAt (O.take lim) k ∧ M' = M) := by
  have hne := h.ne
  obtain ⟨h1, h2, h3, h4, h5, g, h6, h7, h8⟩ := h
  refine m_entry (cc := cX9_at) (maxL := 2) (ret := (some .int)) (own := RX9) (lv := [(0, .ref (ad r)), (1, .int (k))]) hI (by decide) rfl rfl (Nat.le_of_ble_eq_true rfl) rfl (fun pX eX sX mX aX bX tX cX C hrt0 hlk0 => ?_)
  refine m_iload_n (pc' := 1) C dX9_at_0 rfl 1 rfl rfl ?_
  refine m_if_lt (pc' := 4) (tgt := 21) C dX9_at_1 (by decide) rfl (fun c_1 => ?_) (fun c_1 => ?_)
  · refine m_iconst (pc' := 22) (v := (-1)) C dX9_at_21 (by decide) rfl ?_
    refine m_iret C hrt0 hlk0 rfl dX9_at_22 ?_
    refine ⟨?_, rfl⟩
    unfold rowAt
    rw [if_neg (fun q => absurd c_1 (Int32.not_lt.mpr q.1))]
  · refine m_iload_n (pc' := 5) C dX9_at_4 rfl 1 rfl rfl ?_
    refine m_aload_n (pc' := 6) C dX9_at_5 rfl 0 rfl rfl ?_
    refine m_get (pc' := 9) C r h1 h6 rfl inW_X9 2 (by decide) (gW_of tm_1_54) rfl rfl dX9_at_6 rfl ?_
    refine m_icmp_ge (pc' := 12) (tgt := 21) C dX9_at_9 (by decide) rfl (fun c_9 => ?_) (fun c_9 => ?_)
    · refine m_iconst (pc' := 22) (v := (-1)) C dX9_at_21 (by decide) rfl ?_
      refine m_iret C hrt0 hlk0 rfl dX9_at_22 ?_
      refine ⟨?_, rfl⟩
      unfold rowAt
      rw [List.length_take, Nat.min_comm, if_neg (fun q => absurd q.2 (Int32.not_lt.mpr c_9))]
    · have hk0 : 0 ≤ k := Int32.not_lt.mp c_1
      have hk1 : k < nI (min O.length lim) := Int32.not_le.mp c_9
      obtain ⟨j, hj, hkj⟩ := nI_of (fun q => c_1 q)
      have hj2 : j < min O.length lim := (nI_ltI hj (by omega)).mp (hkj ▸ hk1)
      have hin : vp_in k cap := by rw [hkj]; exact vp_in_nI (by omega) (by omega)
      have hlt : k.toNatClampNeg < min O.length lim := by rw [hkj, nI_clamp hj]; exact hj2
      refine m_aload_n (pc' := 13) C dX9_at_12 rfl 0 rfl rfl ?_
      refine m_get (pc' := 16) C r h1 h6 rfl inW_X9 0 (by decide) (gW_of tm_1_52) rfl rfl dX9_at_13 rfl ?_
      refine m_iload_n (pc' := 17) C dX9_at_16 rfl 1 rfl rfl ?_
      refine m_iald (pc' := 18) (v := nI (O.getD k.toNatClampNeg 0)) C ra h2 h7 hin (by rw [h8 _ hlt]) dX9_at_17 rfl ?_
      refine m_goto (tgt := 22) C dX9_at_18 (by decide) ?_
      refine m_iret C hrt0 hlk0 rfl dX9_at_22 ?_
      refine ⟨?_, rfl⟩
      unfold rowAt
      rw [List.length_take, Nat.min_comm, if_pos ⟨hk0, hk1⟩, gd_take (by omega)]
set_option maxHeartbeats 4000000 in
set_option maxRecDepth 100000 in
theorem kX9_limitTo {l : Launch} {D : va_G} {cy : Nat → ClassId} {ad : Nat → Nat} {n : Nat} {A : Nat → Prop} (hI : mI ad n A) {M : Nat → va_E} {r ra cap lim : Nat} (h : preRow cy ad n M r ra cap lim) {k : Nat} (hkc : k ≤ cap) : mMv l yX9_limitTo (gW yX9_limitTo cX9_limitTo 2 none) { frames := 1, cells := 0, slots := 0, locals := 23 } D cy ad n A [.ref (ad r), .int (nI k)] M (fun M' => preRow cy ad n M' r ra cap k ∧ Fr [r] M M') := by
  obtain ⟨h1, h2, h3, h4, sz, ov, g, h6, h7⟩ := h
  have hne : r ≠ ra := by
    intro q
    subst q
    rw [h6] at h7
    cases h7
  refine m_entry (cc := cX9_limitTo) (maxL := 2) (ret := none) (own := RX9) (lv := [(0, .ref (ad r)), (1, .int (nI k))]) hI (by decide) rfl rfl (Nat.le_of_ble_eq_true rfl) rfl (fun pX eX sX mX aX bX tX cX C hrt0 hlk0 => ?_)
  refine m_aload_n (pc' := 1) C dX9_limitTo_0 rfl 0 rfl rfl ?_
  refine m_iconst (pc' := 2) (v := nI 0) C dX9_limitTo_1 (by decide) rfl ?_
  refine m_iload_n (pc' := 3) C dX9_limitTo_2 rfl 1 rfl rfl ?_
  refine m_aload_n (pc' := 4) C dX9_limitTo_3 rfl 0 rfl rfl ?_
  refine m_get (pc' := 7) C r h1 h6 rfl inW_X9 0 (by decide) (gW_of tm_1_52) rfl rfl dX9_limitTo_4 rfl ?_
  refine m_alen (pc' := 8) (v := nI cap) C 1 ra h2 h7 rfl rfl dX9_limitTo_7 rfl ?_
  refine m_mmin (pc' := 11) (v := nI k) C (gW_of tm_3_84) (gW_of tm_3_85) (gW_of tm_1_19) (gW_of tm_3_86) (by decide) (Nat.le_of_ble_eq_true rfl) ⟨by decide, by decide⟩ (if_neg (nI_nlt hkc (by omega))) dX9_limitTo_8 rfl ?_
  refine m_mmax (pc' := 14) (v := nI k) C (gW_of tm_3_87) (gW_of tm_3_65) (gW_of tm_1_19) (gW_of tm_3_66) (by decide) (Nat.le_of_ble_eq_true rfl) ⟨by decide, by decide⟩ (max0_nI (by omega)) dX9_limitTo_11 rfl ?_
  refine m_put (pc' := 17) (ty := .int) (fs' := [.ref (ad ra), .int (nI k), .int (sz), .int (bI ov)]) C r h1 h6 rfl inW_X9 tyX9 tyX9_ok nmX9 1 (by decide) (gW_of tm_1_53) rfl rfl (by decide +kernel) rfl rfl (by simp) rfl dX9_limitTo_14 rfl (fun M1 g_1 F_1 => ?_)
  refine m_vret C hrt0 hlk0 dX9_limitTo_17 ?_
  have fra_2 : M1 ra = .inl (cy 1, cap, .inl (fun i => nI (g i))) := (F_1 ra (by simp <;> omega)).trans h7
  exact ⟨⟨h1, h2, hkc, h4, sz, ov, g, g_1, fra_2⟩, (F_1.sub (by simp))⟩
set_option maxHeartbeats 4000000 in
set_option maxRecDepth 100000 in
theorem kX9_change {l : Launch} {D : va_G} {cy : Nat → ClassId} {ad : Nat → Nat} {n : Nat} {A : Nat → Prop} (hI : mI ad n A) {M : Nat → va_E} {r ra cap lim : Nat} {O : List Nat} (h : isRow cy ad n M r ra cap lim O) {k : Nat} (hk1 : k < O.length) (hk2 : k < lim) (v : Int32) : mMv l yX9_change (gW yX9_change cX9_change 3 none) { frames := 0, cells := 0, slots := 0, locals := 0 } D cy ad n A [.ref (ad r), .int (nI k), .int v] M (fun M' => isRow cy ad n M' r ra cap lim (O.set k (lowb v)) ∧ Fr [r, ra] M M') := by
  have hne := h.ne
  obtain ⟨h1, h2, h3, h4, h5, g, h6, h7, h8⟩ := h
  refine m_entry (cc := cX9_change) (maxL := 3) (ret := none) (own := RX9) (lv := [(0, .ref (ad r)), (1, .int (nI k)), (2, .int (v))]) hI (by decide) rfl rfl (Nat.le_of_ble_eq_true rfl) rfl (fun pX eX sX mX aX bX tX cX C hrt0 hlk0 => ?_)
  refine m_iload_n (pc' := 1) C dX9_change_0 rfl 1 rfl rfl ?_
  refine m_if_lt (pc' := 4) (tgt := 23) C dX9_change_1 (by decide) rfl (fun c_1 => ?_) (fun c_1 => ?_)
  · exact absurd c_1 (nI_pos (by omega))
  · refine m_iload_n (pc' := 5) C dX9_change_4 rfl 1 rfl rfl ?_
    refine m_aload_n (pc' := 6) C dX9_change_5 rfl 0 rfl rfl ?_
    refine m_get (pc' := 9) C r h1 h6 rfl inW_X9 2 (by decide) (gW_of tm_1_54) rfl rfl dX9_change_6 rfl ?_
    refine m_icmp_ge (pc' := 12) (tgt := 23) C dX9_change_9 (by decide) rfl (fun c_9 => ?_) (fun c_9 => ?_)
    · exact absurd c_9 (nI_ge (by omega) (by omega))
    · refine m_aload_n (pc' := 13) C dX9_change_12 rfl 0 rfl rfl ?_
      refine m_get (pc' := 16) C r h1 h6 rfl inW_X9 0 (by decide) (gW_of tm_1_52) rfl rfl dX9_change_13 rfl ?_
      refine m_iload_n (pc' := 17) C dX9_change_16 rfl 1 rfl rfl ?_
      refine m_iload_n (pc' := 18) C dX9_change_17 rfl 2 rfl rfl ?_
      refine m_sipush (pc' := 21) (v := nI 255) C dX9_change_18 (by decide) rfl ?_
      refine m_iand (pc' := 22) (v := nI (lowb v)) C dX9_change_21 (and255 v) rfl ?_
      refine m_iast (pc' := 23) (E' := .inl (cy 1, cap, .inl (fun i => nI (va_up g k (lowb v) i)))) C ra h2 h7 (vp_in_nI (by omega) (by omega)) (by rw [nI_clamp (by omega), upd_nI]) dX9_change_22 rfl (fun M1 g_1 F_1 => ?_)
      refine m_vret C hrt0 hlk0 dX9_change_23 ?_
      have fr_2 : M1 r = .inr (9, [.ref (ad ra), .int (nI lim), .int (nI (min O.length lim)), .int (bI (decide (lim < O.length)))]) := (F_1 r (by simp <;> omega)).trans h6
      refine ⟨⟨h1, h2, h3, h4, ?_, va_up g k (lowb v), ?_, g_1, ?_⟩, (F_1.sub (by simp))⟩
      · intro x hx
        rcases List.mem_or_eq_of_mem_set hx with q | q
        · exact h5 x q
        · rw [q]; exact lowb_lt v
      · rw [fr_2, List.length_set]
      · intro i hi
        rw [List.length_set] at hi
        unfold va_up
        rw [List.getD_eq_getElem?_getD, List.getElem?_set]
        by_cases q : i = k
        · rw [if_pos q, if_pos q.symm, if_pos (by omega)]; rfl
        · rw [if_neg q, if_neg (fun z => q z.symm), h8 i hi, List.getD_eq_getElem?_getD]
set_option maxHeartbeats 4000000 in
set_option maxRecDepth 100000 in
theorem kX9_keepFirst {l : Launch} {D : va_G} {cy : Nat → ClassId} {ad : Nat → Nat} {n : Nat} {A : Nat → Prop} (hI : mI ad n A) {M : Nat → va_E} {r ra cap lim : Nat} {O : List Nat} (h : isRow cy ad n M r ra cap lim O) (hO : O.length ≤ lim) {k : Nat} (hk1 : k < 2 ^ 31) : mMi l yX9_keepFirst (gW yX9_keepFirst cX9_keepFirst 4 (some .int)) { frames := 1, cells := 0, slots := 0, locals := 23 } D cy ad n A [.ref (ad r), .int (nI k)] M (fun x M' => x = nI (O.length - min k O.length) ∧ isRow cy ad n M' r ra cap lim (O.take k) ∧ Fr [r] M M') := by
  have hne := h.ne
  obtain ⟨h1, h2, h3, h4, h5, g, h6, h7, h8⟩ := h
  have hm : min O.length lim = O.length := Nat.min_eq_left hO
  refine m_entry (cc := cX9_keepFirst) (maxL := 4) (ret := (some .int)) (own := RX9) (lv := [(0, .ref (ad r)), (1, .int (nI k))]) hI (by decide) rfl rfl (Nat.le_of_ble_eq_true rfl) rfl (fun pX eX sX mX aX bX tX cX C hrt0 hlk0 => ?_)
  refine m_iconst (pc' := 1) (v := nI 0) C dX9_keepFirst_0 (by decide) rfl ?_
  refine m_iload_n (pc' := 2) C dX9_keepFirst_1 rfl 1 rfl rfl ?_
  refine m_aload_n (pc' := 3) C dX9_keepFirst_2 rfl 0 rfl rfl ?_
  refine m_get (pc' := 6) C r h1 h6 rfl inW_X9 2 (by decide) (gW_of tm_1_54) rfl rfl dX9_keepFirst_3 rfl ?_
  refine m_mmin (pc' := 9) (v := nI (min k O.length)) C (gW_of tm_3_84) (gW_of tm_3_85) (gW_of tm_1_19) (gW_of tm_3_86) (by decide) (Nat.le_of_ble_eq_true rfl) ⟨by decide, by decide⟩ (by rw [hm]; exact min_nI hk1 (by omega)) dX9_keepFirst_6 rfl ?_
  refine m_mmax (pc' := 12) (v := nI (min k O.length)) C (gW_of tm_3_87) (gW_of tm_3_65) (gW_of tm_1_19) (gW_of tm_3_66) (by decide) (Nat.le_of_ble_eq_true rfl) ⟨by decide, by decide⟩ (max0_nI (by omega)) dX9_keepFirst_9 rfl ?_
  refine m_istore_n (pc' := 13) (lv' := [(2, .int (nI (min k O.length))), (0, .ref (ad r)), (1, .int (nI k))]) C dX9_keepFirst_12 rfl (by decide) rfl rfl ?_
  refine m_aload_n (pc' := 14) C dX9_keepFirst_13 rfl 1 rfl rfl ?_
  refine m_get (pc' := 17) C r h1 h6 rfl inW_X9 2 (by decide) (gW_of tm_1_54) rfl rfl dX9_keepFirst_14 rfl ?_
  refine m_iload_n (pc' := 18) C dX9_keepFirst_17 rfl 0 rfl rfl ?_
  refine m_isub (pc' := 19) (v := nI (O.length - min k O.length)) C dX9_keepFirst_18 (by rw [hm]; exact pk_sub (Nat.min_le_right _ _)) rfl ?_
  refine m_istore_n (pc' := 20) (lv' := [(3, .int (nI (O.length - min k O.length))), (2, .int (nI (min k O.length))), (0, .ref (ad r)), (1, .int (nI k))]) C dX9_keepFirst_19 rfl (by decide) rfl rfl ?_
  refine m_aload_n (pc' := 21) C dX9_keepFirst_20 rfl 2 rfl rfl ?_
  refine m_iload_n (pc' := 22) C dX9_keepFirst_21 rfl 1 rfl rfl ?_
  refine m_put (pc' := 25) (ty := .int) (fs' := [.ref (ad ra), .int (nI lim), .int (nI (min k O.length)), .int (bI (decide (lim < O.length)))]) C r h1 h6 rfl inW_X9 tyX9 tyX9_ok nmX9 2 (by decide) (gW_of tm_1_54) rfl rfl (by decide +kernel) rfl rfl (by simp) rfl dX9_keepFirst_22 rfl (fun M1 g_1 F_1 => ?_)
  refine m_iload_n (pc' := 26) C dX9_keepFirst_25 rfl 0 rfl rfl ?_
  refine m_iret C hrt0 hlk0 rfl dX9_keepFirst_26 ?_
  have fra_2 : M1 ra = .inl (cy 1, cap, .inl (fun i => nI (g i))) := (F_1 ra (by simp <;> omega)).trans h7
  refine ⟨rfl, ⟨h1, h2, h3, h4, fun x hx => h5 x (List.mem_of_mem_take hx), g, ?_, fra_2, ?_⟩, (F_1.sub (by simp))⟩
  · rw [g_1, List.length_take, Nat.min_eq_left (by omega : min k O.length ≤ lim), decide_eq_false (by omega : ¬ lim < O.length), decide_eq_false (by omega : ¬ lim < min k O.length)]
  · intro i hi
    rw [List.length_take] at hi
    rw [h8 i (by omega), gd_take (by omega)]
set_option maxHeartbeats 4000000 in
set_option maxRecDepth 100000 in
theorem kX9_addMany {l : Launch} {D : va_G} {cy : Nat → ClassId} {ad : Nat → Nat} {n : Nat} {A : Nat → Prop} (hI : mI ad n A) {M : Nat → va_E} {r ra cap lim : Nat} {O : List Nat} (h : isRow cy ad n M r ra cap lim O) (v q : Int32) : mMv l yX9_addMany (gW yX9_addMany cX9_addMany 4 none) { frames := 1, cells := 0, slots := 0, locals := 21 } D cy ad n A [.ref (ad r), .int v, .int q] M (fun M' => isRow cy ad n M' r ra cap lim (O ++ List.replicate q.toNatClampNeg (lowb v)) ∧ Fr [r, ra] M M') := by
  have hne := h.ne
  refine m_entry (cc := cX9_addMany) (maxL := 4) (ret := none) (own := RX9) (lv := [(0, .ref (ad r)), (1, .int (v)), (2, .int (q))]) hI (by decide) rfl rfl (Nat.le_of_ble_eq_true rfl) rfl (fun pX eX sX mX aX bX tX cX C hrt0 hlk0 => ?_)
  refine m_iconst (pc' := 1) (v := nI 0) C dX9_addMany_0 (by decide) rfl ?_
  refine m_istore_n (pc' := 2) (lv' := [(3, .int (nI 0)), (0, .ref (ad r)), (1, .int (v)), (2, .int (q))]) C dX9_addMany_1 rfl (by decide) rfl rfl ?_
  refine m_lv [0, 1, 2, 3] rfl ?_
  refine m_loop (σ := Nat × (Nat → va_E)) (fun a => a.2) (fun a => [(3, .int (nI a.1)), (0, .ref (ad r)), (1, .int (v)), (2, .int (q))]) (fun a => a.1 ≤ q.toNatClampNeg ∧ isRow cy ad n a.2 r ra cap lim (O ++ List.replicate a.1 (lowb v)) ∧ Fr [r, ra] M a.2) (fun a => q.toNatClampNeg - a.1) (0, M) (⟨Nat.zero_le _, by simpa using h, Fr.rf⟩) ?_
  rintro ⟨k, Mk⟩ hinv ih
  dsimp only at hinv ih ⊢
  obtain ⟨hkq, hR, hF0⟩ := hinv
  have hq := clamp_lt q
  refine m_iload_n (pc' := 3) C dX9_addMany_2 rfl 0 rfl rfl ?_
  refine m_iload_n (pc' := 4) C dX9_addMany_3 rfl 3 rfl rfl ?_
  refine m_icmp_ge (pc' := 7) (tgt := 18) C dX9_addMany_4 (by decide) rfl (fun c_4 => ?_) (fun c_4 => ?_)
  · have hge : q.toNatClampNeg ≤ k := (le_clamp (by omega)).mp c_4
    refine m_vret C hrt0 hlk0 dX9_addMany_18 ?_
    have hkk : k = q.toNatClampNeg := by omega
    subst hkk
    exact ⟨hR, hF0⟩
  · have hlt : k < q.toNatClampNeg := by
      rcases Nat.lt_or_ge k q.toNatClampNeg with z | z
      · exact z
      · exact absurd ((le_clamp (by omega)).mpr z) c_4
    refine m_aload_n (pc' := 8) C dX9_addMany_7 rfl 1 rfl rfl ?_
    refine m_iload_n (pc' := 9) C dX9_addMany_8 rfl 2 rfl rfl ?_
    refine m_callVv (pc' := 12) (As := [.int (v)]) (rest := []) C (kX9_add hI hR v) (cwV 1 C.1.2.2.2.2 (goodV tm_3_44 tm_2_211 tm_2_212 tm_1_3 tm_2_213) rfl rfl rfl (by decide +kernel) ⟨by decide, by decide⟩) hR.1 hR.ob rfl rfl rfl (Nat.le_of_ble_eq_true rfl) dX9_addMany_9 rfl ⟨by decide, by decide⟩ (fun M1 q_1 => ?_)
    obtain ⟨R_1, F_1⟩ := q_1
    refine m_iinc (pc' := 15) (v := nI (k + 1)) (lv' := [(3, .int (nI (k + 1))), (0, .ref (ad r)), (1, .int (v)), (2, .int (q))]) C dX9_addMany_12 (k := 0) rfl (nI_add _ _) (by decide) rfl rfl ?_
    refine m_goto (tgt := 2) C dX9_addMany_15 (by decide) ?_
    refine m_lv [0, 1, 2, 3] rfl ?_
    exact ih (k + 1, M1) (⟨hlt, by rw [List.replicate_succ', ← List.append_assoc]; exact R_1, hF0.tr (F_1.sub (by simp))⟩) (by simp only; omega)
set_option maxHeartbeats 4000000 in
set_option maxRecDepth 100000 in
theorem kX9_copyOf {l : Launch} {D : va_G} {cy : Nat → ClassId} {ad : Nat → Nat} {n : Nat} {A : Nat → Prop} (hI : mI ad n A) {M : Nat → va_E} {r ra cap lim : Nat} {O : List Nat} (h : isRow cy ad n M r ra cap lim O) {o oa pcap plim : Nat} {P : List Nat} (hp : isRow cy ad n M o oa pcap plim P) (hd : o ≠ r ∧ o ≠ ra ∧ oa ≠ r ∧ oa ≠ ra) : mMv l yX9_copyOf (gW yX9_copyOf cX9_copyOf 3 none) { frames := 1, cells := 0, slots := 0, locals := 21 } D cy ad n A [.ref (ad r), .ref (ad o)] M (fun M' => isRow cy ad n M' r ra cap lim (P.take plim) ∧ Fr [r, ra] M M') := by
  have hne := h.ne
  have hlp : (P.take plim).length ≤ 2000 := by
    rw [List.length_take]
    have := hp.2.2.1
    have := hp.2.2.2.1
    omega
  have h255 : ∀ x ∈ P.take plim, x < 256 := fun x hx => hp.2.2.2.2.1 x (List.mem_of_mem_take hx)
  refine m_entry (cc := cX9_copyOf) (maxL := 3) (ret := none) (own := RX9) (lv := [(0, .ref (ad r)), (1, .ref (ad o))]) hI (by decide) rfl rfl (Nat.le_of_ble_eq_true rfl) rfl (fun pX eX sX mX aX bX tX cX C hrt0 hlk0 => ?_)
  refine m_aload_n (pc' := 1) C dX9_copyOf_0 rfl 0 rfl rfl ?_
  refine m_callVv (pc' := 4) (As := []) (rest := []) C (kX9_clear hI h.pre) (cwV 0 C.1.2.2.2.2 (goodV tm_3_53 tm_2_99 tm_2_100 tm_1_3 tm_2_101) rfl rfl rfl (by decide +kernel) ⟨by decide, by decide⟩) h.1 h.ob rfl rfl rfl (Nat.le_of_ble_eq_true rfl) dX9_copyOf_1 rfl ⟨by decide, by decide⟩ (fun M1 q_1 => ?_)
  obtain ⟨R_1, F_1⟩ := q_1
  refine m_iconst (pc' := 5) (v := nI 0) C dX9_copyOf_4 (by decide) rfl ?_
  refine m_istore_n (pc' := 6) (lv' := [(2, .int (nI 0)), (0, .ref (ad r)), (1, .ref (ad o))]) C dX9_copyOf_5 rfl (by decide) rfl rfl ?_
  refine m_lv [0, 1, 2] rfl ?_
  refine m_loop (σ := Nat × (Nat → va_E)) (fun a => a.2) (fun a => [(2, .int (nI a.1)), (0, .ref (ad r)), (1, .ref (ad o))]) (fun a => a.1 ≤ (P.take plim).length ∧ isRow cy ad n a.2 r ra cap lim ((P.take plim).take a.1) ∧ Fr [r, ra] M a.2) (fun a => (P.take plim).length - a.1) (0, M1) (⟨Nat.zero_le _, R_1, (F_1.sub (by simp))⟩) ?_
  rintro ⟨k, Mk⟩ hinv ih
  dsimp only at hinv ih ⊢
  obtain ⟨hkq, hR, hF0⟩ := hinv
  refine m_iload_n (pc' := 7) C dX9_copyOf_6 rfl 0 rfl rfl ?_
  refine m_aload_n (pc' := 8) C dX9_copyOf_7 rfl 2 rfl rfl ?_
  have Ro_2 := hp.fr hF0 (by simp <;> omega) (by simp <;> omega)
  refine m_callVi (pc' := 11) (As := []) (rest := [.int (nI k)]) C (kX9_size hI Ro_2) (cwV 0 C.1.2.2.2.2 (goodV tm_3_54 tm_2_95 tm_2_96 tm_1_3 tm_2_97) rfl rfl rfl (by decide +kernel) ⟨by decide, by decide⟩) Ro_2.1 Ro_2.ob rfl rfl rfl (Nat.le_of_ble_eq_true rfl) dX9_copyOf_8 rfl ⟨by decide, by decide⟩ (fun x_3 N_3 q_3 => ?_)
  obtain ⟨e_3, E_3⟩ := q_3
  replace E_3 := E_3.symm
  subst E_3
  replace e_3 : x_3 = nI (P.take plim).length := e_3.trans (by rw [List.length_take, Nat.min_comm])
  replace e_3 := e_3.symm
  subst e_3
  refine m_icmp_ge (pc' := 14) (tgt := 29) C dX9_copyOf_11 (by decide) rfl (fun c_11 => ?_) (fun c_11 => ?_)
  · have hge : (P.take plim).length ≤ k := by
      rcases Nat.lt_or_ge k (P.take plim).length with z | z
      · exact absurd c_11 (nI_ge z (by omega))
      · exact z
    refine m_vret C hrt0 hlk0 dX9_copyOf_29 ?_
    have hkk : (P.take plim).take k = P.take plim := List.take_of_length_le hge
    rw [hkk] at hR
    exact ⟨hR, hF0⟩
  · have hlt : k < (P.take plim).length := by
      rcases Nat.lt_or_ge k (P.take plim).length with z | z
      · exact z
      · exact absurd (nI_le z (by omega)) c_11
    refine m_aload_n (pc' := 15) C dX9_copyOf_14 rfl 1 rfl rfl ?_
    refine m_aload_n (pc' := 16) C dX9_copyOf_15 rfl 2 rfl rfl ?_
    refine m_iload_n (pc' := 17) C dX9_copyOf_16 rfl 0 rfl rfl ?_
    refine m_callVi (pc' := 20) (As := [.int (nI k)]) (rest := [.ref (ad r)]) C (kX9_at hI Ro_2 (nI k)) (cwV 1 C.1.2.2.2.2 (goodV tm_3_55 tm_2_128 tm_2_129 tm_1_3 tm_2_130) rfl rfl rfl (by decide +kernel) ⟨by decide, by decide⟩) Ro_2.1 Ro_2.ob rfl rfl rfl (Nat.le_of_ble_eq_true rfl) dX9_copyOf_17 rfl ⟨by decide, by decide⟩ (fun x_4 N_4 q_4 => ?_)
    obtain ⟨e_4, E_4⟩ := q_4
    replace E_4 := E_4.symm
    subst E_4
    replace e_4 : x_4 = nI ((P.take plim).getD k 0) := e_4.trans (by rw [rowAt_nI (by omega) (by omega)]; unfold chAt; rw [if_pos hlt])
    replace e_4 := e_4.symm
    subst e_4
    refine m_callVv (pc' := 23) (As := [.int (nI ((P.take plim).getD k 0))]) (rest := []) C (kX9_add hI hR (nI ((P.take plim).getD k 0))) (cwV 1 C.1.2.2.2.2 (goodV tm_3_44 tm_2_211 tm_2_212 tm_1_3 tm_2_213) rfl rfl rfl (by decide +kernel) ⟨by decide, by decide⟩) hR.1 hR.ob rfl rfl rfl (Nat.le_of_ble_eq_true rfl) dX9_copyOf_20 rfl ⟨by decide, by decide⟩ (fun M5 q_5 => ?_)
    obtain ⟨R_5, F_5⟩ := q_5
    rw [take_gd hlt h255] at R_5
    refine m_iinc (pc' := 26) (v := nI (k + 1)) (lv' := [(2, .int (nI (k + 1))), (0, .ref (ad r)), (1, .ref (ad o))]) C dX9_copyOf_23 (k := 0) rfl (nI_add _ _) (by decide) rfl rfl ?_
    refine m_goto (tgt := 6) C dX9_copyOf_26 (by decide) ?_
    refine m_lv [0, 1, 2] rfl ?_
    exact ih (k + 1, M5) (⟨hlt, R_5, ((hF0.sub (by simp)).tr (F_5.sub (by simp)))⟩) (by simp only; omega)
