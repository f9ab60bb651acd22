set_option maxHeartbeats 4000000 in
set_option maxRecDepth 100000 in
theorem kX1_count {l : Launch} {D : va_G} {cy : Nat → ClassId} {ad : Nat → Nat} {n : Nat} {A : Nat → Prop} (hI : mI ad n A) {M : Nat → va_E} {xs : Nat → Arg} {cnt tk od : Nat} (h : isArgs cy ad n M xs cnt tk od) : mMi l yX1_count (gW yX1_count cX1_count 1 (some .int)) { frames := 0, cells := 0, slots := 0, locals := 0 } D cy ad n A [.ref (ad 9)] M (fun res M' => res = nI cnt ∧ M' = M) := by
  obtain ⟨h1, h2, h3, h4, h5, ⟨f, h6, h7⟩, h8, rv, ro, h9⟩ := h
  refine m_entry (cc := cX1_count) (maxL := 1) (ret := (some .int)) (own := RX1) (lv := [(0, .ref (ad 9))]) hI (by decide) rfl rfl (Nat.le_of_ble_eq_true rfl) rfl (fun pX eX sX mX aX bX tX cX C hrt0 hlk0 => ?_)
  refine m_aload_n (pc' := 1) C dX1_count_0 rfl 0 rfl rfl ?_
  refine m_get (pc' := 4) C 9 (by omega) h5 rfl inW_X1 2 (by decide) (gW_of tm_1_111) rfl rfl dX1_count_1 rfl ?_
  exact m_iret C hrt0 hlk0 rfl dX1_count_4 ⟨rfl, rfl⟩
set_option maxHeartbeats 4000000 in
set_option maxRecDepth 100000 in
theorem kX1_taken {l : Launch} {D : va_G} {cy : Nat → ClassId} {ad : Nat → Nat} {n : Nat} {A : Nat → Prop} (hI : mI ad n A) {M : Nat → va_E} {xs : Nat → Arg} {cnt tk od : Nat} (h : isArgs cy ad n M xs cnt tk od) : mMi l yX1_taken (gW yX1_taken cX1_taken 1 (some .int)) { frames := 0, cells := 0, slots := 0, locals := 0 } D cy ad n A [.ref (ad 9)] M (fun res M' => res = nI tk ∧ M' = M) := by
  obtain ⟨h1, h2, h3, h4, h5, ⟨f, h6, h7⟩, h8, rv, ro, h9⟩ := h
  refine m_entry (cc := cX1_taken) (maxL := 1) (ret := (some .int)) (own := RX1) (lv := [(0, .ref (ad 9))]) hI (by decide) rfl rfl (Nat.le_of_ble_eq_true rfl) rfl (fun pX eX sX mX aX bX tX cX C hrt0 hlk0 => ?_)
  refine m_aload_n (pc' := 1) C dX1_taken_0 rfl 0 rfl rfl ?_
  refine m_get (pc' := 4) C 9 (by omega) h5 rfl inW_X1 3 (by decide) (gW_of tm_1_112) rfl rfl dX1_taken_1 rfl ?_
  exact m_iret C hrt0 hlk0 rfl dX1_taken_4 ⟨rfl, rfl⟩
set_option maxHeartbeats 4000000 in
set_option maxRecDepth 100000 in
theorem kX1_oddTexts {l : Launch} {D : va_G} {cy : Nat → ClassId} {ad : Nat → Nat} {n : Nat} {A : Nat → Prop} (hI : mI ad n A) {M : Nat → va_E} {xs : Nat → Arg} {cnt tk od : Nat} (h : isArgs cy ad n M xs cnt tk od) : mMi l yX1_oddTexts (gW yX1_oddTexts cX1_oddTexts 1 (some .int)) { frames := 0, cells := 0, slots := 0, locals := 0 } D cy ad n A [.ref (ad 9)] M (fun res M' => res = nI od ∧ M' = M) := by
  obtain ⟨h1, h2, h3, h4, h5, ⟨f, h6, h7⟩, h8, rv, ro, h9⟩ := h
  refine m_entry (cc := cX1_oddTexts) (maxL := 1) (ret := (some .int)) (own := RX1) (lv := [(0, .ref (ad 9))]) hI (by decide) rfl rfl (Nat.le_of_ble_eq_true rfl) rfl (fun pX eX sX mX aX bX tX cX C hrt0 hlk0 => ?_)
  refine m_aload_n (pc' := 1) C dX1_oddTexts_0 rfl 0 rfl rfl ?_
  refine m_get (pc' := 4) C 9 (by omega) h5 rfl inW_X1 4 (by decide) (gW_of tm_1_113) rfl rfl dX1_oddTexts_1 rfl ?_
  exact m_iret C hrt0 hlk0 rfl dX1_oddTexts_4 ⟨rfl, rfl⟩
set_option maxHeartbeats 4000000 in
set_option maxRecDepth 100000 in
theorem kX1_clear {l : Launch} {D : va_G} {cy : Nat → ClassId} {ad : Nat → Nat} {n : Nat} {A : Nat → Prop} (hI : mI ad n A) {M : Nat → va_E} {xs : Nat → Arg} {cnt tk od : Nat} (h : isArgs cy ad n M xs cnt tk od) : mMv l yX1_clear (gW yX1_clear cX1_clear 1 none) { frames := 0, cells := 0, slots := 0, locals := 0 } D cy ad n A [.ref (ad 9)] M (fun M' => isArgs cy ad n M' xs 0 tk od ∧ Fr [9] M M') := by
  obtain ⟨h1, h2, h3, h4, h5, ⟨f, h6, h7⟩, h8, rv, ro, h9⟩ := h
  refine m_entry (cc := cX1_clear) (maxL := 1) (ret := none) (own := RX1) (lv := [(0, .ref (ad 9))]) hI (by decide) rfl rfl (Nat.le_of_ble_eq_true rfl) rfl (fun pX eX sX mX aX bX tX cX C hrt0 hlk0 => ?_)
  refine m_aload_n (pc' := 1) C dX1_clear_0 rfl 0 rfl rfl ?_
  refine m_iconst (pc' := 2) (v := nI 0) C dX1_clear_1 (by decide) rfl ?_
  refine m_put (pc' := 5) (ty := .int) (fs' := [.ref (ad 10), .ref (ad 35), .int (nI 0), .int (nI tk), .int (nI od)]) C 9 (by omega) h5 rfl inW_X1 tyX1 tyX1_ok nmX1 2 (by decide) (gW_of tm_1_111) rfl rfl (by decide +kernel) rfl rfl (by simp) rfl dX1_clear_2 rfl (fun M1 g_1 F_1 => ?_)
  refine m_vret C hrt0 hlk0 dX1_clear_5 ?_
  have f10_2 : M1 10 = .inl (cy 4, 8, .inr (.inr (.inr (.inr f)))) := (F_1 10 (by simp <;> omega)).trans h6
  have f35_3 : M1 35 = .inr (5, [.long (rv), .int (bI ro)]) := (F_1 35 (by simp <;> omega)).trans h9
  exact ⟨⟨h1, by omega, by omega, by omega, g_1, ⟨f, f10_2, h7⟩, fun i hi => (h8 i hi).fr (show Fr [9] M _ from (F_1.sub (by simp))) (by simp <;> omega) (by simp <;> omega) (by simp <;> omega), rv, ro, f35_3⟩, (F_1.sub (by simp))⟩
set_option maxHeartbeats 4000000 in
set_option maxRecDepth 100000 in
theorem kX1_takeFromFront {l : Launch} {D : va_G} {cy : Nat → ClassId} {ad : Nat → Nat} {n : Nat} {A : Nat → Prop} (hI : mI ad n A) {M : Nat → va_E} {xs : Nat → Arg} {cnt tk od : Nat} (h : isArgs cy ad n M xs cnt tk od) : mMv l yX1_takeFromFront (gW yX1_takeFromFront cX1_takeFromFront 1 none) { frames := 0, cells := 0, slots := 0, locals := 0 } D cy ad n A [.ref (ad 9)] M (fun M' => isArgs cy ad n M' xs cnt 0 0 ∧ Fr [9] M M') := by
  obtain ⟨h1, h2, h3, h4, h5, ⟨f, h6, h7⟩, h8, rv, ro, h9⟩ := h
  refine m_entry (cc := cX1_takeFromFront) (maxL := 1) (ret := none) (own := RX1) (lv := [(0, .ref (ad 9))]) hI (by decide) rfl rfl (Nat.le_of_ble_eq_true rfl) rfl (fun pX eX sX mX aX bX tX cX C hrt0 hlk0 => ?_)
  refine m_aload_n (pc' := 1) C dX1_takeFromFront_0 rfl 0 rfl rfl ?_
  refine m_iconst (pc' := 2) (v := nI 0) C dX1_takeFromFront_1 (by decide) rfl ?_
  refine m_put (pc' := 5) (ty := .int) (fs' := [.ref (ad 10), .ref (ad 35), .int (nI cnt), .int (nI 0), .int (nI od)]) C 9 (by omega) h5 rfl inW_X1 tyX1 tyX1_ok nmX1 3 (by decide) (gW_of tm_1_112) rfl rfl (by decide +kernel) rfl rfl (by simp) rfl dX1_takeFromFront_2 rfl (fun M1 g_1 F_1 => ?_)
  refine m_aload_n (pc' := 6) C dX1_takeFromFront_5 rfl 0 rfl rfl ?_
  refine m_iconst (pc' := 7) (v := nI 0) C dX1_takeFromFront_6 (by decide) rfl ?_
  refine m_put (pc' := 10) (ty := .int) (fs' := [.ref (ad 10), .ref (ad 35), .int (nI cnt), .int (nI 0), .int (nI 0)]) C 9 (by omega) g_1 rfl inW_X1 tyX1 tyX1_ok nmX1 4 (by decide) (gW_of tm_1_113) rfl rfl (by decide +kernel) rfl rfl (by simp) rfl dX1_takeFromFront_7 rfl (fun M2 g_2 F_2 => ?_)
  refine m_vret C hrt0 hlk0 dX1_takeFromFront_10 ?_
  have f10_3 : M1 10 = .inl (cy 4, 8, .inr (.inr (.inr (.inr f)))) := (F_1 10 (by simp <;> omega)).trans h6
  have f10_4 : M2 10 = .inl (cy 4, 8, .inr (.inr (.inr (.inr f)))) := (F_2 10 (by simp <;> omega)).trans f10_3
  have f35_5 : M1 35 = .inr (5, [.long (rv), .int (bI ro)]) := (F_1 35 (by simp <;> omega)).trans h9
  have f35_6 : M2 35 = .inr (5, [.long (rv), .int (bI ro)]) := (F_2 35 (by simp <;> omega)).trans f35_5
  exact ⟨⟨h1, by omega, by omega, by omega, g_2, ⟨f, f10_4, h7⟩, fun i hi => (h8 i hi).fr (show Fr [9] M _ from ((F_1.sub (by simp)).tr (F_2.sub (by simp)))) (by simp <;> omega) (by simp <;> omega) (by simp <;> omega), rv, ro, f35_6⟩, ((F_1.sub (by simp)).tr (F_2.sub (by simp)))⟩
set_option maxHeartbeats 4000000 in
set_option maxRecDepth 100000 in
theorem kX1_addNumber {l : Launch} {D : va_G} {cy : Nat → ClassId} {ad : Nat → Nat} {n : Nat} {A : Nat → Prop} (hI : mI ad n A) {M : Nat → va_E} {xs : Nat → Arg} {cnt tk od : Nat} (h : isArgs cy ad n M xs cnt tk od) (hc : cnt < 8) (x : Int64) : mMv l yX1_addNumber (gW yX1_addNumber cX1_addNumber 3 none) { frames := 0, cells := 0, slots := 0, locals := 0 } D cy ad n A [.ref (ad 9), .long x] M (fun M' => isArgs cy ad n M' (va_up xs cnt (.inl x)) (cnt + 1) tk od ∧ Fr argS M M') := by
  obtain ⟨h1, h2, h3, h4, h5, ⟨f, h6, h7⟩, h8, rv, ro, h9⟩ := h
  obtain ⟨ha, t, v, T, a1, a2, a3, a4⟩ := h8 cnt hc
  refine m_entry (cc := cX1_addNumber) (maxL := 3) (ret := none) (own := RX1) (lv := [(0, .ref (ad 9)), (1, .long (x))]) hI (by decide) rfl rfl (Nat.le_of_ble_eq_true rfl) rfl (fun pX eX sX mX aX bX tX cX C hrt0 hlk0 => ?_)
  refine m_aload_n (pc' := 1) C dX1_addNumber_0 rfl 0 rfl rfl ?_
  refine m_get (pc' := 4) C 9 (by omega) h5 rfl inW_X1 2 (by decide) (gW_of tm_1_111) rfl rfl dX1_addNumber_1 rfl ?_
  refine m_bipush (pc' := 6) (v := nI 8) C dX1_addNumber_4 (by decide) rfl ?_
  refine m_icmp_ge (pc' := 9) (tgt := 45) C dX1_addNumber_6 (by decide) rfl (fun c_6 => ?_) (fun c_6 => ?_)
  · exact absurd c_6 (nI_ge hc (by decide))
  · refine m_aload_n (pc' := 10) C dX1_addNumber_9 rfl 0 rfl rfl ?_
    refine m_get (pc' := 13) C 9 (by omega) h5 rfl inW_X1 0 (by decide) (gW_of tm_1_109) rfl rfl dX1_addNumber_10 rfl ?_
    refine m_aload_n (pc' := 14) C dX1_addNumber_13 rfl 0 rfl rfl ?_
    refine m_get (pc' := 17) C 9 (by omega) h5 rfl inW_X1 2 (by decide) (gW_of tm_1_111) rfl rfl dX1_addNumber_14 rfl ?_
    refine m_aldq (pc' := 18) (v := .ref (ad (11 + 3 * cnt))) C 10 (by omega) h6 (vp_in_nI hc (by decide)) (by rw [nI_clamp (by omega), h7 _ hc]; rfl) dX1_addNumber_17 rfl ?_
    refine m_iconst (pc' := 19) (v := bI false) C dX1_addNumber_18 (by decide) rfl ?_
    refine m_put (pc' := 22) (ty := .boolean) (fs' := [.ref (ad (11 + 3 * cnt + 1)), .int (bI false), .long (v)]) C (11 + 3 * cnt) (by omega) a1 rfl inW_X0 tyX0 tyX0_ok nmX0 1 (by decide) (gW_of tm_1_84) rfl rfl (by decide +kernel) (nar_z _) (fit_z _) (by simp) rfl dX1_addNumber_19 rfl (fun M1 g_1 F_1 => ?_)
    refine m_aload_n (pc' := 23) C dX1_addNumber_22 rfl 0 rfl rfl ?_
    have f9_2 : M1 9 = .inr (1, [.ref (ad 10), .ref (ad 35), .int (nI cnt), .int (nI tk), .int (nI od)]) := (F_1 9 (by simp <;> omega)).trans h5
    refine m_get (pc' := 26) C 9 (by omega) f9_2 rfl inW_X1 0 (by decide) (gW_of tm_1_109) rfl rfl dX1_addNumber_23 rfl ?_
    refine m_aload_n (pc' := 27) C dX1_addNumber_26 rfl 0 rfl rfl ?_
    refine m_get (pc' := 30) C 9 (by omega) f9_2 rfl inW_X1 2 (by decide) (gW_of tm_1_111) rfl rfl dX1_addNumber_27 rfl ?_
    have f10_3 : M1 10 = .inl (cy 4, 8, .inr (.inr (.inr (.inr f)))) := (F_1 10 (by simp <;> omega)).trans h6
    refine m_aldq (pc' := 31) (v := .ref (ad (11 + 3 * cnt))) C 10 (by omega) f10_3 (vp_in_nI hc (by decide)) (by rw [nI_clamp (by omega), h7 _ hc]; rfl) dX1_addNumber_30 rfl ?_
    refine m_lload_n (pc' := 32) C dX1_addNumber_31 rfl 1 rfl rfl ?_
    refine m_put (pc' := 35) (ty := .long) (fs' := [.ref (ad (11 + 3 * cnt + 1)), .int (bI false), .long (x)]) C (11 + 3 * cnt) (by omega) g_1 rfl inW_X0 tyX0 tyX0_ok nmX0 2 (by decide) (gW_of tm_1_87) rfl rfl (by decide +kernel) rfl rfl (by simp) rfl dX1_addNumber_32 rfl (fun M4 g_4 F_4 => ?_)
    refine m_aload_n (pc' := 36) C dX1_addNumber_35 rfl 0 rfl rfl ?_
    refine m_dup (pc' := 37) C dX1_addNumber_36 rfl rfl ?_
    have f9_5 : M4 9 = .inr (1, [.ref (ad 10), .ref (ad 35), .int (nI cnt), .int (nI tk), .int (nI od)]) := (F_4 9 (by simp <;> omega)).trans f9_2
    refine m_get (pc' := 40) C 9 (by omega) f9_5 rfl inW_X1 2 (by decide) (gW_of tm_1_111) rfl rfl dX1_addNumber_37 rfl ?_
    refine m_iconst (pc' := 41) (v := nI 1) C dX1_addNumber_40 (by decide) rfl ?_
    refine m_iadd (pc' := 42) (v := nI (cnt + 1)) C dX1_addNumber_41 (nI_add _ _) rfl ?_
    refine m_put (pc' := 45) (ty := .int) (fs' := [.ref (ad 10), .ref (ad 35), .int (nI (cnt + 1)), .int (nI tk), .int (nI od)]) C 9 (by omega) f9_5 rfl inW_X1 tyX1 tyX1_ok nmX1 2 (by decide) (gW_of tm_1_111) rfl rfl (by decide +kernel) rfl rfl (by simp) rfl dX1_addNumber_42 rfl (fun M6 g_6 F_6 => ?_)
    refine m_vret C hrt0 hlk0 dX1_addNumber_45 ?_
    have f10_7 : M4 10 = .inl (cy 4, 8, .inr (.inr (.inr (.inr f)))) := (F_4 10 (by simp <;> omega)).trans f10_3
    have f10_8 : M6 10 = .inl (cy 4, 8, .inr (.inr (.inr (.inr f)))) := (F_6 10 (by simp <;> omega)).trans f10_7
    have f35_9 : M1 35 = .inr (5, [.long (rv), .int (bI ro)]) := (F_1 35 (by simp <;> omega)).trans h9
    have f35_10 : M4 35 = .inr (5, [.long (rv), .int (bI ro)]) := (F_4 35 (by simp <;> omega)).trans f35_9
    have f35_11 : M6 35 = .inr (5, [.long (rv), .int (bI ro)]) := (F_6 35 (by simp <;> omega)).trans f35_10
    have f113cnt_12 : M6 (11 + 3 * cnt) = .inr (0, [.ref (ad (11 + 3 * cnt + 1)), .int (bI false), .long (x)]) := (F_6 (11 + 3 * cnt) (by simp <;> omega)).trans g_4
    have hFa : Fr [9, 11 + 3 * cnt] M M6 := (((F_1.sub (by simp)).tr (F_4.sub (by simp))).tr (F_6.sub (by simp)))
    refine ⟨⟨h1, by omega, h3, h4, g_6, ⟨f, f10_8, h7⟩, ?_, rv, ro, f35_11⟩, hFa.sub (by intro k hk; rw [mem_argS]; simp at hk; omega)⟩
    intro i hi
    by_cases q : i = cnt
    · subst q
      rw [va_up_self]
      exact ⟨ha, false, x, T, f113cnt_12, a2.fr hFa (by simp <;> omega) (by simp <;> omega), a3, rfl, rfl⟩
    · rw [va_up_ne _ _ q]
      exact (h8 i hi).fr hFa (by simp <;> omega) (by simp <;> omega) (by simp <;> omega)
set_option maxHeartbeats 4000000 in
set_option maxRecDepth 100000 in
theorem kX1_addText {l : Launch} {D : va_G} {cy : Nat → ClassId} {ad : Nat → Nat} {n : Nat} {A : Nat → Prop} (hI : mI ad n A) {M : Nat → va_E} {xs : Nat → Arg} {cnt tk od : Nat} (h : isArgs cy ad n M xs cnt tk od) (hc : cnt < 8) {r ra : Nat} {P : List Nat} (hp : isRow cy ad n M r ra 80 80 P) (hP : P.length ≤ 80) (hdj : (r < 9 ∨ 35 < r) ∧ (ra < 9 ∨ 35 < ra)) : mMv l yX1_addText (gW yX1_addText cX1_addText 2 none) { frames := 2, cells := 0, slots := 0, locals := 43 } D cy ad n A [.ref (ad 9), .ref (ad r)] M (fun M' => isArgs cy ad n M' (va_up xs cnt (.inr P)) (cnt + 1) tk od ∧ Fr argS M M') := by
  obtain ⟨h1, h2, h3, h4, h5, ⟨f, h6, h7⟩, h8, rv, ro, h9⟩ := h
  obtain ⟨ha, t, v, T, a1, a2, a3, a4⟩ := h8 cnt hc
  refine m_entry (cc := cX1_addText) (maxL := 2) (ret := none) (own := RX1) (lv := [(0, .ref (ad 9)), (1, .ref (ad r))]) hI (by decide) rfl rfl (Nat.le_of_ble_eq_true rfl) rfl (fun pX eX sX mX aX bX tX cX C hrt0 hlk0 => ?_)
  refine m_aload_n (pc' := 1) C dX1_addText_0 rfl 0 rfl rfl ?_
  refine m_get (pc' := 4) C 9 (by omega) h5 rfl inW_X1 2 (by decide) (gW_of tm_1_111) rfl rfl dX1_addText_1 rfl ?_
  refine m_bipush (pc' := 6) (v := nI 8) C dX1_addText_4 (by decide) rfl ?_
  refine m_icmp_ge (pc' := 9) (tgt := 48) C dX1_addText_6 (by decide) rfl (fun c_6 => ?_) (fun c_6 => ?_)
  · exact absurd c_6 (nI_ge hc (by decide))
  · refine m_aload_n (pc' := 10) C dX1_addText_9 rfl 0 rfl rfl ?_
    refine m_get (pc' := 13) C 9 (by omega) h5 rfl inW_X1 0 (by decide) (gW_of tm_1_109) rfl rfl dX1_addText_10 rfl ?_
    refine m_aload_n (pc' := 14) C dX1_addText_13 rfl 0 rfl rfl ?_
    refine m_get (pc' := 17) C 9 (by omega) h5 rfl inW_X1 2 (by decide) (gW_of tm_1_111) rfl rfl dX1_addText_14 rfl ?_
    refine m_aldq (pc' := 18) (v := .ref (ad (11 + 3 * cnt))) C 10 (by omega) h6 (vp_in_nI hc (by decide)) (by rw [nI_clamp (by omega), h7 _ hc]; rfl) dX1_addText_17 rfl ?_
    refine m_iconst (pc' := 19) (v := bI true) C dX1_addText_18 (by decide) rfl ?_
    refine m_put (pc' := 22) (ty := .boolean) (fs' := [.ref (ad (11 + 3 * cnt + 1)), .int (bI true), .long (v)]) C (11 + 3 * cnt) (by omega) a1 rfl inW_X0 tyX0 tyX0_ok nmX0 1 (by decide) (gW_of tm_1_84) rfl rfl (by decide +kernel) (nar_z _) (fit_z _) (by simp) rfl dX1_addText_19 rfl (fun M1 g_1 F_1 => ?_)
    refine m_aload_n (pc' := 23) C dX1_addText_22 rfl 0 rfl rfl ?_
    have f9_2 : M1 9 = .inr (1, [.ref (ad 10), .ref (ad 35), .int (nI cnt), .int (nI tk), .int (nI od)]) := (F_1 9 (by simp <;> omega)).trans h5
    refine m_get (pc' := 26) C 9 (by omega) f9_2 rfl inW_X1 0 (by decide) (gW_of tm_1_109) rfl rfl dX1_addText_23 rfl ?_
    refine m_aload_n (pc' := 27) C dX1_addText_26 rfl 0 rfl rfl ?_
    refine m_get (pc' := 30) C 9 (by omega) f9_2 rfl inW_X1 2 (by decide) (gW_of tm_1_111) rfl rfl dX1_addText_27 rfl ?_
    have f10_3 : M1 10 = .inl (cy 4, 8, .inr (.inr (.inr (.inr f)))) := (F_1 10 (by simp <;> omega)).trans h6
    refine m_aldq (pc' := 31) (v := .ref (ad (11 + 3 * cnt))) C 10 (by omega) f10_3 (vp_in_nI hc (by decide)) (by rw [nI_clamp (by omega), h7 _ hc]; rfl) dX1_addText_30 rfl ?_
    refine m_get (pc' := 34) C (11 + 3 * cnt) (by omega) g_1 rfl inW_X0 0 (by decide) (gW_of tm_1_81) rfl rfl dX1_addText_31 rfl ?_
    refine m_aload_n (pc' := 35) C dX1_addText_34 rfl 1 rfl rfl ?_
    have R113cnt1_5 := a2.fr F_1 (by simp <;> omega) (by simp <;> omega)
    have Rr_6 := hp.fr F_1 (by simp <;> omega) (by simp <;> omega)
    refine m_callVv (pc' := 38) (As := [.ref (ad r)]) (rest := []) C (kX9_copyOf hI R113cnt1_5 Rr_6 (by omega)) (cwV 1 C.1.2.2.2.2 (goodV tm_4_31 tm_3_50 tm_3_51 tm_1_3 tm_3_52) rfl rfl rfl (by decide +kernel) ⟨by decide, by decide⟩) R113cnt1_5.1 R113cnt1_5.ob rfl rfl rfl (Nat.le_of_ble_eq_true rfl) dX1_addText_35 rfl ⟨by decide, by decide⟩ (fun M4 q_4 => ?_)
    obtain ⟨R_4, F_4⟩ := q_4
    rw [List.take_of_length_le hP] at R_4
    refine m_aload_n (pc' := 39) C dX1_addText_38 rfl 0 rfl rfl ?_
    refine m_dup (pc' := 40) C dX1_addText_39 rfl rfl ?_
    have f9_7 : M4 9 = .inr (1, [.ref (ad 10), .ref (ad 35), .int (nI cnt), .int (nI tk), .int (nI od)]) := (F_4 9 (by simp <;> omega)).trans f9_2
    refine m_get (pc' := 43) C 9 (by omega) f9_7 rfl inW_X1 2 (by decide) (gW_of tm_1_111) rfl rfl dX1_addText_40 rfl ?_
    refine m_iconst (pc' := 44) (v := nI 1) C dX1_addText_43 (by decide) rfl ?_
    refine m_iadd (pc' := 45) (v := nI (cnt + 1)) C dX1_addText_44 (nI_add _ _) rfl ?_
    refine m_put (pc' := 48) (ty := .int) (fs' := [.ref (ad 10), .ref (ad 35), .int (nI (cnt + 1)), .int (nI tk), .int (nI od)]) C 9 (by omega) f9_7 rfl inW_X1 tyX1 tyX1_ok nmX1 2 (by decide) (gW_of tm_1_111) rfl rfl (by decide +kernel) rfl rfl (by simp) rfl dX1_addText_45 rfl (fun M8 g_8 F_8 => ?_)
    refine m_vret C hrt0 hlk0 dX1_addText_48 ?_
    have f10_9 : M4 10 = .inl (cy 4, 8, .inr (.inr (.inr (.inr f)))) := (F_4 10 (by simp <;> omega)).trans f10_3
    have f10_10 : M8 10 = .inl (cy 4, 8, .inr (.inr (.inr (.inr f)))) := (F_8 10 (by simp <;> omega)).trans f10_9
    have f35_11 : M1 35 = .inr (5, [.long (rv), .int (bI ro)]) := (F_1 35 (by simp <;> omega)).trans h9
    have f35_12 : M4 35 = .inr (5, [.long (rv), .int (bI ro)]) := (F_4 35 (by simp <;> omega)).trans f35_11
    have f35_13 : M8 35 = .inr (5, [.long (rv), .int (bI ro)]) := (F_8 35 (by simp <;> omega)).trans f35_12
    have f113cnt_14 : M4 (11 + 3 * cnt) = .inr (0, [.ref (ad (11 + 3 * cnt + 1)), .int (bI true), .long (v)]) := (F_4 (11 + 3 * cnt) (by simp <;> omega)).trans g_1
    have f113cnt_15 : M8 (11 + 3 * cnt) = .inr (0, [.ref (ad (11 + 3 * cnt + 1)), .int (bI true), .long (v)]) := (F_8 (11 + 3 * cnt) (by simp <;> omega)).trans f113cnt_14
    have R113cnt1_16 := R_4.fr F_8 (by simp <;> omega) (by simp <;> omega)
    have hFa : Fr [9, 11 + 3 * cnt, 11 + 3 * cnt + 1, 11 + 3 * cnt + 2] M M8 := (((F_1.sub (by simp)).tr (F_4.sub (by simp))).tr (F_8.sub (by simp)))
    refine ⟨⟨h1, by omega, h3, h4, g_8, ⟨f, f10_10, h7⟩, ?_, rv, ro, f35_13⟩, hFa.sub (by intro k hk; rw [mem_argS]; simp at hk; omega)⟩
    intro i hi
    by_cases q : i = cnt
    · subst q
      rw [va_up_self]
      exact ⟨ha, true, v, P, f113cnt_15, R113cnt1_16, hP, rfl, rfl⟩
    · rw [va_up_ne _ _ q]
      exact (h8 i hi).fr hFa (by simp <;> omega) (by simp <;> omega) (by simp <;> omega)
set_option maxHeartbeats 4000000 in
set_option maxRecDepth 100000 in
theorem kX1_takeNext_t {l : Launch} {D : va_G} {cy : Nat → ClassId} {ad : Nat → Nat} {n : Nat} {A : Nat → Prop} (hI : mI ad n A) {M : Nat → va_E} {xs : Nat → Arg} {cnt tk od : Nat} (h : isArgs cy ad n M xs cnt tk od) (hc : tk < cnt) : mMq l yX1_takeNext (gW yX1_takeNext cX1_takeNext 1 (some (.object "FormatDump$Argument"))) { frames := 0, cells := 0, slots := 0, locals := 0 } D cy ad n A [.ref (ad 9)] M (fun res M' => res = some (ad (11 + 3 * tk)) ∧ isArgs cy ad n M' xs cnt (tk + 1) od ∧ Fr [9] M M') := by
  obtain ⟨h1, h2, h3, h4, h5, ⟨f, h6, h7⟩, h8, rv, ro, h9⟩ := h
  refine m_entry (cc := cX1_takeNext) (maxL := 1) (ret := (some (.object "FormatDump$Argument"))) (own := RX1) (lv := [(0, .ref (ad 9))]) hI (by decide) rfl rfl (Nat.le_of_ble_eq_true rfl) rfl (fun pX eX sX mX aX bX tX cX C hrt0 hlk0 => ?_)
  refine m_aload_n (pc' := 1) C dX1_takeNext_0 rfl 0 rfl rfl ?_
  refine m_get (pc' := 4) C 9 (by omega) h5 rfl inW_X1 3 (by decide) (gW_of tm_1_112) rfl rfl dX1_takeNext_1 rfl ?_
  refine m_aload_n (pc' := 5) C dX1_takeNext_4 rfl 0 rfl rfl ?_
  refine m_get (pc' := 8) C 9 (by omega) h5 rfl inW_X1 2 (by decide) (gW_of tm_1_111) rfl rfl dX1_takeNext_5 rfl ?_
  refine m_icmp_lt (pc' := 11) (tgt := 13) C dX1_takeNext_8 (by decide) rfl (fun c_8 => ?_) (fun c_8 => ?_)
  · refine m_aload_n (pc' := 14) C dX1_takeNext_13 rfl 0 rfl rfl ?_
    refine m_dup (pc' := 15) C dX1_takeNext_14 rfl rfl ?_
    refine m_get (pc' := 18) C 9 (by omega) h5 rfl inW_X1 3 (by decide) (gW_of tm_1_112) rfl rfl dX1_takeNext_15 rfl ?_
    refine m_iconst (pc' := 19) (v := nI 1) C dX1_takeNext_18 (by decide) rfl ?_
    refine m_iadd (pc' := 20) (v := nI (tk + 1)) C dX1_takeNext_19 (nI_add _ _) rfl ?_
    refine m_put (pc' := 23) (ty := .int) (fs' := [.ref (ad 10), .ref (ad 35), .int (nI cnt), .int (nI (tk + 1)), .int (nI od)]) C 9 (by omega) h5 rfl inW_X1 tyX1 tyX1_ok nmX1 3 (by decide) (gW_of tm_1_112) rfl rfl (by decide +kernel) rfl rfl (by simp) rfl dX1_takeNext_20 rfl (fun M1 g_1 F_1 => ?_)
    refine m_aload_n (pc' := 24) C dX1_takeNext_23 rfl 0 rfl rfl ?_
    refine m_get (pc' := 27) C 9 (by omega) g_1 rfl inW_X1 0 (by decide) (gW_of tm_1_109) rfl rfl dX1_takeNext_24 rfl ?_
    refine m_aload_n (pc' := 28) C dX1_takeNext_27 rfl 0 rfl rfl ?_
    refine m_get (pc' := 31) C 9 (by omega) g_1 rfl inW_X1 3 (by decide) (gW_of tm_1_112) rfl rfl dX1_takeNext_28 rfl ?_
    refine m_iconst (pc' := 32) (v := nI 1) C dX1_takeNext_31 (by decide) rfl ?_
    refine m_isub (pc' := 33) (v := nI tk) C dX1_takeNext_32 (pk_sub (by omega)) rfl ?_
    have f10_2 : M1 10 = .inl (cy 4, 8, .inr (.inr (.inr (.inr f)))) := (F_1 10 (by simp <;> omega)).trans h6
    refine m_aldq (pc' := 34) (v := .ref (ad (11 + 3 * tk))) C 10 (by omega) f10_2 (vp_in_nI (by omega) (by decide)) (by rw [nI_clamp (by omega), h7 _ (by omega)]; rfl) dX1_takeNext_33 rfl ?_
    refine m_aret C (some (ad (11 + 3 * tk))) hrt0 hlk0 (Or.inl ⟨_, rfl⟩) rfl dX1_takeNext_34 ?_
    have f35_3 : M1 35 = .inr (5, [.long (rv), .int (bI ro)]) := (F_1 35 (by simp <;> omega)).trans h9
    exact ⟨rfl, ⟨h1, by omega, by omega, by omega, g_1, ⟨f, f10_2, h7⟩, fun i hi => (h8 i hi).fr (show Fr [9] M _ from (F_1.sub (by simp))) (by simp <;> omega) (by simp <;> omega) (by simp <;> omega), rv, ro, f35_3⟩, (F_1.sub (by simp))⟩
  · exact absurd (nI_lt hc (by omega)) c_8
set_option maxHeartbeats 4000000 in
set_option maxRecDepth 100000 in
theorem kX1_takeNext_n {l : Launch} {D : va_G} {cy : Nat → ClassId} {ad : Nat → Nat} {n : Nat} {A : Nat → Prop} (hI : mI ad n A) {M : Nat → va_E} {xs : Nat → Arg} {cnt tk od : Nat} (h : isArgs cy ad n M xs cnt tk od) (hc : cnt ≤ tk) : mMq l yX1_takeNext (gW yX1_takeNext cX1_takeNext 1 (some (.object "FormatDump$Argument"))) { frames := 0, cells := 0, slots := 0, locals := 0 } D cy ad n A [.ref (ad 9)] M (fun res M' => res = none ∧ M' = M) := by
  obtain ⟨h1, h2, h3, h4, h5, ⟨f, h6, h7⟩, h8, rv, ro, h9⟩ := h
  refine m_entry (cc := cX1_takeNext) (maxL := 1) (ret := (some (.object "FormatDump$Argument"))) (own := RX1) (lv := [(0, .ref (ad 9))]) hI (by decide) rfl rfl (Nat.le_of_ble_eq_true rfl) rfl (fun pX eX sX mX aX bX tX cX C hrt0 hlk0 => ?_)
  refine m_aload_n (pc' := 1) C dX1_takeNext_0 rfl 0 rfl rfl ?_
  refine m_get (pc' := 4) C 9 (by omega) h5 rfl inW_X1 3 (by decide) (gW_of tm_1_112) rfl rfl dX1_takeNext_1 rfl ?_
  refine m_aload_n (pc' := 5) C dX1_takeNext_4 rfl 0 rfl rfl ?_
  refine m_get (pc' := 8) C 9 (by omega) h5 rfl inW_X1 2 (by decide) (gW_of tm_1_111) rfl rfl dX1_takeNext_5 rfl ?_
  refine m_icmp_lt (pc' := 11) (tgt := 13) C dX1_takeNext_8 (by decide) rfl (fun c_8 => ?_) (fun c_8 => ?_)
  · exact absurd c_8 (nI_nlt hc (by omega))
  · refine m_null (pc' := 12) C dX1_takeNext_11 rfl ?_
    exact m_aret C none hrt0 hlk0 (Or.inl ⟨_, rfl⟩) rfl dX1_takeNext_12 ⟨rfl, rfl⟩
set_option maxHeartbeats 4000000 in
set_option maxRecDepth 100000 in
theorem kX1_takeNumber_n {l : Launch} {D : va_G} {cy : Nat → ClassId} {ad : Nat → Nat} {n : Nat} {A : Nat → Prop} (hI : mI ad n A) {M : Nat → va_E} {xs : Nat → Arg} {cnt tk od : Nat} (h : isArgs cy ad n M xs cnt tk od) (hc : cnt ≤ tk) : mMl l yX1_takeNumber (gW yX1_takeNumber cX1_takeNumber 2 (some .long)) { frames := 3, cells := 0, slots := 0, locals := 69 } D cy ad n A [.ref (ad 9)] M (fun res M' => res = 0 ∧ isArgs cy ad n M' xs cnt tk od ∧ Fr argS M M') := by
  refine m_entry (cc := cX1_takeNumber) (maxL := 2) (ret := (some .long)) (own := RX1) (lv := [(0, .ref (ad 9))]) hI (by decide) rfl rfl (Nat.le_of_ble_eq_true rfl) rfl (fun pX eX sX mX aX bX tX cX C hrt0 hlk0 => ?_)
  refine m_aload_n (pc' := 1) C dX1_takeNumber_0 rfl 0 rfl rfl ?_
  refine m_callVq (pc' := 4) (As := []) (rest := []) C (kX1_takeNext_n hI h hc) (cwV 0 C.1.2.2.2.2 (goodV tm_2_222 tm_2_223 tm_2_224 tm_1_4 tm_2_225) rfl rfl rfl (by decide +kernel) ⟨by decide, by decide⟩) (by have := h.1; omega) h.2.2.2.2.1 rfl rfl rfl (Nat.le_of_ble_eq_true rfl) dX1_takeNumber_1 rfl ⟨by decide, by decide⟩ (fun x_1 N_1 q_1 => ?_)
  obtain ⟨e_1, E_1⟩ := q_1
  replace E_1 := E_1.symm
  subst E_1
  replace e_1 := e_1.symm
  subst e_1
  refine m_astore_nN (pc' := 5) (lv' := [(1, .null), (0, .ref (ad 9))]) C dX1_takeNumber_4 rfl (by decide) rfl rfl ?_
  refine m_aload_nN (pc' := 6) C dX1_takeNumber_5 rfl 0 rfl rfl ?_
  refine m_ifnonnullN (pc' := 9) C dX1_takeNumber_6 rfl ?_
  refine m_lconst (pc' := 10) (v := 0) C dX1_takeNumber_9 (by decide) rfl ?_
  exact m_lret C hrt0 hlk0 dX1_takeNumber_10 ⟨rfl, h, Fr.rf⟩
set_option maxHeartbeats 4000000 in
set_option maxRecDepth 100000 in
theorem kX1_takeNumber_v {l : Launch} {D : va_G} {cy : Nat → ClassId} {ad : Nat → Nat} {n : Nat} {A : Nat → Prop} (hI : mI ad n A) {M : Nat → va_E} {xs : Nat → Arg} {cnt tk od : Nat} (h : isArgs cy ad n M xs cnt tk od) (hc : tk < cnt) {w : Int64} (hx : xs tk = .inl w) : mMl l yX1_takeNumber (gW yX1_takeNumber cX1_takeNumber 2 (some .long)) { frames := 3, cells := 0, slots := 0, locals := 69 } D cy ad n A [.ref (ad 9)] M (fun res M' => res = w ∧ isArgs cy ad n M' xs cnt (tk + 1) od ∧ Fr argS M M') := by
  have hb0 := h.2.1
  have hb1 := h.2.2.1
  have hb2 := h.2.2.2.1
  refine m_entry (cc := cX1_takeNumber) (maxL := 2) (ret := (some .long)) (own := RX1) (lv := [(0, .ref (ad 9))]) hI (by decide) rfl rfl (Nat.le_of_ble_eq_true rfl) rfl (fun pX eX sX mX aX bX tX cX C hrt0 hlk0 => ?_)
  refine m_aload_n (pc' := 1) C dX1_takeNumber_0 rfl 0 rfl rfl ?_
  refine m_callVq (pc' := 4) (As := []) (rest := []) C (kX1_takeNext_t hI h hc) (cwV 0 C.1.2.2.2.2 (goodV tm_2_222 tm_2_223 tm_2_224 tm_1_4 tm_2_225) rfl rfl rfl (by decide +kernel) ⟨by decide, by decide⟩) (by have := h.1; omega) h.2.2.2.2.1 rfl rfl rfl (Nat.le_of_ble_eq_true rfl) dX1_takeNumber_1 rfl ⟨by decide, by decide⟩ (fun x_1 M1 q_1 => ?_)
  obtain ⟨e_1, A_1, F_1⟩ := q_1
  replace e_1 := e_1.symm
  subst e_1
  obtain ⟨k1, k2, k3, k4, k5, ⟨f2, k6, k7⟩, k8, rv2, ro2, k9⟩ := A_1
  obtain ⟨ha, t, v, T, a1, a2, a3, a4⟩ := k8 tk (by omega)
  rw [hx] at a4
  obtain ⟨rfl, rfl⟩ := a4
  refine m_astore_n (pc' := 5) (lv' := [(1, .ref (ad (11 + 3 * tk))), (0, .ref (ad 9))]) C dX1_takeNumber_4 rfl (by decide) rfl rfl ?_
  refine m_aload_n (pc' := 6) C dX1_takeNumber_5 rfl 0 rfl rfl ?_
  refine m_ifnonnull (tgt := 11) C dX1_takeNumber_6 (by decide) ?_
  refine m_aload_n (pc' := 12) C dX1_takeNumber_11 rfl 0 rfl rfl ?_
  refine m_get (pc' := 15) C (11 + 3 * tk) (by omega) a1 rfl inW_X0 1 (by decide) (gW_of tm_1_84) rfl rfl dX1_takeNumber_12 rfl ?_
  refine m_if_ne (pc' := 18) (tgt := 23) C dX1_takeNumber_15 (by decide) rfl (fun c_15 => ?_) (fun c_15 => ?_)
  · exact absurd rfl c_15
  · refine m_aload_n (pc' := 19) C dX1_takeNumber_18 rfl 0 rfl rfl ?_
    refine m_get (pc' := 22) C (11 + 3 * tk) (by omega) a1 rfl inW_X0 2 (by decide) (gW_of tm_1_87) rfl rfl dX1_takeNumber_19 rfl ?_
    refine m_lret C hrt0 hlk0 dX1_takeNumber_22 ?_
    exact ⟨rfl, ⟨k1, k2, k3, k4, k5, ⟨f2, k6, k7⟩, k8, rv2, ro2, k9⟩, (F_1.sub (by decide))⟩
set_option maxHeartbeats 4000000 in
set_option maxRecDepth 100000 in
theorem kX1_takeNumber_x {l : Launch} {D : va_G} {cy : Nat → ClassId} {ad : Nat → Nat} {n : Nat} {A : Nat → Prop} (hI : mI ad n A) {M : Nat → va_E} {xs : Nat → Arg} {cnt tk od : Nat} (h : isArgs cy ad n M xs cnt tk od) (hc : tk < cnt) {T : List Nat} (hx : xs tk = .inr T) : mMl l yX1_takeNumber (gW yX1_takeNumber cX1_takeNumber 2 (some .long)) { frames := 3, cells := 0, slots := 0, locals := 69 } D cy ad n A [.ref (ad 9)] M (fun res M' => res = txtV T ∧ isArgs cy ad n M' xs cnt (tk + 1) (od + (if txtO T then 1 else 0)) ∧ Fr argS M M') := by
  have hb0 := h.2.1
  have hb1 := h.2.2.1
  have hb2 := h.2.2.2.1
  refine m_entry (cc := cX1_takeNumber) (maxL := 2) (ret := (some .long)) (own := RX1) (lv := [(0, .ref (ad 9))]) hI (by decide) rfl rfl (Nat.le_of_ble_eq_true rfl) rfl (fun pX eX sX mX aX bX tX cX C hrt0 hlk0 => ?_)
  refine m_aload_n (pc' := 1) C dX1_takeNumber_0 rfl 0 rfl rfl ?_
  refine m_callVq (pc' := 4) (As := []) (rest := []) C (kX1_takeNext_t hI h hc) (cwV 0 C.1.2.2.2.2 (goodV tm_2_222 tm_2_223 tm_2_224 tm_1_4 tm_2_225) rfl rfl rfl (by decide +kernel) ⟨by decide, by decide⟩) (by have := h.1; omega) h.2.2.2.2.1 rfl rfl rfl (Nat.le_of_ble_eq_true rfl) dX1_takeNumber_1 rfl ⟨by decide, by decide⟩ (fun x_1 M1 q_1 => ?_)
  obtain ⟨e_1, A_1, F_1⟩ := q_1
  replace e_1 := e_1.symm
  subst e_1
  obtain ⟨k1, k2, k3, k4, k5, ⟨f2, k6, k7⟩, k8, rv2, ro2, k9⟩ := A_1
  obtain ⟨ha, t, v, T, a1, a2, a3, a4⟩ := k8 tk (by omega)
  rw [hx] at a4
  obtain ⟨rfl, rfl⟩ := a4
  refine m_astore_n (pc' := 5) (lv' := [(1, .ref (ad (11 + 3 * tk))), (0, .ref (ad 9))]) C dX1_takeNumber_4 rfl (by decide) rfl rfl ?_
  refine m_aload_n (pc' := 6) C dX1_takeNumber_5 rfl 0 rfl rfl ?_
  refine m_ifnonnull (tgt := 11) C dX1_takeNumber_6 (by decide) ?_
  refine m_aload_n (pc' := 12) C dX1_takeNumber_11 rfl 0 rfl rfl ?_
  refine m_get (pc' := 15) C (11 + 3 * tk) (by omega) a1 rfl inW_X0 1 (by decide) (gW_of tm_1_84) rfl rfl dX1_takeNumber_12 rfl ?_
  refine m_if_ne (pc' := 18) (tgt := 23) C dX1_takeNumber_15 (by decide) rfl (fun c_15 => ?_) (fun c_15 => ?_)
  · refine m_aload_n (pc' := 24) C dX1_takeNumber_23 rfl 1 rfl rfl ?_
    refine m_get (pc' := 27) C 9 (by omega) k5 rfl inW_X1 1 (by decide) (gW_of tm_1_110) rfl rfl dX1_takeNumber_24 rfl ?_
    refine m_aload_n (pc' := 28) C dX1_takeNumber_27 rfl 0 rfl rfl ?_
    refine m_get (pc' := 31) C (11 + 3 * tk) (by omega) a1 rfl inW_X0 0 (by decide) (gW_of tm_1_81) rfl rfl dX1_takeNumber_28 rfl ?_
    refine m_callVv (pc' := 34) (As := [.ref (ad (11 + 3 * tk + 1))]) (rest := []) C (kX5_read hI a2 a3 (by omega) k9 (by omega)) (cwV 1 C.1.2.2.2.2 (goodV tm_2_226 tm_2_227 tm_2_228 tm_1_6 tm_2_229) rfl rfl rfl (by decide +kernel) ⟨by decide, by decide⟩) (by omega) k9 rfl rfl rfl (Nat.le_of_ble_eq_true rfl) dX1_takeNumber_31 rfl ⟨by decide, by decide⟩ (fun M2 q_2 => ?_)
    obtain ⟨g_2, F_2⟩ := q_2
    refine m_aload_n (pc' := 35) C dX1_takeNumber_34 rfl 1 rfl rfl ?_
    have f9_3 : M2 9 = .inr (1, [.ref (ad 10), .ref (ad 35), .int (nI cnt), .int (nI (tk + 1)), .int (nI od)]) := (F_2 9 (by simp <;> omega)).trans k5
    refine m_get (pc' := 38) C 9 (by omega) f9_3 rfl inW_X1 1 (by decide) (gW_of tm_1_110) rfl rfl dX1_takeNumber_35 rfl ?_
    refine m_callVi (pc' := 41) (As := []) (rest := []) C (kX5_isOdd hI (by omega) g_2) (cwV 0 C.1.2.2.2.2 (goodV tm_3_4 tm_3_5 tm_3_6 tm_1_6 tm_3_7) rfl rfl rfl (by decide +kernel) ⟨by decide, by decide⟩) (by omega) g_2 rfl rfl rfl (Nat.le_of_ble_eq_true rfl) dX1_takeNumber_38 rfl ⟨by decide, by decide⟩ (fun x_4 N_4 q_4 => ?_)
    obtain ⟨e_4, E_4⟩ := q_4
    replace E_4 := E_4.symm
    subst E_4
    replace e_4 := e_4.symm
    subst e_4
    refine m_if_eq (pc' := 44) (tgt := 54) C dX1_takeNumber_41 (by decide) rfl (fun c_41 => ?_) (fun c_41 => ?_)
    · have hod : txtO T = false := (bI_0 _).mp c_41
      refine m_aload_n (pc' := 55) C dX1_takeNumber_54 rfl 1 rfl rfl ?_
      refine m_get (pc' := 58) C 9 (by omega) f9_3 rfl inW_X1 1 (by decide) (gW_of tm_1_110) rfl rfl dX1_takeNumber_55 rfl ?_
      refine m_callVl (pc' := 61) (As := []) (rest := []) C (kX5_value hI (by omega) g_2) (cwV 0 C.1.2.2.2.2 (goodV tm_3_8 tm_3_9 tm_3_10 tm_1_6 tm_3_11) rfl rfl rfl (by decide +kernel) ⟨by decide, by decide⟩) (by omega) g_2 rfl rfl rfl (Nat.le_of_ble_eq_true rfl) dX1_takeNumber_58 rfl ⟨by decide, by decide⟩ (fun x_5 N_5 q_5 => ?_)
      obtain ⟨e_5, E_5⟩ := q_5
      replace E_5 := E_5.symm
      subst E_5
      replace e_5 := e_5.symm
      subst e_5
      refine m_lret C hrt0 hlk0 dX1_takeNumber_61 ?_
      have f10_6 : M2 10 = .inl (cy 4, 8, .inr (.inr (.inr (.inr f2)))) := (F_2 10 (by simp <;> omega)).trans k6
      have hFb : Fr [9, 35] M1 M2 := (F_2.sub (by simp))
      have hFa : Fr argS M M2 := ((F_1.sub (by decide)).tr (F_2.sub (by decide)))
      rw [show od + (if txtO T then 1 else 0) = od by rw [hod]; rfl]
      exact ⟨rfl, ⟨k1, k2, k3, by omega, f9_3, ⟨f2, f10_6, k7⟩, fun i hi => (k8 i hi).fr hFb (by simp <;> omega) (by simp <;> omega) (by simp <;> omega), _, _, g_2⟩, hFa⟩
    · have hod : txtO T = true := ts_of c_41
      refine m_aload_n (pc' := 45) C dX1_takeNumber_44 rfl 1 rfl rfl ?_
      refine m_dup (pc' := 46) C dX1_takeNumber_45 rfl rfl ?_
      refine m_get (pc' := 49) C 9 (by omega) f9_3 rfl inW_X1 4 (by decide) (gW_of tm_1_113) rfl rfl dX1_takeNumber_46 rfl ?_
      refine m_iconst (pc' := 50) (v := nI 1) C dX1_takeNumber_49 (by decide) rfl ?_
      refine m_iadd (pc' := 51) (v := nI (od + 1)) C dX1_takeNumber_50 (nI_add _ _) rfl ?_
      refine m_put (pc' := 54) (ty := .int) (fs' := [.ref (ad 10), .ref (ad 35), .int (nI cnt), .int (nI (tk + 1)), .int (nI (od + 1))]) C 9 (by omega) f9_3 rfl inW_X1 tyX1 tyX1_ok nmX1 4 (by decide) (gW_of tm_1_113) rfl rfl (by decide +kernel) rfl rfl (by simp) rfl dX1_takeNumber_51 rfl (fun M7 g_7 F_7 => ?_)
      refine m_aload_n (pc' := 55) C dX1_takeNumber_54 rfl 1 rfl rfl ?_
      refine m_get (pc' := 58) C 9 (by omega) g_7 rfl inW_X1 1 (by decide) (gW_of tm_1_110) rfl rfl dX1_takeNumber_55 rfl ?_
      have f35_8 : M7 35 = .inr (5, [.long (txtV T), .int (bI (txtO T))]) := (F_7 35 (by simp <;> omega)).trans g_2
      refine m_callVl (pc' := 61) (As := []) (rest := []) C (kX5_value hI (by omega) f35_8) (cwV 0 C.1.2.2.2.2 (goodV tm_3_8 tm_3_9 tm_3_10 tm_1_6 tm_3_11) rfl rfl rfl (by decide +kernel) ⟨by decide, by decide⟩) (by omega) f35_8 rfl rfl rfl (Nat.le_of_ble_eq_true rfl) dX1_takeNumber_58 rfl ⟨by decide, by decide⟩ (fun x_9 N_9 q_9 => ?_)
      obtain ⟨e_9, E_9⟩ := q_9
      replace E_9 := E_9.symm
      subst E_9
      replace e_9 := e_9.symm
      subst e_9
      refine m_lret C hrt0 hlk0 dX1_takeNumber_61 ?_
      have f10_10 : M2 10 = .inl (cy 4, 8, .inr (.inr (.inr (.inr f2)))) := (F_2 10 (by simp <;> omega)).trans k6
      have f10_11 : M7 10 = .inl (cy 4, 8, .inr (.inr (.inr (.inr f2)))) := (F_7 10 (by simp <;> omega)).trans f10_10
      have hFb : Fr [9, 35] M1 M7 := ((F_2.sub (by simp)).tr (F_7.sub (by simp)))
      have hFa : Fr argS M M7 := (((F_1.sub (by decide)).tr (F_2.sub (by decide))).tr (F_7.sub (by decide)))
      rw [show od + (if txtO T then 1 else 0) = od + 1 by rw [hod]; rfl]
      exact ⟨rfl, ⟨k1, k2, k3, by omega, g_7, ⟨f2, f10_11, k7⟩, fun i hi => (k8 i hi).fr hFb (by simp <;> omega) (by simp <;> omega) (by simp <;> omega), _, _, f35_8⟩, hFa⟩
  · exact absurd (by decide) c_15
theorem kX1_takeNumber {l : Launch} {D : va_G} {cy : Nat → ClassId} {ad : Nat → Nat} {n : Nat} {A : Nat → Prop} (hI : mI ad n A) {M : Nat → va_E} {xs : Nat → Arg} {cnt tk od : Nat} (h : isArgs cy ad n M xs cnt tk od) : mMl l yX1_takeNumber (gW yX1_takeNumber cX1_takeNumber 2 (some .long)) { frames := 3, cells := 0, slots := 0, locals := 69 } D cy ad n A [.ref (ad 9)] M (fun res M' => res = nextV xs cnt tk ∧ isArgs cy ad n M' xs cnt (nextT cnt tk) (od + nextO xs cnt tk) ∧ Fr argS M M') := by
  unfold nextV nextT nextO
  by_cases hc : tk < cnt
  · rw [if_pos hc, if_pos hc, if_pos hc]
    cases hx : xs tk with
    | inl w => exact kX1_takeNumber_v hI h hc hx
    | inr T => exact kX1_takeNumber_x hI h hc hx
  · rw [if_neg hc, if_neg hc, if_neg hc]
    exact kX1_takeNumber_n hI h (by omega)
