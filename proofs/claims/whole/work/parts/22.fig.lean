set_option maxHeartbeats 4000000 in
set_option maxRecDepth 100000 in
theorem kX4_size {l : Launch} {D : va_G} {cy : Nat → ClassId} {ad : Nat → Nat} {n : Nat} {A : Nat → Prop} (hI : mI ad n A) {M : Nat → va_E} {fo fa : Nat} {ds : List Nat} {lg : Bool} (h : isFig cy ad n M fo fa ds lg) : mMi l yX4_size (gW yX4_size cX4_size 1 (some .int)) { frames := 0, cells := 0, slots := 0, locals := 0 } D cy ad n A [.ref (ad fo)] M (fun res M' => res = nI ds.length ∧ M' = M) := by
  have hne := h.ne
  obtain ⟨h1, h2, h3, h4, g, h5, h6, h7⟩ := h
  refine m_entry (cc := cX4_size) (maxL := 1) (ret := (some .int)) (own := RX4) (lv := [(0, .ref (ad fo))]) hI (by decide) rfl rfl (Nat.le_of_ble_eq_true rfl) rfl (fun pX eX sX mX aX bX tX cX C hrt0 hlk0 => ?_)
  refine m_aload_n (pc' := 1) C dX4_size_0 rfl 0 rfl rfl ?_
  refine m_get (pc' := 4) C fo h1 h5 rfl inW_X4 1 (by decide) (gW_of tm_1_36) rfl rfl dX4_size_1 rfl ?_
  exact m_iret C hrt0 hlk0 rfl dX4_size_4 ⟨rfl, rfl⟩
set_option maxHeartbeats 4000000 in
set_option maxRecDepth 100000 in
theorem kX4_characterOf {l : Launch} {D : va_G} {cy : Nat → ClassId} {ad : Nat → Nat} {n : Nat} {A : Nat → Prop} (hI : mI ad n A) {M : Nat → va_E} {fo fa : Nat} {ds : List Nat} {lg : Bool} (h : isFig cy ad n M fo fa ds lg) {d : Nat} (hd16 : d < 16) : mMi l yX4_characterOf (gW yX4_characterOf cX4_characterOf 2 (some .int)) { frames := 0, cells := 0, slots := 0, locals := 0 } D cy ad n A [.ref (ad fo), .int (nI d)] M (fun res M' => res = nI (dch lg d) ∧ M' = M) := by
  have hne := h.ne
  obtain ⟨h1, h2, h3, h4, g, h5, h6, h7⟩ := h
  refine m_entry (cc := cX4_characterOf) (maxL := 2) (ret := (some .int)) (own := RX4) (lv := [(0, .ref (ad fo)), (1, .int (nI d))]) hI (by decide) rfl rfl (Nat.le_of_ble_eq_true rfl) rfl (fun pX eX sX mX aX bX tX cX C hrt0 hlk0 => ?_)
  refine m_iload_n (pc' := 1) C dX4_characterOf_0 rfl 1 rfl rfl ?_
  refine m_bipush (pc' := 3) (v := nI 10) C dX4_characterOf_1 (by decide) rfl ?_
  refine m_icmp_ge (pc' := 6) (tgt := 11) C dX4_characterOf_3 (by decide) rfl (fun c_3 => ?_) (fun c_3 => ?_)
  · have hd : ¬ d < 10 := fun q => absurd c_3 (nI_ge q (by omega))
    refine m_cut (σ := Nat) (fun a => a = (if lg then 65 else 97)) (fun a => M) 25 (fun a => [(0, .ref (ad fo)), (1, .int (nI d))]) (fun a => [.int (nI a)]) ?_ (fun J25 => ?_)
    · rintro z hj
      try dsimp only at hj ⊢
      refine m_iload_n (pc' := 26) C dX4_characterOf_25 rfl 1 rfl rfl ?_
      refine m_iadd (pc' := 27) (v := nI (z + d)) C dX4_characterOf_26 (nI_add _ _) rfl ?_
      refine m_bipush (pc' := 29) (v := nI 10) C dX4_characterOf_27 (by decide) rfl ?_
      refine m_isub (pc' := 30) (v := nI (z + d - 10)) C dX4_characterOf_29 (pk_sub (by omega)) rfl ?_
      refine m_iret C hrt0 hlk0 rfl dX4_characterOf_30 ?_
      exact ⟨by unfold dch; rw [if_neg hd, hj], rfl⟩
    refine m_aload_n (pc' := 12) C dX4_characterOf_11 rfl 0 rfl rfl ?_
    refine m_get (pc' := 15) C fo h1 h5 rfl inW_X4 2 (by decide) (gW_of tm_1_37) rfl rfl dX4_characterOf_12 rfl ?_
    refine m_if_eq (pc' := 18) (tgt := 23) C dX4_characterOf_15 (by decide) rfl (fun c_15 => ?_) (fun c_15 => ?_)
    · have hz : lg = false := (bI_0 _).mp c_15
      refine m_bipush (pc' := 25) (v := nI 97) C dX4_characterOf_23 (by decide) rfl ?_
      refine m_lv [0, 1] rfl ?_
      exact J25 97 (by first | rw [if_pos hz] | (rw [hz]; rfl))
    · have hz : lg = true := by cases lg; exact absurd rfl c_15; rfl
      refine m_bipush (pc' := 20) (v := nI 65) C dX4_characterOf_18 (by decide) rfl ?_
      refine m_goto (tgt := 25) C dX4_characterOf_20 (by decide) ?_
      refine m_lv [0, 1] rfl ?_
      exact J25 65 (by first | rw [if_pos hz] | (rw [hz]; rfl))
  · have hd : d < 10 := by
      rcases Nat.lt_or_ge d 10 with q | q
      · exact q
      · exact absurd (nI_le q (by omega)) c_3
    refine m_bipush (pc' := 8) (v := nI 48) C dX4_characterOf_6 (by decide) rfl ?_
    refine m_iload_n (pc' := 9) C dX4_characterOf_8 rfl 1 rfl rfl ?_
    refine m_iadd (pc' := 10) (v := nI (48 + d)) C dX4_characterOf_9 (nI_add _ _) rfl ?_
    refine m_iret C hrt0 hlk0 rfl dX4_characterOf_10 ?_
    exact ⟨by unfold dch; rw [if_pos hd], rfl⟩
set_option maxHeartbeats 4000000 in
set_option maxRecDepth 100000 in
theorem kX4_take {l : Launch} {D : va_G} {cy : Nat → ClassId} {ad : Nat → Nat} {n : Nat} {A : Nat → Prop} (hI : mI ad n A) {M : Nat → va_E} {fo fa : Nat} {ds : List Nat} {lg : Bool} (h : isFig cy ad n M fo fa ds lg) {v b : Nat} (lg2 : Bool) (hv64 : v < 2 ^ 64) (hb : b = 8 ∨ b = 10 ∨ b = 16) : mMv l yX4_take (gW yX4_take cX4_take 11 none) { frames := 1, cells := 0, slots := 0, locals := 23 } D cy ad n A [.ref (ad fo), .long (lN v), .int (nI b), .int (bI lg2)] M (fun M' => isFig cy ad n M' fo fa (dg b v) lg2 ∧ Fr [fo, fa] M M') := by
  have hne := h.ne
  obtain ⟨h1, h2, h3, h4, g, h5, h6, h7⟩ := h
  have hb2 : 8 ≤ b ∧ b ≤ 16 ∧ 2 * (b / 2) = b := by omega
  have hv22 : v < 8 ^ (22 - 0) := Nat.lt_of_lt_of_le hv64 (by decide)
  have hnz : ¬ lN (b / 2) = 0 := by rcases hb with rfl | rfl | rfl <;> decide
  refine m_entry (cc := cX4_take) (maxL := 11) (ret := none) (own := RX4) (lv := [(0, .ref (ad fo)), (1, .long (lN v)), (3, .int (nI b)), (4, .int (bI lg2))]) hI (by decide) rfl rfl (Nat.le_of_ble_eq_true rfl) rfl (fun pX eX sX mX aX bX tX cX C hrt0 hlk0 => ?_)
  refine m_iconst (pc' := 1) (v := nI 1) C dX4_take_0 (by decide) rfl ?_
  refine m_iload_n (pc' := 2) C dX4_take_1 rfl 2 rfl rfl ?_
  refine m_iconst (pc' := 3) (v := nI 2) C dX4_take_2 (by decide) rfl ?_
  refine m_idiv (pc' := 4) (v := nI (b / 2)) C dX4_take_3 (by decide) (pk_div (by omega) (by decide) (by decide)) rfl ?_
  refine m_mmax (pc' := 7) (v := nI (b / 2)) C (gW_of tm_3_64) (gW_of tm_3_65) (gW_of tm_1_19) (gW_of tm_3_66) (by decide) (Nat.le_of_ble_eq_true rfl) ⟨by decide, by decide⟩ (by rw [max_nI (by decide) (by omega), Nat.max_eq_right (by omega)]) dX4_take_4 rfl ?_
  refine m_istore (pc' := 9) (lv' := [(5, .int (nI (b / 2))), (0, .ref (ad fo)), (1, .long (lN v)), (3, .int (nI b)), (4, .int (bI lg2))]) C dX4_take_7 (by decide) rfl rfl ?_
  refine m_lload_n (pc' := 10) C dX4_take_9 rfl 2 rfl rfl ?_
  refine m_lstore (pc' := 12) (lv' := [(6, .long (lN v)), (5, .int (nI (b / 2))), (0, .ref (ad fo)), (1, .long (lN v)), (3, .int (nI b)), (4, .int (bI lg2))]) C dX4_take_10 (by decide) rfl rfl ?_
  refine m_aload_n (pc' := 13) C dX4_take_12 rfl 2 rfl rfl ?_
  refine m_iconst (pc' := 14) (v := nI 0) C dX4_take_13 (by decide) rfl ?_
  refine m_put (pc' := 17) (ty := .int) (fs' := [.ref (ad fa), .int (nI 0), .int (bI lg)]) C fo h1 h5 rfl inW_X4 tyX4 tyX4_ok nmX4 1 (by decide) (gW_of tm_1_36) rfl rfl (by decide +kernel) rfl rfl (by simp) rfl dX4_take_14 rfl (fun M1 g_1 F_1 => ?_)
  refine m_aload_n (pc' := 18) C dX4_take_17 rfl 2 rfl rfl ?_
  refine m_iload (pc' := 20) C dX4_take_18 5 rfl rfl ?_
  refine m_put (pc' := 23) (ty := .boolean) (fs' := [.ref (ad fa), .int (nI 0), .int (bI lg2)]) C fo h1 g_1 rfl inW_X4 tyX4 tyX4_ok nmX4 2 (by decide) (gW_of tm_1_37) rfl rfl (by decide +kernel) (nar_z _) (fit_z _) (by simp) rfl dX4_take_20 rfl (fun M2 g_2 F_2 => ?_)
  refine m_iconst (pc' := 24) (v := nI 0) C dX4_take_23 (by decide) rfl ?_
  refine m_istore (pc' := 26) (lv' := [(8, .int (nI 0)), (6, .long (lN v)), (5, .int (nI (b / 2))), (0, .ref (ad fo)), (1, .long (lN v)), (3, .int (nI b)), (4, .int (bI lg2))]) C dX4_take_24 (by decide) rfl rfl ?_
  refine m_lv [3, 5, 2, 1, 0] rfl ?_
  have ffa_3 : M1 fa = .inl (cy 1, 22, .inl (fun i => nI (g i))) := (F_1 fa (by simp <;> omega)).trans h6
  have ffa_4 : M2 fa = .inl (cy 1, 22, .inl (fun i => nI (g i))) := (F_2 fa (by simp <;> omega)).trans ffa_3
  refine m_loop (σ := Nat × List Nat × Nat × (Nat → Nat) × (Nat → va_E)) (fun a => a.2.2.2.2) (fun a => [(0, .ref (ad fo)), (3, .int (nI b)), (5, .int (nI (b / 2))), (6, .long (lN a.2.2.1)), (8, .int (nI a.1))]) (fun a => a.2.1.length = a.1 ∧ dg b v = a.2.1 ++ dg b a.2.2.1 ∧ a.2.2.1 < 2 ^ 64 ∧ a.2.2.1 < 8 ^ (22 - a.1) ∧ a.1 ≤ 22 ∧ a.2.2.2.2 fo = .inr (4, [.ref (ad fa), .int (nI a.1), .int (bI lg2)]) ∧ a.2.2.2.2 fa = .inl (cy 1, 22, .inl (fun i => nI (a.2.2.2.1 i))) ∧ (∀ i, i < a.1 → a.2.2.2.1 i = a.2.1.getD i 0) ∧ Fr [fo, fa] M a.2.2.2.2) (fun a => 22 - a.1) (0, [], v, g, M2) (⟨rfl, by simp, hv64, hv22, by omega, g_2, ffa_4, by simp, ((F_1.sub (by simp)).tr (F_2.sub (by simp)))⟩) ?_
  rintro ⟨k, ps, r, q, Mk⟩ hinv ih
  dsimp only at hinv ih ⊢
  obtain ⟨i1, i2, i3, i4, i10, i5, i6, i8, i9⟩ := hinv
  refine m_iload (pc' := 28) C dX4_take_26 4 rfl rfl ?_
  refine m_bipush (pc' := 30) (v := nI 22) C dX4_take_28 (by decide) rfl ?_
  refine m_icmp_ge (pc' := 33) (tgt := 84) C dX4_take_30 (by decide) rfl (fun c_30 => ?_) (fun c_30 => ?_)
  · have hr0 : r = 0 := by
      rcases Nat.lt_or_ge k 22 with z | z
      · exact absurd c_30 (nI_ge z (by omega))
      · rw [show 22 - k = 0 by omega] at i4; omega
    refine m_vret C hrt0 hlk0 dX4_take_84 ?_
    have hps : dg b v = ps := by rw [i2, hr0, dg_0, List.append_nil]
    rw [hps]
    exact ⟨⟨h1, h2, by omega, fun x hx => by have := dg_lt (by omega : 2 ≤ b) v x (hps ▸ hx); omega, q, by rw [i1]; exact i5, i6, by rw [i1]; exact i8⟩, i9⟩
  · have hlt : k < 22 := by
      rcases Nat.lt_or_ge k 22 with z | z
      · exact z
      · exact absurd (nI_le z (by omega)) c_30
    refine m_lload (pc' := 35) C dX4_take_33 3 rfl rfl ?_
    refine m_lconst (pc' := 36) (v := 0) C dX4_take_35 (by decide) rfl ?_
    refine m_lcmp (pc' := 37) (v := lg_cmp (lN r) 0) C dX4_take_36 rfl rfl ?_
    refine m_if_eq (pc' := 40) (tgt := 84) C dX4_take_37 (by decide) rfl (fun c_37 => ?_) (fun c_37 => ?_)
    · have hr0 : r = 0 := (lcmp_0 i3).mp c_37
      refine m_vret C hrt0 hlk0 dX4_take_84 ?_
      have hps : dg b v = ps := by rw [i2, hr0, dg_0, List.append_nil]
      rw [hps]
      exact ⟨⟨h1, h2, by omega, fun x hx => by have := dg_lt (by omega : 2 ≤ b) v x (hps ▸ hx); omega, q, by rw [i1]; exact i5, i6, by rw [i1]; exact i8⟩, i9⟩
    · have hr0 : r ≠ 0 := fun z => c_37 ((lcmp_0 i3).mpr z)
      have hstep : r / b < 8 ^ (22 - (k + 1)) := by
        have e8 : 8 ^ (22 - k) = 8 ^ (22 - (k + 1)) * 8 := by rw [← Nat.pow_succ]; congr 1; omega
        rw [e8] at i4
        have h8 : r / b ≤ r / 8 := Nat.div_le_div_left (by omega) (by decide)
        omega
      have hst : ∀ i, i < k + 1 → va_up q k (r % b) i = (ps ++ [r % b]).getD i 0 := by
        intro i hi
        unfold va_up
        by_cases z : i = k
        · rw [if_pos z, z, ← i1, gd_last]
        · rw [if_neg z, i8 i (by omega), gd_app (by omega)]
      refine m_lload (pc' := 42) C dX4_take_40 3 rfl rfl ?_
      refine m_iconst (pc' := 43) (v := nI 1) C dX4_take_42 (by decide) rfl ?_
      refine m_lushr (pc' := 44) (v := lN (r / 2 ^ 1)) C dX4_take_43 (wb_shr i3 (by decide)) rfl ?_
      refine m_iload (pc' := 46) C dX4_take_44 2 rfl rfl ?_
      refine m_i2l (pc' := 47) (v := lN (b / 2)) C dX4_take_46 (nI_l (by omega)) rfl ?_
      refine m_ldiv (pc' := 48) (v := lN (r / b)) C dX4_take_47 hnz (by rw [pk_lDiv (by omega) (by omega) (by omega), Nat.div_div_eq_div_mul, show 2 ^ 1 * (b / 2) = b by omega]) rfl ?_
      refine m_lstore (pc' := 50) (lv' := [(9, .long (lN (r / b))), (0, .ref (ad fo)), (3, .int (nI b)), (5, .int (nI (b / 2))), (6, .long (lN r)), (8, .int (nI k))]) C dX4_take_48 (by decide) rfl rfl ?_
      refine m_aload_n (pc' := 51) C dX4_take_50 rfl 1 rfl rfl ?_
      refine m_get (pc' := 54) C fo h1 i5 rfl inW_X4 0 (by decide) (gW_of tm_1_35) rfl rfl dX4_take_51 rfl ?_
      refine m_iload (pc' := 56) C dX4_take_54 5 rfl rfl ?_
      refine m_lload (pc' := 58) C dX4_take_56 4 rfl rfl ?_
      refine m_lload (pc' := 60) C dX4_take_58 0 rfl rfl ?_
      refine m_iload_n (pc' := 61) C dX4_take_60 rfl 2 rfl rfl ?_
      refine m_i2l (pc' := 62) (v := lN b) C dX4_take_61 (nI_l (by omega)) rfl ?_
      refine m_lmul (pc' := 63) (v := lN (r / b * b)) C dX4_take_62 (lN_mul _ _) rfl ?_
      refine m_lsub (pc' := 64) (v := lN (r % b)) C dX4_take_63 (by rw [lN_sub (Nat.div_mul_le_self r b), div_mod_sub]) rfl ?_
      refine m_l2i (pc' := 65) (v := nI (r % b)) C dX4_take_64 (lN_i _) rfl ?_
      refine m_iast (pc' := 66) (E' := .inl (cy 1, 22, .inl (fun i => nI (va_up q k (r % b) i)))) C fa h2 i6 (vp_in_nI (by omega) (by decide)) (by rw [nI_clamp (by omega), upd_nI]) dX4_take_65 rfl (fun M5 g_5 F_5 => ?_)
      refine m_aload_n (pc' := 67) C dX4_take_66 rfl 1 rfl rfl ?_
      refine m_iload (pc' := 69) C dX4_take_67 5 rfl rfl ?_
      refine m_iconst (pc' := 70) (v := nI 1) C dX4_take_69 (by decide) rfl ?_
      refine m_iadd (pc' := 71) (v := nI (k + 1)) C dX4_take_70 (nI_add _ _) rfl ?_
      have ffo_6 : M5 fo = .inr (4, [.ref (ad fa), .int (nI k), .int (bI lg2)]) := (F_5 fo (by simp <;> omega)).trans i5
      refine m_put (pc' := 74) (ty := .int) (fs' := [.ref (ad fa), .int (nI (k + 1)), .int (bI lg2)]) C fo h1 ffo_6 rfl inW_X4 tyX4 tyX4_ok nmX4 1 (by decide) (gW_of tm_1_36) rfl rfl (by decide +kernel) rfl rfl (by simp) rfl dX4_take_71 rfl (fun M7 g_7 F_7 => ?_)
      refine m_lload (pc' := 76) C dX4_take_74 0 rfl rfl ?_
      refine m_lstore (pc' := 78) (lv' := [(6, .long (lN (r / b))), (9, .long (lN (r / b))), (0, .ref (ad fo)), (3, .int (nI b)), (5, .int (nI (b / 2))), (8, .int (nI k))]) C dX4_take_76 (by decide) rfl rfl ?_
      refine m_iinc (pc' := 81) (v := nI (k + 1)) (lv' := [(8, .int (nI (k + 1))), (6, .long (lN (r / b))), (9, .long (lN (r / b))), (0, .ref (ad fo)), (3, .int (nI b)), (5, .int (nI (b / 2)))]) C dX4_take_78 (k := 5) rfl (nI_add _ _) (by decide) rfl rfl ?_
      refine m_goto (tgt := 26) C dX4_take_81 (by decide) ?_
      have ffa_8 : M7 fa = .inl (cy 1, 22, .inl (fun i => nI (va_up q k (r % b) i))) := (F_7 fa (by simp <;> omega)).trans g_5
      refine m_lv [3, 4, 5, 1, 0] rfl ?_
      exact ih (k + 1, ps ++ [r % b], r / b, va_up q k (r % b), M7) (⟨by simp [i1], by rw [i2, dg_s (by omega) hr0, List.append_assoc]; rfl, Nat.lt_of_le_of_lt (Nat.div_le_self _ _) i3, hstep, by omega, g_7, ffa_8, hst, i9.tr ((F_5.sub (by simp)).tr (F_7.sub (by simp)))⟩) (by simp only; omega)
set_option maxHeartbeats 4000000 in
set_option maxRecDepth 100000 in
theorem kX4_writeTo {l : Launch} {D : va_G} {cy : Nat → ClassId} {ad : Nat → Nat} {n : Nat} {A : Nat → Prop} (hI : mI ad n A) {M : Nat → va_E} {fo fa : Nat} {ds : List Nat} {lg : Bool} (h : isFig cy ad n M fo fa ds lg) {r ra cap lim : Nat} {O : List Nat} (hrow : isRow cy ad n M r ra cap lim O) (hdj : fo ≠ r ∧ fo ≠ ra ∧ fa ≠ r ∧ fa ≠ ra) {m : Nat} (hm : m < 2 ^ 30) : mMv l yX4_writeTo (gW yX4_writeTo cX4_writeTo 4 none) { frames := 1, cells := 0, slots := 0, locals := 23 } D cy ad n A [.ref (ad fo), .ref (ad r), .int (nI m)] M (fun M' => isRow cy ad n M' r ra cap lim (O ++ numS lg ds m) ∧ Fr [r, ra] M M') := by
  have hf := h
  have hne := h.ne
  obtain ⟨h1, h2, h3, h4, g, h5, h6, h7⟩ := h
  have hadd : ∀ (j z : Nat), 0 < j → j ≤ max m ds.length → z = chd lg ds (j - 1) → (O ++ (numS lg ds m).take (max m ds.length - j)) ++ [lowb (nI z)] = O ++ (numS lg ds m).take (max m ds.length - j + 1) := by
    intro j z hj hjm hz
    rw [List.append_assoc]
    congr 1
    have hl : max m ds.length - j < (numS lg ds m).length := by rw [numS_len]; omega
    rw [← take_gd hl (numS_lt h4), numS_at (by omega), show max m ds.length - 1 - (max m ds.length - j) = j - 1 by omega, hz]
  refine m_entry (cc := cX4_writeTo) (maxL := 4) (ret := none) (own := RX4) (lv := [(0, .ref (ad fo)), (1, .ref (ad r)), (2, .int (nI m))]) hI (by decide) rfl rfl (Nat.le_of_ble_eq_true rfl) rfl (fun pX eX sX mX aX bX tX cX C hrt0 hlk0 => ?_)
  refine m_iload_n (pc' := 1) C dX4_writeTo_0 rfl 2 rfl rfl ?_
  refine m_aload_n (pc' := 2) C dX4_writeTo_1 rfl 0 rfl rfl ?_
  refine m_get (pc' := 5) C fo h1 h5 rfl inW_X4 1 (by decide) (gW_of tm_1_36) rfl rfl dX4_writeTo_2 rfl ?_
  refine m_mmax (pc' := 8) (v := nI (max m ds.length)) C (gW_of tm_3_64) (gW_of tm_3_65) (gW_of tm_1_19) (gW_of tm_3_66) (by decide) (Nat.le_of_ble_eq_true rfl) ⟨by decide, by decide⟩ (max_nI (by omega) (by omega)) dX4_writeTo_5 rfl ?_
  refine m_iconst (pc' := 9) (v := nI 1) C dX4_writeTo_8 (by decide) rfl ?_
  refine m_isub (pc' := 10) (v := (nI (max m ds.length)) - (nI 1)) C dX4_writeTo_9 rfl rfl ?_
  refine m_istore_n (pc' := 11) (lv' := [(3, .int ((nI (max m ds.length)) - (nI 1))), (0, .ref (ad fo)), (1, .ref (ad r)), (2, .int (nI m))]) C dX4_writeTo_10 rfl (by decide) rfl rfl ?_
  refine m_lv [1, 2, 0] rfl ?_
  refine m_loop (σ := Nat × (Nat → va_E)) (fun a => a.2) (fun a => [(0, .ref (ad fo)), (1, .ref (ad r)), (3, .int (nI a.1 - nI 1))]) (fun a => a.1 ≤ max m ds.length ∧ isRow cy ad n a.2 r ra cap lim (O ++ (numS lg ds m).take (max m ds.length - a.1)) ∧ Fr [r, ra] M a.2) (fun a => a.1) (max m ds.length, M) (⟨Nat.le_refl _, by simpa using hrow, Fr.rf⟩) ?_
  rintro ⟨j, Mk⟩ hinv ih
  dsimp only at hinv ih ⊢
  obtain ⟨hjm, hR, hF0⟩ := hinv
  refine m_iload_n (pc' := 12) C dX4_writeTo_11 rfl 2 rfl rfl ?_
  refine m_if_lt (pc' := 15) (tgt := 48) C dX4_writeTo_12 (by decide) rfl (fun c_12 => ?_) (fun c_12 => ?_)
  · have hj0 : j = 0 := by
      rcases Nat.lt_or_ge 0 j with z | z
      · exact absurd c_12 (by rw [pk_sub (by omega)]; exact nI_pos (by omega))
      · omega
    refine m_vret C hrt0 hlk0 dX4_writeTo_48 ?_
    rw [hj0, Nat.sub_zero, List.take_of_length_le (by rw [numS_len]; exact Nat.le_refl _)] at hR
    exact ⟨hR, hF0⟩
  · have hj0 : 0 < j := by
      rcases Nat.lt_or_ge 0 j with z | z
      · exact z
      · exact absurd (by rw [show j = 0 by omega]; decide) c_12
    rw [show nI j - nI 1 = nI (j - 1) from pk_sub (by omega)]
    refine m_cut (σ := Nat) (fun a => a = chd lg ds (j - 1)) (fun a => Mk) 39 (fun a => [(0, .ref (ad fo)), (1, .ref (ad r)), (3, .int (nI (j - 1)))]) (fun a => [.int (nI a), .ref (ad r)]) ?_ (fun J39 => ?_)
    · rintro z hj
      try dsimp only at hj ⊢
      refine m_callVv (pc' := 42) (As := [.int (nI z)]) (rest := []) C (kX9_add hI hR (nI z)) (cwV 1 C.1.2.2.2.2 (goodV tm_3_75 tm_2_211 tm_2_212 tm_1_3 tm_2_213) rfl rfl rfl (by decide +kernel) ⟨by decide, by decide⟩) hR.1 hR.ob rfl rfl rfl (Nat.le_of_ble_eq_true rfl) dX4_writeTo_39 rfl ⟨by decide, by decide⟩ (fun M1 q_1 => ?_)
      obtain ⟨R_1, F_1⟩ := q_1
      rw [hadd j z hj0 hjm hj] at R_1
      refine m_iinc (pc' := 45) (v := nI (j - 1) - nI 1) (lv' := [(3, .int (nI (j - 1) - nI 1)), (0, .ref (ad fo)), (1, .ref (ad r))]) C dX4_writeTo_42 (k := 2) rfl (by rw [Int32.sub_eq_add_neg]; rfl) (by decide) rfl rfl ?_
      refine m_goto (tgt := 11) C dX4_writeTo_45 (by decide) ?_
      refine m_lv [1, 2, 0] rfl ?_
      exact ih (j - 1, M1) (⟨by omega, by rw [show max m ds.length - (j - 1) = max m ds.length - j + 1 by omega]; exact R_1, ((hF0.sub (by simp)).tr (F_1.sub (by simp)))⟩) (by simp only; omega)
    refine m_aload_n (pc' := 16) C dX4_writeTo_15 rfl 1 rfl rfl ?_
    refine m_iload_n (pc' := 17) C dX4_writeTo_16 rfl 2 rfl rfl ?_
    refine m_aload_n (pc' := 18) C dX4_writeTo_17 rfl 0 rfl rfl ?_
    have ffo_2 : Mk fo = .inr (4, [.ref (ad fa), .int (nI ds.length), .int (bI lg)]) := (hF0 fo (by simp <;> omega)).trans h5
    refine m_get (pc' := 21) C fo h1 ffo_2 rfl inW_X4 1 (by decide) (gW_of tm_1_36) rfl rfl dX4_writeTo_18 rfl ?_
    refine m_icmp_ge (pc' := 24) (tgt := 37) C dX4_writeTo_21 (by decide) rfl (fun c_21 => ?_) (fun c_21 => ?_)
    · have hds : ¬ j - 1 < ds.length := fun z => absurd c_21 (nI_ge z (by omega))
      refine m_bipush (pc' := 39) (v := nI 48) C dX4_writeTo_37 (by decide) rfl ?_
      refine m_lv [0, 1, 2] rfl ?_
      exact J39 48 (by unfold chd; first | rw [if_pos hds] | rw [if_neg hds])
    · have hds : j - 1 < ds.length := by
        rcases Nat.lt_or_ge (j - 1) ds.length with z | z
        · exact z
        · exact absurd (nI_le z (by omega)) c_21
      refine m_aload_n (pc' := 25) C dX4_writeTo_24 rfl 0 rfl rfl ?_
      refine m_aload_n (pc' := 26) C dX4_writeTo_25 rfl 0 rfl rfl ?_
      refine m_get (pc' := 29) C fo h1 ffo_2 rfl inW_X4 0 (by decide) (gW_of tm_1_35) rfl rfl dX4_writeTo_26 rfl ?_
      refine m_iload_n (pc' := 30) C dX4_writeTo_29 rfl 2 rfl rfl ?_
      have ffa_3 : Mk fa = .inl (cy 1, 22, .inl (fun i => nI (g i))) := (hF0 fa (by simp <;> omega)).trans h6
      refine m_iald (pc' := 31) (v := nI (ds.getD (j - 1) 0)) C fa h2 ffa_3 (vp_in_nI (by omega) (by decide)) (by rw [nI_clamp (by omega), h7 _ hds]) dX4_writeTo_30 rfl ?_
      have hfig := hf.fr hF0 (by simp <;> omega) (by simp <;> omega)
      refine m_callVi (pc' := 34) (As := [.int (nI (ds.getD (j - 1) 0))]) (rest := [.ref (ad r)]) C (kX4_characterOf hI hfig (h4 _ (by rw [List.getD_eq_getElem?_getD, List.getElem?_eq_getElem hds]; exact List.getElem_mem hds))) (cwV 1 C.1.2.2.2.2 (goodV tm_3_71 tm_3_73 tp_18 tm_1_2 tm_3_74) rfl rfl rfl (by decide +kernel) ⟨by decide, by decide⟩) h1 ffo_2 rfl rfl rfl (Nat.le_of_ble_eq_true rfl) dX4_writeTo_31 rfl ⟨by decide, by decide⟩ (fun x_4 N_4 q_4 => ?_)
      obtain ⟨e_4, E_4⟩ := q_4
      replace E_4 := E_4.symm
      subst E_4
      replace e_4 := e_4.symm
      subst e_4
      refine m_goto (tgt := 39) C dX4_writeTo_34 (by decide) ?_
      refine m_lv [0, 1, 2] rfl ?_
      exact J39 (dch lg (ds.getD (j - 1) 0)) (by unfold chd; first | rw [if_pos hds] | rw [if_neg hds])
