set_option maxHeartbeats 4000000 in
set_option maxRecDepth 100000 in
theorem kX5_value {l : Launch} {D : va_G} {cy : Nat → ClassId} {ad : Nat → Nat} {n : Nat} {A : Nat → Prop} (hI : mI ad n A) {M : Nat → va_E} {no : Nat} {nv : Int64} {nb : Bool} (hno : no < n) (hn : M no = .inr (5, [.long nv, .int (bI nb)])) : mMl l yX5_value (gW yX5_value cX5_value 1 (some .long)) { frames := 0, cells := 0, slots := 0, locals := 0 } D cy ad n A [.ref (ad no)] M (fun res M' => res = nv ∧ M' = M) := by
  refine m_entry (cc := cX5_value) (maxL := 1) (ret := (some .long)) (own := RX5) (lv := [(0, .ref (ad no))]) hI (by decide) rfl rfl (Nat.le_of_ble_eq_true rfl) rfl (fun pX eX sX mX aX bX tX cX C hrt0 hlk0 => ?_)
  refine m_aload_n (pc' := 1) C dX5_value_0 rfl 0 rfl rfl ?_
  refine m_get (pc' := 4) C no hno hn rfl inW_X5 0 (by decide) (gW_of tm_1_102) rfl rfl dX5_value_1 rfl ?_
  exact m_lret C hrt0 hlk0 dX5_value_4 ⟨rfl, rfl⟩
set_option maxHeartbeats 4000000 in
set_option maxRecDepth 100000 in
theorem kX5_isOdd {l : Launch} {D : va_G} {cy : Nat → ClassId} {ad : Nat → Nat} {n : Nat} {A : Nat → Prop} (hI : mI ad n A) {M : Nat → va_E} {no : Nat} {nv : Int64} {nb : Bool} (hno : no < n) (hn : M no = .inr (5, [.long nv, .int (bI nb)])) : mMi l yX5_isOdd (gW yX5_isOdd cX5_isOdd 1 (some .boolean)) { frames := 0, cells := 0, slots := 0, locals := 0 } D cy ad n A [.ref (ad no)] M (fun res M' => res = bI nb ∧ M' = M) := by
  refine m_entry (cc := cX5_isOdd) (maxL := 1) (ret := (some .boolean)) (own := RX5) (lv := [(0, .ref (ad no))]) hI (by decide) rfl rfl (Nat.le_of_ble_eq_true rfl) rfl (fun pX eX sX mX aX bX tX cX C hrt0 hlk0 => ?_)
  refine m_aload_n (pc' := 1) C dX5_isOdd_0 rfl 0 rfl rfl ?_
  refine m_get (pc' := 4) C no hno hn rfl inW_X5 1 (by decide) (gW_of tm_1_103) rfl rfl dX5_isOdd_1 rfl ?_
  exact m_iret C hrt0 hlk0 (nar_z _) dX5_isOdd_4 ⟨rfl, rfl⟩
set_option maxHeartbeats 4000000 in
set_option maxRecDepth 100000 in
theorem kX5_isHexadecimal {l : Launch} {D : va_G} {cy : Nat → ClassId} {ad : Nat → Nat} {n : Nat} {A : Nat → Prop} (hI : mI ad n A) {M : Nat → va_E} {r ra : Nat} {T : List Nat} (ht : isRow cy ad n M r ra 80 80 T) (hT : T.length ≤ 80) {s : Nat} (hs : s ≤ 100) : mMi l yX5_isHexadecimal (gW yX5_isHexadecimal cX5_isHexadecimal 3 (some .boolean)) { frames := 1, cells := 0, slots := 0, locals := 22 } D cy ad n A [.ref (ad r), .int (nI s)] M (fun res M' => res = bI (hexB T s) ∧ M' = M) := by
  have h256 : ∀ x ∈ T, x < 256 := ht.2.2.2.2.1
  refine m_entry (cc := cX5_isHexadecimal) (maxL := 3) (ret := (some .boolean)) (own := RX5) (lv := [(0, .ref (ad r)), (1, .int (nI s))]) hI (by decide) rfl rfl (Nat.le_of_ble_eq_true rfl) rfl (fun pX eX sX mX aX bX tX cX C hrt0 hlk0 => ?_)
  refine m_aload_n (pc' := 1) C dX5_isHexadecimal_0 rfl 0 rfl rfl ?_
  refine m_iload_n (pc' := 2) C dX5_isHexadecimal_1 rfl 1 rfl rfl ?_
  refine m_iconst (pc' := 3) (v := nI 1) C dX5_isHexadecimal_2 (by decide) rfl ?_
  refine m_iadd (pc' := 4) (v := nI (s + 1)) C dX5_isHexadecimal_3 (nI_add _ _) rfl ?_
  refine m_callVi (pc' := 7) (As := [.int (nI (s + 1))]) (rest := []) C (kX9_at hI ht (nI (s + 1))) (cwV 1 C.1.2.2.2.2 (goodV tm_2_230 tm_2_128 tm_2_129 tm_1_3 tm_2_130) rfl rfl rfl (by decide +kernel) ⟨by decide, by decide⟩) ht.1 ht.ob rfl rfl rfl (Nat.le_of_ble_eq_true rfl) dX5_isHexadecimal_4 rfl ⟨by decide, by decide⟩ (fun x_1 N_1 q_1 => ?_)
  obtain ⟨e_1, E_1⟩ := q_1
  replace E_1 := E_1.symm
  subst E_1
  replace e_1 : x_1 = chAt T (s + 1) := e_1.trans (rowAt_full hT (by omega) (by omega))
  replace e_1 := e_1.symm
  subst e_1
  refine m_istore_n (pc' := 8) (lv' := [(2, .int (chAt T (s + 1))), (0, .ref (ad r)), (1, .int (nI s))]) C dX5_isHexadecimal_7 rfl (by decide) rfl rfl ?_
  refine m_iload_n (pc' := 9) C dX5_isHexadecimal_8 rfl 0 rfl rfl ?_
  refine m_bipush (pc' := 11) (v := nI 120) C dX5_isHexadecimal_9 (by decide) rfl ?_
  refine m_icmp_eq (pc' := 14) (tgt := 20) C dX5_isHexadecimal_11 (by decide) rfl (fun c_11 => ?_) (fun c_11 => ?_)
  · have e11 : T.getD (s + 1) 0 = 120 := (chAt_eq h256 (by decide) (by decide)).mp c_11
    refine m_aload_n (pc' := 21) C dX5_isHexadecimal_20 rfl 1 rfl rfl ?_
    refine m_iload_n (pc' := 22) C dX5_isHexadecimal_21 rfl 2 rfl rfl ?_
    refine m_iconst (pc' := 23) (v := nI 2) C dX5_isHexadecimal_22 (by decide) rfl ?_
    refine m_iadd (pc' := 24) (v := nI (s + 2)) C dX5_isHexadecimal_23 (nI_add _ _) rfl ?_
    refine m_callVi (pc' := 27) (As := [.int (nI (s + 2))]) (rest := []) C (kX9_at hI ht (nI (s + 2))) (cwV 1 C.1.2.2.2.2 (goodV tm_2_230 tm_2_128 tm_2_129 tm_1_3 tm_2_130) rfl rfl rfl (by decide +kernel) ⟨by decide, by decide⟩) ht.1 ht.ob rfl rfl rfl (Nat.le_of_ble_eq_true rfl) dX5_isHexadecimal_24 rfl ⟨by decide, by decide⟩ (fun x_2 N_2 q_2 => ?_)
    obtain ⟨e_2, E_2⟩ := q_2
    replace E_2 := E_2.symm
    subst E_2
    replace e_2 : x_2 = chAt T (s + 2) := e_2.trans (rowAt_full hT (by omega) (by omega))
    replace e_2 := e_2.symm
    subst e_2
    refine m_bipush (pc' := 29) (v := nI 16) C dX5_isHexadecimal_27 (by decide) rfl ?_
    refine m_callNi (pc' := 32) (As := [.int (chAt T (s + 2)), .int (nI 16)]) (rest := []) C (kX11_digitOf hI (chAt T (s + 2)) (nI 16)) ⟨va_cnB 2 C.1.2.2.2.2 (goodN tm_2_149) rfl rfl rfl (C.2.1.2 (RX5, 41, yX11_digitOf) (List.mem_of_getElem? (i := 2) rfl)) (C.1.2.2.2.2 _ (gW_of tm_1_1)) (by decide +kernel) ⟨by decide, by decide⟩, C.1.2.2.2.2 _ (gW_of tm_2_148), trivial⟩ rfl rfl (Nat.le_of_ble_eq_true rfl) dX5_isHexadecimal_29 rfl ⟨by decide, by decide⟩ (fun x_3 N_3 q_3 => ?_)
    obtain ⟨e_3, E_3⟩ := q_3
    replace E_3 := E_3.symm
    subst E_3
    replace e_3 : x_3 = dI (T.getD (s + 2) 0) 16 := e_3.trans (digI_at (by omega) h256)
    replace e_3 := e_3.symm
    subst e_3
    refine m_iconst (pc' := 33) (v := (-1)) C dX5_isHexadecimal_32 (by decide) rfl ?_
    refine m_icmp_eq (pc' := 36) (tgt := 40) C dX5_isHexadecimal_33 (by decide) rfl (fun c_33 => ?_) (fun c_33 => ?_)
    · have e33 := (dI_m1 (by decide)).mp c_33
      refine m_iconst (pc' := 41) (v := bI false) C dX5_isHexadecimal_40 (by decide) rfl ?_
      refine m_iret C hrt0 hlk0 (nar_z _) dX5_isHexadecimal_41 ?_
      exact ⟨by first | rw [hexB_f2 e33] | rw [hexB_t (Or.inl e11) e33] | rw [hexB_t (Or.inr e17) e33] | rw [hexB_f1 e11 e17], rfl⟩
    · have e33 : dvN (T.getD (s + 2) 0) < 16 := Classical.not_not.mp (fun q => c_33 ((dI_m1 (by decide)).mpr q))
      refine m_iconst (pc' := 37) (v := bI true) C dX5_isHexadecimal_36 (by decide) rfl ?_
      refine m_goto (tgt := 41) C dX5_isHexadecimal_37 (by decide) ?_
      refine m_iret C hrt0 hlk0 (nar_z _) dX5_isHexadecimal_41 ?_
      exact ⟨by first | rw [hexB_f2 e33] | rw [hexB_t (Or.inl e11) e33] | rw [hexB_t (Or.inr e17) e33] | rw [hexB_f1 e11 e17], rfl⟩
  · have e11 : ¬ T.getD (s + 1) 0 = 120 := fun q => c_11 ((chAt_eq h256 (by decide) (by decide)).mpr q)
    refine m_iload_n (pc' := 15) C dX5_isHexadecimal_14 rfl 0 rfl rfl ?_
    refine m_bipush (pc' := 17) (v := nI 88) C dX5_isHexadecimal_15 (by decide) rfl ?_
    refine m_icmp_ne (pc' := 20) (tgt := 40) C dX5_isHexadecimal_17 (by decide) rfl (fun c_17 => ?_) (fun c_17 => ?_)
    · have e17 : ¬ T.getD (s + 1) 0 = 88 := fun q => c_17 ((chAt_eq h256 (by decide) (by decide)).mpr q)
      refine m_iconst (pc' := 41) (v := bI false) C dX5_isHexadecimal_40 (by decide) rfl ?_
      refine m_iret C hrt0 hlk0 (nar_z _) dX5_isHexadecimal_41 ?_
      exact ⟨by first | rw [hexB_f2 e33] | rw [hexB_t (Or.inl e11) e33] | rw [hexB_t (Or.inr e17) e33] | rw [hexB_f1 e11 e17], rfl⟩
    · have e17 : T.getD (s + 1) 0 = 88 := (chAt_eq h256 (by decide) (by decide)).mp (Classical.not_not.mp c_17)
      refine m_aload_n (pc' := 21) C dX5_isHexadecimal_20 rfl 1 rfl rfl ?_
      refine m_iload_n (pc' := 22) C dX5_isHexadecimal_21 rfl 2 rfl rfl ?_
      refine m_iconst (pc' := 23) (v := nI 2) C dX5_isHexadecimal_22 (by decide) rfl ?_
      refine m_iadd (pc' := 24) (v := nI (s + 2)) C dX5_isHexadecimal_23 (nI_add _ _) rfl ?_
      refine m_callVi (pc' := 27) (As := [.int (nI (s + 2))]) (rest := []) C (kX9_at hI ht (nI (s + 2))) (cwV 1 C.1.2.2.2.2 (goodV tm_2_230 tm_2_128 tm_2_129 tm_1_3 tm_2_130) rfl rfl rfl (by decide +kernel) ⟨by decide, by decide⟩) ht.1 ht.ob rfl rfl rfl (Nat.le_of_ble_eq_true rfl) dX5_isHexadecimal_24 rfl ⟨by decide, by decide⟩ (fun x_4 N_4 q_4 => ?_)
      obtain ⟨e_4, E_4⟩ := q_4
      replace E_4 := E_4.symm
      subst E_4
      replace e_4 : x_4 = chAt T (s + 2) := e_4.trans (rowAt_full hT (by omega) (by omega))
      replace e_4 := e_4.symm
      subst e_4
      refine m_bipush (pc' := 29) (v := nI 16) C dX5_isHexadecimal_27 (by decide) rfl ?_
      refine m_callNi (pc' := 32) (As := [.int (chAt T (s + 2)), .int (nI 16)]) (rest := []) C (kX11_digitOf hI (chAt T (s + 2)) (nI 16)) ⟨va_cnB 2 C.1.2.2.2.2 (goodN tm_2_149) rfl rfl rfl (C.2.1.2 (RX5, 41, yX11_digitOf) (List.mem_of_getElem? (i := 2) rfl)) (C.1.2.2.2.2 _ (gW_of tm_1_1)) (by decide +kernel) ⟨by decide, by decide⟩, C.1.2.2.2.2 _ (gW_of tm_2_148), trivial⟩ rfl rfl (Nat.le_of_ble_eq_true rfl) dX5_isHexadecimal_29 rfl ⟨by decide, by decide⟩ (fun x_5 N_5 q_5 => ?_)
      obtain ⟨e_5, E_5⟩ := q_5
      replace E_5 := E_5.symm
      subst E_5
      replace e_5 : x_5 = dI (T.getD (s + 2) 0) 16 := e_5.trans (digI_at (by omega) h256)
      replace e_5 := e_5.symm
      subst e_5
      refine m_iconst (pc' := 33) (v := (-1)) C dX5_isHexadecimal_32 (by decide) rfl ?_
      refine m_icmp_eq (pc' := 36) (tgt := 40) C dX5_isHexadecimal_33 (by decide) rfl (fun c_33 => ?_) (fun c_33 => ?_)
      · have e33 := (dI_m1 (by decide)).mp c_33
        refine m_iconst (pc' := 41) (v := bI false) C dX5_isHexadecimal_40 (by decide) rfl ?_
        refine m_iret C hrt0 hlk0 (nar_z _) dX5_isHexadecimal_41 ?_
        exact ⟨by first | rw [hexB_f2 e33] | rw [hexB_t (Or.inl e11) e33] | rw [hexB_t (Or.inr e17) e33] | rw [hexB_f1 e11 e17], rfl⟩
      · have e33 : dvN (T.getD (s + 2) 0) < 16 := Classical.not_not.mp (fun q => c_33 ((dI_m1 (by decide)).mpr q))
        refine m_iconst (pc' := 37) (v := bI true) C dX5_isHexadecimal_36 (by decide) rfl ?_
        refine m_goto (tgt := 41) C dX5_isHexadecimal_37 (by decide) ?_
        refine m_iret C hrt0 hlk0 (nar_z _) dX5_isHexadecimal_41 ?_
        exact ⟨by first | rw [hexB_f2 e33] | rw [hexB_t (Or.inl e11) e33] | rw [hexB_t (Or.inr e17) e33] | rw [hexB_f1 e11 e17], rfl⟩
set_option maxHeartbeats 4000000 in
set_option maxRecDepth 100000 in
theorem kX5_readCharacter {l : Launch} {D : va_G} {cy : Nat → ClassId} {ad : Nat → Nat} {n : Nat} {A : Nat → Prop} (hI : mI ad n A) {M : Nat → va_E} {r ra : Nat} {T : List Nat} (ht : isRow cy ad n M r ra 80 80 T) (hT : T.length ≤ 80) {no : Nat} {nv : Int64} {nb : Bool} (hno : no < n) (hn : M no = .inr (5, [.long nv, .int (bI nb)])) (hdj : no ≠ r ∧ no ≠ ra) : mMv l yX5_readCharacter (gW yX5_readCharacter cX5_readCharacter 2 none) { frames := 1, cells := 0, slots := 0, locals := 21 } D cy ad n A [.ref (ad no), .ref (ad r)] M (fun M' => M' no = .inr (5, [.long (if 1 < T.length then lN (T.getD 1 0) else 0), .int (bI (decide (T.length ≠ 2)))]) ∧ Fr [no] M M') := by
  have h256 : ∀ x ∈ T, x < 256 := ht.2.2.2.2.1
  refine m_entry (cc := cX5_readCharacter) (maxL := 2) (ret := none) (own := RX5) (lv := [(0, .ref (ad no)), (1, .ref (ad r))]) hI (by decide) rfl rfl (Nat.le_of_ble_eq_true rfl) rfl (fun pX eX sX mX aX bX tX cX C hrt0 hlk0 => ?_)
  refine m_aload_n (pc' := 1) C dX5_readCharacter_0 rfl 0 rfl rfl ?_
  refine m_aload_n (pc' := 2) C dX5_readCharacter_1 rfl 1 rfl rfl ?_
  refine m_callVi (pc' := 5) (As := []) (rest := [.ref (ad no)]) C (kX9_size hI ht) (cwV 0 C.1.2.2.2.2 (goodV tm_2_235 tm_2_95 tm_2_96 tm_1_3 tm_2_97) rfl rfl rfl (by decide +kernel) ⟨by decide, by decide⟩) ht.1 ht.ob rfl rfl rfl (Nat.le_of_ble_eq_true rfl) dX5_readCharacter_2 rfl ⟨by decide, by decide⟩ (fun x_1 N_1 q_1 => ?_)
  obtain ⟨e_1, E_1⟩ := q_1
  replace E_1 := E_1.symm
  subst E_1
  replace e_1 : x_1 = nI T.length := e_1.trans (by rw [Nat.min_eq_left hT])
  replace e_1 := e_1.symm
  subst e_1
  refine m_iconst (pc' := 6) (v := nI 1) C dX5_readCharacter_5 (by decide) rfl ?_
  refine m_icmp_le (pc' := 9) (tgt := 18) C dX5_readCharacter_6 (by decide) rfl (fun c_6 => ?_) (fun c_6 => ?_)
  · have h9 : ¬ 1 < T.length := fun q => absurd c_6 (nI_ge q (by omega))
    refine m_lconst (pc' := 19) (v := 0) C dX5_readCharacter_18 (by decide) rfl ?_
    refine m_put (pc' := 22) (ty := .long) (fs' := [.long (0), .int (bI nb)]) C no hno hn rfl inW_X5 tyX5 tyX5_ok nmX5 0 (by decide) (gW_of tm_1_102) rfl rfl (by decide +kernel) rfl rfl (by simp) rfl dX5_readCharacter_19 rfl (fun M2 g_2 F_2 => ?_)
    refine m_aload_n (pc' := 23) C dX5_readCharacter_22 rfl 0 rfl rfl ?_
    refine m_aload_n (pc' := 24) C dX5_readCharacter_23 rfl 1 rfl rfl ?_
    have Rr_3 := ht.fr F_2 (by simp <;> omega) (by simp <;> omega)
    refine m_callVi (pc' := 27) (As := []) (rest := [.ref (ad no)]) C (kX9_size hI Rr_3) (cwV 0 C.1.2.2.2.2 (goodV tm_2_235 tm_2_95 tm_2_96 tm_1_3 tm_2_97) rfl rfl rfl (by decide +kernel) ⟨by decide, by decide⟩) Rr_3.1 Rr_3.ob rfl rfl rfl (Nat.le_of_ble_eq_true rfl) dX5_readCharacter_24 rfl ⟨by decide, by decide⟩ (fun x_4 N_4 q_4 => ?_)
    obtain ⟨e_4, E_4⟩ := q_4
    replace E_4 := E_4.symm
    subst E_4
    replace e_4 : x_4 = nI T.length := e_4.trans (by rw [Nat.min_eq_left hT])
    replace e_4 := e_4.symm
    subst e_4
    refine m_iconst (pc' := 28) (v := nI 2) C dX5_readCharacter_27 (by decide) rfl ?_
    refine m_icmp_eq (pc' := 31) (tgt := 35) C dX5_readCharacter_28 (by decide) rfl (fun c_28 => ?_) (fun c_28 => ?_)
    · have h2 : T.length = 2 := nI_inj (by omega) (by decide) c_28
      refine m_iconst (pc' := 36) (v := bI false) C dX5_readCharacter_35 (by decide) rfl ?_
      refine m_put (pc' := 39) (ty := .boolean) (fs' := [.long (0), .int (bI false)]) C no hno g_2 rfl inW_X5 tyX5 tyX5_ok nmX5 1 (by decide) (gW_of tm_1_103) rfl rfl (by decide +kernel) (nar_z _) (fit_z _) (by simp) rfl dX5_readCharacter_36 rfl (fun M5 g_5 F_5 => ?_)
      refine m_vret C hrt0 hlk0 dX5_readCharacter_39 ?_
      refine ⟨?_, ((F_2.sub (by simp)).tr (F_5.sub (by simp)))⟩
      rw [g_5]
      first
        | (exfalso; omega)
        | rw [if_pos h9, decide_eq_true h2]
        | rw [if_pos h9, decide_eq_false (fun q => q h2)]
        | rw [if_neg h9, decide_eq_true h2]
    · have h2 : ¬ T.length = 2 := fun q => c_28 (by rw [q])
      refine m_iconst (pc' := 32) (v := bI true) C dX5_readCharacter_31 (by decide) rfl ?_
      refine m_goto (tgt := 36) C dX5_readCharacter_32 (by decide) ?_
      refine m_put (pc' := 39) (ty := .boolean) (fs' := [.long (0), .int (bI true)]) C no hno g_2 rfl inW_X5 tyX5 tyX5_ok nmX5 1 (by decide) (gW_of tm_1_103) rfl rfl (by decide +kernel) (nar_z _) (fit_z _) (by simp) rfl dX5_readCharacter_36 rfl (fun M6 g_6 F_6 => ?_)
      refine m_vret C hrt0 hlk0 dX5_readCharacter_39 ?_
      refine ⟨?_, ((F_2.sub (by simp)).tr (F_6.sub (by simp)))⟩
      rw [g_6]
      first
        | (exfalso; omega)
        | rw [if_pos h9, decide_eq_true h2]
        | rw [if_pos h9, decide_eq_false (fun q => q h2)]
        | rw [if_neg h9, decide_eq_true h2]
  · have h9 : 1 < T.length := by
      rcases Nat.lt_or_ge 1 T.length with q | q
      · exact q
      · exact absurd (nI_le q (by omega)) c_6
    refine m_aload_n (pc' := 10) C dX5_readCharacter_9 rfl 1 rfl rfl ?_
    refine m_iconst (pc' := 11) (v := nI 1) C dX5_readCharacter_10 (by decide) rfl ?_
    refine m_callVi (pc' := 14) (As := [.int (nI 1)]) (rest := [.ref (ad no)]) C (kX9_at hI ht (nI 1)) (cwV 1 C.1.2.2.2.2 (goodV tm_2_230 tm_2_128 tm_2_129 tm_1_3 tm_2_130) rfl rfl rfl (by decide +kernel) ⟨by decide, by decide⟩) ht.1 ht.ob rfl rfl rfl (Nat.le_of_ble_eq_true rfl) dX5_readCharacter_11 rfl ⟨by decide, by decide⟩ (fun x_7 N_7 q_7 => ?_)
    obtain ⟨e_7, E_7⟩ := q_7
    replace E_7 := E_7.symm
    subst E_7
    replace e_7 : x_7 = chAt T 1 := e_7.trans (rowAt_full hT (by omega) (by omega))
    replace e_7 := e_7.symm
    subst e_7
    refine m_i2l (pc' := 15) (v := lN (T.getD 1 0)) C dX5_readCharacter_14 (by unfold chAt; rw [if_pos h9]; exact nI_l (by have := gd_lt (by decide) h256 1; omega)) rfl ?_
    refine m_goto (tgt := 19) C dX5_readCharacter_15 (by decide) ?_
    refine m_put (pc' := 22) (ty := .long) (fs' := [.long (lN (T.getD 1 0)), .int (bI nb)]) C no hno hn rfl inW_X5 tyX5 tyX5_ok nmX5 0 (by decide) (gW_of tm_1_102) rfl rfl (by decide +kernel) rfl rfl (by simp) rfl dX5_readCharacter_19 rfl (fun M8 g_8 F_8 => ?_)
    refine m_aload_n (pc' := 23) C dX5_readCharacter_22 rfl 0 rfl rfl ?_
    refine m_aload_n (pc' := 24) C dX5_readCharacter_23 rfl 1 rfl rfl ?_
    have Rr_9 := ht.fr F_8 (by simp <;> omega) (by simp <;> omega)
    refine m_callVi (pc' := 27) (As := []) (rest := [.ref (ad no)]) C (kX9_size hI Rr_9) (cwV 0 C.1.2.2.2.2 (goodV tm_2_235 tm_2_95 tm_2_96 tm_1_3 tm_2_97) rfl rfl rfl (by decide +kernel) ⟨by decide, by decide⟩) Rr_9.1 Rr_9.ob rfl rfl rfl (Nat.le_of_ble_eq_true rfl) dX5_readCharacter_24 rfl ⟨by decide, by decide⟩ (fun x_10 N_10 q_10 => ?_)
    obtain ⟨e_10, E_10⟩ := q_10
    replace E_10 := E_10.symm
    subst E_10
    replace e_10 : x_10 = nI T.length := e_10.trans (by rw [Nat.min_eq_left hT])
    replace e_10 := e_10.symm
    subst e_10
    refine m_iconst (pc' := 28) (v := nI 2) C dX5_readCharacter_27 (by decide) rfl ?_
    refine m_icmp_eq (pc' := 31) (tgt := 35) C dX5_readCharacter_28 (by decide) rfl (fun c_28 => ?_) (fun c_28 => ?_)
    · have h2 : T.length = 2 := nI_inj (by omega) (by decide) c_28
      refine m_iconst (pc' := 36) (v := bI false) C dX5_readCharacter_35 (by decide) rfl ?_
      refine m_put (pc' := 39) (ty := .boolean) (fs' := [.long (lN (T.getD 1 0)), .int (bI false)]) C no hno g_8 rfl inW_X5 tyX5 tyX5_ok nmX5 1 (by decide) (gW_of tm_1_103) rfl rfl (by decide +kernel) (nar_z _) (fit_z _) (by simp) rfl dX5_readCharacter_36 rfl (fun M11 g_11 F_11 => ?_)
      refine m_vret C hrt0 hlk0 dX5_readCharacter_39 ?_
      refine ⟨?_, ((F_8.sub (by simp)).tr (F_11.sub (by simp)))⟩
      rw [g_11]
      first
        | (exfalso; omega)
        | rw [if_pos h9, decide_eq_true h2]
        | rw [if_pos h9, decide_eq_false (fun q => q h2)]
        | rw [if_neg h9, decide_eq_true h2]
    · have h2 : ¬ T.length = 2 := fun q => c_28 (by rw [q])
      refine m_iconst (pc' := 32) (v := bI true) C dX5_readCharacter_31 (by decide) rfl ?_
      refine m_goto (tgt := 36) C dX5_readCharacter_32 (by decide) ?_
      refine m_put (pc' := 39) (ty := .boolean) (fs' := [.long (lN (T.getD 1 0)), .int (bI true)]) C no hno g_8 rfl inW_X5 tyX5 tyX5_ok nmX5 1 (by decide) (gW_of tm_1_103) rfl rfl (by decide +kernel) (nar_z _) (fit_z _) (by simp) rfl dX5_readCharacter_36 rfl (fun M12 g_12 F_12 => ?_)
      refine m_vret C hrt0 hlk0 dX5_readCharacter_39 ?_
      refine ⟨?_, ((F_8.sub (by simp)).tr (F_12.sub (by simp)))⟩
      rw [g_12]
      first
        | (exfalso; omega)
        | rw [if_pos h9, decide_eq_true h2]
        | rw [if_pos h9, decide_eq_false (fun q => q h2)]
        | rw [if_neg h9, decide_eq_true h2]
set_option maxHeartbeats 4000000 in
set_option maxRecDepth 100000 in
theorem kX5_readDigits {l : Launch} {D : va_G} {cy : Nat → ClassId} {ad : Nat → Nat} {n : Nat} {A : Nat → Prop} (hI : mI ad n A) {M : Nat → va_E} {r ra : Nat} {T : List Nat} (ht : isRow cy ad n M r ra 80 80 T) (hT : T.length ≤ 80) {no : Nat} {nv : Int64} {nb : Bool} (hno : no < n) (hn : M no = .inr (5, [.long nv, .int (bI nb)])) (hdj : no ≠ r ∧ no ≠ ra) {s b : Nat} (hs : s ≤ 100) (hb : b = 8 ∨ b = 10 ∨ b = 16) : mMv l yX5_readDigits (gW yX5_readDigits cX5_readDigits 5 none) { frames := 1, cells := 0, slots := 0, locals := 22 } D cy ad n A [.ref (ad no), .ref (ad r), .int (nI s), .int (nI b)] M (fun M' => M' no = .inr (5, [.long (lN (valN b (ldig b (T.drop s)))), .int (bI (oddD T (ldig b (T.drop s)) s))]) ∧ Fr [no] M M') := by
  have h256 : ∀ x ∈ T, x < 256 := ht.2.2.2.2.1
  refine m_entry (cc := cX5_readDigits) (maxL := 5) (ret := none) (own := RX5) (lv := [(0, .ref (ad no)), (1, .ref (ad r)), (2, .int (nI s)), (3, .int (nI b))]) hI (by decide) rfl rfl (Nat.le_of_ble_eq_true rfl) rfl (fun pX eX sX mX aX bX tX cX C hrt0 hlk0 => ?_)
  refine m_iload_n (pc' := 1) C dX5_readDigits_0 rfl 2 rfl rfl ?_
  refine m_istore (pc' := 3) (lv' := [(4, .int (nI s)), (0, .ref (ad no)), (1, .ref (ad r)), (2, .int (nI s)), (3, .int (nI b))]) C dX5_readDigits_1 (by decide) rfl rfl ?_
  refine m_aload_n (pc' := 4) C dX5_readDigits_3 rfl 1 rfl rfl ?_
  refine m_lconst (pc' := 5) (v := 0) C dX5_readDigits_4 (by decide) rfl ?_
  refine m_put (pc' := 8) (ty := .long) (fs' := [.long (lN (valN b [])), .int (bI nb)]) C no hno hn rfl inW_X5 tyX5 tyX5_ok nmX5 0 (by decide) (gW_of tm_1_102) rfl rfl (by decide +kernel) rfl rfl (by simp) rfl dX5_readDigits_5 rfl (fun M1 g_1 F_1 => ?_)
  refine m_lv [1, 2, 3, 4, 0] rfl ?_
  refine m_loop (σ := Nat × List Nat × (Nat → va_E)) (fun a => a.2.2) (fun a => [(0, .ref (ad no)), (1, .ref (ad r)), (2, .int (nI s)), (3, .int (nI b)), (4, .int (nI (s + a.1)))]) (fun a => a.2.1.length = a.1 ∧ ldig b (T.drop s) = a.2.1 ++ ldig b (T.drop (s + a.1)) ∧ a.2.2 no = .inr (5, [.long (lN (valN b a.2.1)), .int (bI nb)]) ∧ Fr [no] M a.2.2 ∧ s + a.1 ≤ 101) (fun a => T.length - (s + a.1)) (0, [], M1) (⟨rfl, by simp, g_1, (F_1.sub (by simp)), by omega⟩) ?_
  rintro ⟨k, ps, Mk⟩ hinv ih
  dsimp only at hinv ih ⊢
  obtain ⟨i1, i2, i5, i6, i7⟩ := hinv
  refine m_iload (pc' := 10) C dX5_readDigits_8 4 rfl rfl ?_
  refine m_aload_n (pc' := 11) C dX5_readDigits_10 rfl 1 rfl rfl ?_
  have Rr_2 := ht.fr i6 (by simp <;> omega) (by simp <;> omega)
  refine m_callVi (pc' := 14) (As := []) (rest := [.int (nI (s + k))]) C (kX9_size hI Rr_2) (cwV 0 C.1.2.2.2.2 (goodV tm_2_235 tm_2_95 tm_2_96 tm_1_3 tm_2_97) rfl rfl rfl (by decide +kernel) ⟨by decide, by decide⟩) Rr_2.1 Rr_2.ob rfl rfl rfl (Nat.le_of_ble_eq_true rfl) dX5_readDigits_11 rfl ⟨by decide, by decide⟩ (fun x_3 N_3 q_3 => ?_)
  obtain ⟨e_3, E_3⟩ := q_3
  replace E_3 := E_3.symm
  subst E_3
  replace e_3 : x_3 = nI T.length := e_3.trans (by rw [Nat.min_eq_left hT])
  replace e_3 := e_3.symm
  subst e_3
  refine m_icmp_ge (pc' := 17) (tgt := 60) C dX5_readDigits_14 (by decide) rfl (fun c_14 => ?_) (fun c_14 => ?_)
  · have hge : T.length ≤ s + k := by
      rcases Nat.lt_or_ge (s + k) T.length with q | q
      · exact absurd c_14 (nI_ge q (by omega))
      · exact q
    have hds : ldig b (T.drop s) = ps := by rw [i2, ldig_e hge, List.append_nil]
    refine m_aload_n (pc' := 61) C dX5_readDigits_60 rfl 0 rfl rfl ?_
    refine m_iload (pc' := 63) C dX5_readDigits_61 4 rfl rfl ?_
    refine m_iload_n (pc' := 64) C dX5_readDigits_63 rfl 2 rfl rfl ?_
    refine m_icmp_eq (pc' := 67) (tgt := 76) C dX5_readDigits_64 (by decide) rfl (fun c_64 => ?_) (fun c_64 => ?_)
    · have hk0 : k = 0 := by have := nI_inj (by omega) (by omega) c_64; omega
      have hpe : ps = [] := List.length_eq_zero_iff.mp (by omega)
      refine m_iconst (pc' := 77) (v := bI true) C dX5_readDigits_76 (by decide) rfl ?_
      refine m_goto (tgt := 81) C dX5_readDigits_77 (by decide) ?_
      refine m_put (pc' := 84) (ty := .boolean) (fs' := [.long (lN (valN b ps)), .int (bI true)]) C no hno i5 rfl inW_X5 tyX5 tyX5_ok nmX5 1 (by decide) (gW_of tm_1_103) rfl rfl (by decide +kernel) (nar_z _) (fit_z _) (by simp) rfl dX5_readDigits_81 rfl (fun M4 g_4 F_4 => ?_)
      refine m_vret C hrt0 hlk0 dX5_readDigits_84 ?_
      refine ⟨?_, ((i6.sub (by simp)).tr (F_4.sub (by simp)))⟩
      rw [g_4, hds]
      unfold oddD
      rw [i1]
      first | rw [decide_eq_true (Or.inl hpe)] | rw [decide_eq_true (Or.inr hle)] | rw [decide_eq_false (fun q => q.elim hpe hle)]
    · have hk0 : ¬ k = 0 := fun q => c_64 (by rw [q]; rfl)
      have hpe : ¬ ps = [] := fun q => hk0 (by rw [← i1, q]; rfl)
      refine m_iload (pc' := 69) C dX5_readDigits_67 4 rfl rfl ?_
      refine m_aload_n (pc' := 70) C dX5_readDigits_69 rfl 1 rfl rfl ?_
      refine m_callVi (pc' := 73) (As := []) (rest := [.int (nI (s + k)), .ref (ad no)]) C (kX9_size hI Rr_2) (cwV 0 C.1.2.2.2.2 (goodV tm_2_235 tm_2_95 tm_2_96 tm_1_3 tm_2_97) rfl rfl rfl (by decide +kernel) ⟨by decide, by decide⟩) Rr_2.1 Rr_2.ob rfl rfl rfl (Nat.le_of_ble_eq_true rfl) dX5_readDigits_70 rfl ⟨by decide, by decide⟩ (fun x_5 N_5 q_5 => ?_)
      obtain ⟨e_5, E_5⟩ := q_5
      replace E_5 := E_5.symm
      subst E_5
      replace e_5 : x_5 = nI T.length := e_5.trans (by rw [Nat.min_eq_left hT])
      replace e_5 := e_5.symm
      subst e_5
      refine m_icmp_ge (pc' := 76) (tgt := 80) C dX5_readDigits_73 (by decide) rfl (fun c_73 => ?_) (fun c_73 => ?_)
      · have hle : ¬ s + k < T.length := fun q => absurd c_73 (nI_ge q (by omega))
        refine m_iconst (pc' := 81) (v := bI false) C dX5_readDigits_80 (by decide) rfl ?_
        refine m_put (pc' := 84) (ty := .boolean) (fs' := [.long (lN (valN b ps)), .int (bI false)]) C no hno i5 rfl inW_X5 tyX5 tyX5_ok nmX5 1 (by decide) (gW_of tm_1_103) rfl rfl (by decide +kernel) (nar_z _) (fit_z _) (by simp) rfl dX5_readDigits_81 rfl (fun M6 g_6 F_6 => ?_)
        refine m_vret C hrt0 hlk0 dX5_readDigits_84 ?_
        refine ⟨?_, ((i6.sub (by simp)).tr (F_6.sub (by simp)))⟩
        rw [g_6, hds]
        unfold oddD
        rw [i1]
        first | rw [decide_eq_true (Or.inl hpe)] | rw [decide_eq_true (Or.inr hle)] | rw [decide_eq_false (fun q => q.elim hpe hle)]
      · have hle : s + k < T.length := by
          rcases Nat.lt_or_ge (s + k) T.length with q | q
          · exact q
          · exact absurd (nI_le q (by omega)) c_73
        refine m_iconst (pc' := 77) (v := bI true) C dX5_readDigits_76 (by decide) rfl ?_
        refine m_goto (tgt := 81) C dX5_readDigits_77 (by decide) ?_
        refine m_put (pc' := 84) (ty := .boolean) (fs' := [.long (lN (valN b ps)), .int (bI true)]) C no hno i5 rfl inW_X5 tyX5 tyX5_ok nmX5 1 (by decide) (gW_of tm_1_103) rfl rfl (by decide +kernel) (nar_z _) (fit_z _) (by simp) rfl dX5_readDigits_81 rfl (fun M7 g_7 F_7 => ?_)
        refine m_vret C hrt0 hlk0 dX5_readDigits_84 ?_
        refine ⟨?_, ((i6.sub (by simp)).tr (F_7.sub (by simp)))⟩
        rw [g_7, hds]
        unfold oddD
        rw [i1]
        first | rw [decide_eq_true (Or.inl hpe)] | rw [decide_eq_true (Or.inr hle)] | rw [decide_eq_false (fun q => q.elim hpe hle)]
  · have hlt : s + k < T.length := by
      rcases Nat.lt_or_ge (s + k) T.length with q | q
      · exact q
      · exact absurd (nI_le q (by omega)) c_14
    refine m_aload_n (pc' := 18) C dX5_readDigits_17 rfl 1 rfl rfl ?_
    refine m_iload (pc' := 20) C dX5_readDigits_18 4 rfl rfl ?_
    refine m_callVi (pc' := 23) (As := [.int (nI (s + k))]) (rest := []) C (kX9_at hI Rr_2 (nI (s + k))) (cwV 1 C.1.2.2.2.2 (goodV tm_2_230 tm_2_128 tm_2_129 tm_1_3 tm_2_130) rfl rfl rfl (by decide +kernel) ⟨by decide, by decide⟩) Rr_2.1 Rr_2.ob rfl rfl rfl (Nat.le_of_ble_eq_true rfl) dX5_readDigits_20 rfl ⟨by decide, by decide⟩ (fun x_8 N_8 q_8 => ?_)
    obtain ⟨e_8, E_8⟩ := q_8
    replace E_8 := E_8.symm
    subst E_8
    replace e_8 : x_8 = chAt T (s + k) := e_8.trans (rowAt_full hT (by omega) (by omega))
    replace e_8 := e_8.symm
    subst e_8
    refine m_iload_n (pc' := 24) C dX5_readDigits_23 rfl 3 rfl rfl ?_
    refine m_callNi (pc' := 27) (As := [.int (chAt T (s + k)), .int (nI b)]) (rest := []) C (kX11_digitOf hI (chAt T (s + k)) (nI b)) ⟨va_cnB 2 C.1.2.2.2.2 (goodN tm_2_149) rfl rfl rfl (C.2.1.2 (RX5, 41, yX11_digitOf) (List.mem_of_getElem? (i := 2) rfl)) (C.1.2.2.2.2 _ (gW_of tm_1_1)) (by decide +kernel) ⟨by decide, by decide⟩, C.1.2.2.2.2 _ (gW_of tm_2_148), trivial⟩ rfl rfl (Nat.le_of_ble_eq_true rfl) dX5_readDigits_24 rfl ⟨by decide, by decide⟩ (fun x_9 N_9 q_9 => ?_)
    obtain ⟨e_9, E_9⟩ := q_9
    replace E_9 := E_9.symm
    subst E_9
    replace e_9 : x_9 = dI (T.getD (s + k) 0) b := e_9.trans (digI_at hb h256)
    replace e_9 := e_9.symm
    subst e_9
    refine m_iconst (pc' := 28) (v := (-1)) C dX5_readDigits_27 (by decide) rfl ?_
    refine m_icmp_eq (pc' := 31) (tgt := 60) C dX5_readDigits_28 (by decide) rfl (fun c_28 => ?_) (fun c_28 => ?_)
    · have hdv := (dI_m1 (by omega)).mp c_28
      have hds : ldig b (T.drop s) = ps := by rw [i2, ldig_n hlt hdv, List.append_nil]
      refine m_aload_n (pc' := 61) C dX5_readDigits_60 rfl 0 rfl rfl ?_
      refine m_iload (pc' := 63) C dX5_readDigits_61 4 rfl rfl ?_
      refine m_iload_n (pc' := 64) C dX5_readDigits_63 rfl 2 rfl rfl ?_
      refine m_icmp_eq (pc' := 67) (tgt := 76) C dX5_readDigits_64 (by decide) rfl (fun c_64 => ?_) (fun c_64 => ?_)
      · have hk0 : k = 0 := by have := nI_inj (by omega) (by omega) c_64; omega
        have hpe : ps = [] := List.length_eq_zero_iff.mp (by omega)
        refine m_iconst (pc' := 77) (v := bI true) C dX5_readDigits_76 (by decide) rfl ?_
        refine m_goto (tgt := 81) C dX5_readDigits_77 (by decide) ?_
        refine m_put (pc' := 84) (ty := .boolean) (fs' := [.long (lN (valN b ps)), .int (bI true)]) C no hno i5 rfl inW_X5 tyX5 tyX5_ok nmX5 1 (by decide) (gW_of tm_1_103) rfl rfl (by decide +kernel) (nar_z _) (fit_z _) (by simp) rfl dX5_readDigits_81 rfl (fun M10 g_10 F_10 => ?_)
        refine m_vret C hrt0 hlk0 dX5_readDigits_84 ?_
        refine ⟨?_, ((i6.sub (by simp)).tr (F_10.sub (by simp)))⟩
        rw [g_10, hds]
        unfold oddD
        rw [i1]
        first | rw [decide_eq_true (Or.inl hpe)] | rw [decide_eq_true (Or.inr hle)] | rw [decide_eq_false (fun q => q.elim hpe hle)]
      · have hk0 : ¬ k = 0 := fun q => c_64 (by rw [q]; rfl)
        have hpe : ¬ ps = [] := fun q => hk0 (by rw [← i1, q]; rfl)
        refine m_iload (pc' := 69) C dX5_readDigits_67 4 rfl rfl ?_
        refine m_aload_n (pc' := 70) C dX5_readDigits_69 rfl 1 rfl rfl ?_
        refine m_callVi (pc' := 73) (As := []) (rest := [.int (nI (s + k)), .ref (ad no)]) C (kX9_size hI Rr_2) (cwV 0 C.1.2.2.2.2 (goodV tm_2_235 tm_2_95 tm_2_96 tm_1_3 tm_2_97) rfl rfl rfl (by decide +kernel) ⟨by decide, by decide⟩) Rr_2.1 Rr_2.ob rfl rfl rfl (Nat.le_of_ble_eq_true rfl) dX5_readDigits_70 rfl ⟨by decide, by decide⟩ (fun x_11 N_11 q_11 => ?_)
        obtain ⟨e_11, E_11⟩ := q_11
        replace E_11 := E_11.symm
        subst E_11
        replace e_11 : x_11 = nI T.length := e_11.trans (by rw [Nat.min_eq_left hT])
        replace e_11 := e_11.symm
        subst e_11
        refine m_icmp_ge (pc' := 76) (tgt := 80) C dX5_readDigits_73 (by decide) rfl (fun c_73 => ?_) (fun c_73 => ?_)
        · have hle : ¬ s + k < T.length := fun q => absurd c_73 (nI_ge q (by omega))
          refine m_iconst (pc' := 81) (v := bI false) C dX5_readDigits_80 (by decide) rfl ?_
          refine m_put (pc' := 84) (ty := .boolean) (fs' := [.long (lN (valN b ps)), .int (bI false)]) C no hno i5 rfl inW_X5 tyX5 tyX5_ok nmX5 1 (by decide) (gW_of tm_1_103) rfl rfl (by decide +kernel) (nar_z _) (fit_z _) (by simp) rfl dX5_readDigits_81 rfl (fun M12 g_12 F_12 => ?_)
          refine m_vret C hrt0 hlk0 dX5_readDigits_84 ?_
          refine ⟨?_, ((i6.sub (by simp)).tr (F_12.sub (by simp)))⟩
          rw [g_12, hds]
          unfold oddD
          rw [i1]
          first | rw [decide_eq_true (Or.inl hpe)] | rw [decide_eq_true (Or.inr hle)] | rw [decide_eq_false (fun q => q.elim hpe hle)]
        · have hle : s + k < T.length := by
            rcases Nat.lt_or_ge (s + k) T.length with q | q
            · exact q
            · exact absurd (nI_le q (by omega)) c_73
          refine m_iconst (pc' := 77) (v := bI true) C dX5_readDigits_76 (by decide) rfl ?_
          refine m_goto (tgt := 81) C dX5_readDigits_77 (by decide) ?_
          refine m_put (pc' := 84) (ty := .boolean) (fs' := [.long (lN (valN b ps)), .int (bI true)]) C no hno i5 rfl inW_X5 tyX5 tyX5_ok nmX5 1 (by decide) (gW_of tm_1_103) rfl rfl (by decide +kernel) (nar_z _) (fit_z _) (by simp) rfl dX5_readDigits_81 rfl (fun M13 g_13 F_13 => ?_)
          refine m_vret C hrt0 hlk0 dX5_readDigits_84 ?_
          refine ⟨?_, ((i6.sub (by simp)).tr (F_13.sub (by simp)))⟩
          rw [g_13, hds]
          unfold oddD
          rw [i1]
          first | rw [decide_eq_true (Or.inl hpe)] | rw [decide_eq_true (Or.inr hle)] | rw [decide_eq_false (fun q => q.elim hpe hle)]
    · have hdv : dvN (T.getD (s + k) 0) < b := Classical.not_not.mp (fun q => c_28 ((dI_m1 (by omega)).mpr q))
      refine m_aload_n (pc' := 32) C dX5_readDigits_31 rfl 0 rfl rfl ?_
      refine m_aload_n (pc' := 33) C dX5_readDigits_32 rfl 0 rfl rfl ?_
      refine m_get (pc' := 36) C no hno i5 rfl inW_X5 0 (by decide) (gW_of tm_1_102) rfl rfl dX5_readDigits_33 rfl ?_
      refine m_iload_n (pc' := 37) C dX5_readDigits_36 rfl 3 rfl rfl ?_
      refine m_i2l (pc' := 38) (v := lN b) C dX5_readDigits_37 (nI_l (by omega)) rfl ?_
      refine m_lmul (pc' := 39) (v := lN (valN b ps * b)) C dX5_readDigits_38 (lN_mul _ _) rfl ?_
      refine m_aload_n (pc' := 40) C dX5_readDigits_39 rfl 1 rfl rfl ?_
      refine m_iload (pc' := 42) C dX5_readDigits_40 4 rfl rfl ?_
      refine m_callVi (pc' := 45) (As := [.int (nI (s + k))]) (rest := [.long (lN (valN b ps * b)), .ref (ad no)]) C (kX9_at hI Rr_2 (nI (s + k))) (cwV 1 C.1.2.2.2.2 (goodV tm_2_230 tm_2_128 tm_2_129 tm_1_3 tm_2_130) rfl rfl rfl (by decide +kernel) ⟨by decide, by decide⟩) Rr_2.1 Rr_2.ob rfl rfl rfl (Nat.le_of_ble_eq_true rfl) dX5_readDigits_42 rfl ⟨by decide, by decide⟩ (fun x_14 N_14 q_14 => ?_)
      obtain ⟨e_14, E_14⟩ := q_14
      replace E_14 := E_14.symm
      subst E_14
      replace e_14 : x_14 = chAt T (s + k) := e_14.trans (rowAt_full hT (by omega) (by omega))
      replace e_14 := e_14.symm
      subst e_14
      refine m_iload_n (pc' := 46) C dX5_readDigits_45 rfl 3 rfl rfl ?_
      refine m_callNi (pc' := 49) (As := [.int (chAt T (s + k)), .int (nI b)]) (rest := [.long (lN (valN b ps * b)), .ref (ad no)]) C (kX11_digitOf hI (chAt T (s + k)) (nI b)) ⟨va_cnB 2 C.1.2.2.2.2 (goodN tm_2_149) rfl rfl rfl (C.2.1.2 (RX5, 41, yX11_digitOf) (List.mem_of_getElem? (i := 2) rfl)) (C.1.2.2.2.2 _ (gW_of tm_1_1)) (by decide +kernel) ⟨by decide, by decide⟩, C.1.2.2.2.2 _ (gW_of tm_2_148), trivial⟩ rfl rfl (Nat.le_of_ble_eq_true rfl) dX5_readDigits_46 rfl ⟨by decide, by decide⟩ (fun x_15 N_15 q_15 => ?_)
      obtain ⟨e_15, E_15⟩ := q_15
      replace E_15 := E_15.symm
      subst E_15
      replace e_15 : x_15 = nI (dvN (T.getD (s + k) 0)) := e_15.trans ((digI_at hb h256).trans (by unfold dI; rw [if_pos hdv]))
      replace e_15 := e_15.symm
      subst e_15
      refine m_i2l (pc' := 50) (v := lN (dvN (T.getD (s + k) 0))) C dX5_readDigits_49 (nI_l (by omega)) rfl ?_
      refine m_ladd (pc' := 51) (v := lN (valN b (ps ++ [dvN (T.getD (s + k) 0)]))) C dX5_readDigits_50 (by rw [lN_add, valN_s]) rfl ?_
      refine m_put (pc' := 54) (ty := .long) (fs' := [.long (lN (valN b (ps ++ [dvN (T.getD (s + k) 0)]))), .int (bI nb)]) C no hno i5 rfl inW_X5 tyX5 tyX5_ok nmX5 0 (by decide) (gW_of tm_1_102) rfl rfl (by decide +kernel) rfl rfl (by simp) rfl dX5_readDigits_51 rfl (fun M16 g_16 F_16 => ?_)
      refine m_iinc (pc' := 57) (v := nI (s + (k + 1))) (lv' := [(4, .int (nI (s + (k + 1)))), (0, .ref (ad no)), (1, .ref (ad r)), (2, .int (nI s)), (3, .int (nI b))]) C dX5_readDigits_54 (k := 4) rfl (by rw [← Nat.add_assoc]; exact nI_add _ _) (by decide) rfl rfl ?_
      refine m_goto (tgt := 8) C dX5_readDigits_57 (by decide) ?_
      refine m_lv [1, 2, 3, 4, 0] rfl ?_
      exact ih (k + 1, ps ++ [dvN (T.getD (s + k) 0)], M16) (⟨by simp [i1], by rw [i2, ldig_s hlt hdv, List.append_assoc]; rfl, g_16, ((i6.sub (by simp)).tr (F_16.sub (by simp))), by omega⟩) (by simp only; omega)
set_option maxHeartbeats 4000000 in
set_option maxRecDepth 100000 in
theorem kX5_read {l : Launch} {D : va_G} {cy : Nat → ClassId} {ad : Nat → Nat} {n : Nat} {A : Nat → Prop} (hI : mI ad n A) {M : Nat → va_E} {r ra : Nat} {T : List Nat} (ht : isRow cy ad n M r ra 80 80 T) (hT : T.length ≤ 80) {no : Nat} {nv : Int64} {nb : Bool} (hno : no < n) (hn : M no = .inr (5, [.long nv, .int (bI nb)])) (hdj : no ≠ r ∧ no ≠ ra) : mMv l yX5_read (gW yX5_read cX5_read 4 none) { frames := 2, cells := 0, slots := 0, locals := 46 } D cy ad n A [.ref (ad no), .ref (ad r)] M (fun M' => M' no = .inr (5, [.long (txtV T), .int (bI (txtO T))]) ∧ Fr [no] M M') := by
  have h256 : ∀ x ∈ T, x < 256 := ht.2.2.2.2.1
  refine m_entry (cc := cX5_read) (maxL := 4) (ret := none) (own := RX5) (lv := [(0, .ref (ad no)), (1, .ref (ad r))]) hI (by decide) rfl rfl (Nat.le_of_ble_eq_true rfl) rfl (fun pX eX sX mX aX bX tX cX C hrt0 hlk0 => ?_)
  refine m_aload_n (pc' := 1) C dX5_read_0 rfl 1 rfl rfl ?_
  refine m_iconst (pc' := 2) (v := nI 0) C dX5_read_1 (by decide) rfl ?_
  refine m_callVi (pc' := 5) (As := [.int (nI 0)]) (rest := []) C (kX9_at hI ht (nI 0)) (cwV 1 C.1.2.2.2.2 (goodV tm_2_230 tm_2_128 tm_2_129 tm_1_3 tm_2_130) rfl rfl rfl (by decide +kernel) ⟨by decide, by decide⟩) ht.1 ht.ob rfl rfl rfl (Nat.le_of_ble_eq_true rfl) dX5_read_2 rfl ⟨by decide, by decide⟩ (fun x_1 N_1 q_1 => ?_)
  obtain ⟨e_1, E_1⟩ := q_1
  replace E_1 := E_1.symm
  subst E_1
  replace e_1 : x_1 = chAt T 0 := e_1.trans (rowAt_full hT (by omega) (by omega))
  replace e_1 := e_1.symm
  subst e_1
  refine m_istore_n (pc' := 6) (lv' := [(2, .int (chAt T 0)), (0, .ref (ad no)), (1, .ref (ad r))]) C dX5_read_5 rfl (by decide) rfl rfl ?_
  refine m_iload_n (pc' := 7) C dX5_read_6 rfl 0 rfl rfl ?_
  refine m_bipush (pc' := 9) (v := nI 39) C dX5_read_7 (by decide) rfl ?_
  refine m_icmp_eq (pc' := 12) (tgt := 18) C dX5_read_9 (by decide) rfl (fun c_9 => ?_) (fun c_9 => ?_)
  · have e9 : T.getD (0) 0 = 39 := (chAt_eq h256 (by decide) (by decide)).mp c_9
    have hq : tQ T = true := by unfold tQ; first | (rw [e9]; rfl) | (rw [e15]; rfl)
    refine m_aload_n (pc' := 19) C dX5_read_18 rfl 1 rfl rfl ?_
    refine m_aload_n (pc' := 20) C dX5_read_19 rfl 2 rfl rfl ?_
    refine m_callVv (pc' := 23) (As := [.ref (ad r)]) (rest := []) C (kX5_readCharacter hI ht hT hno hn hdj) (cwV 1 C.1.2.2.2.2 (goodV tm_2_231 tm_2_233 tp_12 tm_1_6 tm_2_234) rfl rfl rfl (by decide +kernel) ⟨by decide, by decide⟩) hno hn rfl rfl rfl (Nat.le_of_ble_eq_true rfl) dX5_read_20 rfl ⟨by decide, by decide⟩ (fun M2 q_2 => ?_)
    obtain ⟨g_2, F_2⟩ := q_2
    refine m_vret C hrt0 hlk0 dX5_read_23 ?_
    refine ⟨?_, (F_2.sub (by simp))⟩
    rw [g_2]
    unfold txtV txtO
    rw [hq]
    rfl
  · have e9 : ¬ T.getD (0) 0 = 39 := fun q => c_9 ((chAt_eq h256 (by decide) (by decide)).mpr q)
    refine m_iload_n (pc' := 13) C dX5_read_12 rfl 0 rfl rfl ?_
    refine m_bipush (pc' := 15) (v := nI 34) C dX5_read_13 (by decide) rfl ?_
    refine m_icmp_ne (pc' := 18) (tgt := 24) C dX5_read_15 (by decide) rfl (fun c_15 => ?_) (fun c_15 => ?_)
    · have e15 : ¬ T.getD (0) 0 = 34 := fun q => c_15 ((chAt_eq h256 (by decide) (by decide)).mpr q)
      have hq : tQ T = false := by unfold tQ; rw [beq_eq_false_iff_ne.mpr e9, beq_eq_false_iff_ne.mpr e15]; rfl
      refine m_cut (σ := Nat) (fun a => a = tS0 T ∧ a ≤ 1) (fun a => M) 41 (fun a => [(0, .ref (ad no)), (1, .ref (ad r)), (2, .int (chAt T 0))]) (fun a => [.int (nI a)]) ?_ (fun J41 => ?_)
      · rintro z hj
        try dsimp only at hj ⊢
        obtain ⟨hz, hz1⟩ := hj
        refine m_istore_n (pc' := 42) (lv' := [(3, .int (nI z)), (0, .ref (ad no)), (1, .ref (ad r)), (2, .int (chAt T 0))]) C dX5_read_41 rfl (by decide) rfl rfl ?_
        refine m_cut (σ := (Nat → va_E)) (fun a => a no = .inr (5, [.long (lN (valN (tB T) (tDs T))), .int (bI (oddD T (tDs T) (tS T)))]) ∧ Fr [no] M a) (fun a => a) 92 (fun a => [(0, .ref (ad no)), (1, .ref (ad r)), (2, .int (chAt T 0))]) (fun a => []) ?_ (fun J92 => ?_)
        · rintro Mj hj
          try dsimp only at hj ⊢
          obtain ⟨j1, j2⟩ := hj
          refine m_iload_n (pc' := 93) C dX5_read_92 rfl 2 rfl rfl ?_
          refine m_bipush (pc' := 95) (v := nI 45) C dX5_read_93 (by decide) rfl ?_
          refine m_icmp_ne (pc' := 98) (tgt := 107) C dX5_read_95 (by decide) rfl (fun c_95 => ?_) (fun c_95 => ?_)
          · have e95 : ¬ T.getD (0) 0 = 45 := fun q => c_95 ((chAt_eq h256 (by decide) (by decide)).mpr q)
            refine m_vret C hrt0 hlk0 dX5_read_107 ?_
            refine ⟨?_, (j2.sub (by simp))⟩
            rw [j1]
            unfold txtV txtO
            rw [hq]
            first | rw [if_pos e95] | rw [if_neg e95]
            rfl
          · have e95 : T.getD 0 0 = 45 := (chAt_eq h256 (by decide) (by decide)).mp (Classical.not_not.mp c_95)
            refine m_aload_n (pc' := 99) C dX5_read_98 rfl 0 rfl rfl ?_
            refine m_aload_n (pc' := 100) C dX5_read_99 rfl 0 rfl rfl ?_
            refine m_get (pc' := 103) C no hno j1 rfl inW_X5 0 (by decide) (gW_of tm_1_102) rfl rfl dX5_read_100 rfl ?_
            refine m_lneg (pc' := 104) (v := -(lN (valN (tB T) (tDs T)))) C dX5_read_103 rfl rfl ?_
            refine m_put (pc' := 107) (ty := .long) (fs' := [.long (-(lN (valN (tB T) (tDs T)))), .int (bI (oddD T (tDs T) (tS T)))]) C no hno j1 rfl inW_X5 tyX5 tyX5_ok nmX5 0 (by decide) (gW_of tm_1_102) rfl rfl (by decide +kernel) rfl rfl (by simp) rfl dX5_read_104 rfl (fun M3 g_3 F_3 => ?_)
            refine m_vret C hrt0 hlk0 dX5_read_107 ?_
            refine ⟨?_, ((j2.sub (by simp)).tr (F_3.sub (by simp)))⟩
            rw [g_3]
            unfold txtV txtO
            rw [hq]
            first | rw [if_pos e95] | rw [if_neg e95]
            rfl
        refine m_aload_n (pc' := 43) C dX5_read_42 rfl 2 rfl rfl ?_
        refine m_iload_n (pc' := 44) C dX5_read_43 rfl 0 rfl rfl ?_
        refine m_callVi (pc' := 47) (As := [.int (nI z)]) (rest := []) C (kX9_at hI ht (nI z)) (cwV 1 C.1.2.2.2.2 (goodV tm_2_230 tm_2_128 tm_2_129 tm_1_3 tm_2_130) rfl rfl rfl (by decide +kernel) ⟨by decide, by decide⟩) ht.1 ht.ob rfl rfl rfl (Nat.le_of_ble_eq_true rfl) dX5_read_44 rfl ⟨by decide, by decide⟩ (fun x_4 N_4 q_4 => ?_)
        obtain ⟨e_4, E_4⟩ := q_4
        replace E_4 := E_4.symm
        subst E_4
        replace e_4 : x_4 = chAt T z := e_4.trans (rowAt_full hT (by omega) (by omega))
        replace e_4 := e_4.symm
        subst e_4
        refine m_bipush (pc' := 49) (v := nI 48) C dX5_read_47 (by decide) rfl ?_
        refine m_icmp_eq (pc' := 52) (tgt := 63) C dX5_read_49 (by decide) rfl (fun c_49 => ?_) (fun c_49 => ?_)
        · have e49 : T.getD (z) 0 = 48 := (chAt_eq h256 (by decide) (by decide)).mp c_49
          refine m_aload_n (pc' := 64) C dX5_read_63 rfl 2 rfl rfl ?_
          refine m_iload_n (pc' := 65) C dX5_read_64 rfl 0 rfl rfl ?_
          refine m_callSi (pc' := 68) (As := [.ref (ad r), .int (nI z)]) (rest := []) C (kX5_isHexadecimal hI ht hT (by omega)) (cwS 2 C.1.2.2.2.2 (goodS tm_3_1 tm_3_2 tm_1_6 tm_3_3) rfl rfl rfl (by decide +kernel) ⟨by decide, by decide⟩) rfl rfl (Nat.le_of_ble_eq_true rfl) dX5_read_65 rfl ⟨by decide, by decide⟩ (fun x_5 N_5 q_5 => ?_)
          obtain ⟨e_5, E_5⟩ := q_5
          replace E_5 := E_5.symm
          subst E_5
          replace e_5 := e_5.symm
          subst e_5
          refine m_if_eq (pc' := 71) (tgt := 84) C dX5_read_68 (by decide) rfl (fun c_68 => ?_) (fun c_68 => ?_)
          · refine m_aload_n (pc' := 85) C dX5_read_84 rfl 1 rfl rfl ?_
            refine m_aload_n (pc' := 86) C dX5_read_85 rfl 2 rfl rfl ?_
            refine m_iload_n (pc' := 87) C dX5_read_86 rfl 0 rfl rfl ?_
            refine m_bipush (pc' := 89) (v := nI 8) C dX5_read_87 (by decide) rfl ?_
            refine m_callVv (pc' := 92) (As := [.ref (ad r), .int (nI z), .int (nI 8)]) (rest := []) C (kX5_readDigits hI ht hT hno hn hdj (by omega) (by decide)) (cwV 3 C.1.2.2.2.2 (goodV tm_2_236 tm_2_238 tp_13 tm_1_6 tm_2_239) rfl rfl rfl (by decide +kernel) ⟨by decide, by decide⟩) hno hn rfl rfl rfl (Nat.le_of_ble_eq_true rfl) dX5_read_89 rfl ⟨by decide, by decide⟩ (fun M6 q_6 => ?_)
            obtain ⟨g_6, F_6⟩ := q_6
            have hcase : tB T = 8 ∧ tS T = z := by
              unfold tB tS
              rw [← hz]
              rw [if_pos e49, if_pos e49, (bI_0 _).mp c_68]; exact ⟨rfl, rfl⟩
            refine m_lv [1, 2, 3] rfl ?_
            exact J92 M6 (⟨by unfold tDs; rw [hcase.1, hcase.2]; exact g_6, (F_6.sub (by simp))⟩)
          · refine m_aload_n (pc' := 72) C dX5_read_71 rfl 1 rfl rfl ?_
            refine m_aload_n (pc' := 73) C dX5_read_72 rfl 2 rfl rfl ?_
            refine m_iload_n (pc' := 74) C dX5_read_73 rfl 0 rfl rfl ?_
            refine m_iconst (pc' := 75) (v := nI 2) C dX5_read_74 (by decide) rfl ?_
            refine m_iadd (pc' := 76) (v := nI (z + 2)) C dX5_read_75 (nI_add _ _) rfl ?_
            refine m_bipush (pc' := 78) (v := nI 16) C dX5_read_76 (by decide) rfl ?_
            refine m_callVv (pc' := 81) (As := [.ref (ad r), .int (nI (z + 2)), .int (nI 16)]) (rest := []) C (kX5_readDigits hI ht hT hno hn hdj (by omega) (by decide)) (cwV 3 C.1.2.2.2.2 (goodV tm_2_236 tm_2_238 tp_13 tm_1_6 tm_2_239) rfl rfl rfl (by decide +kernel) ⟨by decide, by decide⟩) hno hn rfl rfl rfl (Nat.le_of_ble_eq_true rfl) dX5_read_78 rfl ⟨by decide, by decide⟩ (fun M7 q_7 => ?_)
            obtain ⟨g_7, F_7⟩ := q_7
            refine m_goto (tgt := 92) C dX5_read_81 (by decide) ?_
            have hcase : tB T = 16 ∧ tS T = (z + 2) := by
              unfold tB tS
              rw [← hz]
              rw [if_pos e49, if_pos e49, ts_of c_68]; exact ⟨rfl, rfl⟩
            refine m_lv [1, 2, 3] rfl ?_
            exact J92 M7 (⟨by unfold tDs; rw [hcase.1, hcase.2]; exact g_7, (F_7.sub (by simp))⟩)
        · have e49 : ¬ T.getD (z) 0 = 48 := fun q => c_49 ((chAt_eq h256 (by decide) (by decide)).mpr q)
          refine m_aload_n (pc' := 53) C dX5_read_52 rfl 1 rfl rfl ?_
          refine m_aload_n (pc' := 54) C dX5_read_53 rfl 2 rfl rfl ?_
          refine m_iload_n (pc' := 55) C dX5_read_54 rfl 0 rfl rfl ?_
          refine m_bipush (pc' := 57) (v := nI 10) C dX5_read_55 (by decide) rfl ?_
          refine m_callVv (pc' := 60) (As := [.ref (ad r), .int (nI z), .int (nI 10)]) (rest := []) C (kX5_readDigits hI ht hT hno hn hdj (by omega) (by decide)) (cwV 3 C.1.2.2.2.2 (goodV tm_2_236 tm_2_238 tp_13 tm_1_6 tm_2_239) rfl rfl rfl (by decide +kernel) ⟨by decide, by decide⟩) hno hn rfl rfl rfl (Nat.le_of_ble_eq_true rfl) dX5_read_57 rfl ⟨by decide, by decide⟩ (fun M8 q_8 => ?_)
          obtain ⟨g_8, F_8⟩ := q_8
          refine m_goto (tgt := 92) C dX5_read_60 (by decide) ?_
          have hcase : tB T = 10 ∧ tS T = z := by
            unfold tB tS
            rw [← hz]
            rw [if_neg e49, if_neg e49]; exact ⟨rfl, rfl⟩
          refine m_lv [1, 2, 3] rfl ?_
          exact J92 M8 (⟨by unfold tDs; rw [hcase.1, hcase.2]; exact g_8, (F_8.sub (by simp))⟩)
      refine m_iload_n (pc' := 25) C dX5_read_24 rfl 0 rfl rfl ?_
      refine m_bipush (pc' := 27) (v := nI 43) C dX5_read_25 (by decide) rfl ?_
      refine m_icmp_eq (pc' := 30) (tgt := 36) C dX5_read_27 (by decide) rfl (fun c_27 => ?_) (fun c_27 => ?_)
      · have e27 : T.getD (0) 0 = 43 := (chAt_eq h256 (by decide) (by decide)).mp c_27
        refine m_iconst (pc' := 37) (v := nI 1) C dX5_read_36 (by decide) rfl ?_
        refine m_goto (tgt := 41) C dX5_read_37 (by decide) ?_
        refine m_lv [1, 2, 0] rfl ?_
        exact J41 1 (⟨by unfold tS0; first | rw [if_pos (Or.inl e27)] | rw [if_pos (Or.inr e33)] | rw [if_neg (fun q => q.elim e27 e33)], by omega⟩)
      · have e27 : ¬ T.getD (0) 0 = 43 := fun q => c_27 ((chAt_eq h256 (by decide) (by decide)).mpr q)
        refine m_iload_n (pc' := 31) C dX5_read_30 rfl 0 rfl rfl ?_
        refine m_bipush (pc' := 33) (v := nI 45) C dX5_read_31 (by decide) rfl ?_
        refine m_icmp_ne (pc' := 36) (tgt := 40) C dX5_read_33 (by decide) rfl (fun c_33 => ?_) (fun c_33 => ?_)
        · have e33 : ¬ T.getD (0) 0 = 45 := fun q => c_33 ((chAt_eq h256 (by decide) (by decide)).mpr q)
          refine m_iconst (pc' := 41) (v := nI 0) C dX5_read_40 (by decide) rfl ?_
          refine m_lv [1, 2, 0] rfl ?_
          exact J41 0 (⟨by unfold tS0; first | rw [if_pos (Or.inl e27)] | rw [if_pos (Or.inr e33)] | rw [if_neg (fun q => q.elim e27 e33)], by omega⟩)
        · have e33 : T.getD 0 0 = 45 := (chAt_eq h256 (by decide) (by decide)).mp (Classical.not_not.mp c_33)
          refine m_iconst (pc' := 37) (v := nI 1) C dX5_read_36 (by decide) rfl ?_
          refine m_goto (tgt := 41) C dX5_read_37 (by decide) ?_
          refine m_lv [1, 2, 0] rfl ?_
          exact J41 1 (⟨by unfold tS0; first | rw [if_pos (Or.inl e27)] | rw [if_pos (Or.inr e33)] | rw [if_neg (fun q => q.elim e27 e33)], by omega⟩)
    · have e15 : T.getD 0 0 = 34 := (chAt_eq h256 (by decide) (by decide)).mp (Classical.not_not.mp c_15)
      have hq : tQ T = true := by unfold tQ; first | (rw [e9]; rfl) | (rw [e15]; rfl)
      refine m_aload_n (pc' := 19) C dX5_read_18 rfl 1 rfl rfl ?_
      refine m_aload_n (pc' := 20) C dX5_read_19 rfl 2 rfl rfl ?_
      refine m_callVv (pc' := 23) (As := [.ref (ad r)]) (rest := []) C (kX5_readCharacter hI ht hT hno hn hdj) (cwV 1 C.1.2.2.2.2 (goodV tm_2_231 tm_2_233 tp_12 tm_1_6 tm_2_234) rfl rfl rfl (by decide +kernel) ⟨by decide, by decide⟩) hno hn rfl rfl rfl (Nat.le_of_ble_eq_true rfl) dX5_read_20 rfl ⟨by decide, by decide⟩ (fun M9 q_9 => ?_)
      obtain ⟨g_9, F_9⟩ := q_9
      refine m_vret C hrt0 hlk0 dX5_read_23 ?_
      refine ⟨?_, (F_9.sub (by simp))⟩
      rw [g_9]
      unfold txtV txtO
      rw [hq]
      rfl
