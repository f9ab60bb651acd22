set_option maxHeartbeats 4000000 in
set_option maxRecDepth 100000 in
theorem kX10_nameOf {l : Launch} {D : va_G} {cy : Nat → ClassId} {ad : Nat → Nat} {n : Nat} {A : Nat → Prop} (hI : mI ad n A) {M : Nat → va_E} (x : Int32) : mMi l yX10_nameOf (gW yX10_nameOf cX10_nameOf 1 (some .int)) { frames := 0, cells := 0, slots := 0, locals := 0 } D cy ad n A [.int x] M (fun res M' => res = nmW x ∧ M' = M) := by
  refine m_entry (cc := cX10_nameOf) (maxL := 1) (ret := (some .int)) (own := RX10) (lv := [(0, .int (x))]) hI (by decide) rfl rfl (Nat.le_of_ble_eq_true rfl) rfl (fun pX eX sX mX aX bX tX cX C hrt0 hlk0 => ?_)
  refine m_iload_n (pc' := 1) C dX10_nameOf_0 rfl 0 rfl rfl ?_
  refine dite (x = nI 0) (fun s1_0 => ?_) (fun s1_0 => ?_)
  · refine m_tab (off := 71) (tgt := 72) C dX10_nameOf_1 (by decide) (by rw [s1_0]; decide) (by decide) ?_
    refine m_bipush (pc' := 74) (v := nI 48) C dX10_nameOf_72 (by decide) rfl ?_
    refine m_iret C hrt0 hlk0 rfl dX10_nameOf_74 ?_
    refine ⟨?_, rfl⟩
    unfold nmW
    rw [if_pos s1_0]
  refine dite (x = nI 7) (fun s1_7 => ?_) (fun s1_7 => ?_)
  · refine m_tab (off := 74) (tgt := 75) C dX10_nameOf_1 (by decide) (by rw [s1_7]; decide) (by decide) ?_
    refine m_bipush (pc' := 77) (v := nI 97) C dX10_nameOf_75 (by decide) rfl ?_
    refine m_iret C hrt0 hlk0 rfl dX10_nameOf_77 ?_
    refine ⟨?_, rfl⟩
    unfold nmW
    rw [if_neg s1_0, if_pos s1_7]
  refine dite (x = nI 8) (fun s1_8 => ?_) (fun s1_8 => ?_)
  · refine m_tab (off := 77) (tgt := 78) C dX10_nameOf_1 (by decide) (by rw [s1_8]; decide) (by decide) ?_
    refine m_bipush (pc' := 80) (v := nI 98) C dX10_nameOf_78 (by decide) rfl ?_
    refine m_iret C hrt0 hlk0 rfl dX10_nameOf_80 ?_
    refine ⟨?_, rfl⟩
    unfold nmW
    rw [if_neg s1_0, if_neg s1_7, if_pos s1_8]
  refine dite (x = nI 9) (fun s1_9 => ?_) (fun s1_9 => ?_)
  · refine m_tab (off := 80) (tgt := 81) C dX10_nameOf_1 (by decide) (by rw [s1_9]; decide) (by decide) ?_
    refine m_bipush (pc' := 83) (v := nI 116) C dX10_nameOf_81 (by decide) rfl ?_
    refine m_iret C hrt0 hlk0 rfl dX10_nameOf_83 ?_
    refine ⟨?_, rfl⟩
    unfold nmW
    rw [if_neg s1_0, if_neg s1_7, if_neg s1_8, if_pos s1_9]
  refine dite (x = nI 10) (fun s1_10 => ?_) (fun s1_10 => ?_)
  · refine m_tab (off := 83) (tgt := 84) C dX10_nameOf_1 (by decide) (by rw [s1_10]; decide) (by decide) ?_
    refine m_bipush (pc' := 86) (v := nI 110) C dX10_nameOf_84 (by decide) rfl ?_
    refine m_iret C hrt0 hlk0 rfl dX10_nameOf_86 ?_
    refine ⟨?_, rfl⟩
    unfold nmW
    rw [if_neg s1_0, if_neg s1_7, if_neg s1_8, if_neg s1_9, if_pos s1_10]
  refine dite (x = nI 11) (fun s1_11 => ?_) (fun s1_11 => ?_)
  · refine m_tab (off := 86) (tgt := 87) C dX10_nameOf_1 (by decide) (by rw [s1_11]; decide) (by decide) ?_
    refine m_bipush (pc' := 89) (v := nI 118) C dX10_nameOf_87 (by decide) rfl ?_
    refine m_iret C hrt0 hlk0 rfl dX10_nameOf_89 ?_
    refine ⟨?_, rfl⟩
    unfold nmW
    rw [if_neg s1_0, if_neg s1_7, if_neg s1_8, if_neg s1_9, if_neg s1_10, if_pos s1_11]
  refine dite (x = nI 12) (fun s1_12 => ?_) (fun s1_12 => ?_)
  · refine m_tab (off := 89) (tgt := 90) C dX10_nameOf_1 (by decide) (by rw [s1_12]; decide) (by decide) ?_
    refine m_bipush (pc' := 92) (v := nI 102) C dX10_nameOf_90 (by decide) rfl ?_
    refine m_iret C hrt0 hlk0 rfl dX10_nameOf_92 ?_
    refine ⟨?_, rfl⟩
    unfold nmW
    rw [if_neg s1_0, if_neg s1_7, if_neg s1_8, if_neg s1_9, if_neg s1_10, if_neg s1_11, if_pos s1_12]
  refine dite (x = nI 13) (fun s1_13 => ?_) (fun s1_13 => ?_)
  · refine m_tab (off := 92) (tgt := 93) C dX10_nameOf_1 (by decide) (by rw [s1_13]; decide) (by decide) ?_
    refine m_bipush (pc' := 95) (v := nI 114) C dX10_nameOf_93 (by decide) rfl ?_
    refine m_iret C hrt0 hlk0 rfl dX10_nameOf_95 ?_
    refine ⟨?_, rfl⟩
    unfold nmW
    rw [if_neg s1_0, if_neg s1_7, if_neg s1_8, if_neg s1_9, if_neg s1_10, if_neg s1_11, if_neg s1_12, if_pos s1_13]
  refine m_tab (off := 95) (tgt := 96) C dX10_nameOf_1 (by decide) (tab_def [0, 7, 8, 9, 10, 11, 12, 13] (by decide) (by decide) (nmc (lv_neT s1_0 (by decide)) (nmc (lv_neT s1_7 (by decide)) (nmc (lv_neT s1_8 (by decide)) (nmc (lv_neT s1_9 (by decide)) (nmc (lv_neT s1_10 (by decide)) (nmc (lv_neT s1_11 (by decide)) (nmc (lv_neT s1_12 (by decide)) (nmc (lv_neT s1_13 (by decide)) List.not_mem_nil))))))))) (by decide) ?_
  refine m_iconst (pc' := 97) (v := (-1)) C dX10_nameOf_96 (by decide) rfl ?_
  refine m_iret C hrt0 hlk0 rfl dX10_nameOf_97 ?_
  refine ⟨?_, rfl⟩
  unfold nmW
  rw [if_neg s1_0, if_neg s1_7, if_neg s1_8, if_neg s1_9, if_neg s1_10, if_neg s1_11, if_neg s1_12, if_neg s1_13]
set_option maxHeartbeats 4000000 in
set_option maxRecDepth 100000 in
theorem kX10_fieldBase {l : Launch} {D : va_G} {cy : Nat → ClassId} {ad : Nat → Nat} {n : Nat} {A : Nat → Prop} (hI : mI ad n A) {M : Nat → va_E} (hn : 52 ≤ n) {ab lt sz : Nat} (hw : M 43 = wdO ad (nI ab) (nI lt) (nI sz)) (hlt6 : lt < 65536) : mMi l yX10_fieldBase (gW yX10_fieldBase cX10_fieldBase 1 (some .int)) { frames := 0, cells := 0, slots := 0, locals := 0 } D cy ad n A [.ref (ad 43)] M (fun res M' => res = nI (fB lt) ∧ M' = M) := by
  refine m_entry (cc := cX10_fieldBase) (maxL := 1) (ret := (some .int)) (own := RX10) (lv := [(0, .ref (ad 43))]) hI (by decide) rfl rfl (Nat.le_of_ble_eq_true rfl) rfl (fun pX eX sX mX aX bX tX cX C hrt0 hlk0 => ?_)
  refine m_aload_n (pc' := 1) C dX10_fieldBase_0 rfl 0 rfl rfl ?_
  refine m_get (pc' := 4) C 43 (by omega) hw rfl inW_X10 5 (by decide) (gW_of tm_2_2) rfl rfl dX10_fieldBase_1 rfl ?_
  refine dite (nI lt = nI 111) (fun s4_111 => ?_) (fun s4_111 => ?_)
  · have n_s4_111 : lt = 111 := (nI_eq (by omega) (by omega)).mp s4_111
    refine m_look (off := 28) (tgt := 32) C dX10_fieldBase_4 (by decide) (by rw [s4_111]; decide) (by decide) ?_
    refine m_bipush (pc' := 34) (v := nI 8) C dX10_fieldBase_32 (by decide) rfl ?_
    refine m_iret C hrt0 hlk0 rfl dX10_fieldBase_34 ?_
    refine ⟨?_, rfl⟩
    unfold fB
    rw [if_pos n_s4_111]
  refine dite (nI lt = nI 120) (fun s4_120 => ?_) (fun s4_120 => ?_)
  · have n_s4_120 : lt = 120 := (nI_eq (by omega) (by omega)).mp s4_120
    refine m_look (off := 31) (tgt := 35) C dX10_fieldBase_4 (by decide) (by rw [s4_120]; decide) (by decide) ?_
    refine m_bipush (pc' := 37) (v := nI 16) C dX10_fieldBase_35 (by decide) rfl ?_
    refine m_iret C hrt0 hlk0 rfl dX10_fieldBase_37 ?_
    refine ⟨?_, rfl⟩
    unfold fB
    rw [if_neg (by omega), if_pos n_s4_120]
  have n_s4_111 : ¬ lt = 111 := fun q => s4_111 (by rw [q])
  have n_s4_120 : ¬ lt = 120 := fun q => s4_120 (by rw [q])
  refine m_look (off := 34) (tgt := 38) C dX10_fieldBase_4 (by decide) ((lv_osw s4_111 (by decide)).trans ((lv_osw s4_120 (by decide)).trans rfl)) (by decide) ?_
  refine m_bipush (pc' := 40) (v := nI 10) C dX10_fieldBase_38 (by decide) rfl ?_
  refine m_iret C hrt0 hlk0 rfl dX10_fieldBase_40 ?_
  refine ⟨?_, rfl⟩
  unfold fB
  rw [if_neg n_s4_111, if_neg n_s4_120]
set_option maxHeartbeats 4000000 in
set_option maxRecDepth 100000 in
theorem kX10_leastDigits {l : Launch} {D : va_G} {cy : Nat → ClassId} {ad : Nat → Nat} {n : Nat} {A : Nat → Prop} (hI : mI ad n A) {M : Nat → va_E} (hn : 52 ≤ n) {ab lt sz : Nat} (hw : M 43 = wdO ad (nI ab) (nI lt) (nI sz)) (hlt6 : lt < 65536) (hsz8 : sz ≤ 8) : mMi l yX10_leastDigits (gW yX10_leastDigits cX10_leastDigits 1 (some .int)) { frames := 0, cells := 0, slots := 0, locals := 0 } D cy ad n A [.ref (ad 43)] M (fun res M' => res = nI (lD lt sz) ∧ M' = M) := by
  refine m_entry (cc := cX10_leastDigits) (maxL := 1) (ret := (some .int)) (own := RX10) (lv := [(0, .ref (ad 43))]) hI (by decide) rfl rfl (Nat.le_of_ble_eq_true rfl) rfl (fun pX eX sX mX aX bX tX cX C hrt0 hlk0 => ?_)
  refine m_aload_n (pc' := 1) C dX10_leastDigits_0 rfl 0 rfl rfl ?_
  refine m_get (pc' := 4) C 43 (by omega) hw rfl inW_X10 5 (by decide) (gW_of tm_2_2) rfl rfl dX10_leastDigits_1 rfl ?_
  refine dite (nI lt = nI 111) (fun s4_111 => ?_) (fun s4_111 => ?_)
  · have n_s4_111 : lt = 111 := (nI_eq (by omega) (by omega)).mp s4_111
    refine m_look (off := 28) (tgt := 32) C dX10_leastDigits_4 (by decide) (by rw [s4_111]; decide) (by decide) ?_
    refine m_bipush (pc' := 34) (v := nI 8) C dX10_leastDigits_32 (by decide) rfl ?_
    refine m_aload_n (pc' := 35) C dX10_leastDigits_34 rfl 0 rfl rfl ?_
    refine m_get (pc' := 38) C 43 (by omega) hw rfl inW_X10 6 (by decide) (gW_of tm_2_3) rfl rfl dX10_leastDigits_35 rfl ?_
    refine m_imul (pc' := 39) (v := nI (8 * sz)) C dX10_leastDigits_38 (pk_mul _ _) rfl ?_
    refine m_iconst (pc' := 40) (v := nI 2) C dX10_leastDigits_39 (by decide) rfl ?_
    refine m_iadd (pc' := 41) (v := nI ((8 * sz) + 2)) C dX10_leastDigits_40 (nI_add _ _) rfl ?_
    refine m_iconst (pc' := 42) (v := nI 3) C dX10_leastDigits_41 (by decide) rfl ?_
    refine m_idiv (pc' := 43) (v := nI ((8 * sz + 2) / 3)) C dX10_leastDigits_42 (by decide) (pk_div (by omega) (by decide) (by decide)) rfl ?_
    refine m_iret C hrt0 hlk0 rfl dX10_leastDigits_43 ?_
    refine ⟨?_, rfl⟩
    unfold lD
    rw [if_pos n_s4_111]
  refine dite (nI lt = nI 120) (fun s4_120 => ?_) (fun s4_120 => ?_)
  · have n_s4_120 : lt = 120 := (nI_eq (by omega) (by omega)).mp s4_120
    refine m_look (off := 40) (tgt := 44) C dX10_leastDigits_4 (by decide) (by rw [s4_120]; decide) (by decide) ?_
    refine m_iconst (pc' := 45) (v := nI 2) C dX10_leastDigits_44 (by decide) rfl ?_
    refine m_aload_n (pc' := 46) C dX10_leastDigits_45 rfl 0 rfl rfl ?_
    refine m_get (pc' := 49) C 43 (by omega) hw rfl inW_X10 6 (by decide) (gW_of tm_2_3) rfl rfl dX10_leastDigits_46 rfl ?_
    refine m_imul (pc' := 50) (v := nI (2 * sz)) C dX10_leastDigits_49 (pk_mul _ _) rfl ?_
    refine m_iret C hrt0 hlk0 rfl dX10_leastDigits_50 ?_
    refine ⟨?_, rfl⟩
    unfold lD
    rw [if_neg (by omega), if_pos n_s4_120]
  have n_s4_111 : ¬ lt = 111 := fun q => s4_111 (by rw [q])
  have n_s4_120 : ¬ lt = 120 := fun q => s4_120 (by rw [q])
  refine m_look (off := 47) (tgt := 51) C dX10_leastDigits_4 (by decide) ((lv_osw s4_111 (by decide)).trans ((lv_osw s4_120 (by decide)).trans rfl)) (by decide) ?_
  refine m_iconst (pc' := 52) (v := nI 1) C dX10_leastDigits_51 (by decide) rfl ?_
  refine m_iret C hrt0 hlk0 rfl dX10_leastDigits_52 ?_
  refine ⟨?_, rfl⟩
  unfold lD
  rw [if_neg n_s4_111, if_neg n_s4_120]
set_option maxHeartbeats 4000000 in
set_option maxRecDepth 100000 in
theorem kX10_decimalWidth {l : Launch} {D : va_G} {cy : Nat → ClassId} {ad : Nat → Nat} {n : Nat} {A : Nat → Prop} (hI : mI ad n A) {M : Nat → va_E} (hn : 52 ≤ n) {ab lt sz : Nat} (hw : M 43 = wdO ad (nI ab) (nI lt) (nI sz)) (hsz8 : sz ≤ 8) : mMi l yX10_decimalWidth (gW yX10_decimalWidth cX10_decimalWidth 1 (some .int)) { frames := 0, cells := 0, slots := 0, locals := 0 } D cy ad n A [.ref (ad 43)] M (fun res M' => res = nI (dW sz) ∧ M' = M) := by
  refine m_entry (cc := cX10_decimalWidth) (maxL := 1) (ret := (some .int)) (own := RX10) (lv := [(0, .ref (ad 43))]) hI (by decide) rfl rfl (Nat.le_of_ble_eq_true rfl) rfl (fun pX eX sX mX aX bX tX cX C hrt0 hlk0 => ?_)
  refine m_aload_n (pc' := 1) C dX10_decimalWidth_0 rfl 0 rfl rfl ?_
  refine m_get (pc' := 4) C 43 (by omega) hw rfl inW_X10 6 (by decide) (gW_of tm_2_3) rfl rfl dX10_decimalWidth_1 rfl ?_
  refine dite (nI sz = nI 1) (fun s4_1 => ?_) (fun s4_1 => ?_)
  · have n_s4_1 : sz = 1 := (nI_eq (by omega) (by omega)).mp s4_1
    refine m_tab (off := 32) (tgt := 36) C dX10_decimalWidth_4 (by decide) (by rw [s4_1]; decide) (by decide) ?_
    refine m_iconst (pc' := 37) (v := nI 3) C dX10_decimalWidth_36 (by decide) rfl ?_
    refine m_iret C hrt0 hlk0 rfl dX10_decimalWidth_37 ?_
    refine ⟨?_, rfl⟩
    unfold dW
    rw [if_pos n_s4_1]
  refine dite (nI sz = nI 2) (fun s4_2 => ?_) (fun s4_2 => ?_)
  · have n_s4_2 : sz = 2 := (nI_eq (by omega) (by omega)).mp s4_2
    refine m_tab (off := 34) (tgt := 38) C dX10_decimalWidth_4 (by decide) (by rw [s4_2]; decide) (by decide) ?_
    refine m_iconst (pc' := 39) (v := nI 5) C dX10_decimalWidth_38 (by decide) rfl ?_
    refine m_iret C hrt0 hlk0 rfl dX10_decimalWidth_39 ?_
    refine ⟨?_, rfl⟩
    unfold dW
    rw [if_neg (by omega), if_pos n_s4_2]
  refine dite (nI sz = nI 4) (fun s4_4 => ?_) (fun s4_4 => ?_)
  · have n_s4_4 : sz = 4 := (nI_eq (by omega) (by omega)).mp s4_4
    refine m_tab (off := 36) (tgt := 40) C dX10_decimalWidth_4 (by decide) (by rw [s4_4]; decide) (by decide) ?_
    refine m_bipush (pc' := 42) (v := nI 10) C dX10_decimalWidth_40 (by decide) rfl ?_
    refine m_iret C hrt0 hlk0 rfl dX10_decimalWidth_42 ?_
    refine ⟨?_, rfl⟩
    unfold dW
    rw [if_neg (by omega), if_neg (by omega), if_pos n_s4_4]
  have n_s4_1 : ¬ sz = 1 := fun q => s4_1 (by rw [q])
  have n_s4_2 : ¬ sz = 2 := fun q => s4_2 (by rw [q])
  have n_s4_4 : ¬ sz = 4 := fun q => s4_4 (by rw [q])
  refine m_tab (off := 39) (tgt := 43) C dX10_decimalWidth_4 (by decide) (tab_def [1, 2, 4] (by decide) (by decide) (nmc (lv_neT s4_1 (by decide)) (nmc (lv_neT s4_2 (by decide)) (nmc (lv_neT s4_4 (by decide)) List.not_mem_nil)))) (by decide) ?_
  refine m_bipush (pc' := 45) (v := nI 20) C dX10_decimalWidth_43 (by decide) rfl ?_
  refine m_iret C hrt0 hlk0 rfl dX10_decimalWidth_45 ?_
  refine ⟨?_, rfl⟩
  unfold dW
  rw [if_neg n_s4_1, if_neg n_s4_2, if_neg n_s4_4]
set_option maxHeartbeats 4000000 in
set_option maxRecDepth 100000 in
theorem kX10_fieldWidth {l : Launch} {D : va_G} {cy : Nat → ClassId} {ad : Nat → Nat} {n : Nat} {A : Nat → Prop} (hI : mI ad n A) {M : Nat → va_E} (hn : 52 ≤ n) {ab lt sz : Nat} (hw : M 43 = wdO ad (nI ab) (nI lt) (nI sz)) (hlt6 : lt < 65536) (hsz8 : sz ≤ 8) : mMi l yX10_fieldWidth (gW yX10_fieldWidth cX10_fieldWidth 1 (some .int)) { frames := 1, cells := 0, slots := 0, locals := 20 } D cy ad n A [.ref (ad 43)] M (fun res M' => res = nI (fW lt sz) ∧ M' = M) := by
  refine m_entry (cc := cX10_fieldWidth) (maxL := 1) (ret := (some .int)) (own := RX10) (lv := [(0, .ref (ad 43))]) hI (by decide) rfl rfl (Nat.le_of_ble_eq_true rfl) rfl (fun pX eX sX mX aX bX tX cX C hrt0 hlk0 => ?_)
  refine m_aload_n (pc' := 1) C dX10_fieldWidth_0 rfl 0 rfl rfl ?_
  refine m_get (pc' := 4) C 43 (by omega) hw rfl inW_X10 5 (by decide) (gW_of tm_2_2) rfl rfl dX10_fieldWidth_1 rfl ?_
  refine dite (nI lt = nI 99) (fun s4_99 => ?_) (fun s4_99 => ?_)
  · have n_s4_99 : lt = 99 := (nI_eq (by omega) (by omega)).mp s4_99
    refine m_look (off := 62) (tgt := 66) C dX10_fieldWidth_4 (by decide) (by rw [s4_99]; decide) (by decide) ?_
    refine m_iconst (pc' := 67) (v := nI 3) C dX10_fieldWidth_66 (by decide) rfl ?_
    refine m_iret C hrt0 hlk0 rfl dX10_fieldWidth_67 ?_
    refine ⟨?_, rfl⟩
    unfold fW
    rw [if_pos n_s4_99]
  refine dite (nI lt = nI 100) (fun s4_100 => ?_) (fun s4_100 => ?_)
  · have n_s4_100 : lt = 100 := (nI_eq (by omega) (by omega)).mp s4_100
    refine m_look (off := 41) (tgt := 45) C dX10_fieldWidth_4 (by decide) (by rw [s4_100]; decide) (by decide) ?_
    refine m_aload_n (pc' := 46) C dX10_fieldWidth_45 rfl 0 rfl rfl ?_
    refine m_get (pc' := 49) C 43 (by omega) hw rfl inW_X10 6 (by decide) (gW_of tm_2_3) rfl rfl dX10_fieldWidth_46 rfl ?_
    refine m_bipush (pc' := 51) (v := nI 8) C dX10_fieldWidth_49 (by decide) rfl ?_
    refine m_icmp_ne (pc' := 54) (tgt := 59) C dX10_fieldWidth_51 (by decide) rfl (fun c_51 => ?_) (fun c_51 => ?_)
    · have n_51 : ¬ sz = 8 := fun q => c_51 ((nI_eq (by omega) (by omega)).mpr q)
      refine m_aload_n (pc' := 60) C dX10_fieldWidth_59 rfl 0 rfl rfl ?_
      refine m_callVi (pc' := 63) (As := []) (rest := []) C (kX10_decimalWidth hI hn hw hsz8) (cwV 0 C.1.2.2.2.2 (goodV tm_4_149 tm_4_151 tp_39 tm_1_10 tm_4_152) rfl rfl rfl (by decide +kernel) ⟨by decide, by decide⟩) (by omega) hw rfl rfl rfl (Nat.le_of_ble_eq_true rfl) dX10_fieldWidth_60 rfl ⟨by decide, by decide⟩ (fun x_1 N_1 q_1 => ?_)
      obtain ⟨e_1, E_1⟩ := q_1
      replace E_1 := E_1.symm
      subst E_1
      replace e_1 := e_1.symm
      subst e_1
      refine m_iconst (pc' := 64) (v := nI 1) C dX10_fieldWidth_63 (by decide) rfl ?_
      refine m_iadd (pc' := 65) (v := nI ((dW sz) + 1)) C dX10_fieldWidth_64 (nI_add _ _) rfl ?_
      refine m_iret C hrt0 hlk0 rfl dX10_fieldWidth_65 ?_
      refine ⟨?_, rfl⟩
      unfold fW
      rw [if_neg (by omega), if_pos n_s4_100]
      first | rw [if_pos n_51] | rw [if_neg n_51]
    · have n_51 : sz = 8 := (nI_eq (by omega) (by omega)).mp (Classical.not_not.mp c_51)
      refine m_bipush (pc' := 56) (v := nI 20) C dX10_fieldWidth_54 (by decide) rfl ?_
      refine m_goto (tgt := 65) C dX10_fieldWidth_56 (by decide) ?_
      refine m_iret C hrt0 hlk0 rfl dX10_fieldWidth_65 ?_
      refine ⟨?_, rfl⟩
      unfold fW
      rw [if_neg (by omega), if_pos n_s4_100]
      first | rw [if_pos n_51] | rw [if_neg n_51]
  refine dite (nI lt = nI 117) (fun s4_117 => ?_) (fun s4_117 => ?_)
  · have n_s4_117 : lt = 117 := (nI_eq (by omega) (by omega)).mp s4_117
    refine m_look (off := 36) (tgt := 40) C dX10_fieldWidth_4 (by decide) (by rw [s4_117]; decide) (by decide) ?_
    refine m_aload_n (pc' := 41) C dX10_fieldWidth_40 rfl 0 rfl rfl ?_
    refine m_callVi (pc' := 44) (As := []) (rest := []) C (kX10_decimalWidth hI hn hw hsz8) (cwV 0 C.1.2.2.2.2 (goodV tm_4_149 tm_4_151 tp_39 tm_1_10 tm_4_152) rfl rfl rfl (by decide +kernel) ⟨by decide, by decide⟩) (by omega) hw rfl rfl rfl (Nat.le_of_ble_eq_true rfl) dX10_fieldWidth_41 rfl ⟨by decide, by decide⟩ (fun x_2 N_2 q_2 => ?_)
    obtain ⟨e_2, E_2⟩ := q_2
    replace E_2 := E_2.symm
    subst E_2
    replace e_2 := e_2.symm
    subst e_2
    refine m_iret C hrt0 hlk0 rfl dX10_fieldWidth_44 ?_
    refine ⟨?_, rfl⟩
    unfold fW
    rw [if_neg (by omega), if_neg (by omega), if_pos n_s4_117]
  have n_s4_99 : ¬ lt = 99 := fun q => s4_99 (by rw [q])
  have n_s4_100 : ¬ lt = 100 := fun q => s4_100 (by rw [q])
  have n_s4_117 : ¬ lt = 117 := fun q => s4_117 (by rw [q])
  refine m_look (off := 64) (tgt := 68) C dX10_fieldWidth_4 (by decide) ((lv_osw s4_99 (by decide)).trans ((lv_osw s4_100 (by decide)).trans ((lv_osw s4_117 (by decide)).trans rfl))) (by decide) ?_
  refine m_iconst (pc' := 69) (v := nI 0) C dX10_fieldWidth_68 (by decide) rfl ?_
  refine m_iret C hrt0 hlk0 rfl dX10_fieldWidth_69 ?_
  refine ⟨?_, rfl⟩
  unfold fW
  rw [if_neg n_s4_99, if_neg n_s4_100, if_neg n_s4_117]
set_option maxHeartbeats 4000000 in
set_option maxRecDepth 100000 in
theorem kX10_loadCharacter {l : Launch} {D : va_G} {cy : Nat → ClassId} {ad : Nat → Nat} {n : Nat} {A : Nat → Prop} (hI : mI ad n A) {M : Nat → va_E} (hn : 52 ≤ n) {ab lt sz : Nat} (hw : M 43 = wdO ad (nI ab) (nI lt) (nI sz)) {F : List Nat} (hf4 : isRow cy ad n M 44 45 22 22 F) {ds : List Nat} {lg : Bool} (hf : isFig cy ad n M 1 2 ds lg) {v : Nat} (hv : v < 256) : mMv l yX10_loadCharacter (gW yX10_loadCharacter cX10_loadCharacter 3 none) { frames := 2, cells := 0, slots := 0, locals := 53 } D cy ad n A [.ref (ad 43), .int (nI v)] M (fun M' => isRow cy ad n M' 44 45 22 22 (F ++ fldC v) ∧ (∃ (ds2 : List Nat) (lg2 : Bool), isFig cy ad n M' 1 2 ds2 lg2) ∧ Fr [1, 2, 44, 45] M M') := by
  refine m_entry (cc := cX10_loadCharacter) (maxL := 3) (ret := none) (own := RX10) (lv := [(0, .ref (ad 43)), (1, .int (nI v))]) hI (by decide) rfl rfl (Nat.le_of_ble_eq_true rfl) rfl (fun pX eX sX mX aX bX tX cX C hrt0 hlk0 => ?_)
  refine m_iload_n (pc' := 1) C dX10_loadCharacter_0 rfl 1 rfl rfl ?_
  refine m_callSi (pc' := 4) (As := [.int (nI v)]) (rest := []) C (kX10_nameOf hI (nI v)) (cwS 1 C.1.2.2.2.2 (goodS tm_4_127 tm_4_128 tm_1_10 tm_4_129) rfl rfl rfl (by decide +kernel) ⟨by decide, by decide⟩) rfl rfl (Nat.le_of_ble_eq_true rfl) dX10_loadCharacter_1 rfl ⟨by decide, by decide⟩ (fun x_1 N_1 q_1 => ?_)
  obtain ⟨e_1, E_1⟩ := q_1
  replace E_1 := E_1.symm
  subst E_1
  replace e_1 := e_1.symm
  subst e_1
  refine m_istore_n (pc' := 5) (lv' := [(2, .int (nmW (nI v))), (0, .ref (ad 43)), (1, .int (nI v))]) C dX10_loadCharacter_4 rfl (by decide) rfl rfl ?_
  refine m_iload_n (pc' := 6) C dX10_loadCharacter_5 rfl 2 rfl rfl ?_
  refine m_callNi (pc' := 9) (As := [.int (nI v)]) (rest := []) C (kX11_canBeSeen hI (nI v)) ⟨va_cnB 1 C.1.2.2.2.2 (goodN tm_4_132) rfl rfl rfl (C.2.1.2 (RX10, 114, yX11_canBeSeen) (List.mem_of_getElem? (i := 3) rfl)) (C.1.2.2.2.2 _ (gW_of tm_1_1)) (by decide +kernel) ⟨by decide, by decide⟩, C.1.2.2.2.2 _ (gW_of tm_4_131), trivial⟩ rfl rfl (Nat.le_of_ble_eq_true rfl) dX10_loadCharacter_6 rfl ⟨by decide, by decide⟩ (fun x_2 N_2 q_2 => ?_)
  obtain ⟨e_2, E_2⟩ := q_2
  replace E_2 := E_2.symm
  subst E_2
  replace e_2 := e_2.symm
  subst e_2
  refine m_if_eq (pc' := 12) (tgt := 23) C dX10_loadCharacter_9 (by decide) rfl (fun c_9 => ?_) (fun c_9 => ?_)
  · have hse : ¬ seen (nI v) = true := by rw [(bI_0 _).mp c_9]; decide
    refine m_iload_n (pc' := 24) C dX10_loadCharacter_23 rfl 0 rfl rfl ?_
    refine m_iconst (pc' := 25) (v := (-1)) C dX10_loadCharacter_24 (by decide) rfl ?_
    refine m_icmp_eq (pc' := 28) (tgt := 48) C dX10_loadCharacter_25 (by decide) rfl (fun c_25 => ?_) (fun c_25 => ?_)
    · have hnm := c_25
      refine m_aload_n (pc' := 49) C dX10_loadCharacter_48 rfl 1 rfl rfl ?_
      refine m_get (pc' := 52) C 43 (by omega) hw rfl inW_X10 2 (by decide) (gW_of tm_1_239) rfl rfl dX10_loadCharacter_49 rfl ?_
      refine m_iload_n (pc' := 53) C dX10_loadCharacter_52 rfl 2 rfl rfl ?_
      refine m_i2l (pc' := 54) (v := lN v) C dX10_loadCharacter_53 (nI_l (by omega)) rfl ?_
      refine m_bipush (pc' := 56) (v := nI 8) C dX10_loadCharacter_54 (by decide) rfl ?_
      refine m_iconst (pc' := 57) (v := bI false) C dX10_loadCharacter_56 (by decide) rfl ?_
      refine m_callVv (pc' := 60) (As := [.long (lN v), .int (nI 8), .int (bI false)]) (rest := []) C (kX4_take hI hf (v := v) (b := 8) false (by omega) (by decide)) (cwV 3 C.1.2.2.2.2 (goodV tm_4_111 tm_3_61 tm_3_62 tm_1_2 tm_3_63) rfl rfl rfl (by decide +kernel) ⟨by decide, by decide⟩) hf.1 hf.ob rfl rfl rfl (Nat.le_of_ble_eq_true rfl) dX10_loadCharacter_57 rfl ⟨by decide, by decide⟩ (fun M3 q_3 => ?_)
      obtain ⟨G_3, F_3⟩ := q_3
      refine m_aload_n (pc' := 61) C dX10_loadCharacter_60 rfl 1 rfl rfl ?_
      have f43_4 : M3 43 = .inr (10, [.ref (ad 5), .ref (ad 7), .ref (ad 1), .ref (ad 44), .int (nI ab), .int (nI lt), .int (nI sz)]) := (F_3 43 (by decide)).trans hw
      refine m_get (pc' := 64) C 43 (by omega) f43_4 rfl inW_X10 2 (by decide) (gW_of tm_1_239) rfl rfl dX10_loadCharacter_61 rfl ?_
      refine m_aload_n (pc' := 65) C dX10_loadCharacter_64 rfl 1 rfl rfl ?_
      refine m_get (pc' := 68) C 43 (by omega) f43_4 rfl inW_X10 3 (by decide) (gW_of tm_2_0) rfl rfl dX10_loadCharacter_65 rfl ?_
      refine m_iconst (pc' := 69) (v := nI 3) C dX10_loadCharacter_68 (by decide) rfl ?_
      have R44_6 := hf4.fr F_3 (by decide) (by decide)
      refine m_callVv (pc' := 72) (As := [.ref (ad 44), .int (nI 3)]) (rest := []) C (kX4_writeTo hI G_3 R44_6 (by decide) (m := 3) (by decide)) (cwV 2 C.1.2.2.2.2 (goodV tm_4_112 tm_3_68 tm_3_69 tm_1_2 tm_3_70) rfl rfl rfl (by decide +kernel) ⟨by decide, by decide⟩) G_3.1 G_3.ob rfl rfl rfl (Nat.le_of_ble_eq_true rfl) dX10_loadCharacter_69 rfl ⟨by decide, by decide⟩ (fun M5 q_5 => ?_)
      obtain ⟨R_5, F_5⟩ := q_5
      refine m_vret C hrt0 hlk0 dX10_loadCharacter_72 ?_
      have G_7 := G_3.fr F_5 (by decide) (by decide)
      refine ⟨?_, ⟨_, _, G_7⟩, ((F_3.sub (by decide)).tr (F_5.sub (by decide)))⟩
      unfold fldC
      rw [if_neg hse, if_pos hnm]
      exact R_5
    · have hnm := c_25
      refine m_aload_n (pc' := 29) C dX10_loadCharacter_28 rfl 1 rfl rfl ?_
      refine m_get (pc' := 32) C 43 (by omega) hw rfl inW_X10 3 (by decide) (gW_of tm_2_0) rfl rfl dX10_loadCharacter_29 rfl ?_
      refine m_bipush (pc' := 34) (v := nI 92) C dX10_loadCharacter_32 (by decide) rfl ?_
      refine m_callVv (pc' := 37) (As := [.int (nI 92)]) (rest := []) C (kX9_add hI hf4 (nI 92)) (cwV 1 C.1.2.2.2.2 (goodV tm_4_113 tm_2_211 tm_2_212 tm_1_3 tm_2_213) rfl rfl rfl (by decide +kernel) ⟨by decide, by decide⟩) hf4.1 hf4.ob rfl rfl rfl (Nat.le_of_ble_eq_true rfl) dX10_loadCharacter_34 rfl ⟨by decide, by decide⟩ (fun M8 q_8 => ?_)
      obtain ⟨R_8, F_8⟩ := q_8
      rw [show lowb (nI 92) = 92 by decide] at R_8
      refine m_aload_n (pc' := 38) C dX10_loadCharacter_37 rfl 1 rfl rfl ?_
      have f43_9 : M8 43 = .inr (10, [.ref (ad 5), .ref (ad 7), .ref (ad 1), .ref (ad 44), .int (nI ab), .int (nI lt), .int (nI sz)]) := (F_8 43 (by decide)).trans hw
      refine m_get (pc' := 41) C 43 (by omega) f43_9 rfl inW_X10 3 (by decide) (gW_of tm_2_0) rfl rfl dX10_loadCharacter_38 rfl ?_
      refine m_iload_n (pc' := 42) C dX10_loadCharacter_41 rfl 0 rfl rfl ?_
      refine m_callVv (pc' := 45) (As := [.int (nmW (nI v))]) (rest := []) C (kX9_add hI R_8 (nmW (nI v))) (cwV 1 C.1.2.2.2.2 (goodV tm_4_113 tm_2_211 tm_2_212 tm_1_3 tm_2_213) rfl rfl rfl (by decide +kernel) ⟨by decide, by decide⟩) R_8.1 R_8.ob rfl rfl rfl (Nat.le_of_ble_eq_true rfl) dX10_loadCharacter_42 rfl ⟨by decide, by decide⟩ (fun M10 q_10 => ?_)
      obtain ⟨R_10, F_10⟩ := q_10
      refine m_goto (tgt := 72) C dX10_loadCharacter_45 (by decide) ?_
      refine m_vret C hrt0 hlk0 dX10_loadCharacter_72 ?_
      have G_11 := hf.fr F_8 (by decide) (by decide)
      have G_12 := G_11.fr F_10 (by decide) (by decide)
      refine ⟨?_, ⟨_, _, G_12⟩, ((F_8.sub (by decide)).tr (F_10.sub (by decide)))⟩
      unfold fldC
      rw [if_neg hse, if_neg hnm, show F ++ [92, lowb (nmW (nI v))] = F ++ [92] ++ [lowb (nmW (nI v))] by rw [List.append_assoc]; rfl]
      exact R_10
  · have hse : seen (nI v) = true := ts_of c_9
    refine m_aload_n (pc' := 13) C dX10_loadCharacter_12 rfl 1 rfl rfl ?_
    refine m_get (pc' := 16) C 43 (by omega) hw rfl inW_X10 3 (by decide) (gW_of tm_2_0) rfl rfl dX10_loadCharacter_13 rfl ?_
    refine m_iload_n (pc' := 17) C dX10_loadCharacter_16 rfl 2 rfl rfl ?_
    refine m_callVv (pc' := 20) (As := [.int (nI v)]) (rest := []) C (kX9_add hI hf4 (nI v)) (cwV 1 C.1.2.2.2.2 (goodV tm_4_113 tm_2_211 tm_2_212 tm_1_3 tm_2_213) rfl rfl rfl (by decide +kernel) ⟨by decide, by decide⟩) hf4.1 hf4.ob rfl rfl rfl (Nat.le_of_ble_eq_true rfl) dX10_loadCharacter_17 rfl ⟨by decide, by decide⟩ (fun M13 q_13 => ?_)
    obtain ⟨R_13, F_13⟩ := q_13
    rw [lowb_nI (by omega)] at R_13
    refine m_goto (tgt := 72) C dX10_loadCharacter_20 (by decide) ?_
    refine m_vret C hrt0 hlk0 dX10_loadCharacter_72 ?_
    have G_14 := hf.fr F_13 (by decide) (by decide)
    refine ⟨?_, ⟨_, _, G_14⟩, (F_13.sub (by decide))⟩
    unfold fldC
    rw [if_pos hse]
    exact R_13
set_option maxHeartbeats 4000000 in
set_option maxRecDepth 100000 in
theorem kX10_loadNumber {l : Launch} {D : va_G} {cy : Nat → ClassId} {ad : Nat → Nat} {n : Nat} {A : Nat → Prop} (hI : mI ad n A) {M : Nat → va_E} (hn : 52 ≤ n) {ab lt sz : Nat} (hw : M 43 = wdO ad (nI ab) (nI lt) (nI sz)) (hlt6 : lt < 65536) (hsz8 : sz ≤ 8) {F : List Nat} (hf4 : isRow cy ad n M 44 45 22 22 F) {ds : List Nat} {lg : Bool} (hf : isFig cy ad n M 1 2 ds lg) (x : Int64) : mMv l yX10_loadNumber (gW yX10_loadNumber cX10_loadNumber 5 none) { frames := 2, cells := 0, slots := 0, locals := 53 } D cy ad n A [.ref (ad 43), .long x] M (fun M' => isRow cy ad n M' 44 45 22 22 (F ++ fldN lt sz x) ∧ (∃ (ds2 : List Nat) (lg2 : Bool), isFig cy ad n M' 1 2 ds2 lg2) ∧ Fr [1, 2, 44, 45] M M') := by
  refine m_entry (cc := cX10_loadNumber) (maxL := 5) (ret := none) (own := RX10) (lv := [(0, .ref (ad 43)), (1, .long (x))]) hI (by decide) rfl rfl (Nat.le_of_ble_eq_true rfl) rfl (fun pX eX sX mX aX bX tX cX C hrt0 hlk0 => ?_)
  refine m_bipush (pc' := 2) (v := nI 64) C dX10_loadNumber_0 (by decide) rfl ?_
  refine m_bipush (pc' := 4) (v := nI 8) C dX10_loadNumber_2 (by decide) rfl ?_
  refine m_aload_n (pc' := 5) C dX10_loadNumber_4 rfl 0 rfl rfl ?_
  refine m_get (pc' := 8) C 43 (by omega) hw rfl inW_X10 6 (by decide) (gW_of tm_2_3) rfl rfl dX10_loadNumber_5 rfl ?_
  refine m_imul (pc' := 9) (v := nI (8 * sz)) C dX10_loadNumber_8 (pk_mul _ _) rfl ?_
  refine m_isub (pc' := 10) (v := nI (64 - 8 * sz)) C dX10_loadNumber_9 (pk_sub (by omega)) rfl ?_
  refine m_istore_n (pc' := 11) (lv' := [(3, .int (nI (64 - 8 * sz))), (0, .ref (ad 43)), (1, .long (x))]) C dX10_loadNumber_10 rfl (by decide) rfl rfl ?_
  refine m_cut (σ := Bool) (fun a => a = wNeg lt sz x) (fun a => M) 33 (fun a => [(0, .ref (ad 43)), (1, .long (x)), (3, .int (nI (64 - 8 * sz)))]) (fun a => [.int (bI a)]) ?_ (fun J33 => ?_)
  · rintro z hj
    try dsimp only at hj ⊢
    have hz := hj
    refine m_istore (pc' := 35) (lv' := [(4, .int (bI z)), (0, .ref (ad 43)), (1, .long (x)), (3, .int (nI (64 - 8 * sz)))]) C dX10_loadNumber_33 (by decide) rfl rfl ?_
    refine m_iload (pc' := 37) C dX10_loadNumber_35 0 rfl rfl ?_
    refine m_if_eq (pc' := 40) (tgt := 68) C dX10_loadNumber_37 (by decide) rfl (fun c_37 => ?_) (fun c_37 => ?_)
    · have hzt : ¬ wNeg lt sz x = true := by rw [← hz, (bI_0 _).mp c_37]; decide
      refine m_aload_n (pc' := 69) C dX10_loadNumber_68 rfl 1 rfl rfl ?_
      refine m_get (pc' := 72) C 43 (by omega) hw rfl inW_X10 2 (by decide) (gW_of tm_1_239) rfl rfl dX10_loadNumber_69 rfl ?_
      refine m_lload_n (pc' := 73) C dX10_loadNumber_72 rfl 2 rfl rfl ?_
      refine m_aload_n (pc' := 74) C dX10_loadNumber_73 rfl 1 rfl rfl ?_
      refine m_callVi (pc' := 77) (As := []) (rest := [.long (x), .ref (ad 1)]) C (kX10_fieldBase hI hn hw hlt6) (cwV 0 C.1.2.2.2.2 (goodV tm_4_137 tm_4_139 tp_36 tm_1_10 tm_4_140) rfl rfl rfl (by decide +kernel) ⟨by decide, by decide⟩) (by omega) hw rfl rfl rfl (Nat.le_of_ble_eq_true rfl) dX10_loadNumber_74 rfl ⟨by decide, by decide⟩ (fun x_1 N_1 q_1 => ?_)
      obtain ⟨e_1, E_1⟩ := q_1
      replace E_1 := E_1.symm
      subst E_1
      replace e_1 := e_1.symm
      subst e_1
      refine m_iconst (pc' := 78) (v := bI false) C dX10_loadNumber_77 (by decide) rfl ?_
      refine m_callVv (pc' := 81) (As := [.long (x), .int (nI (fB lt)), .int (bI false)]) (rest := []) C (kX4_takeX hI hf x (b := (fB lt)) false (fB_or lt)) (cwV 3 C.1.2.2.2.2 (goodV tm_4_111 tm_3_61 tm_3_62 tm_1_2 tm_3_63) rfl rfl rfl (by decide +kernel) ⟨by decide, by decide⟩) hf.1 hf.ob rfl rfl rfl (Nat.le_of_ble_eq_true rfl) dX10_loadNumber_78 rfl ⟨by decide, by decide⟩ (fun M2 q_2 => ?_)
      obtain ⟨G_2, F_2⟩ := q_2
      refine m_aload_n (pc' := 82) C dX10_loadNumber_81 rfl 1 rfl rfl ?_
      have f43_3 : M2 43 = .inr (10, [.ref (ad 5), .ref (ad 7), .ref (ad 1), .ref (ad 44), .int (nI ab), .int (nI lt), .int (nI sz)]) := (F_2 43 (by decide)).trans hw
      refine m_get (pc' := 85) C 43 (by omega) f43_3 rfl inW_X10 2 (by decide) (gW_of tm_1_239) rfl rfl dX10_loadNumber_82 rfl ?_
      refine m_aload_n (pc' := 86) C dX10_loadNumber_85 rfl 1 rfl rfl ?_
      refine m_get (pc' := 89) C 43 (by omega) f43_3 rfl inW_X10 3 (by decide) (gW_of tm_2_0) rfl rfl dX10_loadNumber_86 rfl ?_
      refine m_aload_n (pc' := 90) C dX10_loadNumber_89 rfl 1 rfl rfl ?_
      refine m_callVi (pc' := 93) (As := []) (rest := [.ref (ad 44), .ref (ad 1)]) C (kX10_leastDigits hI hn f43_3 hlt6 hsz8) (cwV 0 C.1.2.2.2.2 (goodV tm_4_141 tm_4_143 tp_37 tm_1_10 tm_4_144) rfl rfl rfl (by decide +kernel) ⟨by decide, by decide⟩) (by omega) f43_3 rfl rfl rfl (Nat.le_of_ble_eq_true rfl) dX10_loadNumber_90 rfl ⟨by decide, by decide⟩ (fun x_4 N_4 q_4 => ?_)
      obtain ⟨e_4, E_4⟩ := q_4
      replace E_4 := E_4.symm
      subst E_4
      replace e_4 := e_4.symm
      subst e_4
      have R44_6 := hf4.fr F_2 (by decide) (by decide)
      refine m_callVv (pc' := 96) (As := [.ref (ad 44), .int (nI (lD lt sz))]) (rest := []) C (kX4_writeTo hI G_2 R44_6 (by decide) (m := (lD lt sz)) (Nat.lt_of_le_of_lt (lD_le lt hsz8) (by decide))) (cwV 2 C.1.2.2.2.2 (goodV tm_4_112 tm_3_68 tm_3_69 tm_1_2 tm_3_70) rfl rfl rfl (by decide +kernel) ⟨by decide, by decide⟩) G_2.1 G_2.ob rfl rfl rfl (Nat.le_of_ble_eq_true rfl) dX10_loadNumber_93 rfl ⟨by decide, by decide⟩ (fun M5 q_5 => ?_)
      obtain ⟨R_5, F_5⟩ := q_5
      refine m_vret C hrt0 hlk0 dX10_loadNumber_96 ?_
      have G_7 := G_2.fr F_5 (by decide) (by decide)
      refine ⟨?_, ⟨_, _, G_7⟩, ((F_2.sub (by decide)).tr (F_5.sub (by decide)))⟩
      unfold fldN
      rw [if_neg hzt]
      exact R_5
    · have hzt : wNeg lt sz x = true := by rw [← hz]; exact ts_of c_37
      refine m_aload_n (pc' := 41) C dX10_loadNumber_40 rfl 1 rfl rfl ?_
      refine m_get (pc' := 44) C 43 (by omega) hw rfl inW_X10 3 (by decide) (gW_of tm_2_0) rfl rfl dX10_loadNumber_41 rfl ?_
      refine m_bipush (pc' := 46) (v := nI 45) C dX10_loadNumber_44 (by decide) rfl ?_
      refine m_callVv (pc' := 49) (As := [.int (nI 45)]) (rest := []) C (kX9_add hI hf4 (nI 45)) (cwV 1 C.1.2.2.2.2 (goodV tm_4_113 tm_2_211 tm_2_212 tm_1_3 tm_2_213) rfl rfl rfl (by decide +kernel) ⟨by decide, by decide⟩) hf4.1 hf4.ob rfl rfl rfl (Nat.le_of_ble_eq_true rfl) dX10_loadNumber_46 rfl ⟨by decide, by decide⟩ (fun M8 q_8 => ?_)
      obtain ⟨R_8, F_8⟩ := q_8
      rw [show lowb (nI 45) = 45 by decide] at R_8
      refine m_aload_n (pc' := 50) C dX10_loadNumber_49 rfl 1 rfl rfl ?_
      have f43_9 : M8 43 = .inr (10, [.ref (ad 5), .ref (ad 7), .ref (ad 1), .ref (ad 44), .int (nI ab), .int (nI lt), .int (nI sz)]) := (F_8 43 (by decide)).trans hw
      refine m_get (pc' := 53) C 43 (by omega) f43_9 rfl inW_X10 2 (by decide) (gW_of tm_1_239) rfl rfl dX10_loadNumber_50 rfl ?_
      refine m_lload_n (pc' := 54) C dX10_loadNumber_53 rfl 2 rfl rfl ?_
      refine m_iload_n (pc' := 55) C dX10_loadNumber_54 rfl 3 rfl rfl ?_
      refine m_lshl (pc' := 56) (v := wShl sz x) C dX10_loadNumber_55 rfl rfl ?_
      refine m_iload_n (pc' := 57) C dX10_loadNumber_56 rfl 3 rfl rfl ?_
      refine m_lshr (pc' := 58) (v := wSar sz x) C dX10_loadNumber_57 rfl rfl ?_
      refine m_lneg (pc' := 59) (v := -(wSar sz x)) C dX10_loadNumber_58 rfl rfl ?_
      refine m_bipush (pc' := 61) (v := nI 10) C dX10_loadNumber_59 (by decide) rfl ?_
      refine m_iconst (pc' := 62) (v := bI false) C dX10_loadNumber_61 (by decide) rfl ?_
      have G_11 := hf.fr F_8 (by decide) (by decide)
      refine m_callVv (pc' := 65) (As := [.long (-(wSar sz x)), .int (nI 10), .int (bI false)]) (rest := []) C (kX4_takeX hI G_11 (-(wSar sz x)) (b := 10) false (by decide)) (cwV 3 C.1.2.2.2.2 (goodV tm_4_111 tm_3_61 tm_3_62 tm_1_2 tm_3_63) rfl rfl rfl (by decide +kernel) ⟨by decide, by decide⟩) G_11.1 G_11.ob rfl rfl rfl (Nat.le_of_ble_eq_true rfl) dX10_loadNumber_62 rfl ⟨by decide, by decide⟩ (fun M10 q_10 => ?_)
      obtain ⟨G_10, F_10⟩ := q_10
      refine m_goto (tgt := 81) C dX10_loadNumber_65 (by decide) ?_
      refine m_aload_n (pc' := 82) C dX10_loadNumber_81 rfl 1 rfl rfl ?_
      have f43_12 : M10 43 = .inr (10, [.ref (ad 5), .ref (ad 7), .ref (ad 1), .ref (ad 44), .int (nI ab), .int (nI lt), .int (nI sz)]) := (F_10 43 (by decide)).trans f43_9
      refine m_get (pc' := 85) C 43 (by omega) f43_12 rfl inW_X10 2 (by decide) (gW_of tm_1_239) rfl rfl dX10_loadNumber_82 rfl ?_
      refine m_aload_n (pc' := 86) C dX10_loadNumber_85 rfl 1 rfl rfl ?_
      refine m_get (pc' := 89) C 43 (by omega) f43_12 rfl inW_X10 3 (by decide) (gW_of tm_2_0) rfl rfl dX10_loadNumber_86 rfl ?_
      refine m_aload_n (pc' := 90) C dX10_loadNumber_89 rfl 1 rfl rfl ?_
      refine m_callVi (pc' := 93) (As := []) (rest := [.ref (ad 44), .ref (ad 1)]) C (kX10_leastDigits hI hn f43_12 hlt6 hsz8) (cwV 0 C.1.2.2.2.2 (goodV tm_4_141 tm_4_143 tp_37 tm_1_10 tm_4_144) rfl rfl rfl (by decide +kernel) ⟨by decide, by decide⟩) (by omega) f43_12 rfl rfl rfl (Nat.le_of_ble_eq_true rfl) dX10_loadNumber_90 rfl ⟨by decide, by decide⟩ (fun x_13 N_13 q_13 => ?_)
      obtain ⟨e_13, E_13⟩ := q_13
      replace E_13 := E_13.symm
      subst E_13
      replace e_13 := e_13.symm
      subst e_13
      have R44_15 := R_8.fr F_10 (by decide) (by decide)
      refine m_callVv (pc' := 96) (As := [.ref (ad 44), .int (nI (lD lt sz))]) (rest := []) C (kX4_writeTo hI G_10 R44_15 (by decide) (m := (lD lt sz)) (Nat.lt_of_le_of_lt (lD_le lt hsz8) (by decide))) (cwV 2 C.1.2.2.2.2 (goodV tm_4_112 tm_3_68 tm_3_69 tm_1_2 tm_3_70) rfl rfl rfl (by decide +kernel) ⟨by decide, by decide⟩) G_10.1 G_10.ob rfl rfl rfl (Nat.le_of_ble_eq_true rfl) dX10_loadNumber_93 rfl ⟨by decide, by decide⟩ (fun M14 q_14 => ?_)
      obtain ⟨R_14, F_14⟩ := q_14
      refine m_vret C hrt0 hlk0 dX10_loadNumber_96 ?_
      have G_16 := G_10.fr F_14 (by decide) (by decide)
      refine ⟨?_, ⟨_, _, G_16⟩, (((F_8.sub (by decide)).tr (F_10.sub (by decide))).tr (F_14.sub (by decide)))⟩
      unfold fldN
      rw [if_pos hzt, show F ++ (45 :: numS false (dg 10 (uL (-(wSar sz x)))) (lD lt sz)) = F ++ [45] ++ numS false (dg 10 (uL (-(wSar sz x)))) (lD lt sz) by rw [List.append_assoc]; rfl]
      exact R_14
  refine m_aload_n (pc' := 12) C dX10_loadNumber_11 rfl 1 rfl rfl ?_
  refine m_get (pc' := 15) C 43 (by omega) hw rfl inW_X10 5 (by decide) (gW_of tm_2_2) rfl rfl dX10_loadNumber_12 rfl ?_
  refine m_bipush (pc' := 17) (v := nI 100) C dX10_loadNumber_15 (by decide) rfl ?_
  refine m_icmp_ne (pc' := 20) (tgt := 32) C dX10_loadNumber_17 (by decide) rfl (fun c_17 => ?_) (fun c_17 => ?_)
  · have n_17 : ¬ lt = 100 := fun q => c_17 ((nI_eq (by omega) (by omega)).mpr q)
    refine m_iconst (pc' := 33) (v := bI false) C dX10_loadNumber_32 (by decide) rfl ?_
    refine m_lv [1, 2, 0] rfl ?_
    exact J33 false ((decide_eq_false (fun q => n_17 q.1)).symm)
  · have n_17 : lt = 100 := (nI_eq (by omega) (by omega)).mp (Classical.not_not.mp c_17)
    refine m_lload_n (pc' := 21) C dX10_loadNumber_20 rfl 2 rfl rfl ?_
    refine m_iload_n (pc' := 22) C dX10_loadNumber_21 rfl 0 rfl rfl ?_
    refine m_lshl (pc' := 23) (v := wShl sz x) C dX10_loadNumber_22 rfl rfl ?_
    refine m_lconst (pc' := 24) (v := 0) C dX10_loadNumber_23 (by decide) rfl ?_
    refine m_lcmp (pc' := 25) (v := lg_cmp (wShl sz x) 0) C dX10_loadNumber_24 rfl rfl ?_
    refine m_if_ge (pc' := 28) (tgt := 32) C dX10_loadNumber_25 (by decide) rfl (fun c_25 => ?_) (fun c_25 => ?_)
    · have h25 : ¬ wShl sz x < 0 := (lcmp_ge _).mp c_25
      refine m_iconst (pc' := 33) (v := bI false) C dX10_loadNumber_32 (by decide) rfl ?_
      refine m_lv [1, 2, 0] rfl ?_
      exact J33 false ((decide_eq_false (fun q => h25 q.2)).symm)
    · have h25 : wShl sz x < 0 := Classical.not_not.mp (fun q => c_25 ((lcmp_ge _).mpr q))
      refine m_iconst (pc' := 29) (v := bI true) C dX10_loadNumber_28 (by decide) rfl ?_
      refine m_goto (tgt := 33) C dX10_loadNumber_29 (by decide) ?_
      refine m_lv [1, 2, 0] rfl ?_
      exact J33 true ((decide_eq_true ⟨n_17, h25⟩).symm)
set_option maxHeartbeats 4000000 in
set_option maxRecDepth 100000 in
theorem kX10_writeField {l : Launch} {D : va_G} {cy : Nat → ClassId} {ad : Nat → Nat} {n : Nat} {A : Nat → Prop} (hI : mI ad n A) {M : Nat → va_E} (hn : 52 ≤ n) {ab lt sz : Nat} (hw : M 43 = wdO ad (nI ab) (nI lt) (nI sz)) (hlt6 : lt < 65536) (hsz8 : sz ≤ 8) {F : List Nat} (hf4 : isRow cy ad n M 44 45 22 22 F) {ds : List Nat} {lg : Bool} (hf : isFig cy ad n M 1 2 ds lg) {lim : Nat} {O : List Nat} (hg : isRow cy ad n M 5 6 2000 lim O) {v : Nat} (hv99 : lt = 99 → v < 256) : mMv l yX10_writeField (gW yX10_writeField cX10_writeField 4 none) { frames := 3, cells := 0, slots := 0, locals := 77 } D cy ad n A [.ref (ad 43), .long (lN v)] M (fun M' => isRow cy ad n M' 5 6 2000 lim (O ++ fldS lt sz v) ∧ (∃ F2 : List Nat, isRow cy ad n M' 44 45 22 22 F2) ∧ (∃ (ds2 : List Nat) (lg2 : Bool), isFig cy ad n M' 1 2 ds2 lg2) ∧ Fr [1, 2, 5, 6, 44, 45] M M') := by
  refine m_entry (cc := cX10_writeField) (maxL := 4) (ret := none) (own := RX10) (lv := [(0, .ref (ad 43)), (1, .long (lN v))]) hI (by decide) rfl rfl (Nat.le_of_ble_eq_true rfl) rfl (fun pX eX sX mX aX bX tX cX C hrt0 hlk0 => ?_)
  refine m_aload_n (pc' := 1) C dX10_writeField_0 rfl 0 rfl rfl ?_
  refine m_get (pc' := 4) C 43 (by omega) hw rfl inW_X10 3 (by decide) (gW_of tm_2_0) rfl rfl dX10_writeField_1 rfl ?_
  refine m_callVv (pc' := 7) (As := []) (rest := []) C (kX9_clear hI hf4.pre) (cwV 0 C.1.2.2.2.2 (goodV tm_4_122 tm_2_99 tm_2_100 tm_1_3 tm_2_101) rfl rfl rfl (by decide +kernel) ⟨by decide, by decide⟩) hf4.1 hf4.ob rfl rfl rfl (Nat.le_of_ble_eq_true rfl) dX10_writeField_4 rfl ⟨by decide, by decide⟩ (fun M1 q_1 => ?_)
  obtain ⟨R_1, F_1⟩ := q_1
  refine m_cut (σ := (Nat → va_E)) (fun a => isRow cy ad n a 44 45 22 22 (fldX lt sz v) ∧ (∃ (ds2 : List Nat) (lg2 : Bool), isFig cy ad n a 1 2 ds2 lg2) ∧ Fr [1, 2, 44, 45] M a) (fun a => a) 30 (fun a => [(0, .ref (ad 43))]) (fun a => []) ?_ (fun J30 => ?_)
  · rintro Mj hj
    try dsimp only at hj ⊢
    obtain ⟨j1, ⟨ds3, lg3, j2⟩, j3⟩ := hj
    have hX8 := fldX_len (lt := lt) (v := v) hsz8 hv99
    obtain ⟨X, hX⟩ : ∃ X, X = fldX lt sz v := ⟨_, rfl⟩
    rw [← hX] at j1 hX8
    have h255 : ∀ x ∈ X, x < 256 := j1.2.2.2.2.1
    refine m_aload_n (pc' := 31) C dX10_writeField_30 rfl 0 rfl rfl ?_
    have f43_2 : Mj 43 = .inr (10, [.ref (ad 5), .ref (ad 7), .ref (ad 1), .ref (ad 44), .int (nI ab), .int (nI lt), .int (nI sz)]) := (j3 43 (by decide)).trans hw
    refine m_get (pc' := 34) C 43 (by omega) f43_2 rfl inW_X10 0 (by decide) (gW_of tm_1_237) rfl rfl dX10_writeField_31 rfl ?_
    refine m_bipush (pc' := 36) (v := nI 32) C dX10_writeField_34 (by decide) rfl ?_
    refine m_aload_n (pc' := 37) C dX10_writeField_36 rfl 0 rfl rfl ?_
    refine m_callVi (pc' := 40) (As := []) (rest := [.int (nI 32), .ref (ad 5)]) C (kX10_fieldWidth hI hn f43_2 hlt6 hsz8) (cwV 0 C.1.2.2.2.2 (goodV tm_4_145 tm_4_147 tp_38 tm_1_10 tm_4_148) rfl rfl rfl (by decide +kernel) ⟨by decide, by decide⟩) (by omega) f43_2 rfl rfl rfl (Nat.le_of_ble_eq_true rfl) dX10_writeField_37 rfl ⟨by decide, by decide⟩ (fun x_3 N_3 q_3 => ?_)
    obtain ⟨e_3, E_3⟩ := q_3
    replace E_3 := E_3.symm
    subst E_3
    replace e_3 := e_3.symm
    subst e_3
    refine m_aload_n (pc' := 41) C dX10_writeField_40 rfl 0 rfl rfl ?_
    refine m_get (pc' := 44) C 43 (by omega) f43_2 rfl inW_X10 3 (by decide) (gW_of tm_2_0) rfl rfl dX10_writeField_41 rfl ?_
    refine m_callVi (pc' := 47) (As := []) (rest := [.int (nI (fW lt sz)), .int (nI 32), .ref (ad 5)]) C (kX9_size hI j1) (cwV 0 C.1.2.2.2.2 (goodV tm_4_95 tm_2_95 tm_2_96 tm_1_3 tm_2_97) rfl rfl rfl (by decide +kernel) ⟨by decide, by decide⟩) j1.1 j1.ob rfl rfl rfl (Nat.le_of_ble_eq_true rfl) dX10_writeField_44 rfl ⟨by decide, by decide⟩ (fun x_4 N_4 q_4 => ?_)
    obtain ⟨e_4, E_4⟩ := q_4
    replace E_4 := E_4.symm
    subst E_4
    replace e_4 : x_4 = nI X.length := e_4.trans (by rw [Nat.min_eq_left hX8])
    replace e_4 := e_4.symm
    subst e_4
    refine m_isub (pc' := 48) (v := (nI (fW lt sz)) - (nI X.length)) C dX10_writeField_47 rfl rfl ?_
    have R5_5 := hg.fr j3 (by decide) (by decide)
    refine m_callVv (pc' := 51) (As := [.int (nI 32), .int ((nI (fW lt sz)) - (nI X.length))]) (rest := []) C (kX9_addMany hI R5_5 (nI 32) ((nI (fW lt sz)) - (nI X.length))) (cwV 2 C.1.2.2.2.2 (goodV tm_4_153 tm_3_41 tm_3_42 tm_1_3 tm_3_43) rfl rfl rfl (by decide +kernel) ⟨by decide, by decide⟩) R5_5.1 R5_5.ob rfl rfl rfl (Nat.le_of_ble_eq_true rfl) dX10_writeField_48 rfl ⟨by decide, by decide⟩ (fun M6 q_6 => ?_)
    obtain ⟨R_6, F_6⟩ := q_6
    rw [fill_eq (Nat.lt_of_le_of_lt (fW_le lt sz) (by decide)) (by omega)] at R_6
    refine m_iconst (pc' := 52) (v := nI 0) C dX10_writeField_51 (by decide) rfl ?_
    refine m_istore_n (pc' := 53) (lv' := [(3, .int (nI 0)), (0, .ref (ad 43))]) C dX10_writeField_52 rfl (by decide) rfl rfl ?_
    refine m_lv [1, 0] rfl ?_
    have R44_7 := j1.fr F_6 (by decide) (by decide)
    have G_8 := j2.fr F_6 (by decide) (by decide)
    have f43_9 : M6 43 = .inr (10, [.ref (ad 5), .ref (ad 7), .ref (ad 1), .ref (ad 44), .int (nI ab), .int (nI lt), .int (nI sz)]) := (F_6 43 (by decide)).trans f43_2
    refine m_loop (σ := Nat × (Nat → va_E)) (fun a => a.2) (fun a => [(0, .ref (ad 43)), (3, .int (nI a.1))]) (fun a => a.1 ≤ X.length ∧ isRow cy ad n a.2 5 6 2000 lim ((O ++ List.replicate (fW lt sz - X.length) 32) ++ X.take a.1) ∧ isRow cy ad n a.2 44 45 22 22 X ∧ isFig cy ad n a.2 1 2 ds3 lg3 ∧ a.2 43 = wdO ad (nI ab) (nI lt) (nI sz) ∧ Fr [1, 2, 5, 6, 44, 45] M a.2) (fun a => X.length - a.1) (0, M6) (⟨Nat.zero_le _, by simpa using R_6, R44_7, G_8, f43_9, ((j3.sub (by decide)).tr (F_6.sub (by decide)))⟩) ?_
    rintro ⟨k, Mk⟩ hinv ih
    dsimp only at hinv ih ⊢
    obtain ⟨hkP, l1, l3, l4, l5, l2⟩ := hinv
    refine m_iload_n (pc' := 54) C dX10_writeField_53 rfl 1 rfl rfl ?_
    refine m_aload_n (pc' := 55) C dX10_writeField_54 rfl 0 rfl rfl ?_
    refine m_get (pc' := 58) C 43 (by omega) l5 rfl inW_X10 3 (by decide) (gW_of tm_2_0) rfl rfl dX10_writeField_55 rfl ?_
    refine m_callVi (pc' := 61) (As := []) (rest := [.int (nI k)]) C (kX9_size hI l3) (cwV 0 C.1.2.2.2.2 (goodV tm_4_95 tm_2_95 tm_2_96 tm_1_3 tm_2_97) rfl rfl rfl (by decide +kernel) ⟨by decide, by decide⟩) l3.1 l3.ob rfl rfl rfl (Nat.le_of_ble_eq_true rfl) dX10_writeField_58 rfl ⟨by decide, by decide⟩ (fun x_10 N_10 q_10 => ?_)
    obtain ⟨e_10, E_10⟩ := q_10
    replace E_10 := E_10.symm
    subst E_10
    replace e_10 : x_10 = nI X.length := e_10.trans (by rw [Nat.min_eq_left hX8])
    replace e_10 := e_10.symm
    subst e_10
    refine m_icmp_ge (pc' := 64) (tgt := 85) C dX10_writeField_61 (by decide) rfl (fun c_61 => ?_) (fun c_61 => ?_)
    · have n_61 : X.length ≤ k := (nI_leI (by omega) (by omega)).mp c_61
      refine m_vret C hrt0 hlk0 dX10_writeField_85 ?_
      rw [List.take_of_length_le n_61, List.append_assoc] at l1
      refine ⟨?_, ⟨_, l3⟩, ⟨_, _, l4⟩, l2⟩
      unfold fldS
      rw [← hX]
      exact l1
    · have n_61 : k < X.length := Nat.lt_of_not_le (fun q => c_61 ((nI_leI (by omega) (by omega)).mpr q))
      refine m_aload_n (pc' := 65) C dX10_writeField_64 rfl 0 rfl rfl ?_
      refine m_get (pc' := 68) C 43 (by omega) l5 rfl inW_X10 0 (by decide) (gW_of tm_1_237) rfl rfl dX10_writeField_65 rfl ?_
      refine m_aload_n (pc' := 69) C dX10_writeField_68 rfl 0 rfl rfl ?_
      refine m_get (pc' := 72) C 43 (by omega) l5 rfl inW_X10 3 (by decide) (gW_of tm_2_0) rfl rfl dX10_writeField_69 rfl ?_
      refine m_iload_n (pc' := 73) C dX10_writeField_72 rfl 1 rfl rfl ?_
      refine m_callVi (pc' := 76) (As := [.int (nI k)]) (rest := [.ref (ad 5)]) C (kX9_at hI l3 (nI k)) (cwV 1 C.1.2.2.2.2 (goodV tm_4_100 tm_2_128 tm_2_129 tm_1_3 tm_2_130) rfl rfl rfl (by decide +kernel) ⟨by decide, by decide⟩) l3.1 l3.ob rfl rfl rfl (Nat.le_of_ble_eq_true rfl) dX10_writeField_73 rfl ⟨by decide, by decide⟩ (fun x_11 N_11 q_11 => ?_)
      obtain ⟨e_11, E_11⟩ := q_11
      replace E_11 := E_11.symm
      subst E_11
      replace e_11 : x_11 = nI (X.getD k 0) := e_11.trans ((rowAt_full hX8 (by omega) (by omega)).trans (by unfold chAt; rw [if_pos n_61]))
      replace e_11 := e_11.symm
      subst e_11
      refine m_callVv (pc' := 79) (As := [.int (nI (X.getD k 0))]) (rest := []) C (kX9_add hI l1 (nI (X.getD k 0))) (cwV 1 C.1.2.2.2.2 (goodV tm_4_113 tm_2_211 tm_2_212 tm_1_3 tm_2_213) rfl rfl rfl (by decide +kernel) ⟨by decide, by decide⟩) l1.1 l1.ob rfl rfl rfl (Nat.le_of_ble_eq_true rfl) dX10_writeField_76 rfl ⟨by decide, by decide⟩ (fun M12 q_12 => ?_)
      obtain ⟨R_12, F_12⟩ := q_12
      rw [app_take n_61 h255] at R_12
      refine m_iinc (pc' := 82) (v := nI (k + 1)) (lv' := [(3, .int (nI (k + 1))), (0, .ref (ad 43))]) C dX10_writeField_79 (k := 1) rfl (nI_add _ _) (by decide) rfl rfl ?_
      refine m_goto (tgt := 53) C dX10_writeField_82 (by decide) ?_
      have R44_13 := l3.fr F_12 (by decide) (by decide)
      have G_14 := l4.fr F_12 (by decide) (by decide)
      have f43_15 : M12 43 = .inr (10, [.ref (ad 5), .ref (ad 7), .ref (ad 1), .ref (ad 44), .int (nI ab), .int (nI lt), .int (nI sz)]) := (F_12 43 (by decide)).trans l5
      refine m_lv [1, 0] rfl ?_
      exact ih (k + 1, M12) (⟨n_61, R_12, R44_13, G_14, f43_15, (l2.tr (F_12.sub (by decide)))⟩) (by simp only; omega)
  refine m_aload_n (pc' := 8) C dX10_writeField_7 rfl 0 rfl rfl ?_
  have f43_16 : M1 43 = .inr (10, [.ref (ad 5), .ref (ad 7), .ref (ad 1), .ref (ad 44), .int (nI ab), .int (nI lt), .int (nI sz)]) := (F_1 43 (by decide)).trans hw
  refine m_get (pc' := 11) C 43 (by omega) f43_16 rfl inW_X10 5 (by decide) (gW_of tm_2_2) rfl rfl dX10_writeField_8 rfl ?_
  refine m_bipush (pc' := 13) (v := nI 99) C dX10_writeField_11 (by decide) rfl ?_
  refine m_icmp_ne (pc' := 16) (tgt := 25) C dX10_writeField_13 (by decide) rfl (fun c_13 => ?_) (fun c_13 => ?_)
  · have n_13 : ¬ lt = 99 := fun q => c_13 ((nI_eq (by omega) (by omega)).mpr q)
    refine m_aload_n (pc' := 26) C dX10_writeField_25 rfl 0 rfl rfl ?_
    refine m_lload_n (pc' := 27) C dX10_writeField_26 rfl 1 rfl rfl ?_
    have G_18 := hf.fr F_1 (by decide) (by decide)
    refine m_callVv (pc' := 30) (As := [.long (lN v)]) (rest := []) C (kX10_loadNumber hI hn f43_16 hlt6 hsz8 R_1 G_18 (lN v)) (cwV 1 C.1.2.2.2.2 (goodV tm_4_133 tm_4_135 tp_35 tm_1_10 tm_4_136) rfl rfl rfl (by decide +kernel) ⟨by decide, by decide⟩) (by omega) f43_16 rfl rfl rfl (Nat.le_of_ble_eq_true rfl) dX10_writeField_27 rfl ⟨by decide, by decide⟩ (fun M17 q_17 => ?_)
    obtain ⟨R_17, ⟨ds_17, lg_17, G_17⟩, F_17⟩ := q_17
    refine m_lv [0] rfl ?_
    exact J30 M17 (⟨by unfold fldX; rw [if_neg n_13]; exact R_17, ⟨_, _, G_17⟩, ((F_1.sub (by decide)).tr (F_17.sub (by decide)))⟩)
  · have n_13 : lt = 99 := (nI_eq (by omega) (by omega)).mp (Classical.not_not.mp c_13)
    refine m_aload_n (pc' := 17) C dX10_writeField_16 rfl 0 rfl rfl ?_
    refine m_lload_n (pc' := 18) C dX10_writeField_17 rfl 1 rfl rfl ?_
    refine m_l2i (pc' := 19) (v := nI v) C dX10_writeField_18 (lN_i _) rfl ?_
    have G_20 := hf.fr F_1 (by decide) (by decide)
    refine m_callVv (pc' := 22) (As := [.int (nI v)]) (rest := []) C (kX10_loadCharacter hI hn f43_16 R_1 G_20 (v := v) (hv99 n_13)) (cwV 1 C.1.2.2.2.2 (goodV tm_4_123 tm_4_125 tp_34 tm_1_10 tm_4_126) rfl rfl rfl (by decide +kernel) ⟨by decide, by decide⟩) (by omega) f43_16 rfl rfl rfl (Nat.le_of_ble_eq_true rfl) dX10_writeField_19 rfl ⟨by decide, by decide⟩ (fun M19 q_19 => ?_)
    obtain ⟨R_19, ⟨ds_19, lg_19, G_19⟩, F_19⟩ := q_19
    refine m_goto (tgt := 30) C dX10_writeField_22 (by decide) ?_
    refine m_lv [0] rfl ?_
    exact J30 M19 (⟨by unfold fldX; rw [if_pos n_13]; exact R_19, ⟨_, _, G_19⟩, ((F_1.sub (by decide)).tr (F_19.sub (by decide)))⟩)
