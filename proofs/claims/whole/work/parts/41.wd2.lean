set_option maxHeartbeats 4000000 in
set_option maxRecDepth 100000 in
theorem kX10_wordAt {l : Launch} {D : va_G} {cy : Nat → ClassId} {ad : Nat → Nat} {n : Nat} {A : Nat → Prop} (hI : mI ad n A) {M : Nat → va_E} (hn : 52 ≤ n) {ab lt sz : Nat} (hw : M 43 = wdO ad (nI ab) (nI lt) (nI sz)) (hsz8 : sz ≤ 8) {B : List Nat} (hb : isRow cy ad n M 7 8 256 256 B) (hB : B.length ≤ 256) {s : Nat} (hs3 : s < 2 ^ 29) : mMl l yX10_wordAt (gW yX10_wordAt cX10_wordAt 6 (some .long)) { frames := 1, cells := 0, slots := 0, locals := 21 } D cy ad n A [.ref (ad 43), .int (nI s)] M (fun res M' => res = lN (wdv B s sz) ∧ M' = M) := by
  have h256 : ∀ x ∈ B, x < 256 := hb.2.2.2.2.1
  have hstep : ∀ j z, 0 < j → j ≤ sz → z = B.getD (s + (j - 1)) 0 → lN (wdv B (s + j) (sz - j) * 256) ||| lN z = lN (wdv B (s + (j - 1)) (sz - (j - 1))) := by
    intro j z h1 h2 hz
    have hz8 : z < 256 := by rw [hz]; exact gd_lt0 h256 _
    have h3 := wdv_lt h256 (sz - j) (s + j)
    have h4 : 256 ^ (sz - j) ≤ 256 ^ 7 := Nat.pow_le_pow_right (by decide) (by omega)
    have h5 : (256 : Nat) ^ 7 = 2 ^ 56 := by decide
    rw [wb_or (by omega) (by omega), or_sum _ hz8, show sz - (j - 1) = (sz - j) + 1 by omega, wdv, ← hz, show s + (j - 1) + 1 = s + j by omega]
    congr 1
    omega
  refine m_entry (cc := cX10_wordAt) (maxL := 6) (ret := (some .long)) (own := RX10) (lv := [(0, .ref (ad 43)), (1, .int (nI s))]) hI (by decide) rfl rfl (Nat.le_of_ble_eq_true rfl) rfl (fun pX eX sX mX aX bX tX cX C hrt0 hlk0 => ?_)
  refine m_lconst (pc' := 1) (v := 0) C dX10_wordAt_0 (by decide) rfl ?_
  refine m_lstore_n (pc' := 2) (lv' := [(2, .long (0)), (0, .ref (ad 43)), (1, .int (nI s))]) C dX10_wordAt_1 rfl (by decide) rfl rfl ?_
  refine m_aload_n (pc' := 3) C dX10_wordAt_2 rfl 1 rfl rfl ?_
  refine m_get (pc' := 6) C 43 (by omega) hw rfl inW_X10 6 (by decide) (gW_of tm_2_3) rfl rfl dX10_wordAt_3 rfl ?_
  refine m_iconst (pc' := 7) (v := nI 1) C dX10_wordAt_6 (by decide) rfl ?_
  refine m_isub (pc' := 8) (v := (nI sz) - (nI 1)) C dX10_wordAt_7 rfl rfl ?_
  refine m_istore (pc' := 10) (lv' := [(4, .int ((nI sz) - (nI 1))), (2, .long (0)), (0, .ref (ad 43)), (1, .int (nI s))]) C dX10_wordAt_8 (by decide) rfl rfl ?_
  rw [show (0 : Int64) = lN (wdv B (s + sz) (sz - sz)) by rw [Nat.sub_self]; rfl]
  refine m_lv [2, 3, 1, 0] rfl ?_
  refine m_loop (σ := Nat × (Nat → va_E)) (fun a => a.2) (fun a => [(0, .ref (ad 43)), (1, .int (nI s)), (2, .long (lN (wdv B (s + a.1) (sz - a.1)))), (4, .int (nI a.1 - nI 1))]) (fun a => a.1 ≤ sz ∧ M = a.2) (fun a => a.1) (sz, M) (⟨Nat.le_refl _, rfl⟩) ?_
  rintro ⟨j, Mk⟩ hinv ih
  dsimp only at hinv ih ⊢
  obtain ⟨hj8, rfl⟩ := hinv
  refine m_iload (pc' := 12) C dX10_wordAt_10 3 rfl rfl ?_
  refine m_if_lt (pc' := 15) (tgt := 59) C dX10_wordAt_12 (by decide) rfl (fun c_12 => ?_) (fun c_12 => ?_)
  · have hj0 : j = 0 := by
      rcases Nat.lt_or_ge 0 j with z | z
      · exact absurd c_12 (by rw [pk_sub (by omega)]; exact nI_pos (by omega))
      · omega
    refine m_lload_n (pc' := 60) C dX10_wordAt_59 rfl 2 rfl rfl ?_
    refine m_lret C hrt0 hlk0 dX10_wordAt_60 ?_
    rw [hj0]
    exact ⟨rfl, rfl⟩
  · have hj0 : 0 < j := by
      rcases Nat.lt_or_ge 0 j with z | z
      · exact z
      · exact absurd (by rw [show j = 0 by omega]; decide) c_12
    rw [show nI j - nI 1 = nI (j - 1) from pk_sub (by omega)]
    refine m_iload_n (pc' := 16) C dX10_wordAt_15 rfl 1 rfl rfl ?_
    refine m_iload (pc' := 18) C dX10_wordAt_16 3 rfl rfl ?_
    refine m_iadd (pc' := 19) (v := nI (s + (j - 1))) C dX10_wordAt_18 (nI_add _ _) rfl ?_
    refine m_istore (pc' := 21) (lv' := [(5, .int (nI (s + (j - 1)))), (0, .ref (ad 43)), (1, .int (nI s)), (2, .long (lN (wdv B (s + j) (sz - j)))), (4, .int (nI (j - 1)))]) C dX10_wordAt_19 (by decide) rfl rfl ?_
    refine m_lload_n (pc' := 22) C dX10_wordAt_21 rfl 3 rfl rfl ?_
    refine m_bipush (pc' := 24) (v := nI 8) C dX10_wordAt_22 (by decide) rfl ?_
    refine m_lshl (pc' := 25) (v := lN (wdv B (s + j) (sz - j) * 256)) C dX10_wordAt_24 (wb_shl _ (by decide)) rfl ?_
    refine m_cut (σ := Nat) (fun a => a = B.getD (s + (j - 1)) 0) (fun a => M) 50 (fun a => [(0, .ref (ad 43)), (1, .int (nI s)), (4, .int (nI (j - 1)))]) (fun a => [.int (nI a), .long (lN (wdv B (s + j) (sz - j) * 256))]) ?_ (fun J50 => ?_)
    · rintro z hj
      try dsimp only at hj ⊢
      have hz8 : z < 256 := by rw [hj]; exact gd_lt0 h256 _
      refine m_i2l (pc' := 51) (v := lN z) C dX10_wordAt_50 (nI_l (by omega)) rfl ?_
      refine m_lor (pc' := 52) (v := lN (wdv B (s + (j - 1)) (sz - (j - 1)))) C dX10_wordAt_51 (hstep j z hj0 hj8 hj) rfl ?_
      refine m_lstore_n (pc' := 53) (lv' := [(2, .long (lN (wdv B (s + (j - 1)) (sz - (j - 1))))), (0, .ref (ad 43)), (1, .int (nI s)), (4, .int (nI (j - 1)))]) C dX10_wordAt_52 rfl (by decide) rfl rfl ?_
      refine m_iinc (pc' := 56) (v := nI (j - 1) - nI 1) (lv' := [(4, .int (nI (j - 1) - nI 1)), (2, .long (lN (wdv B (s + (j - 1)) (sz - (j - 1))))), (0, .ref (ad 43)), (1, .int (nI s))]) C dX10_wordAt_53 (k := 3) rfl (by rw [Int32.sub_eq_add_neg]; rfl) (by decide) rfl rfl ?_
      refine m_goto (tgt := 10) C dX10_wordAt_56 (by decide) ?_
      refine m_lv [2, 3, 1, 0] rfl ?_
      exact ih (j - 1, M) (⟨by (try dsimp only); omega, rfl⟩) (by simp only; omega)
    refine m_iload (pc' := 27) C dX10_wordAt_25 0 rfl rfl ?_
    refine m_aload_n (pc' := 28) C dX10_wordAt_27 rfl 1 rfl rfl ?_
    refine m_get (pc' := 31) C 43 (by omega) hw rfl inW_X10 1 (by decide) (gW_of tm_1_238) rfl rfl dX10_wordAt_28 rfl ?_
    refine m_callVi (pc' := 34) (As := []) (rest := [.int (nI (s + (j - 1))), .long (lN (wdv B (s + j) (sz - j) * 256))]) C (kX9_size hI hb) (cwV 0 C.1.2.2.2.2 (goodV tm_4_95 tm_2_95 tm_2_96 tm_1_3 tm_2_97) rfl rfl rfl (by decide +kernel) ⟨by decide, by decide⟩) hb.1 hb.ob rfl rfl rfl (Nat.le_of_ble_eq_true rfl) dX10_wordAt_31 rfl ⟨by decide, by decide⟩ (fun x_1 N_1 q_1 => ?_)
    obtain ⟨e_1, E_1⟩ := q_1
    replace E_1 := E_1.symm
    subst E_1
    replace e_1 : x_1 = nI B.length := e_1.trans (by rw [Nat.min_eq_left hB])
    replace e_1 := e_1.symm
    subst e_1
    refine m_icmp_ge (pc' := 37) (tgt := 49) C dX10_wordAt_34 (by decide) rfl (fun c_34 => ?_) (fun c_34 => ?_)
    · have n_34 : B.length ≤ (s + (j - 1)) := (nI_leI (by omega) (by omega)).mp c_34
      refine m_iconst (pc' := 50) (v := nI 0) C dX10_wordAt_49 (by decide) rfl ?_
      refine m_lv [1, 2, 4] rfl ?_
      exact J50 0 ((by rw [List.getD_eq_getElem?_getD, List.getElem?_eq_none n_34]; rfl))
    · have n_34 : (s + (j - 1)) < B.length := Nat.lt_of_not_le (fun q => c_34 ((nI_leI (by omega) (by omega)).mpr q))
      refine m_aload_n (pc' := 38) C dX10_wordAt_37 rfl 1 rfl rfl ?_
      refine m_get (pc' := 41) C 43 (by omega) hw rfl inW_X10 1 (by decide) (gW_of tm_1_238) rfl rfl dX10_wordAt_38 rfl ?_
      refine m_iload (pc' := 43) C dX10_wordAt_41 0 rfl rfl ?_
      refine m_callVi (pc' := 46) (As := [.int (nI (s + (j - 1)))]) (rest := [.long (lN (wdv B (s + j) (sz - j) * 256))]) C (kX9_at hI hb (nI (s + (j - 1)))) (cwV 1 C.1.2.2.2.2 (goodV tm_4_100 tm_2_128 tm_2_129 tm_1_3 tm_2_130) rfl rfl rfl (by decide +kernel) ⟨by decide, by decide⟩) hb.1 hb.ob rfl rfl rfl (Nat.le_of_ble_eq_true rfl) dX10_wordAt_43 rfl ⟨by decide, by decide⟩ (fun x_2 N_2 q_2 => ?_)
      obtain ⟨e_2, E_2⟩ := q_2
      replace E_2 := E_2.symm
      subst E_2
      replace e_2 : x_2 = nI (B.getD (s + (j - 1)) 0) := e_2.trans ((rowAt_full hB (by omega) (by omega)).trans (by unfold chAt; rw [if_pos n_34]))
      replace e_2 := e_2.symm
      subst e_2
      refine m_goto (tgt := 50) C dX10_wordAt_46 (by decide) ?_
      refine m_lv [1, 2, 4] rfl ?_
      exact J50 (B.getD (s + (j - 1)) 0) (rfl)
set_option maxHeartbeats 4000000 in
set_option maxRecDepth 100000 in
theorem kX10_isLikeBefore {l : Launch} {D : va_G} {cy : Nat → ClassId} {ad : Nat → Nat} {n : Nat} {A : Nat → Prop} (hI : mI ad n A) {M : Nat → va_E} (hn : 52 ≤ n) {ab lt sz : Nat} (hw : M 43 = wdO ad (nI ab) (nI lt) (nI sz)) {B : List Nat} (hb : isRow cy ad n M 7 8 256 256 B) (hB : B.length ≤ 256) {s : Nat} (hs3 : s < 2 ^ 29) : mMi l yX10_isLikeBefore (gW yX10_isLikeBefore cX10_isLikeBefore 3 (some .boolean)) { frames := 1, cells := 0, slots := 0, locals := 21 } D cy ad n A [.ref (ad 43), .int (nI s)] M (fun res M' => res = bI (likeB B s) ∧ M' = M) := by
  have h256 : ∀ x ∈ B, x < 256 := hb.2.2.2.2.1
  refine m_entry (cc := cX10_isLikeBefore) (maxL := 3) (ret := (some .boolean)) (own := RX10) (lv := [(0, .ref (ad 43)), (1, .int (nI s))]) hI (by decide) rfl rfl (Nat.le_of_ble_eq_true rfl) rfl (fun pX eX sX mX aX bX tX cX C hrt0 hlk0 => ?_)
  refine m_iload_n (pc' := 1) C dX10_isLikeBefore_0 rfl 1 rfl rfl ?_
  refine m_bipush (pc' := 3) (v := nI 16) C dX10_isLikeBefore_1 (by decide) rfl ?_
  refine m_icmp_lt (pc' := 6) (tgt := 20) C dX10_isLikeBefore_3 (by decide) rfl (fun c_3 => ?_) (fun c_3 => ?_)
  · have n_3 : s < 16 := (nI_ltI (by omega) (by omega)).mp c_3
    refine m_iconst (pc' := 21) (v := bI false) C dX10_isLikeBefore_20 (by decide) rfl ?_
    refine m_iret C hrt0 hlk0 (nar_z _) dX10_isLikeBefore_21 ?_
    exact ⟨by rw [likeB_f (fun q => by have := q.1; omega)], rfl⟩
  · have n_3 : 16 ≤ s := Nat.le_of_not_lt (fun q => c_3 ((nI_ltI (by omega) (by omega)).mpr q))
    refine m_iload_n (pc' := 7) C dX10_isLikeBefore_6 rfl 1 rfl rfl ?_
    refine m_bipush (pc' := 9) (v := nI 16) C dX10_isLikeBefore_7 (by decide) rfl ?_
    refine m_iadd (pc' := 10) (v := nI (s + 16)) C dX10_isLikeBefore_9 (nI_add _ _) rfl ?_
    refine m_aload_n (pc' := 11) C dX10_isLikeBefore_10 rfl 0 rfl rfl ?_
    refine m_get (pc' := 14) C 43 (by omega) hw rfl inW_X10 1 (by decide) (gW_of tm_1_238) rfl rfl dX10_isLikeBefore_11 rfl ?_
    refine m_callVi (pc' := 17) (As := []) (rest := [.int (nI (s + 16))]) C (kX9_size hI hb) (cwV 0 C.1.2.2.2.2 (goodV tm_4_95 tm_2_95 tm_2_96 tm_1_3 tm_2_97) rfl rfl rfl (by decide +kernel) ⟨by decide, by decide⟩) hb.1 hb.ob rfl rfl rfl (Nat.le_of_ble_eq_true rfl) dX10_isLikeBefore_14 rfl ⟨by decide, by decide⟩ (fun x_1 N_1 q_1 => ?_)
    obtain ⟨e_1, E_1⟩ := q_1
    replace E_1 := E_1.symm
    subst E_1
    replace e_1 : x_1 = nI B.length := e_1.trans (by rw [Nat.min_eq_left hB])
    replace e_1 := e_1.symm
    subst e_1
    refine m_icmp_le (pc' := 20) (tgt := 22) C dX10_isLikeBefore_17 (by decide) rfl (fun c_17 => ?_) (fun c_17 => ?_)
    · have n_17 : (s + 16) ≤ B.length := (nI_leI (by omega) (by omega)).mp c_17
      refine m_iload_n (pc' := 23) C dX10_isLikeBefore_22 rfl 1 rfl rfl ?_
      refine m_istore_n (pc' := 24) (lv' := [(2, .int (nI s)), (0, .ref (ad 43)), (1, .int (nI s))]) C dX10_isLikeBefore_23 rfl (by decide) rfl rfl ?_
      refine m_lv [1, 2, 0] rfl ?_
      refine m_loop (σ := Nat × (Nat → va_E)) (fun a => a.2) (fun a => [(0, .ref (ad 43)), (1, .int (nI s)), (2, .int (nI (s + a.1)))]) (fun a => a.1 ≤ 16 ∧ (∀ i, i < a.1 → B.getD (s + i) 0 = B.getD (s - 16 + i) 0) ∧ M = a.2) (fun a => 16 - a.1) (0, M) (⟨Nat.zero_le _, fun i hi => absurd hi (Nat.not_lt_zero _), rfl⟩) ?_
      rintro ⟨k, Mk⟩ hinv ih
      dsimp only at hinv ih ⊢
      obtain ⟨i1, i2, rfl⟩ := hinv
      refine m_iload_n (pc' := 25) C dX10_isLikeBefore_24 rfl 2 rfl rfl ?_
      refine m_iload_n (pc' := 26) C dX10_isLikeBefore_25 rfl 1 rfl rfl ?_
      refine m_bipush (pc' := 28) (v := nI 16) C dX10_isLikeBefore_26 (by decide) rfl ?_
      refine m_iadd (pc' := 29) (v := nI (s + 16)) C dX10_isLikeBefore_28 (nI_add _ _) rfl ?_
      refine m_icmp_ge (pc' := 32) (tgt := 62) C dX10_isLikeBefore_29 (by decide) rfl (fun c_29 => ?_) (fun c_29 => ?_)
      · have n_29 : (s + 16) ≤ (s + k) := (nI_leI (by omega) (by omega)).mp c_29
        refine m_iconst (pc' := 63) (v := bI true) C dX10_isLikeBefore_62 (by decide) rfl ?_
        refine m_iret C hrt0 hlk0 (nar_z _) dX10_isLikeBefore_63 ?_
        exact ⟨by rw [likeB_t.mpr ⟨n_3, n_17, fun i hi => i2 i (by omega)⟩], rfl⟩
      · have n_29 : (s + k) < (s + 16) := Nat.lt_of_not_le (fun q => c_29 ((nI_leI (by omega) (by omega)).mpr q))
        refine m_aload_n (pc' := 33) C dX10_isLikeBefore_32 rfl 0 rfl rfl ?_
        refine m_get (pc' := 36) C 43 (by omega) hw rfl inW_X10 1 (by decide) (gW_of tm_1_238) rfl rfl dX10_isLikeBefore_33 rfl ?_
        refine m_iload_n (pc' := 37) C dX10_isLikeBefore_36 rfl 2 rfl rfl ?_
        refine m_callVi (pc' := 40) (As := [.int (nI (s + k))]) (rest := []) C (kX9_at hI hb (nI (s + k))) (cwV 1 C.1.2.2.2.2 (goodV tm_4_100 tm_2_128 tm_2_129 tm_1_3 tm_2_130) rfl rfl rfl (by decide +kernel) ⟨by decide, by decide⟩) hb.1 hb.ob rfl rfl rfl (Nat.le_of_ble_eq_true rfl) dX10_isLikeBefore_37 rfl ⟨by decide, by decide⟩ (fun x_2 N_2 q_2 => ?_)
        obtain ⟨e_2, E_2⟩ := q_2
        replace E_2 := E_2.symm
        subst E_2
        replace e_2 : x_2 = nI (B.getD (s + k) 0) := e_2.trans ((rowAt_full hB (by omega) (by omega)).trans (by unfold chAt; rw [if_pos (by omega)]))
        replace e_2 := e_2.symm
        subst e_2
        refine m_aload_n (pc' := 41) C dX10_isLikeBefore_40 rfl 0 rfl rfl ?_
        refine m_get (pc' := 44) C 43 (by omega) hw rfl inW_X10 1 (by decide) (gW_of tm_1_238) rfl rfl dX10_isLikeBefore_41 rfl ?_
        refine m_iload_n (pc' := 45) C dX10_isLikeBefore_44 rfl 2 rfl rfl ?_
        refine m_bipush (pc' := 47) (v := nI 16) C dX10_isLikeBefore_45 (by decide) rfl ?_
        refine m_isub (pc' := 48) (v := nI (s - 16 + k)) C dX10_isLikeBefore_47 (by rw [pk_sub (by omega)]; congr 1; omega) rfl ?_
        refine m_callVi (pc' := 51) (As := [.int (nI (s - 16 + k))]) (rest := [.int (nI (B.getD (s + k) 0))]) C (kX9_at hI hb (nI (s - 16 + k))) (cwV 1 C.1.2.2.2.2 (goodV tm_4_100 tm_2_128 tm_2_129 tm_1_3 tm_2_130) rfl rfl rfl (by decide +kernel) ⟨by decide, by decide⟩) hb.1 hb.ob rfl rfl rfl (Nat.le_of_ble_eq_true rfl) dX10_isLikeBefore_48 rfl ⟨by decide, by decide⟩ (fun x_3 N_3 q_3 => ?_)
        obtain ⟨e_3, E_3⟩ := q_3
        replace E_3 := E_3.symm
        subst E_3
        replace e_3 : x_3 = nI (B.getD (s - 16 + k) 0) := e_3.trans ((rowAt_full hB (by omega) (by omega)).trans (by unfold chAt; rw [if_pos (by omega)]))
        replace e_3 := e_3.symm
        subst e_3
        refine m_icmp_eq (pc' := 54) (tgt := 56) C dX10_isLikeBefore_51 (by decide) rfl (fun c_51 => ?_) (fun c_51 => ?_)
        · have h51 : B.getD (s + k) 0 = B.getD (s - 16 + k) 0 := (nI_eq (by have := gd_lt0 h256 (s + k); omega) (by have := gd_lt0 h256 (s - 16 + k); omega)).mp c_51
          refine m_iinc (pc' := 59) (v := nI (s + (k + 1))) (lv' := [(2, .int (nI (s + (k + 1)))), (0, .ref (ad 43)), (1, .int (nI s))]) C dX10_isLikeBefore_56 (k := 2) rfl (nI_add _ _) (by decide) rfl rfl ?_
          refine m_goto (tgt := 24) C dX10_isLikeBefore_59 (by decide) ?_
          refine m_lv [1, 2, 0] rfl ?_
          exact ih (k + 1, M) (⟨by (try dsimp only); omega, fun i hi => by rcases Nat.lt_or_ge i k with q | q; exact i2 i q; rw [show i = k by omega]; exact h51, rfl⟩) (by simp only; omega)
        · have h51 : ¬ B.getD (s + k) 0 = B.getD (s - 16 + k) 0 := fun q => c_51 (by rw [q])
          refine m_iconst (pc' := 55) (v := bI false) C dX10_isLikeBefore_54 (by decide) rfl ?_
          refine m_iret C hrt0 hlk0 (nar_z _) dX10_isLikeBefore_55 ?_
          exact ⟨by rw [likeB_f (fun q => h51 (q.2.2 k (by omega)))], rfl⟩
    · have n_17 : B.length < (s + 16) := Nat.lt_of_not_le (fun q => c_17 ((nI_leI (by omega) (by omega)).mpr q))
      refine m_iconst (pc' := 21) (v := bI false) C dX10_isLikeBefore_20 (by decide) rfl ?_
      refine m_iret C hrt0 hlk0 (nar_z _) dX10_isLikeBefore_21 ?_
      exact ⟨by rw [likeB_f (fun q => by have := q.2.1; omega)], rfl⟩
set_option maxHeartbeats 4000000 in
set_option maxRecDepth 100000 in
theorem kX10_writeAddress {l : Launch} {D : va_G} {cy : Nat → ClassId} {ad : Nat → Nat} {n : Nat} {A : Nat → Prop} (hI : mI ad n A) {M : Nat → va_E} (hn : 52 ≤ n) {ab lt sz : Nat} (hw : M 43 = wdO ad (nI ab) (nI lt) (nI sz)) (hab : ab = 8 ∨ ab = 10 ∨ ab = 16) {ds : List Nat} {lg : Bool} (hf : isFig cy ad n M 1 2 ds lg) {lim : Nat} {O : List Nat} (hg : isRow cy ad n M 5 6 2000 lim O) {q : Nat} (hq : q < 2 ^ 29) : mMv l yX10_writeAddress (gW yX10_writeAddress cX10_writeAddress 2 none) { frames := 2, cells := 0, slots := 0, locals := 53 } D cy ad n A [.ref (ad 43), .int (nI q)] M (fun M' => isRow cy ad n M' 5 6 2000 lim (O ++ adrS ab q) ∧ (∃ (ds2 : List Nat) (lg2 : Bool), isFig cy ad n M' 1 2 ds2 lg2) ∧ Fr [1, 2, 5, 6] M M') := by
  refine m_entry (cc := cX10_writeAddress) (maxL := 2) (ret := none) (own := RX10) (lv := [(0, .ref (ad 43)), (1, .int (nI q))]) hI (by decide) rfl rfl (Nat.le_of_ble_eq_true rfl) rfl (fun pX eX sX mX aX bX tX cX C hrt0 hlk0 => ?_)
  refine m_aload_n (pc' := 1) C dX10_writeAddress_0 rfl 0 rfl rfl ?_
  refine m_get (pc' := 4) C 43 (by omega) hw rfl inW_X10 2 (by decide) (gW_of tm_1_239) rfl rfl dX10_writeAddress_1 rfl ?_
  refine m_iload_n (pc' := 5) C dX10_writeAddress_4 rfl 1 rfl rfl ?_
  refine m_i2l (pc' := 6) (v := lN q) C dX10_writeAddress_5 (nI_l (by omega)) rfl ?_
  refine m_aload_n (pc' := 7) C dX10_writeAddress_6 rfl 0 rfl rfl ?_
  refine m_get (pc' := 10) C 43 (by omega) hw rfl inW_X10 4 (by decide) (gW_of tm_2_1) rfl rfl dX10_writeAddress_7 rfl ?_
  refine m_iconst (pc' := 11) (v := bI false) C dX10_writeAddress_10 (by decide) rfl ?_
  refine m_callVv (pc' := 14) (As := [.long (lN q), .int (nI ab), .int (bI false)]) (rest := []) C (kX4_take hI hf (v := q) (b := ab) false (by omega) hab) (cwV 3 C.1.2.2.2.2 (goodV tm_4_111 tm_3_61 tm_3_62 tm_1_2 tm_3_63) rfl rfl rfl (by decide +kernel) ⟨by decide, by decide⟩) hf.1 hf.ob rfl rfl rfl (Nat.le_of_ble_eq_true rfl) dX10_writeAddress_11 rfl ⟨by decide, by decide⟩ (fun M1 q_1 => ?_)
  obtain ⟨G_1, F_1⟩ := q_1
  refine m_aload_n (pc' := 15) C dX10_writeAddress_14 rfl 0 rfl rfl ?_
  have f43_2 : M1 43 = .inr (10, [.ref (ad 5), .ref (ad 7), .ref (ad 1), .ref (ad 44), .int (nI ab), .int (nI lt), .int (nI sz)]) := (F_1 43 (by decide)).trans hw
  refine m_get (pc' := 18) C 43 (by omega) f43_2 rfl inW_X10 2 (by decide) (gW_of tm_1_239) rfl rfl dX10_writeAddress_15 rfl ?_
  refine m_aload_n (pc' := 19) C dX10_writeAddress_18 rfl 0 rfl rfl ?_
  refine m_get (pc' := 22) C 43 (by omega) f43_2 rfl inW_X10 0 (by decide) (gW_of tm_1_237) rfl rfl dX10_writeAddress_19 rfl ?_
  refine m_cut (σ := Nat) (fun a => a = (if ab = 16 then 6 else 7)) (fun a => M1) 38 (fun a => [(0, .ref (ad 43))]) (fun a => [.int (nI a), .ref (ad 5), .ref (ad 1)]) ?_ (fun J38 => ?_)
  · rintro z hj
    try dsimp only at hj ⊢
    have hz7 : z ≤ 7 := by rw [hj]; split <;> omega
    have R5_4 := hg.fr F_1 (by decide) (by decide)
    refine m_callVv (pc' := 41) (As := [.ref (ad 5), .int (nI z)]) (rest := []) C (kX4_writeTo hI G_1 R5_4 (by decide) (m := z) (by omega)) (cwV 2 C.1.2.2.2.2 (goodV tm_4_112 tm_3_68 tm_3_69 tm_1_2 tm_3_70) rfl rfl rfl (by decide +kernel) ⟨by decide, by decide⟩) G_1.1 G_1.ob rfl rfl rfl (Nat.le_of_ble_eq_true rfl) dX10_writeAddress_38 rfl ⟨by decide, by decide⟩ (fun M3 q_3 => ?_)
    obtain ⟨R_3, F_3⟩ := q_3
    refine m_vret C hrt0 hlk0 dX10_writeAddress_41 ?_
    have G_5 := G_1.fr F_3 (by decide) (by decide)
    refine ⟨?_, ⟨_, _, G_5⟩, ((F_1.sub (by decide)).tr (F_3.sub (by decide)))⟩
    unfold adrS
    rw [← hj]
    exact R_3
  refine m_aload_n (pc' := 23) C dX10_writeAddress_22 rfl 0 rfl rfl ?_
  refine m_get (pc' := 26) C 43 (by omega) f43_2 rfl inW_X10 4 (by decide) (gW_of tm_2_1) rfl rfl dX10_writeAddress_23 rfl ?_
  refine m_bipush (pc' := 28) (v := nI 16) C dX10_writeAddress_26 (by decide) rfl ?_
  refine m_icmp_ne (pc' := 31) (tgt := 36) C dX10_writeAddress_28 (by decide) rfl (fun c_28 => ?_) (fun c_28 => ?_)
  · have n_28 : ¬ ab = 16 := fun q => c_28 ((nI_eq (by omega) (by omega)).mpr q)
    refine m_bipush (pc' := 38) (v := nI 7) C dX10_writeAddress_36 (by decide) rfl ?_
    refine m_lv [0] rfl ?_
    exact J38 7 (by first | rw [if_pos n_28] | rw [if_neg n_28])
  · have n_28 : ab = 16 := (nI_eq (by omega) (by omega)).mp (Classical.not_not.mp c_28)
    refine m_bipush (pc' := 33) (v := nI 6) C dX10_writeAddress_31 (by decide) rfl ?_
    refine m_goto (tgt := 38) C dX10_writeAddress_33 (by decide) ?_
    refine m_lv [0] rfl ?_
    exact J38 6 (by first | rw [if_pos n_28] | rw [if_neg n_28])
set_option maxHeartbeats 4000000 in
set_option maxRecDepth 100000 in
theorem kX10_writeLine {l : Launch} {D : va_G} {cy : Nat → ClassId} {ad : Nat → Nat} {n : Nat} {A : Nat → Prop} (hI : mI ad n A) {M : Nat → va_E} (hn : 52 ≤ n) {ab lt sz : Nat} (hw : M 43 = wdO ad (nI ab) (nI lt) (nI sz)) (hab : ab = 0 ∨ ab = 8 ∨ ab = 10 ∨ ab = 16) (hlt6 : lt < 65536) (hsz1 : 1 ≤ sz) (hsz8 : sz ≤ 8) (h99 : lt = 99 → sz = 1) {F : List Nat} (hf4 : isRow cy ad n M 44 45 22 22 F) {ds : List Nat} {lg : Bool} (hf : isFig cy ad n M 1 2 ds lg) {lim : Nat} {O : List Nat} (hg : isRow cy ad n M 5 6 2000 lim O) {B : List Nat} (hb : isRow cy ad n M 7 8 256 256 B) (hB : B.length ≤ 256) {s : Nat} (hs3 : s < 2 ^ 20) : mMv l yX10_writeLine (gW yX10_writeLine cX10_writeLine 5 none) { frames := 4, cells := 0, slots := 0, locals := 100 } D cy ad n A [.ref (ad 43), .int (nI s)] M (fun M' => isRow cy ad n M' 5 6 2000 lim (O ++ wLine B ab lt sz s) ∧ (∃ F2 : List Nat, isRow cy ad n M' 44 45 22 22 F2) ∧ (∃ (ds2 : List Nat) (lg2 : Bool), isFig cy ad n M' 1 2 ds2 lg2) ∧ M' 43 = wdO ad (nI ab) (nI lt) (nI sz) ∧ isRow cy ad n M' 7 8 256 256 B ∧ Fr [1, 2, 5, 6, 44, 45] M M') := by
  have h256 : ∀ x ∈ B, x < 256 := hb.2.2.2.2.1
  obtain ⟨e, he⟩ : ∃ e, e = min (s + 16) B.length := ⟨_, rfl⟩
  have hv99 : ∀ i, lt = 99 → wdv B i sz < 256 := fun i h => by have h1 := wdv_lt h256 sz i; rw [h99 h] at h1 ⊢; simpa using h1
  refine m_entry (cc := cX10_writeLine) (maxL := 5) (ret := none) (own := RX10) (lv := [(0, .ref (ad 43)), (1, .int (nI s))]) hI (by decide) rfl rfl (Nat.le_of_ble_eq_true rfl) rfl (fun pX eX sX mX aX bX tX cX C hrt0 hlk0 => ?_)
  refine m_iload_n (pc' := 1) C dX10_writeLine_0 rfl 1 rfl rfl ?_
  refine m_bipush (pc' := 3) (v := nI 16) C dX10_writeLine_1 (by decide) rfl ?_
  refine m_iadd (pc' := 4) (v := nI (s + 16)) C dX10_writeLine_3 (nI_add _ _) rfl ?_
  refine m_aload_n (pc' := 5) C dX10_writeLine_4 rfl 0 rfl rfl ?_
  refine m_get (pc' := 8) C 43 (by omega) hw rfl inW_X10 1 (by decide) (gW_of tm_1_238) rfl rfl dX10_writeLine_5 rfl ?_
  refine m_callVi (pc' := 11) (As := []) (rest := [.int (nI (s + 16))]) C (kX9_size hI hb) (cwV 0 C.1.2.2.2.2 (goodV tm_4_95 tm_2_95 tm_2_96 tm_1_3 tm_2_97) rfl rfl rfl (by decide +kernel) ⟨by decide, by decide⟩) hb.1 hb.ob rfl rfl rfl (Nat.le_of_ble_eq_true rfl) dX10_writeLine_8 rfl ⟨by decide, by decide⟩ (fun x_1 N_1 q_1 => ?_)
  obtain ⟨e_1, E_1⟩ := q_1
  replace E_1 := E_1.symm
  subst E_1
  replace e_1 : x_1 = nI B.length := e_1.trans (by rw [Nat.min_eq_left hB])
  replace e_1 := e_1.symm
  subst e_1
  refine m_mmin (pc' := 14) (v := nI e) C (gW_of tm_4_105) (gW_of tm_3_85) (gW_of tm_1_19) (gW_of tm_3_86) (by decide) (Nat.le_of_ble_eq_true rfl) ⟨by decide, by decide⟩ (by rw [min_nI (by omega) (by omega), he]) dX10_writeLine_11 rfl ?_
  refine m_istore_n (pc' := 15) (lv' := [(2, .int (nI e)), (0, .ref (ad 43)), (1, .int (nI s))]) C dX10_writeLine_14 rfl (by decide) rfl rfl ?_
  refine m_iconst (pc' := 16) (v := nI 1) C dX10_writeLine_15 (by decide) rfl ?_
  refine m_aload_n (pc' := 17) C dX10_writeLine_16 rfl 1 rfl rfl ?_
  refine m_get (pc' := 20) C 43 (by omega) hw rfl inW_X10 6 (by decide) (gW_of tm_2_3) rfl rfl dX10_writeLine_17 rfl ?_
  refine m_mmax (pc' := 23) (v := nI sz) C (gW_of tm_4_106) (gW_of tm_3_65) (gW_of tm_1_19) (gW_of tm_3_66) (by decide) (Nat.le_of_ble_eq_true rfl) ⟨by decide, by decide⟩ (by rw [max_nI (by decide) (by omega), Nat.max_eq_right hsz1]) dX10_writeLine_20 rfl ?_
  refine m_istore_n (pc' := 24) (lv' := [(3, .int (nI sz)), (2, .int (nI e)), (0, .ref (ad 43)), (1, .int (nI s))]) C dX10_writeLine_23 rfl (by decide) rfl rfl ?_
  refine m_cut (σ := (Nat → va_E)) (fun a => isRow cy ad n a 5 6 2000 lim (O ++ (if ab = 0 then [] else adrS ab s)) ∧ (∃ F2 : List Nat, isRow cy ad n a 44 45 22 22 F2) ∧ (∃ (ds2 : List Nat) (lg2 : Bool), isFig cy ad n a 1 2 ds2 lg2) ∧ a 43 = wdO ad (nI ab) (nI lt) (nI sz) ∧ isRow cy ad n a 7 8 256 256 B ∧ Fr [1, 2, 5, 6, 44, 45] M a) (fun a => a) 36 (fun a => [(0, .ref (ad 43)), (1, .int (nI s)), (2, .int (nI e)), (3, .int (nI sz))]) (fun a => []) ?_ (fun J36 => ?_)
  · rintro Mj hj
    try dsimp only at hj ⊢
    obtain ⟨j1, ⟨F9, j2⟩, ⟨ds9, lg9, j3⟩, j4, j5, j6⟩ := hj
    obtain ⟨Q, hQ⟩ : ∃ Q, Q = O ++ (if ab = 0 then [] else adrS ab s) := ⟨_, rfl⟩
    rw [← hQ] at j1
    refine m_iload_n (pc' := 37) C dX10_writeLine_36 rfl 1 rfl rfl ?_
    refine m_istore (pc' := 39) (lv' := [(4, .int (nI s)), (0, .ref (ad 43)), (1, .int (nI s)), (2, .int (nI e)), (3, .int (nI sz))]) C dX10_writeLine_37 (by decide) rfl rfl ?_
    refine m_lv [1, 2, 3, 4, 0] rfl ?_
    refine m_loop (σ := Nat × Nat × List Nat × (Nat → va_E)) (fun a => a.2.2.2) (fun a => [(0, .ref (ad 43)), (1, .int (nI s)), (2, .int (nI e)), (3, .int (nI sz)), (4, .int (nI a.2.1))]) (fun a => flds B lt sz e 16 s = a.2.2.1 ++ flds B lt sz e (16 - a.1) a.2.1 ∧ s + a.1 ≤ a.2.1 ∧ a.2.1 ≤ s + 16 + 8 ∧ isRow cy ad n a.2.2.2 5 6 2000 lim (Q ++ a.2.2.1) ∧ (∃ F2 : List Nat, isRow cy ad n a.2.2.2 44 45 22 22 F2) ∧ (∃ (ds2 : List Nat) (lg2 : Bool), isFig cy ad n a.2.2.2 1 2 ds2 lg2) ∧ a.2.2.2 43 = wdO ad (nI ab) (nI lt) (nI sz) ∧ isRow cy ad n a.2.2.2 7 8 256 256 B ∧ Fr [1, 2, 5, 6, 44, 45] M a.2.2.2) (fun a => e - a.2.1) (0, s, [], Mj) (⟨rfl, by (try dsimp only); omega, by (try dsimp only); omega, ⟨by rw [List.append_nil]; exact j1, ⟨_, j2⟩, ⟨_, _, j3⟩, j4, j5, (j6.sub (by decide))⟩⟩) ?_
    rintro ⟨k, i, R, Mk⟩ hinv ih
    dsimp only at hinv ih ⊢
    obtain ⟨i1, i2, i3, l1, ⟨F9, l2⟩, ⟨ds9, lg9, l3⟩, l4, l5, l6⟩ := hinv
    refine m_iload (pc' := 41) C dX10_writeLine_39 4 rfl rfl ?_
    refine m_iload_n (pc' := 42) C dX10_writeLine_41 rfl 2 rfl rfl ?_
    refine m_icmp_ge (pc' := 45) (tgt := 73) C dX10_writeLine_42 (by decide) rfl (fun c_42 => ?_) (fun c_42 => ?_)
    · have n_42 : e ≤ i := (nI_leI (by omega) (by omega)).mp c_42
      have hfin : flds B lt sz e 16 s = R := by
        rw [i1]
        have h0 : flds B lt sz e (16 - k) i = [] := by cases 16 - k with | zero => rfl | succ f => rw [flds, if_neg (by omega)]
        rw [h0, List.append_nil]
      refine m_aload_n (pc' := 74) C dX10_writeLine_73 rfl 0 rfl rfl ?_
      refine m_get (pc' := 77) C 43 (by omega) l4 rfl inW_X10 0 (by decide) (gW_of tm_1_237) rfl rfl dX10_writeLine_74 rfl ?_
      refine m_bipush (pc' := 79) (v := nI 10) C dX10_writeLine_77 (by decide) rfl ?_
      refine m_callVv (pc' := 82) (As := [.int (nI 10)]) (rest := []) C (kX9_add hI l1 (nI 10)) (cwV 1 C.1.2.2.2.2 (goodV tm_4_113 tm_2_211 tm_2_212 tm_1_3 tm_2_213) rfl rfl rfl (by decide +kernel) ⟨by decide, by decide⟩) l1.1 l1.ob rfl rfl rfl (Nat.le_of_ble_eq_true rfl) dX10_writeLine_79 rfl ⟨by decide, by decide⟩ (fun M2 q_2 => ?_)
      obtain ⟨R_2, F_2⟩ := q_2
      rw [show lowb (nI 10) = 10 by decide] at R_2
      refine m_vret C hrt0 hlk0 dX10_writeLine_82 ?_
      have R44_3 := l2.fr F_2 (by decide) (by decide)
      have G_4 := l3.fr F_2 (by decide) (by decide)
      have f43_5 : M2 43 = .inr (10, [.ref (ad 5), .ref (ad 7), .ref (ad 1), .ref (ad 44), .int (nI ab), .int (nI lt), .int (nI sz)]) := (F_2 43 (by decide)).trans l4
      have R7_6 := l5.fr F_2 (by decide) (by decide)
      unfold wLine
      rw [← he, hfin, show O ++ ((if ab = 0 then [] else adrS ab s) ++ R ++ [10]) = Q ++ R ++ [10] by rw [hQ]; simp]
      exact ⟨R_2, ⟨_, R44_3⟩, ⟨_, _, G_4⟩, f43_5, R7_6, (l6.tr (F_2.sub (by decide)))⟩
    · have n_42 : i < e := Nat.lt_of_not_le (fun q => c_42 ((nI_leI (by omega) (by omega)).mpr q))
      refine m_aload_n (pc' := 46) C dX10_writeLine_45 rfl 0 rfl rfl ?_
      refine m_get (pc' := 49) C 43 (by omega) l4 rfl inW_X10 0 (by decide) (gW_of tm_1_237) rfl rfl dX10_writeLine_46 rfl ?_
      refine m_bipush (pc' := 51) (v := nI 32) C dX10_writeLine_49 (by decide) rfl ?_
      refine m_callVv (pc' := 54) (As := [.int (nI 32)]) (rest := []) C (kX9_add hI l1 (nI 32)) (cwV 1 C.1.2.2.2.2 (goodV tm_4_113 tm_2_211 tm_2_212 tm_1_3 tm_2_213) rfl rfl rfl (by decide +kernel) ⟨by decide, by decide⟩) l1.1 l1.ob rfl rfl rfl (Nat.le_of_ble_eq_true rfl) dX10_writeLine_51 rfl ⟨by decide, by decide⟩ (fun M7 q_7 => ?_)
      obtain ⟨R_7, F_7⟩ := q_7
      rw [show lowb (nI 32) = 32 by decide] at R_7
      refine m_aload_n (pc' := 55) C dX10_writeLine_54 rfl 0 rfl rfl ?_
      refine m_aload_n (pc' := 56) C dX10_writeLine_55 rfl 0 rfl rfl ?_
      refine m_iload (pc' := 58) C dX10_writeLine_56 4 rfl rfl ?_
      have f43_9 : M7 43 = .inr (10, [.ref (ad 5), .ref (ad 7), .ref (ad 1), .ref (ad 44), .int (nI ab), .int (nI lt), .int (nI sz)]) := (F_7 43 (by decide)).trans l4
      have R7_10 := l5.fr F_7 (by decide) (by decide)
      refine m_callVl (pc' := 61) (As := [.int (nI i)]) (rest := [.ref (ad 43)]) C (kX10_wordAt hI hn f43_9 hsz8 R7_10 hB (s := i) (by omega)) (cwV 1 C.1.2.2.2.2 (goodV tm_4_114 tm_4_116 tp_32 tm_1_10 tm_4_117) rfl rfl rfl (by decide +kernel) ⟨by decide, by decide⟩) (by omega) f43_9 rfl rfl rfl (Nat.le_of_ble_eq_true rfl) dX10_writeLine_58 rfl ⟨by decide, by decide⟩ (fun x_8 N_8 q_8 => ?_)
      obtain ⟨e_8, E_8⟩ := q_8
      replace E_8 := E_8.symm
      subst E_8
      replace e_8 := e_8.symm
      subst e_8
      have R44_12 := l2.fr F_7 (by decide) (by decide)
      have G_13 := l3.fr F_7 (by decide) (by decide)
      refine m_callVv (pc' := 64) (As := [.long (lN (wdv B i sz))]) (rest := []) C (kX10_writeField hI hn f43_9 hlt6 hsz8 R44_12 G_13 R_7 (v := (wdv B i sz)) (hv99 _)) (cwV 1 C.1.2.2.2.2 (goodV tm_4_118 tm_4_120 tp_33 tm_1_10 tm_4_121) rfl rfl rfl (by decide +kernel) ⟨by decide, by decide⟩) (by omega) f43_9 rfl rfl rfl (Nat.le_of_ble_eq_true rfl) dX10_writeLine_61 rfl ⟨by decide, by decide⟩ (fun M11 q_11 => ?_)
      obtain ⟨R_11, ⟨F_11_, R4_11⟩, ⟨ds_11, lg_11, G_11⟩, F_11⟩ := q_11
      refine m_iload (pc' := 66) C dX10_writeLine_64 4 rfl rfl ?_
      refine m_iload_n (pc' := 67) C dX10_writeLine_66 rfl 3 rfl rfl ?_
      refine m_iadd (pc' := 68) (v := nI (i + sz)) C dX10_writeLine_67 (nI_add _ _) rfl ?_
      refine m_istore (pc' := 70) (lv' := [(4, .int (nI (i + sz))), (0, .ref (ad 43)), (1, .int (nI s)), (2, .int (nI e)), (3, .int (nI sz))]) C dX10_writeLine_68 (by decide) rfl rfl ?_
      refine m_goto (tgt := 39) C dX10_writeLine_70 (by decide) ?_
      have f43_14 : M11 43 = .inr (10, [.ref (ad 5), .ref (ad 7), .ref (ad 1), .ref (ad 44), .int (nI ab), .int (nI lt), .int (nI sz)]) := (F_11 43 (by decide)).trans f43_9
      have R7_15 := R7_10.fr F_11 (by decide) (by decide)
      refine m_lv [1, 2, 3, 4, 0] rfl ?_
      exact ih (k + 1, i + sz, R ++ (32 :: fldS lt sz (wdv B i sz)), M11) (⟨by rw [i1, show 16 - k = (16 - (k + 1)) + 1 by omega, flds, if_pos n_42, List.append_assoc]; rfl, by (try dsimp only); omega, by (try dsimp only); omega, ⟨by rw [show Q ++ (R ++ (32 :: fldS lt sz (wdv B i sz))) = Q ++ R ++ [32] ++ fldS lt sz (wdv B i sz) by simp]; exact R_11, ⟨_, R4_11⟩, ⟨_, _, G_11⟩, f43_14, R7_15, ((l6.tr (F_7.sub (by decide))).tr (F_11.sub (by decide)))⟩⟩) (by simp only; omega)
  refine m_aload_n (pc' := 25) C dX10_writeLine_24 rfl 2 rfl rfl ?_
  refine m_get (pc' := 28) C 43 (by omega) hw rfl inW_X10 4 (by decide) (gW_of tm_2_1) rfl rfl dX10_writeLine_25 rfl ?_
  refine m_if_eq (pc' := 31) (tgt := 36) C dX10_writeLine_28 (by decide) rfl (fun c_28 => ?_) (fun c_28 => ?_)
  · have n_28 : ab = 0 := (nI_eq (by omega) (by omega)).mp (c_28.trans nI_0.symm)
    refine m_lv [2, 3, 1, 0] rfl ?_
    exact J36 M (⟨by rw [if_pos n_28, List.append_nil]; exact hg, ⟨_, hf4⟩, ⟨_, _, hf⟩, hw, hb, Fr.rf⟩)
  · have n_28 : ¬ ab = 0 := fun q => c_28 (((nI_eq (by omega) (by omega)).mpr q).trans nI_0)
    have hab8 : ab = 8 ∨ ab = 10 ∨ ab = 16 := by omega
    refine m_aload_n (pc' := 32) C dX10_writeLine_31 rfl 2 rfl rfl ?_
    refine m_iload_n (pc' := 33) C dX10_writeLine_32 rfl 3 rfl rfl ?_
    refine m_callVv (pc' := 36) (As := [.int (nI s)]) (rest := []) C (kX10_writeAddress hI hn hw hab8 hf hg (q := s) (by omega)) (cwV 1 C.1.2.2.2.2 (goodV tm_4_107 tm_4_109 tp_31 tm_1_10 tm_4_110) rfl rfl rfl (by decide +kernel) ⟨by decide, by decide⟩) (by omega) hw rfl rfl rfl (Nat.le_of_ble_eq_true rfl) dX10_writeLine_33 rfl ⟨by decide, by decide⟩ (fun M16 q_16 => ?_)
    obtain ⟨R_16, ⟨ds_16, lg_16, G_16⟩, F_16⟩ := q_16
    have R44_17 := hf4.fr F_16 (by decide) (by decide)
    have f43_18 : M16 43 = .inr (10, [.ref (ad 5), .ref (ad 7), .ref (ad 1), .ref (ad 44), .int (nI ab), .int (nI lt), .int (nI sz)]) := (F_16 43 (by decide)).trans hw
    have R7_19 := hb.fr F_16 (by decide) (by decide)
    refine m_lv [2, 3, 1, 0] rfl ?_
    exact J36 M16 (⟨by rw [if_neg n_28]; exact R_16, ⟨_, R44_17⟩, ⟨_, _, G_16⟩, f43_18, R7_19, (F_16.sub (by decide))⟩)
set_option maxHeartbeats 4000000 in
set_option maxRecDepth 100000 in
theorem kX10_dump {l : Launch} {D : va_G} {cy : Nat → ClassId} {ad : Nat → Nat} {n : Nat} {A : Nat → Prop} (hI : mI ad n A) {M : Nat → va_E} (hn : 52 ≤ n) {ab0 lt0 sz0 : Int32} (hw : M 43 = wdO ad ab0 lt0 sz0) {ab lt sz : Nat} (al : Bool) (hab : ab = 0 ∨ ab = 8 ∨ ab = 10 ∨ ab = 16) (hlt6 : lt < 65536) (hsz1 : 1 ≤ sz) (hsz8 : sz ≤ 8) (h99 : lt = 99 → sz = 1) {F : List Nat} (hf4 : isRow cy ad n M 44 45 22 22 F) {ds : List Nat} {lg : Bool} (hf : isFig cy ad n M 1 2 ds lg) {lim : Nat} {O : List Nat} (hg : isRow cy ad n M 5 6 2000 lim O) {B : List Nat} (hb : isRow cy ad n M 7 8 256 256 B) (hB : B.length ≤ 256) : mMv l yX10_dump (gW yX10_dump cX10_dump 7 none) { frames := 5, cells := 0, slots := 0, locals := 124 } D cy ad n A [.ref (ad 43), .int (nI ab), .int (nI lt), .int (nI sz), .int (bI al)] M (fun M' => isRow cy ad n M' 5 6 2000 lim (O ++ wDump B ab lt sz al) ∧ (∃ F2 : List Nat, isRow cy ad n M' 44 45 22 22 F2) ∧ (∃ (ds2 : List Nat) (lg2 : Bool), isFig cy ad n M' 1 2 ds2 lg2) ∧ M' 43 = wdO ad (nI ab) (nI lt) (nI sz) ∧ isRow cy ad n M' 7 8 256 256 B ∧ Fr [1, 2, 5, 6, 43, 44, 45] M M') := by
  refine m_entry (cc := cX10_dump) (maxL := 7) (ret := none) (own := RX10) (lv := [(0, .ref (ad 43)), (1, .int (nI ab)), (2, .int (nI lt)), (3, .int (nI sz)), (4, .int (bI al))]) hI (by decide) rfl rfl (Nat.le_of_ble_eq_true rfl) rfl (fun pX eX sX mX aX bX tX cX C hrt0 hlk0 => ?_)
  refine m_aload_n (pc' := 1) C dX10_dump_0 rfl 0 rfl rfl ?_
  refine m_iload_n (pc' := 2) C dX10_dump_1 rfl 1 rfl rfl ?_
  refine m_put (pc' := 5) (ty := .int) (fs' := [.ref (ad 5), .ref (ad 7), .ref (ad 1), .ref (ad 44), .int (nI ab), .int (lt0), .int (sz0)]) C 43 (by omega) hw rfl inW_X10 tyX10 tyX10_ok nmX10 4 (by decide) (gW_of tm_2_1) rfl rfl (by decide +kernel) rfl rfl (by simp) rfl dX10_dump_2 rfl (fun M1 g_1 F_1 => ?_)
  refine m_aload_n (pc' := 6) C dX10_dump_5 rfl 0 rfl rfl ?_
  refine m_iload_n (pc' := 7) C dX10_dump_6 rfl 2 rfl rfl ?_
  refine m_put (pc' := 10) (ty := .char) (fs' := [.ref (ad 5), .ref (ad 7), .ref (ad 1), .ref (ad 44), .int (nI ab), .int (nI lt), .int (sz0)]) C 43 (by omega) g_1 rfl inW_X10 tyX10 tyX10_ok nmX10 5 (by decide) (gW_of tm_2_2) rfl rfl (by decide +kernel) (nar_c hlt6) (fit_c hlt6) (by simp) rfl dX10_dump_7 rfl (fun M2 g_2 F_2 => ?_)
  refine m_aload_n (pc' := 11) C dX10_dump_10 rfl 0 rfl rfl ?_
  refine m_iload_n (pc' := 12) C dX10_dump_11 rfl 3 rfl rfl ?_
  refine m_put (pc' := 15) (ty := .int) (fs' := [.ref (ad 5), .ref (ad 7), .ref (ad 1), .ref (ad 44), .int (nI ab), .int (nI lt), .int (nI sz)]) C 43 (by omega) g_2 rfl inW_X10 tyX10 tyX10_ok nmX10 6 (by decide) (gW_of tm_2_3) rfl rfl (by decide +kernel) rfl rfl (by simp) rfl dX10_dump_12 rfl (fun M3 g_3 F_3 => ?_)
  refine m_iconst (pc' := 16) (v := bI false) C dX10_dump_15 (by decide) rfl ?_
  refine m_istore (pc' := 18) (lv' := [(5, .int (bI false)), (0, .ref (ad 43)), (1, .int (nI ab)), (2, .int (nI lt)), (3, .int (nI sz)), (4, .int (bI al))]) C dX10_dump_16 (by decide) rfl rfl ?_
  refine m_iconst (pc' := 19) (v := nI 0) C dX10_dump_18 (by decide) rfl ?_
  refine m_istore (pc' := 21) (lv' := [(6, .int (nI 0)), (5, .int (bI false)), (0, .ref (ad 43)), (1, .int (nI ab)), (2, .int (nI lt)), (3, .int (nI sz)), (4, .int (bI al))]) C dX10_dump_19 (by decide) rfl rfl ?_
  refine m_lv [2, 6, 1, 0] rfl ?_
  have R5_4 := hg.fr F_1 (by decide) (by decide)
  have R5_5 := R5_4.fr F_2 (by decide) (by decide)
  have R5_6 := R5_5.fr F_3 (by decide) (by decide)
  have R44_7 := hf4.fr F_1 (by decide) (by decide)
  have R44_8 := R44_7.fr F_2 (by decide) (by decide)
  have R44_9 := R44_8.fr F_3 (by decide) (by decide)
  have G_10 := hf.fr F_1 (by decide) (by decide)
  have G_11 := G_10.fr F_2 (by decide) (by decide)
  have G_12 := G_11.fr F_3 (by decide) (by decide)
  have R7_13 := hb.fr F_1 (by decide) (by decide)
  have R7_14 := R7_13.fr F_2 (by decide) (by decide)
  have R7_15 := R7_14.fr F_3 (by decide) (by decide)
  refine m_loop (σ := Nat × Nat × Bool × List Nat × (Nat → va_E)) (fun a => a.2.2.2.2) (fun a => [(0, .ref (ad 43)), (4, .int (bI al)), (5, .int (bI a.2.2.1)), (6, .int (nI a.2.1))]) (fun a => wLines B ab lt sz al 17 0 false = a.2.2.2.1 ++ wLines B ab lt sz al (17 - a.1) a.2.1 a.2.2.1 ∧ (a.2.1 = 16 * a.1 ∧ a.1 ≤ 17) ∧ isRow cy ad n a.2.2.2.2 5 6 2000 lim (O ++ a.2.2.2.1) ∧ (∃ F2 : List Nat, isRow cy ad n a.2.2.2.2 44 45 22 22 F2) ∧ (∃ (ds2 : List Nat) (lg2 : Bool), isFig cy ad n a.2.2.2.2 1 2 ds2 lg2) ∧ a.2.2.2.2 43 = wdO ad (nI ab) (nI lt) (nI sz) ∧ isRow cy ad n a.2.2.2.2 7 8 256 256 B ∧ Fr [1, 2, 5, 6, 43, 44, 45] M a.2.2.2.2) (fun a => 300 - a.2.1) (0, 0, false, [], M3) (⟨rfl, ⟨rfl, Nat.zero_le _⟩, ⟨by rw [List.append_nil]; exact R5_6, ⟨_, R44_9⟩, ⟨_, _, G_12⟩, g_3, R7_15, (((F_1.sub (by decide)).tr (F_2.sub (by decide))).tr (F_3.sub (by decide)))⟩⟩) ?_
  rintro ⟨k, s, lo, R, Mk⟩ hinv ih
  dsimp only at hinv ih ⊢
  obtain ⟨i1, ⟨i2, i7⟩, l1, ⟨F9, l2⟩, ⟨ds9, lg9, l3⟩, l4, l5, l6⟩ := hinv
  refine m_iload (pc' := 23) C dX10_dump_21 3 rfl rfl ?_
  refine m_aload_n (pc' := 24) C dX10_dump_23 rfl 0 rfl rfl ?_
  refine m_get (pc' := 27) C 43 (by omega) l4 rfl inW_X10 1 (by decide) (gW_of tm_1_238) rfl rfl dX10_dump_24 rfl ?_
  refine m_callVi (pc' := 30) (As := []) (rest := [.int (nI s)]) C (kX9_size hI l5) (cwV 0 C.1.2.2.2.2 (goodV tm_4_95 tm_2_95 tm_2_96 tm_1_3 tm_2_97) rfl rfl rfl (by decide +kernel) ⟨by decide, by decide⟩) l5.1 l5.ob rfl rfl rfl (Nat.le_of_ble_eq_true rfl) dX10_dump_27 rfl ⟨by decide, by decide⟩ (fun x_16 N_16 q_16 => ?_)
  obtain ⟨e_16, E_16⟩ := q_16
  replace E_16 := E_16.symm
  subst E_16
  replace e_16 : x_16 = nI B.length := e_16.trans (by rw [Nat.min_eq_left hB])
  replace e_16 := e_16.symm
  subst e_16
  refine m_icmp_ge (pc' := 33) (tgt := 91) C dX10_dump_30 (by decide) rfl (fun c_30 => ?_) (fun c_30 => ?_)
  · have n_30 : B.length ≤ s := (nI_leI (by omega) (by omega)).mp c_30
    have hfin : wLines B ab lt sz al 17 0 false = R := by
      rw [i1]
      have h0 : wLines B ab lt sz al (17 - k) s lo = [] := by cases 17 - k with | zero => rfl | succ f => rw [wLines, if_pos n_30]
      rw [h0, List.append_nil]
    refine m_aload_n (pc' := 92) C dX10_dump_91 rfl 0 rfl rfl ?_
    refine m_get (pc' := 95) C 43 (by omega) l4 rfl inW_X10 4 (by decide) (gW_of tm_2_1) rfl rfl dX10_dump_92 rfl ?_
    refine m_if_eq (pc' := 98) (tgt := 118) C dX10_dump_95 (by decide) rfl (fun c_95 => ?_) (fun c_95 => ?_)
    · have n_95 : ab = 0 := (nI_eq (by omega) (by omega)).mp (c_95.trans nI_0.symm)
      refine m_vret C hrt0 hlk0 dX10_dump_118 ?_
      unfold wDump
      rw [hfin, if_pos n_95, List.append_nil]
      exact ⟨l1, ⟨_, l2⟩, ⟨_, _, l3⟩, l4, l5, l6⟩
    · have n_95 : ¬ ab = 0 := fun q => c_95 (((nI_eq (by omega) (by omega)).mpr q).trans nI_0)
      have hab8 : ab = 8 ∨ ab = 10 ∨ ab = 16 := by omega
      refine m_aload_n (pc' := 99) C dX10_dump_98 rfl 0 rfl rfl ?_
      refine m_aload_n (pc' := 100) C dX10_dump_99 rfl 0 rfl rfl ?_
      refine m_get (pc' := 103) C 43 (by omega) l4 rfl inW_X10 1 (by decide) (gW_of tm_1_238) rfl rfl dX10_dump_100 rfl ?_
      refine m_callVi (pc' := 106) (As := []) (rest := [.ref (ad 43)]) C (kX9_size hI l5) (cwV 0 C.1.2.2.2.2 (goodV tm_4_95 tm_2_95 tm_2_96 tm_1_3 tm_2_97) rfl rfl rfl (by decide +kernel) ⟨by decide, by decide⟩) l5.1 l5.ob rfl rfl rfl (Nat.le_of_ble_eq_true rfl) dX10_dump_103 rfl ⟨by decide, by decide⟩ (fun x_17 N_17 q_17 => ?_)
      obtain ⟨e_17, E_17⟩ := q_17
      replace E_17 := E_17.symm
      subst E_17
      replace e_17 : x_17 = nI B.length := e_17.trans (by rw [Nat.min_eq_left hB])
      replace e_17 := e_17.symm
      subst e_17
      refine m_callVv (pc' := 109) (As := [.int (nI B.length)]) (rest := []) C (kX10_writeAddress hI hn l4 hab8 l3 l1 (q := B.length) (by omega)) (cwV 1 C.1.2.2.2.2 (goodV tm_4_107 tm_4_109 tp_31 tm_1_10 tm_4_110) rfl rfl rfl (by decide +kernel) ⟨by decide, by decide⟩) (by omega) l4 rfl rfl rfl (Nat.le_of_ble_eq_true rfl) dX10_dump_106 rfl ⟨by decide, by decide⟩ (fun M18 q_18 => ?_)
      obtain ⟨R_18, ⟨ds_18, lg_18, G_18⟩, F_18⟩ := q_18
      refine m_aload_n (pc' := 110) C dX10_dump_109 rfl 0 rfl rfl ?_
      have f43_19 : M18 43 = .inr (10, [.ref (ad 5), .ref (ad 7), .ref (ad 1), .ref (ad 44), .int (nI ab), .int (nI lt), .int (nI sz)]) := (F_18 43 (by decide)).trans l4
      refine m_get (pc' := 113) C 43 (by omega) f43_19 rfl inW_X10 0 (by decide) (gW_of tm_1_237) rfl rfl dX10_dump_110 rfl ?_
      refine m_bipush (pc' := 115) (v := nI 10) C dX10_dump_113 (by decide) rfl ?_
      refine m_callVv (pc' := 118) (As := [.int (nI 10)]) (rest := []) C (kX9_add hI R_18 (nI 10)) (cwV 1 C.1.2.2.2.2 (goodV tm_4_113 tm_2_211 tm_2_212 tm_1_3 tm_2_213) rfl rfl rfl (by decide +kernel) ⟨by decide, by decide⟩) R_18.1 R_18.ob rfl rfl rfl (Nat.le_of_ble_eq_true rfl) dX10_dump_115 rfl ⟨by decide, by decide⟩ (fun M20 q_20 => ?_)
      obtain ⟨R_20, F_20⟩ := q_20
      rw [show lowb (nI 10) = 10 by decide] at R_20
      refine m_vret C hrt0 hlk0 dX10_dump_118 ?_
      have R44_21 := l2.fr F_18 (by decide) (by decide)
      have R44_22 := R44_21.fr F_20 (by decide) (by decide)
      have G_23 := G_18.fr F_20 (by decide) (by decide)
      have f43_24 : M20 43 = .inr (10, [.ref (ad 5), .ref (ad 7), .ref (ad 1), .ref (ad 44), .int (nI ab), .int (nI lt), .int (nI sz)]) := (F_20 43 (by decide)).trans f43_19
      have R7_25 := l5.fr F_18 (by decide) (by decide)
      have R7_26 := R7_25.fr F_20 (by decide) (by decide)
      unfold wDump
      rw [hfin, if_neg n_95, show O ++ (R ++ (adrS ab B.length ++ [10])) = O ++ R ++ adrS ab B.length ++ [10] by simp]
      exact ⟨R_20, ⟨_, R44_22⟩, ⟨_, _, G_23⟩, f43_24, R7_26, ((l6.tr (F_18.sub (by decide))).tr (F_20.sub (by decide)))⟩
  · have n_30 : s < B.length := Nat.lt_of_not_le (fun q => c_30 ((nI_leI (by omega) (by omega)).mpr q))
    refine m_iload (pc' := 35) C dX10_dump_33 1 rfl rfl ?_
    refine m_if_ne (pc' := 38) (tgt := 47) C dX10_dump_35 (by decide) rfl (fun c_35 => ?_) (fun c_35 => ?_)
    · have hw1 : (al || !likeB B s) = true := by rw [ts_of c_35]; rfl
      refine m_iconst (pc' := 48) (v := bI false) C dX10_dump_47 (by decide) rfl ?_
      refine m_istore (pc' := 50) (lv' := [(5, .int (bI false)), (0, .ref (ad 43)), (4, .int (bI al)), (6, .int (nI s))]) C dX10_dump_48 (by decide) rfl rfl ?_
      refine m_aload_n (pc' := 51) C dX10_dump_50 rfl 1 rfl rfl ?_
      refine m_iload (pc' := 53) C dX10_dump_51 3 rfl rfl ?_
      refine m_callVv (pc' := 56) (As := [.int (nI s)]) (rest := []) C (kX10_writeLine hI hn l4 hab hlt6 hsz1 hsz8 h99 l2 l3 l1 l5 hB (s := s) (by omega)) (cwV 1 C.1.2.2.2.2 (goodV tm_4_101 tm_4_103 tp_30 tm_1_10 tm_4_104) rfl rfl rfl (by decide +kernel) ⟨by decide, by decide⟩) (by omega) l4 rfl rfl rfl (Nat.le_of_ble_eq_true rfl) dX10_dump_53 rfl ⟨by decide, by decide⟩ (fun M27 q_27 => ?_)
      obtain ⟨R_27, ⟨F_27_, R4_27⟩, ⟨ds_27, lg_27, G_27⟩, W_27, B_27, F_27⟩ := q_27
      refine m_goto (tgt := 85) C dX10_dump_56 (by decide) ?_
      refine m_iinc (pc' := 88) (v := nI (s + 16)) (lv' := [(6, .int (nI (s + 16))), (5, .int (bI false)), (0, .ref (ad 43)), (4, .int (bI al))]) C dX10_dump_85 (k := 3) rfl (nI_add _ _) (by decide) rfl rfl ?_
      refine m_goto (tgt := 21) C dX10_dump_88 (by decide) ?_
      refine m_lv [2, 3, 1, 0] rfl ?_
      exact ih (k + 1, s + 16, false, R ++ wLine B ab lt sz s, M27) (⟨by rw [i1, show 17 - k = (17 - (k + 1)) + 1 by omega, wLines, if_neg (by omega)]; rw [if_pos hw1]; rw [List.append_assoc], ⟨by (try dsimp only); omega, by (try dsimp only); omega⟩, ⟨by rw [← List.append_assoc]; exact R_27, ⟨_, R4_27⟩, ⟨_, _, G_27⟩, W_27, B_27, (l6.tr (F_27.sub (by decide)))⟩⟩) (by simp only; omega)
    · have ha0 : al = false := (bI_0 _).mp (Classical.not_not.mp c_35)
      refine m_aload_n (pc' := 39) C dX10_dump_38 rfl 0 rfl rfl ?_
      refine m_iload (pc' := 41) C dX10_dump_39 3 rfl rfl ?_
      refine m_callVi (pc' := 44) (As := [.int (nI s)]) (rest := []) C (kX10_isLikeBefore hI hn l4 l5 hB (s := s) (by omega)) (cwV 1 C.1.2.2.2.2 (goodV tm_4_96 tm_4_98 tp_29 tm_1_10 tm_4_99) rfl rfl rfl (by decide +kernel) ⟨by decide, by decide⟩) (by omega) l4 rfl rfl rfl (Nat.le_of_ble_eq_true rfl) dX10_dump_41 rfl ⟨by decide, by decide⟩ (fun x_28 N_28 q_28 => ?_)
      obtain ⟨e_28, E_28⟩ := q_28
      replace E_28 := E_28.symm
      subst E_28
      replace e_28 := e_28.symm
      subst e_28
      refine m_if_ne (pc' := 47) (tgt := 59) C dX10_dump_44 (by decide) rfl (fun c_44 => ?_) (fun c_44 => ?_)
      · have hw1 : ¬ (al || !likeB B s) = true := by rw [ha0, ts_of c_44]; decide
        refine m_iload (pc' := 61) C dX10_dump_59 2 rfl rfl ?_
        refine m_if_ne (pc' := 64) (tgt := 85) C dX10_dump_61 (by decide) rfl (fun c_61 => ?_) (fun c_61 => ?_)
        · have hlo : lo = true := ts_of c_61
          rw [show bI lo = bI true by rw [hlo]]
          refine m_iinc (pc' := 88) (v := nI (s + 16)) (lv' := [(6, .int (nI (s + 16))), (0, .ref (ad 43)), (4, .int (bI al)), (5, .int (bI true))]) C dX10_dump_85 (k := 3) rfl (nI_add _ _) (by decide) rfl rfl ?_
          refine m_goto (tgt := 21) C dX10_dump_88 (by decide) ?_
          refine m_lv [1, 2, 3, 0] rfl ?_
          exact ih (k + 1, s + 16, true, R ++ [], Mk) (⟨by rw [i1, show 17 - k = (17 - (k + 1)) + 1 by omega, wLines, if_neg (by omega)]; rw [if_neg hw1, hlo, if_pos rfl]; rw [List.append_assoc], ⟨by (try dsimp only); omega, by (try dsimp only); omega⟩, ⟨by rw [List.append_nil]; exact l1, ⟨_, l2⟩, ⟨_, _, l3⟩, l4, l5, l6⟩⟩) (by simp only; omega)
        · have hlo : lo = false := (bI_0 _).mp (Classical.not_not.mp c_61)
          refine m_iconst (pc' := 65) (v := bI true) C dX10_dump_64 (by decide) rfl ?_
          refine m_istore (pc' := 67) (lv' := [(5, .int (bI true)), (0, .ref (ad 43)), (4, .int (bI al)), (6, .int (nI s))]) C dX10_dump_65 (by decide) rfl rfl ?_
          refine m_aload_n (pc' := 68) C dX10_dump_67 rfl 1 rfl rfl ?_
          refine m_get (pc' := 71) C 43 (by omega) l4 rfl inW_X10 0 (by decide) (gW_of tm_1_237) rfl rfl dX10_dump_68 rfl ?_
          refine m_bipush (pc' := 73) (v := nI 42) C dX10_dump_71 (by decide) rfl ?_
          refine m_callVv (pc' := 76) (As := [.int (nI 42)]) (rest := []) C (kX9_add hI l1 (nI 42)) (cwV 1 C.1.2.2.2.2 (goodV tm_4_113 tm_2_211 tm_2_212 tm_1_3 tm_2_213) rfl rfl rfl (by decide +kernel) ⟨by decide, by decide⟩) l1.1 l1.ob rfl rfl rfl (Nat.le_of_ble_eq_true rfl) dX10_dump_73 rfl ⟨by decide, by decide⟩ (fun M29 q_29 => ?_)
          obtain ⟨R_29, F_29⟩ := q_29
          rw [show lowb (nI 42) = 42 by decide] at R_29
          refine m_aload_n (pc' := 77) C dX10_dump_76 rfl 1 rfl rfl ?_
          have f43_30 : M29 43 = .inr (10, [.ref (ad 5), .ref (ad 7), .ref (ad 1), .ref (ad 44), .int (nI ab), .int (nI lt), .int (nI sz)]) := (F_29 43 (by decide)).trans l4
          refine m_get (pc' := 80) C 43 (by omega) f43_30 rfl inW_X10 0 (by decide) (gW_of tm_1_237) rfl rfl dX10_dump_77 rfl ?_
          refine m_bipush (pc' := 82) (v := nI 10) C dX10_dump_80 (by decide) rfl ?_
          refine m_callVv (pc' := 85) (As := [.int (nI 10)]) (rest := []) C (kX9_add hI R_29 (nI 10)) (cwV 1 C.1.2.2.2.2 (goodV tm_4_113 tm_2_211 tm_2_212 tm_1_3 tm_2_213) rfl rfl rfl (by decide +kernel) ⟨by decide, by decide⟩) R_29.1 R_29.ob rfl rfl rfl (Nat.le_of_ble_eq_true rfl) dX10_dump_82 rfl ⟨by decide, by decide⟩ (fun M31 q_31 => ?_)
          obtain ⟨R_31, F_31⟩ := q_31
          rw [show lowb (nI 10) = 10 by decide] at R_31
          refine m_iinc (pc' := 88) (v := nI (s + 16)) (lv' := [(6, .int (nI (s + 16))), (5, .int (bI true)), (0, .ref (ad 43)), (4, .int (bI al))]) C dX10_dump_85 (k := 3) rfl (nI_add _ _) (by decide) rfl rfl ?_
          refine m_goto (tgt := 21) C dX10_dump_88 (by decide) ?_
          have R44_32 := l2.fr F_29 (by decide) (by decide)
          have R44_33 := R44_32.fr F_31 (by decide) (by decide)
          have G_34 := l3.fr F_29 (by decide) (by decide)
          have G_35 := G_34.fr F_31 (by decide) (by decide)
          have f43_36 : M31 43 = .inr (10, [.ref (ad 5), .ref (ad 7), .ref (ad 1), .ref (ad 44), .int (nI ab), .int (nI lt), .int (nI sz)]) := (F_31 43 (by decide)).trans f43_30
          have R7_37 := l5.fr F_29 (by decide) (by decide)
          have R7_38 := R7_37.fr F_31 (by decide) (by decide)
          refine m_lv [2, 3, 1, 0] rfl ?_
          exact ih (k + 1, s + 16, true, R ++ [42, 10], M31) (⟨by rw [i1, show 17 - k = (17 - (k + 1)) + 1 by omega, wLines, if_neg (by omega)]; rw [if_neg hw1, hlo, if_neg (by decide)]; rw [List.append_assoc], ⟨by (try dsimp only); omega, by (try dsimp only); omega⟩, ⟨by rw [show O ++ (R ++ [42, 10]) = O ++ R ++ [42] ++ [10] by simp]; exact R_31, ⟨_, R44_33⟩, ⟨_, _, G_35⟩, f43_36, R7_38, ((l6.tr (F_29.sub (by decide))).tr (F_31.sub (by decide)))⟩⟩) (by simp only; omega)
      · have hw1 : (al || !likeB B s) = true := by rw [ha0, (bI_0 _).mp (Classical.not_not.mp c_44)]; rfl
        refine m_iconst (pc' := 48) (v := bI false) C dX10_dump_47 (by decide) rfl ?_
        refine m_istore (pc' := 50) (lv' := [(5, .int (bI false)), (0, .ref (ad 43)), (4, .int (bI al)), (6, .int (nI s))]) C dX10_dump_48 (by decide) rfl rfl ?_
        refine m_aload_n (pc' := 51) C dX10_dump_50 rfl 1 rfl rfl ?_
        refine m_iload (pc' := 53) C dX10_dump_51 3 rfl rfl ?_
        refine m_callVv (pc' := 56) (As := [.int (nI s)]) (rest := []) C (kX10_writeLine hI hn l4 hab hlt6 hsz1 hsz8 h99 l2 l3 l1 l5 hB (s := s) (by omega)) (cwV 1 C.1.2.2.2.2 (goodV tm_4_101 tm_4_103 tp_30 tm_1_10 tm_4_104) rfl rfl rfl (by decide +kernel) ⟨by decide, by decide⟩) (by omega) l4 rfl rfl rfl (Nat.le_of_ble_eq_true rfl) dX10_dump_53 rfl ⟨by decide, by decide⟩ (fun M39 q_39 => ?_)
        obtain ⟨R_39, ⟨F_39_, R4_39⟩, ⟨ds_39, lg_39, G_39⟩, W_39, B_39, F_39⟩ := q_39
        refine m_goto (tgt := 85) C dX10_dump_56 (by decide) ?_
        refine m_iinc (pc' := 88) (v := nI (s + 16)) (lv' := [(6, .int (nI (s + 16))), (5, .int (bI false)), (0, .ref (ad 43)), (4, .int (bI al))]) C dX10_dump_85 (k := 3) rfl (nI_add _ _) (by decide) rfl rfl ?_
        refine m_goto (tgt := 21) C dX10_dump_88 (by decide) ?_
        refine m_lv [2, 3, 1, 0] rfl ?_
        exact ih (k + 1, s + 16, false, R ++ wLine B ab lt sz s, M39) (⟨by rw [i1, show 17 - k = (17 - (k + 1)) + 1 by omega, wLines, if_neg (by omega)]; rw [if_pos hw1]; rw [List.append_assoc], ⟨by (try dsimp only); omega, by (try dsimp only); omega⟩, ⟨by rw [← List.append_assoc]; exact R_39, ⟨_, R4_39⟩, ⟨_, _, G_39⟩, W_39, B_39, (l6.tr (F_39.sub (by decide)))⟩⟩) (by simp only; omega)
