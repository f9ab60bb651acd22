set_option maxHeartbeats 4000000 in
set_option maxRecDepth 100000 in
theorem kX12_escapeOf {l : Launch} {D : va_G} {cy : Nat → ClassId} {ad : Nat → Nat} {n : Nat} {A : Nat → Prop} (hI : mI ad n A) {M : Nat → va_E} {c : Nat} (hc : c < 65536) : mMi l yX12_escapeOf (gW yX12_escapeOf cX12_escapeOf 1 (some .int)) { frames := 0, cells := 0, slots := 0, locals := 0 } D cy ad n A [.int (nI c)] M (fun res M' => res = escI c ∧ M' = M) := by
  refine m_entry (cc := cX12_escapeOf) (maxL := 1) (ret := (some .int)) (own := RX12) (lv := [(0, .int (nI c))]) hI (by decide) rfl rfl (Nat.le_of_ble_eq_true rfl) rfl (fun pX eX sX mX aX bX tX cX C hrt0 hlk0 => ?_)
  refine m_iload_n (pc' := 1) C dX12_escapeOf_0 rfl 0 rfl rfl ?_
  refine m_bipush (pc' := 3) (v := nI 92) C dX12_escapeOf_1 (by decide) rfl ?_
  refine m_icmp_ne (pc' := 6) (tgt := 11) C dX12_escapeOf_3 (by decide) rfl (fun c_3 => ?_) (fun c_3 => ?_)
  · have n_3 : ¬ c = 92 := fun q => c_3 ((nI_eq (by omega) (by omega)).mpr q)
    refine m_iload_n (pc' := 12) C dX12_escapeOf_11 rfl 0 rfl rfl ?_
    refine m_bipush (pc' := 14) (v := nI 97) C dX12_escapeOf_12 (by decide) rfl ?_
    refine m_icmp_ne (pc' := 17) (tgt := 22) C dX12_escapeOf_14 (by decide) rfl (fun c_14 => ?_) (fun c_14 => ?_)
    · have n_14 : ¬ c = 97 := fun q => c_14 ((nI_eq (by omega) (by omega)).mpr q)
      refine m_iload_n (pc' := 23) C dX12_escapeOf_22 rfl 0 rfl rfl ?_
      refine m_bipush (pc' := 25) (v := nI 98) C dX12_escapeOf_23 (by decide) rfl ?_
      refine m_icmp_ne (pc' := 28) (tgt := 33) C dX12_escapeOf_25 (by decide) rfl (fun c_25 => ?_) (fun c_25 => ?_)
      · have n_25 : ¬ c = 98 := fun q => c_25 ((nI_eq (by omega) (by omega)).mpr q)
        refine m_iload_n (pc' := 34) C dX12_escapeOf_33 rfl 0 rfl rfl ?_
        refine m_bipush (pc' := 36) (v := nI 102) C dX12_escapeOf_34 (by decide) rfl ?_
        refine m_icmp_ne (pc' := 39) (tgt := 44) C dX12_escapeOf_36 (by decide) rfl (fun c_36 => ?_) (fun c_36 => ?_)
        · have n_36 : ¬ c = 102 := fun q => c_36 ((nI_eq (by omega) (by omega)).mpr q)
          refine m_iload_n (pc' := 45) C dX12_escapeOf_44 rfl 0 rfl rfl ?_
          refine m_bipush (pc' := 47) (v := nI 110) C dX12_escapeOf_45 (by decide) rfl ?_
          refine m_icmp_ne (pc' := 50) (tgt := 55) C dX12_escapeOf_47 (by decide) rfl (fun c_47 => ?_) (fun c_47 => ?_)
          · have n_47 : ¬ c = 110 := fun q => c_47 ((nI_eq (by omega) (by omega)).mpr q)
            refine m_iload_n (pc' := 56) C dX12_escapeOf_55 rfl 0 rfl rfl ?_
            refine m_bipush (pc' := 58) (v := nI 114) C dX12_escapeOf_56 (by decide) rfl ?_
            refine m_icmp_ne (pc' := 61) (tgt := 66) C dX12_escapeOf_58 (by decide) rfl (fun c_58 => ?_) (fun c_58 => ?_)
            · have n_58 : ¬ c = 114 := fun q => c_58 ((nI_eq (by omega) (by omega)).mpr q)
              refine m_iload_n (pc' := 67) C dX12_escapeOf_66 rfl 0 rfl rfl ?_
              refine m_bipush (pc' := 69) (v := nI 116) C dX12_escapeOf_67 (by decide) rfl ?_
              refine m_icmp_ne (pc' := 72) (tgt := 77) C dX12_escapeOf_69 (by decide) rfl (fun c_69 => ?_) (fun c_69 => ?_)
              · have n_69 : ¬ c = 116 := fun q => c_69 ((nI_eq (by omega) (by omega)).mpr q)
                refine m_iload_n (pc' := 78) C dX12_escapeOf_77 rfl 0 rfl rfl ?_
                refine m_bipush (pc' := 80) (v := nI 118) C dX12_escapeOf_78 (by decide) rfl ?_
                refine m_icmp_ne (pc' := 83) (tgt := 88) C dX12_escapeOf_80 (by decide) rfl (fun c_80 => ?_) (fun c_80 => ?_)
                · have n_80 : ¬ c = 118 := fun q => c_80 ((nI_eq (by omega) (by omega)).mpr q)
                  refine m_iconst (pc' := 89) (v := (-1)) C dX12_escapeOf_88 (by decide) rfl ?_
                  refine m_iret C hrt0 hlk0 rfl dX12_escapeOf_89 ?_
                  exact ⟨by unfold escI escC; rw [if_neg n_3, if_neg n_14, if_neg n_25, if_neg n_36, if_neg n_47, if_neg n_58, if_neg n_69, if_neg n_80]; rfl, rfl⟩
                · have n_80 : c = 118 := (nI_eq (by omega) (by omega)).mp (Classical.not_not.mp c_80)
                  refine m_bipush (pc' := 85) (v := nI 11) C dX12_escapeOf_83 (by decide) rfl ?_
                  refine m_goto (tgt := 89) C dX12_escapeOf_85 (by decide) ?_
                  refine m_iret C hrt0 hlk0 rfl dX12_escapeOf_89 ?_
                  exact ⟨by rw [n_80]; decide, rfl⟩
              · have n_69 : c = 116 := (nI_eq (by omega) (by omega)).mp (Classical.not_not.mp c_69)
                refine m_bipush (pc' := 74) (v := nI 9) C dX12_escapeOf_72 (by decide) rfl ?_
                refine m_goto (tgt := 89) C dX12_escapeOf_74 (by decide) ?_
                refine m_iret C hrt0 hlk0 rfl dX12_escapeOf_89 ?_
                exact ⟨by rw [n_69]; decide, rfl⟩
            · have n_58 : c = 114 := (nI_eq (by omega) (by omega)).mp (Classical.not_not.mp c_58)
              refine m_bipush (pc' := 63) (v := nI 13) C dX12_escapeOf_61 (by decide) rfl ?_
              refine m_goto (tgt := 89) C dX12_escapeOf_63 (by decide) ?_
              refine m_iret C hrt0 hlk0 rfl dX12_escapeOf_89 ?_
              exact ⟨by rw [n_58]; decide, rfl⟩
          · have n_47 : c = 110 := (nI_eq (by omega) (by omega)).mp (Classical.not_not.mp c_47)
            refine m_bipush (pc' := 52) (v := nI 10) C dX12_escapeOf_50 (by decide) rfl ?_
            refine m_goto (tgt := 89) C dX12_escapeOf_52 (by decide) ?_
            refine m_iret C hrt0 hlk0 rfl dX12_escapeOf_89 ?_
            exact ⟨by rw [n_47]; decide, rfl⟩
        · have n_36 : c = 102 := (nI_eq (by omega) (by omega)).mp (Classical.not_not.mp c_36)
          refine m_bipush (pc' := 41) (v := nI 12) C dX12_escapeOf_39 (by decide) rfl ?_
          refine m_goto (tgt := 89) C dX12_escapeOf_41 (by decide) ?_
          refine m_iret C hrt0 hlk0 rfl dX12_escapeOf_89 ?_
          exact ⟨by rw [n_36]; decide, rfl⟩
      · have n_25 : c = 98 := (nI_eq (by omega) (by omega)).mp (Classical.not_not.mp c_25)
        refine m_bipush (pc' := 30) (v := nI 8) C dX12_escapeOf_28 (by decide) rfl ?_
        refine m_goto (tgt := 89) C dX12_escapeOf_30 (by decide) ?_
        refine m_iret C hrt0 hlk0 rfl dX12_escapeOf_89 ?_
        exact ⟨by rw [n_25]; decide, rfl⟩
    · have n_14 : c = 97 := (nI_eq (by omega) (by omega)).mp (Classical.not_not.mp c_14)
      refine m_bipush (pc' := 19) (v := nI 7) C dX12_escapeOf_17 (by decide) rfl ?_
      refine m_goto (tgt := 89) C dX12_escapeOf_19 (by decide) ?_
      refine m_iret C hrt0 hlk0 rfl dX12_escapeOf_89 ?_
      exact ⟨by rw [n_14]; decide, rfl⟩
  · have n_3 : c = 92 := (nI_eq (by omega) (by omega)).mp (Classical.not_not.mp c_3)
    refine m_bipush (pc' := 8) (v := nI 92) C dX12_escapeOf_6 (by decide) rfl ?_
    refine m_goto (tgt := 89) C dX12_escapeOf_8 (by decide) ?_
    refine m_iret C hrt0 hlk0 rfl dX12_escapeOf_89 ?_
    exact ⟨by rw [n_3]; decide, rfl⟩
set_option maxHeartbeats 4000000 in
set_option maxRecDepth 100000 in
theorem kX12_readTwo {l : Launch} {D : va_G} {cy : Nat → ClassId} {ad : Nat → Nat} {n : Nat} {A : Nat → Prop} (hI : mI ad n A) {M : Nat → va_E} (hn : 63 ≤ n) (hn2 : n ≤ 100) (hro : rO ad M) {T : List Nat} (hln : isLn cy M T) {i : Nat} (hat : M 119 = gh (.int (nI i))) (hi : i < 2 ^ 20) : mMi l yX12_readTwo (gW yX12_readTwo cX12_readTwo 3 (some .int)) { frames := 1, cells := 0, slots := 0, locals := 21 } D cy ad n A [.ref (ad 52)] M (fun res M' => res = nI (valN 10 (dg2 T i)) ∧ rO ad M' ∧ M' 119 = gh (.int (nI (i + (dg2 T i).length))) ∧ Fr [52, 119] M M') := by
  have t1 := hln.1
  refine m_entry (cc := cX12_readTwo) (maxL := 3) (ret := (some .int)) (own := RX12) (lv := [(0, .ref (ad 52))]) hI (by decide) rfl rfl (Nat.le_of_ble_eq_true rfl) rfl (fun pX eX sX mX aX bX tX cX C hrt0 hlk0 => ?_)
  refine m_iconst (pc' := 1) (v := nI (valN 10 [])) C dX12_readTwo_0 (by decide) rfl ?_
  refine m_istore_n (pc' := 2) (lv' := [(1, .int (nI (valN 10 []))), (0, .ref (ad 52))]) C dX12_readTwo_1 rfl (by decide) rfl rfl ?_
  refine m_iconst (pc' := 3) (v := nI 0) C dX12_readTwo_2 (by decide) rfl ?_
  refine m_istore_n (pc' := 4) (lv' := [(2, .int (nI 0)), (1, .int (nI (valN 10 []))), (0, .ref (ad 52))]) C dX12_readTwo_3 rfl (by decide) rfl rfl ?_
  refine m_lv [2, 1, 0] rfl ?_
  refine m_loop (σ := Nat × List Nat × (Nat → va_E)) (fun a => a.2.2) (fun a => [(0, .ref (ad 52)), (1, .int (nI (valN 10 a.2.1))), (2, .int (nI a.1))]) (fun a => a.2.1.length = a.1 ∧ dg2 T i = a.2.1 ++ dgr 10 T (i + a.1) (2 - a.1) ∧ (∀ x ∈ a.2.1, x < 10) ∧ rO ad a.2.2 ∧ a.2.2 119 = gh (.int (nI (i + a.1))) ∧ Fr [52, 119] M a.2.2) (fun a => 2 - a.1) (0, [], M) (⟨rfl, rfl, (fun x hx => by cases hx), hro, hat, Fr.rf⟩) ?_
  rintro ⟨k, ps, Mk⟩ hinv ih
  dsimp only at hinv ih ⊢
  obtain ⟨i1, i2, i3, i4, i5, i6⟩ := hinv
  have hk3 : k ≤ 2 := by rw [← i1]; have h9 := dg2_len T i; rw [i2, List.length_append] at h9; omega
  have hvb : valN 10 ps < 2 ^ 9 := Nat.lt_of_lt_of_le (valN_lt ps i3) (by rw [i1]; exact Nat.le_trans (Nat.pow_le_pow_right (by decide) hk3) (by decide))
  have hc8 := gd_lt0 t1 (i + k)
  refine m_iload_n (pc' := 5) C dX12_readTwo_4 rfl 2 rfl rfl ?_
  refine m_iconst (pc' := 6) (v := nI 2) C dX12_readTwo_5 (by decide) rfl ?_
  refine m_icmp_ge (pc' := 9) (tgt := 68) C dX12_readTwo_6 (by decide) rfl (fun c_6 => ?_) (fun c_6 => ?_)
  · have n_6 : 2 ≤ k := (nI_leI (by omega) (by omega)).mp c_6
    have hds : dg2 T i = ps := by rw [i2, show 2 - k = 0 by omega, dgr_0, List.append_nil]
    refine m_iload_n (pc' := 69) C dX12_readTwo_68 rfl 1 rfl rfl ?_
    refine m_iret C hrt0 hlk0 rfl dX12_readTwo_69 ?_
    rw [hds, i1]
    exact ⟨rfl, i4, i5, i6⟩
  · have n_6 : k < 2 := Nat.lt_of_not_le (fun q => c_6 ((nI_leI (by omega) (by omega)).mpr q))
    refine m_aload_n (pc' := 10) C dX12_readTwo_9 rfl 0 rfl rfl ?_
    refine m_aload_n (pc' := 11) C dX12_readTwo_10 rfl 0 rfl rfl ?_
    refine r_get C hn i4 inW_X12 19 (by decide) ⟨rfl, rfl, rfl⟩ (gW_of tm_5_69) (r_at 19 rfl i5) dX12_readTwo_11 rfl ?_
    have xln_2 := hln.fr i6 (by decide)
    refine m_callVi (pc' := 17) (As := [.int (nI (i + k))]) (rest := []) C (kX12_charAt hI hn hn2 i4 xln_2 (i := (i + k)) (by omega)) (cwV 1 C.1.2.2.2.2 (goodV tm_5_213 tm_5_215 tp_52 tm_1_13 tm_5_216) rfl rfl rfl (by decide +kernel) ⟨by decide, by decide⟩) (by omega) i4 rfl rfl rfl (Nat.le_of_ble_eq_true rfl) dX12_readTwo_14 rfl ⟨by decide, by decide⟩ (fun x_1 N_1 q_1 => ?_)
    obtain ⟨e_1, E_1⟩ := q_1
    replace E_1 := E_1.symm
    subst E_1
    replace e_1 := e_1.symm
    subst e_1
    refine m_bipush (pc' := 19) (v := nI 48) C dX12_readTwo_17 (by decide) rfl ?_
    refine m_icmp_lt (pc' := 22) (tgt := 68) C dX12_readTwo_19 (by decide) rfl (fun c_19 => ?_) (fun c_19 => ?_)
    · have n_19 : (T.getD (i + k) 0) < 48 := (nI_ltI (by omega) (by omega)).mp c_19
      have hdv : ¬ dvN (T.getD (i + k) 0) < 10 := fun q => by have := dv10.mp q; omega
      have hds : dg2 T i = ps := by rw [i2, dgr_n hdv, List.append_nil]
      refine m_iload_n (pc' := 69) C dX12_readTwo_68 rfl 1 rfl rfl ?_
      refine m_iret C hrt0 hlk0 rfl dX12_readTwo_69 ?_
      rw [hds, i1]
      exact ⟨rfl, i4, i5, i6⟩
    · have n_19 : 48 ≤ (T.getD (i + k) 0) := Nat.le_of_not_lt (fun q => c_19 ((nI_ltI (by omega) (by omega)).mpr q))
      refine m_aload_n (pc' := 23) C dX12_readTwo_22 rfl 0 rfl rfl ?_
      refine m_aload_n (pc' := 24) C dX12_readTwo_23 rfl 0 rfl rfl ?_
      refine r_get C hn i4 inW_X12 19 (by decide) ⟨rfl, rfl, rfl⟩ (gW_of tm_5_69) (r_at 19 rfl i5) dX12_readTwo_24 rfl ?_
      refine m_callVi (pc' := 30) (As := [.int (nI (i + k))]) (rest := []) C (kX12_charAt hI hn hn2 i4 xln_2 (i := (i + k)) (by omega)) (cwV 1 C.1.2.2.2.2 (goodV tm_5_213 tm_5_215 tp_52 tm_1_13 tm_5_216) rfl rfl rfl (by decide +kernel) ⟨by decide, by decide⟩) (by omega) i4 rfl rfl rfl (Nat.le_of_ble_eq_true rfl) dX12_readTwo_27 rfl ⟨by decide, by decide⟩ (fun x_3 N_3 q_3 => ?_)
      obtain ⟨e_3, E_3⟩ := q_3
      replace E_3 := E_3.symm
      subst E_3
      replace e_3 := e_3.symm
      subst e_3
      refine m_bipush (pc' := 32) (v := nI 57) C dX12_readTwo_30 (by decide) rfl ?_
      refine m_icmp_gt (pc' := 35) (tgt := 68) C dX12_readTwo_32 (by decide) rfl (fun c_32 => ?_) (fun c_32 => ?_)
      · have n_32 : 57 < (T.getD (i + k) 0) := (nI_ltI (by omega) (by omega)).mp c_32
        have hdv : ¬ dvN (T.getD (i + k) 0) < 10 := fun q => by have := dv10.mp q; omega
        have hds : dg2 T i = ps := by rw [i2, dgr_n hdv, List.append_nil]
        refine m_iload_n (pc' := 69) C dX12_readTwo_68 rfl 1 rfl rfl ?_
        refine m_iret C hrt0 hlk0 rfl dX12_readTwo_69 ?_
        rw [hds, i1]
        exact ⟨rfl, i4, i5, i6⟩
      · have n_32 : (T.getD (i + k) 0) ≤ 57 := Nat.le_of_not_lt (fun q => c_32 ((nI_ltI (by omega) (by omega)).mpr q))
        have hdv : dvN (T.getD (i + k) 0) < 10 := dv10.mpr ⟨n_19, n_32⟩
        refine m_bipush (pc' := 37) (v := nI 10) C dX12_readTwo_35 (by decide) rfl ?_
        refine m_iload_n (pc' := 38) C dX12_readTwo_37 rfl 1 rfl rfl ?_
        refine m_imul (pc' := 39) (v := nI (10 * (valN 10 ps))) C dX12_readTwo_38 (pk_mul _ _) rfl ?_
        refine m_aload_n (pc' := 40) C dX12_readTwo_39 rfl 0 rfl rfl ?_
        refine m_aload_n (pc' := 41) C dX12_readTwo_40 rfl 0 rfl rfl ?_
        refine r_get C hn i4 inW_X12 19 (by decide) ⟨rfl, rfl, rfl⟩ (gW_of tm_5_69) (r_at 19 rfl i5) dX12_readTwo_41 rfl ?_
        refine m_callVi (pc' := 47) (As := [.int (nI (i + k))]) (rest := [.int (nI (10 * (valN 10 ps)))]) C (kX12_charAt hI hn hn2 i4 xln_2 (i := (i + k)) (by omega)) (cwV 1 C.1.2.2.2.2 (goodV tm_5_213 tm_5_215 tp_52 tm_1_13 tm_5_216) rfl rfl rfl (by decide +kernel) ⟨by decide, by decide⟩) (by omega) i4 rfl rfl rfl (Nat.le_of_ble_eq_true rfl) dX12_readTwo_44 rfl ⟨by decide, by decide⟩ (fun x_4 N_4 q_4 => ?_)
        obtain ⟨e_4, E_4⟩ := q_4
        replace E_4 := E_4.symm
        subst E_4
        replace e_4 := e_4.symm
        subst e_4
        refine m_iadd (pc' := 48) (v := nI ((10 * (valN 10 ps)) + (T.getD (i + k) 0))) C dX12_readTwo_47 (nI_add _ _) rfl ?_
        refine m_bipush (pc' := 50) (v := nI 48) C dX12_readTwo_48 (by decide) rfl ?_
        refine m_isub (pc' := 51) (v := nI (valN 10 (ps ++ [dvN (T.getD (i + k) 0)]))) C dX12_readTwo_50 (by rw [pk_sub (by omega), valN_s, dv10v ⟨n_19, n_32⟩]; congr 1; omega) rfl ?_
        refine m_istore_n (pc' := 52) (lv' := [(1, .int (nI (valN 10 (ps ++ [dvN (T.getD (i + k) 0)])))), (0, .ref (ad 52)), (2, .int (nI k))]) C dX12_readTwo_51 rfl (by decide) rfl rfl ?_
        refine m_aload_n (pc' := 53) C dX12_readTwo_52 rfl 1 rfl rfl ?_
        refine m_dup (pc' := 54) C dX12_readTwo_53 rfl rfl ?_
        refine r_get C hn i4 inW_X12 19 (by decide) ⟨rfl, rfl, rfl⟩ (gW_of tm_5_69) (r_at 19 rfl i5) dX12_readTwo_54 rfl ?_
        refine m_iconst (pc' := 58) (v := nI 1) C dX12_readTwo_57 (by decide) rfl ?_
        refine m_iadd (pc' := 59) (v := nI (i + (k + 1))) C dX12_readTwo_58 (by rw [← Nat.add_assoc]; exact nI_add _ _) rfl ?_
        refine r_put (ty := .int) C hn hn2 i4 inW_X12 19 119 (by decide) rfl ⟨rfl, rfl, rfl, rfl⟩ (gW_of tm_5_69) (by decide +kernel) rfl rfl (fun _ => rfl) dX12_readTwo_59 rfl (fun M5 go_5 g_5 F_5 => ?_)
        refine m_iinc (pc' := 65) (v := nI (k + 1)) (lv' := [(2, .int (nI (k + 1))), (1, .int (nI (valN 10 (ps ++ [dvN (T.getD (i + k) 0)])))), (0, .ref (ad 52))]) C dX12_readTwo_62 (k := 2) rfl (nI_add _ _) (by decide) rfl rfl ?_
        refine m_goto (tgt := 4) C dX12_readTwo_65 (by decide) ?_
        refine m_lv [2, 1, 0] rfl ?_
        exact ih (k + 1, ps ++ [dvN (T.getD (i + k) 0)], M5) (⟨by simp [i1], by rw [i2, show 2 - k = (2 - (k + 1)) + 1 by omega, dgr_s (by decide) hdv, List.append_assoc]; rfl, (by intro x hx; rcases List.mem_append.mp hx with q | q; exact i3 x q; rw [List.mem_singleton.mp q]; exact hdv), go_5, g_5, (i6.tr (F_5.sub (by decide)))⟩) (by simp only; omega)
set_option maxHeartbeats 4000000 in
set_option maxRecDepth 100000 in
theorem kX12_readEscape {l : Launch} {D : va_G} {cy : Nat → ClassId} {ad : Nat → Nat} {n : Nat} {A : Nat → Prop} (hI : mI ad n A) {M : Nat → va_E} (hn : 63 ≤ n) (hn2 : n ≤ 100) (hro : rO ad M) {T : List Nat} (hln : isLn cy M T) {i : Nat} (hat : M 119 = gh (.int (nI i))) (hi : i < 2 ^ 20) : mMi l yX12_readEscape (gW yX12_readEscape cX12_readEscape 4 (some .int)) { frames := 1, cells := 0, slots := 0, locals := 21 } D cy ad n A [.ref (ad 52)] M (fun res M' => res = rEv T i ∧ rO ad M' ∧ M' 119 = gh (.int (nI (rEe T i))) ∧ Fr [52, 119] M M') := by
  have t1 := hln.1
  refine m_entry (cc := cX12_readEscape) (maxL := 4) (ret := (some .int)) (own := RX12) (lv := [(0, .ref (ad 52))]) hI (by decide) rfl rfl (Nat.le_of_ble_eq_true rfl) rfl (fun pX eX sX mX aX bX tX cX C hrt0 hlk0 => ?_)
  refine m_aload_n (pc' := 1) C dX12_readEscape_0 rfl 0 rfl rfl ?_
  refine m_aload_n (pc' := 2) C dX12_readEscape_1 rfl 0 rfl rfl ?_
  refine r_get C hn hro inW_X12 19 (by decide) ⟨rfl, rfl, rfl⟩ (gW_of tm_5_69) (r_at 19 rfl hat) dX12_readEscape_2 rfl ?_
  refine m_callVi (pc' := 8) (As := [.int (nI i)]) (rest := []) C (kX12_charAt hI hn hn2 hro hln (i := i) (by omega)) (cwV 1 C.1.2.2.2.2 (goodV tm_5_213 tm_5_215 tp_52 tm_1_13 tm_5_216) rfl rfl rfl (by decide +kernel) ⟨by decide, by decide⟩) (by omega) hro rfl rfl rfl (Nat.le_of_ble_eq_true rfl) dX12_readEscape_5 rfl ⟨by decide, by decide⟩ (fun x_1 N_1 q_1 => ?_)
  obtain ⟨e_1, E_1⟩ := q_1
  replace E_1 := E_1.symm
  subst E_1
  replace e_1 := e_1.symm
  subst e_1
  refine m_istore_n (pc' := 9) (lv' := [(1, .int (nI (T.getD i 0))), (0, .ref (ad 52))]) C dX12_readEscape_8 rfl (by decide) rfl rfl ?_
  refine m_iload_n (pc' := 10) C dX12_readEscape_9 rfl 0 rfl rfl ?_
  refine m_callSi (pc' := 13) (As := [.int (nI (T.getD i 0))]) (rest := []) C (kX12_isOctal hI (c := T.getD i 0) (by have := gd_lt0 t1 i; omega)) (cwS 1 C.1.2.2.2.2 (goodS tm_5_217 tm_5_218 tm_1_13 tm_5_219) rfl rfl rfl (by decide +kernel) ⟨by decide, by decide⟩) rfl rfl (Nat.le_of_ble_eq_true rfl) dX12_readEscape_10 rfl ⟨by decide, by decide⟩ (fun x_2 N_2 q_2 => ?_)
  obtain ⟨e_2, E_2⟩ := q_2
  replace E_2 := E_2.symm
  subst E_2
  replace e_2 := e_2.symm
  subst e_2
  refine m_if_eq (pc' := 16) (tgt := 78) C dX12_readEscape_13 (by decide) rfl (fun c_13 => ?_) (fun c_13 => ?_)
  · have ho : ¬ octB (T.getD i 0) = true := by rw [(bI_0 _).mp c_13]; decide
    refine m_aload_n (pc' := 79) C dX12_readEscape_78 rfl 1 rfl rfl ?_
    refine m_dup (pc' := 80) C dX12_readEscape_79 rfl rfl ?_
    refine r_get C hn hro inW_X12 19 (by decide) ⟨rfl, rfl, rfl⟩ (gW_of tm_5_69) (r_at 19 rfl hat) dX12_readEscape_80 rfl ?_
    refine m_iconst (pc' := 84) (v := nI 1) C dX12_readEscape_83 (by decide) rfl ?_
    refine m_iadd (pc' := 85) (v := nI (i + 1)) C dX12_readEscape_84 (nI_add _ _) rfl ?_
    refine r_put (ty := .int) C hn hn2 hro inW_X12 19 119 (by decide) rfl ⟨rfl, rfl, rfl, rfl⟩ (gW_of tm_5_69) (by decide +kernel) rfl rfl (fun _ => rfl) dX12_readEscape_85 rfl (fun M3 go_3 g_3 F_3 => ?_)
    refine m_iload_n (pc' := 89) C dX12_readEscape_88 rfl 0 rfl rfl ?_
    refine m_callSi (pc' := 92) (As := [.int (nI (T.getD i 0))]) (rest := []) C (kX12_escapeOf hI (c := T.getD i 0) (by have := gd_lt0 t1 i; omega)) (cwS 1 C.1.2.2.2.2 (goodS tm_5_220 tm_5_221 tm_1_13 tm_5_222) rfl rfl rfl (by decide +kernel) ⟨by decide, by decide⟩) rfl rfl (Nat.le_of_ble_eq_true rfl) dX12_readEscape_89 rfl ⟨by decide, by decide⟩ (fun x_4 N_4 q_4 => ?_)
    obtain ⟨e_4, E_4⟩ := q_4
    replace E_4 := E_4.symm
    subst E_4
    replace e_4 := e_4.symm
    subst e_4
    refine m_iret C hrt0 hlk0 rfl dX12_readEscape_92 ?_
    unfold rEv rEe
    rw [if_neg ho, if_neg ho]
    exact ⟨rfl, go_3, g_3, (F_3.sub (by decide))⟩
  · have ho : octB (T.getD i 0) = true := ts_of c_13
    refine m_iconst (pc' := 17) (v := nI (valN 8 [])) C dX12_readEscape_16 (by decide) rfl ?_
    refine m_istore_n (pc' := 18) (lv' := [(2, .int (nI (valN 8 []))), (1, .int (nI (T.getD i 0))), (0, .ref (ad 52))]) C dX12_readEscape_17 rfl (by decide) rfl rfl ?_
    refine m_iconst (pc' := 19) (v := nI 0) C dX12_readEscape_18 (by decide) rfl ?_
    refine m_istore_n (pc' := 20) (lv' := [(3, .int (nI 0)), (2, .int (nI (valN 8 []))), (1, .int (nI (T.getD i 0))), (0, .ref (ad 52))]) C dX12_readEscape_19 rfl (by decide) rfl rfl ?_
    refine m_lv [3, 1, 0] rfl ?_
    refine m_loop (σ := Nat × List Nat × (Nat → va_E)) (fun a => a.2.2) (fun a => [(0, .ref (ad 52)), (2, .int (nI (valN 8 a.2.1))), (3, .int (nI a.1))]) (fun a => a.2.1.length = a.1 ∧ oct3 T i = a.2.1 ++ dgr 8 T (i + a.1) (3 - a.1) ∧ (∀ x ∈ a.2.1, x < 8) ∧ rO ad a.2.2 ∧ a.2.2 119 = gh (.int (nI (i + a.1))) ∧ Fr [52, 119] M a.2.2) (fun a => 3 - a.1) (0, [], M) (⟨rfl, rfl, (fun x hx => by cases hx), hro, hat, Fr.rf⟩) ?_
    rintro ⟨k, ps, Mk⟩ hinv ih
    dsimp only at hinv ih ⊢
    obtain ⟨i1, i2, i3, i4, i5, i6⟩ := hinv
    have hk3 : k ≤ 3 := by rw [← i1]; have h9 := oct3_len T i; rw [i2, List.length_append] at h9; omega
    have hvb : valN 8 ps < 2 ^ 9 := Nat.lt_of_lt_of_le (valN_lt ps i3) (by rw [i1]; exact Nat.pow_le_pow_right (by decide) hk3)
    have hc8k := gd_lt0 t1 (i + k)
    refine m_iload_n (pc' := 21) C dX12_readEscape_20 rfl 2 rfl rfl ?_
    refine m_iconst (pc' := 22) (v := nI 3) C dX12_readEscape_21 (by decide) rfl ?_
    refine m_icmp_ge (pc' := 25) (tgt := 72) C dX12_readEscape_22 (by decide) rfl (fun c_22 => ?_) (fun c_22 => ?_)
    · have n_22 : 3 ≤ k := (nI_leI (by omega) (by omega)).mp c_22
      have hds : oct3 T i = ps := by rw [i2, show 3 - k = 0 by omega, dgr_0, List.append_nil]
      refine m_iload_n (pc' := 73) C dX12_readEscape_72 rfl 1 rfl rfl ?_
      refine m_sipush (pc' := 76) (v := nI 255) C dX12_readEscape_73 (by decide) rfl ?_
      refine m_iand (pc' := 77) (v := nI (valN 8 ps % 256)) C dX12_readEscape_76 (by rw [and255, lowb_mod (by omega)]) rfl ?_
      refine m_iret C hrt0 hlk0 rfl dX12_readEscape_77 ?_
      unfold rEv rEe
      rw [if_pos ho, if_pos ho, hds, i1]
      exact ⟨rfl, i4, i5, i6⟩
    · have n_22 : k < 3 := Nat.lt_of_not_le (fun q => c_22 ((nI_leI (by omega) (by omega)).mpr q))
      refine m_aload_n (pc' := 26) C dX12_readEscape_25 rfl 0 rfl rfl ?_
      refine m_aload_n (pc' := 27) C dX12_readEscape_26 rfl 0 rfl rfl ?_
      refine r_get C hn i4 inW_X12 19 (by decide) ⟨rfl, rfl, rfl⟩ (gW_of tm_5_69) (r_at 19 rfl i5) dX12_readEscape_27 rfl ?_
      have xln_6 := hln.fr i6 (by decide)
      refine m_callVi (pc' := 33) (As := [.int (nI (i + k))]) (rest := []) C (kX12_charAt hI hn hn2 i4 xln_6 (i := (i + k)) (by omega)) (cwV 1 C.1.2.2.2.2 (goodV tm_5_213 tm_5_215 tp_52 tm_1_13 tm_5_216) rfl rfl rfl (by decide +kernel) ⟨by decide, by decide⟩) (by omega) i4 rfl rfl rfl (Nat.le_of_ble_eq_true rfl) dX12_readEscape_30 rfl ⟨by decide, by decide⟩ (fun x_5 N_5 q_5 => ?_)
      obtain ⟨e_5, E_5⟩ := q_5
      replace E_5 := E_5.symm
      subst E_5
      replace e_5 := e_5.symm
      subst e_5
      refine m_callSi (pc' := 36) (As := [.int (nI (T.getD (i + k) 0))]) (rest := []) C (kX12_isOctal hI (c := T.getD (i + k) 0) (by omega)) (cwS 1 C.1.2.2.2.2 (goodS tm_5_217 tm_5_218 tm_1_13 tm_5_219) rfl rfl rfl (by decide +kernel) ⟨by decide, by decide⟩) rfl rfl (Nat.le_of_ble_eq_true rfl) dX12_readEscape_33 rfl ⟨by decide, by decide⟩ (fun x_7 N_7 q_7 => ?_)
      obtain ⟨e_7, E_7⟩ := q_7
      replace E_7 := E_7.symm
      subst E_7
      replace e_7 := e_7.symm
      subst e_7
      refine m_if_eq (pc' := 39) (tgt := 72) C dX12_readEscape_36 (by decide) rfl (fun c_36 => ?_) (fun c_36 => ?_)
      · have hdv : ¬ dvN (T.getD (i + k) 0) < 8 := fun q => by rw [(octB_dv _).mpr q] at c_36; exact absurd c_36 (by decide)
        have hds : oct3 T i = ps := by rw [i2, dgr_n hdv, List.append_nil]
        refine m_iload_n (pc' := 73) C dX12_readEscape_72 rfl 1 rfl rfl ?_
        refine m_sipush (pc' := 76) (v := nI 255) C dX12_readEscape_73 (by decide) rfl ?_
        refine m_iand (pc' := 77) (v := nI (valN 8 ps % 256)) C dX12_readEscape_76 (by rw [and255, lowb_mod (by omega)]) rfl ?_
        refine m_iret C hrt0 hlk0 rfl dX12_readEscape_77 ?_
        unfold rEv rEe
        rw [if_pos ho, if_pos ho, hds, i1]
        exact ⟨rfl, i4, i5, i6⟩
      · have hob := ts_of c_36
        have hdv := (octB_dv _).mp hob
        have hobv := octB_v hob
        refine m_bipush (pc' := 41) (v := nI 8) C dX12_readEscape_39 (by decide) rfl ?_
        refine m_iload_n (pc' := 42) C dX12_readEscape_41 rfl 1 rfl rfl ?_
        refine m_imul (pc' := 43) (v := nI (8 * (valN 8 ps))) C dX12_readEscape_42 (pk_mul _ _) rfl ?_
        refine m_aload_n (pc' := 44) C dX12_readEscape_43 rfl 0 rfl rfl ?_
        refine m_aload_n (pc' := 45) C dX12_readEscape_44 rfl 0 rfl rfl ?_
        refine r_get C hn i4 inW_X12 19 (by decide) ⟨rfl, rfl, rfl⟩ (gW_of tm_5_69) (r_at 19 rfl i5) dX12_readEscape_45 rfl ?_
        refine m_callVi (pc' := 51) (As := [.int (nI (i + k))]) (rest := [.int (nI (8 * (valN 8 ps)))]) C (kX12_charAt hI hn hn2 i4 xln_6 (i := (i + k)) (by omega)) (cwV 1 C.1.2.2.2.2 (goodV tm_5_213 tm_5_215 tp_52 tm_1_13 tm_5_216) rfl rfl rfl (by decide +kernel) ⟨by decide, by decide⟩) (by omega) i4 rfl rfl rfl (Nat.le_of_ble_eq_true rfl) dX12_readEscape_48 rfl ⟨by decide, by decide⟩ (fun x_8 N_8 q_8 => ?_)
        obtain ⟨e_8, E_8⟩ := q_8
        replace E_8 := E_8.symm
        subst E_8
        replace e_8 := e_8.symm
        subst e_8
        refine m_iadd (pc' := 52) (v := nI ((8 * (valN 8 ps)) + (T.getD (i + k) 0))) C dX12_readEscape_51 (nI_add _ _) rfl ?_
        refine m_bipush (pc' := 54) (v := nI 48) C dX12_readEscape_52 (by decide) rfl ?_
        refine m_isub (pc' := 55) (v := nI (valN 8 (ps ++ [dvN (T.getD (i + k) 0)]))) C dX12_readEscape_54 (by rw [pk_sub (by omega), valN_s, hobv.1]; congr 1; omega) rfl ?_
        refine m_istore_n (pc' := 56) (lv' := [(2, .int (nI (valN 8 (ps ++ [dvN (T.getD (i + k) 0)])))), (0, .ref (ad 52)), (3, .int (nI k))]) C dX12_readEscape_55 rfl (by decide) rfl rfl ?_
        refine m_aload_n (pc' := 57) C dX12_readEscape_56 rfl 1 rfl rfl ?_
        refine m_dup (pc' := 58) C dX12_readEscape_57 rfl rfl ?_
        refine r_get C hn i4 inW_X12 19 (by decide) ⟨rfl, rfl, rfl⟩ (gW_of tm_5_69) (r_at 19 rfl i5) dX12_readEscape_58 rfl ?_
        refine m_iconst (pc' := 62) (v := nI 1) C dX12_readEscape_61 (by decide) rfl ?_
        refine m_iadd (pc' := 63) (v := nI (i + (k + 1))) C dX12_readEscape_62 (by rw [← Nat.add_assoc]; exact nI_add _ _) rfl ?_
        refine r_put (ty := .int) C hn hn2 i4 inW_X12 19 119 (by decide) rfl ⟨rfl, rfl, rfl, rfl⟩ (gW_of tm_5_69) (by decide +kernel) rfl rfl (fun _ => rfl) dX12_readEscape_63 rfl (fun M9 go_9 g_9 F_9 => ?_)
        refine m_iinc (pc' := 69) (v := nI (k + 1)) (lv' := [(3, .int (nI (k + 1))), (2, .int (nI (valN 8 (ps ++ [dvN (T.getD (i + k) 0)])))), (0, .ref (ad 52))]) C dX12_readEscape_66 (k := 2) rfl (nI_add _ _) (by decide) rfl rfl ?_
        refine m_goto (tgt := 20) C dX12_readEscape_69 (by decide) ?_
        refine m_lv [2, 1, 0] rfl ?_
        exact ih (k + 1, ps ++ [dvN (T.getD (i + k) 0)], M9) (⟨by simp [i1], by rw [i2, show 3 - k = (3 - (k + 1)) + 1 by omega, dgr_s (by decide) hdv, List.append_assoc]; rfl, (by intro x hx; rcases List.mem_append.mp hx with q | q; exact i3 x q; rw [List.mem_singleton.mp q]; exact hdv), go_9, g_9, (i6.tr (F_9.sub (by decide)))⟩) (by simp only; omega)
