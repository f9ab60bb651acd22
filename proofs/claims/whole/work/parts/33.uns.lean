set_option maxHeartbeats 4000000 in
set_option maxRecDepth 100000 in
theorem kX8_unescapePiece {l : Launch} {D : va_G} {cy : Nat → ClassId} {ad : Nat → Nat} {n : Nat} {A : Nat → Prop} (hI : mI ad n A) {M : Nat → va_E} (hn : 52 ≤ n) {ended : Bool} (hpr : M 36 = prO ad ended) {P : List Nat} (hp : isRow cy ad n M 39 40 80 80 P) (hP8 : P.length ≤ 80) {ev ee : Int32} (he : M 37 = .inr (3, [.int ev, .int ee])) {W : List Nat} (hw : isRow cy ad n M 41 42 80 80 W) : mMv l yX8_unescapePiece (gW yX8_unescapePiece cX8_unescapePiece 4 none) { frames := 3, cells := 0, slots := 0, locals := 67 } D cy ad n A [.ref (ad 36)] M (fun M' => isRow cy ad n M' 39 40 80 80 (unsT P) ∧ (unsT P).length ≤ 80 ∧ M' 36 = prO ad (ended || unsE P) ∧ isEsc M' ∧ (∃ W' : List Nat, isRow cy ad n M' 41 42 80 80 W') ∧ Fr [36, 37, 39, 40, 41, 42] M M') := by
  have h256 : ∀ x ∈ P, x < 256 := hp.2.2.2.2.1
  refine m_entry (cc := cX8_unescapePiece) (maxL := 4) (ret := none) (own := RX8) (lv := [(0, .ref (ad 36))]) hI (by decide) rfl rfl (Nat.le_of_ble_eq_true rfl) rfl (fun pX eX sX mX aX bX tX cX C hrt0 hlk0 => ?_)
  refine m_iconst (pc' := 1) (v := nI 0) C dX8_unescapePiece_0 (by decide) rfl ?_
  refine m_istore_n (pc' := 2) (lv' := [(1, .int (nI 0)), (0, .ref (ad 36))]) C dX8_unescapePiece_1 rfl (by decide) rfl rfl ?_
  refine m_aload_n (pc' := 3) C dX8_unescapePiece_2 rfl 1 rfl rfl ?_
  refine m_get (pc' := 6) C 36 (by omega) hpr rfl inW_X8 6 (by decide) (gW_of tm_1_210) rfl rfl dX8_unescapePiece_3 rfl ?_
  refine m_aload_n (pc' := 7) C dX8_unescapePiece_6 rfl 1 rfl rfl ?_
  refine m_get (pc' := 10) C 36 (by omega) hpr rfl inW_X8 5 (by decide) (gW_of tm_1_209) rfl rfl dX8_unescapePiece_7 rfl ?_
  refine m_callVv (pc' := 13) (As := [.ref (ad 39)]) (rest := []) C (kX9_copyOf hI hw hp (by omega)) (cwV 1 C.1.2.2.2.2 (goodV tm_3_49 tm_3_50 tm_3_51 tm_1_3 tm_3_52) rfl rfl rfl (by decide +kernel) ⟨by decide, by decide⟩) hw.1 hw.ob rfl rfl rfl (Nat.le_of_ble_eq_true rfl) dX8_unescapePiece_10 rfl ⟨by decide, by decide⟩ (fun M1 q_1 => ?_)
  obtain ⟨R_1, F_1⟩ := q_1
  rw [List.take_of_length_le hP8] at R_1
  refine m_aload_n (pc' := 14) C dX8_unescapePiece_13 rfl 1 rfl rfl ?_
  have f36_2 : M1 36 = .inr (8, [.ref (ad 5), .ref (ad 9), .ref (ad 1), .ref (ad 37), .ref (ad 38), .ref (ad 39), .ref (ad 41), .int (bI ended)]) := (F_1 36 (by decide)).trans hpr
  refine m_get (pc' := 17) C 36 (by omega) f36_2 rfl inW_X8 5 (by decide) (gW_of tm_1_209) rfl rfl dX8_unescapePiece_14 rfl ?_
  have R39_3 := hp.fr F_1 (by decide) (by decide)
  refine m_callVv (pc' := 20) (As := []) (rest := []) C (kX9_clear hI R39_3.pre) (cwV 0 C.1.2.2.2.2 (goodV tm_2_193 tm_2_99 tm_2_100 tm_1_3 tm_2_101) rfl rfl rfl (by decide +kernel) ⟨by decide, by decide⟩) R39_3.1 R39_3.ob rfl rfl rfl (Nat.le_of_ble_eq_true rfl) dX8_unescapePiece_17 rfl ⟨by decide, by decide⟩ (fun M4 q_4 => ?_)
  obtain ⟨R_4, F_4⟩ := q_4
  refine m_iconst (pc' := 21) (v := nI 0) C dX8_unescapePiece_20 (by decide) rfl ?_
  refine m_istore_n (pc' := 22) (lv' := [(2, .int (nI 0)), (1, .int (nI 0)), (0, .ref (ad 36))]) C dX8_unescapePiece_21 rfl (by decide) rfl rfl ?_
  refine m_lv [2, 1, 0] rfl ?_
  have f36_5 : M4 36 = .inr (8, [.ref (ad 5), .ref (ad 9), .ref (ad 1), .ref (ad 37), .ref (ad 38), .ref (ad 39), .ref (ad 41), .int (bI ended)]) := (F_4 36 (by decide)).trans f36_2
  have f37_6 : M1 37 = .inr (3, [.int (ev), .int (ee)]) := (F_1 37 (by decide)).trans he
  have f37_7 : M4 37 = .inr (3, [.int (ev), .int (ee)]) := (F_4 37 (by decide)).trans f37_6
  have R41_8 := R_1.fr F_4 (by decide) (by decide)
  refine m_loop (σ := Nat × Nat × List Nat × (Nat → va_E)) (fun a => a.2.2.2) (fun a => [(0, .ref (ad 36)), (1, .int (nI a.2.1)), (2, .int (nI a.1))]) (fun a => unsT P = a.2.2.1 ++ (unsF P (80 - a.1) a.2.1).1 ∧ unsE P = (unsF P (80 - a.1) a.2.1).2 ∧ a.2.2.1.length ≤ a.1 ∧ (a.1 ≤ 80 ∧ a.2.1 ≤ 84) ∧ isRow cy ad n a.2.2.2 39 40 80 80 a.2.2.1 ∧ isRow cy ad n a.2.2.2 41 42 80 80 P ∧ a.2.2.2 36 = prO ad ended ∧ (∃ ev2 ee2 : Int32, a.2.2.2 37 = .inr (3, [.int ev2, .int ee2])) ∧ Fr [36, 37, 39, 40, 41, 42] M a.2.2.2) (fun a => 80 - a.1) (0, 0, [], M4) (⟨rfl, rfl, by simp, ⟨by (try dsimp only); omega, by (try dsimp only); omega⟩, R_4, R41_8, f36_5, ⟨_, _, f37_7⟩, ((F_1.sub (by decide)).tr (F_4.sub (by decide)))⟩) ?_
  rintro ⟨k, i, R, Mk⟩ hinv ih
  dsimp only at hinv ih ⊢
  obtain ⟨i1, i2, i8, ⟨i9, i10⟩, i3, i4, i5, ⟨ev2, ee2, i6⟩, i7⟩ := hinv
  refine m_iload_n (pc' := 23) C dX8_unescapePiece_22 rfl 2 rfl rfl ?_
  refine m_bipush (pc' := 25) (v := nI 80) C dX8_unescapePiece_23 (by decide) rfl ?_
  refine m_icmp_ge (pc' := 28) (tgt := 153) C dX8_unescapePiece_25 (by decide) rfl (fun c_25 => ?_) (fun c_25 => ?_)
  · have hk8 : k = 80 := by
      rcases Nat.lt_or_ge k 80 with q | q
      · exact absurd c_25 (nI_ge q (by omega))
      · omega
    have hdone : unsF P (80 - k) i = ([], false) := by rw [hk8]; rfl
    refine m_vret C hrt0 hlk0 dX8_unescapePiece_153 ?_
    rw [hdone, List.append_nil] at i1
    rw [hdone] at i2
    rw [i1, i2]
    exact ⟨i3, by omega, by rw [Bool.or_false]; exact i5, ⟨_, _, i6⟩, ⟨_, i4⟩, (i7.sub (by decide))⟩
  · have hk8 : k < 80 := by
      rcases Nat.lt_or_ge k 80 with q | q
      · exact q
      · exact absurd (nI_le q (by omega)) c_25
    refine m_iload_n (pc' := 29) C dX8_unescapePiece_28 rfl 1 rfl rfl ?_
    refine m_aload_n (pc' := 30) C dX8_unescapePiece_29 rfl 0 rfl rfl ?_
    refine m_get (pc' := 33) C 36 (by omega) i5 rfl inW_X8 6 (by decide) (gW_of tm_1_210) rfl rfl dX8_unescapePiece_30 rfl ?_
    refine m_callVi (pc' := 36) (As := []) (rest := [.int (nI i)]) C (kX9_size hI i4) (cwV 0 C.1.2.2.2.2 (goodV tm_2_122 tm_2_95 tm_2_96 tm_1_3 tm_2_97) rfl rfl rfl (by decide +kernel) ⟨by decide, by decide⟩) i4.1 i4.ob rfl rfl rfl (Nat.le_of_ble_eq_true rfl) dX8_unescapePiece_33 rfl ⟨by decide, by decide⟩ (fun x_9 N_9 q_9 => ?_)
    obtain ⟨e_9, E_9⟩ := q_9
    replace E_9 := E_9.symm
    subst E_9
    replace e_9 : x_9 = nI P.length := e_9.trans (by rw [Nat.min_eq_left hP8])
    replace e_9 := e_9.symm
    subst e_9
    refine m_icmp_ge (pc' := 39) (tgt := 153) C dX8_unescapePiece_36 (by decide) rfl (fun c_36 => ?_) (fun c_36 => ?_)
    · have hge : P.length ≤ i := by
        rcases Nat.lt_or_ge i P.length with q | q
        · exact absurd c_36 (nI_ge q (by omega))
        · exact q
      have hdone : unsF P (80 - k) i = ([], false) := unsF_e hge
      refine m_vret C hrt0 hlk0 dX8_unescapePiece_153 ?_
      rw [hdone, List.append_nil] at i1
      rw [hdone] at i2
      rw [i1, i2]
      exact ⟨i3, by omega, by rw [Bool.or_false]; exact i5, ⟨_, _, i6⟩, ⟨_, i4⟩, (i7.sub (by decide))⟩
    · have hlt : i < P.length := by
        rcases Nat.lt_or_ge i P.length with q | q
        · exact q
        · exact absurd (nI_le q (by omega)) c_36
      refine m_aload_n (pc' := 40) C dX8_unescapePiece_39 rfl 0 rfl rfl ?_
      refine m_get (pc' := 43) C 36 (by omega) i5 rfl inW_X8 6 (by decide) (gW_of tm_1_210) rfl rfl dX8_unescapePiece_40 rfl ?_
      refine m_iload_n (pc' := 44) C dX8_unescapePiece_43 rfl 1 rfl rfl ?_
      refine m_callVi (pc' := 47) (As := [.int (nI i)]) (rest := []) C (kX9_at hI i4 (nI i)) (cwV 1 C.1.2.2.2.2 (goodV tm_2_127 tm_2_128 tm_2_129 tm_1_3 tm_2_130) rfl rfl rfl (by decide +kernel) ⟨by decide, by decide⟩) i4.1 i4.ob rfl rfl rfl (Nat.le_of_ble_eq_true rfl) dX8_unescapePiece_44 rfl ⟨by decide, by decide⟩ (fun x_10 N_10 q_10 => ?_)
      obtain ⟨e_10, E_10⟩ := q_10
      replace E_10 := E_10.symm
      subst E_10
      replace e_10 : x_10 = chAt P i := e_10.trans (rowAt_full hP8 (by omega) (by omega))
      replace e_10 := e_10.symm
      subst e_10
      refine m_bipush (pc' := 49) (v := nI 92) C dX8_unescapePiece_47 (by decide) rfl ?_
      refine m_icmp_ne (pc' := 52) (tgt := 56) C dX8_unescapePiece_49 (by decide) rfl (fun c_49 => ?_) (fun c_49 => ?_)
      · have e0 : ¬ P.getD i 0 = 92 := fun q => c_49 ((chAt_eq h256 (by decide) (by decide)).mpr q)
        have hstep : unsF P (80 - (k + 1) + 1) i = (P.getD i 0 :: (unsF P (80 - (k + 1)) (i + 1)).1, (unsF P (80 - (k + 1)) (i + 1)).2) := unsF_p1 hlt e0
        refine m_iconst (pc' := 57) (v := bI false) C dX8_unescapePiece_56 (by decide) rfl ?_
        refine m_istore_n (pc' := 58) (lv' := [(3, .int (bI false)), (0, .ref (ad 36)), (1, .int (nI i)), (2, .int (nI k))]) C dX8_unescapePiece_57 rfl (by decide) rfl rfl ?_
        refine m_iload_n (pc' := 59) C dX8_unescapePiece_58 rfl 0 rfl rfl ?_
        refine m_if_eq (pc' := 62) (tgt := 83) C dX8_unescapePiece_59 (by decide) rfl (fun c_59 => ?_) (fun c_59 => ?_)
        · refine m_iload_n (pc' := 84) C dX8_unescapePiece_83 rfl 0 rfl rfl ?_
          refine m_if_eq (pc' := 87) (tgt := 129) C dX8_unescapePiece_84 (by decide) rfl (fun c_84 => ?_) (fun c_84 => ?_)
          · refine m_aload_n (pc' := 130) C dX8_unescapePiece_129 rfl 1 rfl rfl ?_
            refine m_get (pc' := 133) C 36 (by omega) i5 rfl inW_X8 5 (by decide) (gW_of tm_1_209) rfl rfl dX8_unescapePiece_130 rfl ?_
            refine m_aload_n (pc' := 134) C dX8_unescapePiece_133 rfl 1 rfl rfl ?_
            refine m_get (pc' := 137) C 36 (by omega) i5 rfl inW_X8 6 (by decide) (gW_of tm_1_210) rfl rfl dX8_unescapePiece_134 rfl ?_
            refine m_iload_n (pc' := 138) C dX8_unescapePiece_137 rfl 2 rfl rfl ?_
            refine m_callVi (pc' := 141) (As := [.int (nI i)]) (rest := [.ref (ad 39)]) C (kX9_at hI i4 (nI i)) (cwV 1 C.1.2.2.2.2 (goodV tm_2_127 tm_2_128 tm_2_129 tm_1_3 tm_2_130) rfl rfl rfl (by decide +kernel) ⟨by decide, by decide⟩) i4.1 i4.ob rfl rfl rfl (Nat.le_of_ble_eq_true rfl) dX8_unescapePiece_138 rfl ⟨by decide, by decide⟩ (fun x_11 N_11 q_11 => ?_)
            obtain ⟨e_11, E_11⟩ := q_11
            replace E_11 := E_11.symm
            subst E_11
            replace e_11 : x_11 = chAt P i := e_11.trans (rowAt_full hP8 (by omega) (by omega))
            replace e_11 := e_11.symm
            subst e_11
            refine m_callVv (pc' := 144) (As := [.int (chAt P i)]) (rest := []) C (kX9_add hI i3 (chAt P i)) (cwV 1 C.1.2.2.2.2 (goodV tm_2_210 tm_2_211 tm_2_212 tm_1_3 tm_2_213) rfl rfl rfl (by decide +kernel) ⟨by decide, by decide⟩) i3.1 i3.ob rfl rfl rfl (Nat.le_of_ble_eq_true rfl) dX8_unescapePiece_141 rfl ⟨by decide, by decide⟩ (fun M12 q_12 => ?_)
            obtain ⟨R_12, F_12⟩ := q_12
            rw [show lowb (chAt P i) = P.getD i 0 by unfold chAt; rw [if_pos hlt, lowb_nI (gd_lt (by decide) h256 i)]] at R_12
            refine m_iinc (pc' := 147) (v := nI (i + 1)) (lv' := [(1, .int (nI (i + 1))), (3, .int (bI false)), (0, .ref (ad 36)), (2, .int (nI k))]) C dX8_unescapePiece_144 (k := 2) rfl (nI_add _ _) (by decide) rfl rfl ?_
            refine m_iinc (pc' := 150) (v := nI (k + 1)) (lv' := [(2, .int (nI (k + 1))), (1, .int (nI (i + 1))), (3, .int (bI false)), (0, .ref (ad 36))]) C dX8_unescapePiece_147 (k := 3) rfl (nI_add _ _) (by decide) rfl rfl ?_
            refine m_goto (tgt := 22) C dX8_unescapePiece_150 (by decide) ?_
            have f36_13 : M12 36 = .inr (8, [.ref (ad 5), .ref (ad 9), .ref (ad 1), .ref (ad 37), .ref (ad 38), .ref (ad 39), .ref (ad 41), .int (bI ended)]) := (F_12 36 (by decide)).trans i5
            have f37_14 : M12 37 = .inr (3, [.int (ev2), .int (ee2)]) := (F_12 37 (by decide)).trans i6
            have R41_15 := i4.fr F_12 (by decide) (by decide)
            refine m_lv [3, 1, 0] rfl ?_
            exact ih (k + 1, (i + 1), R ++ [P.getD i 0], M12) (⟨by rw [i1, show 80 - k = (80 - (k + 1)) + 1 by omega, hstep, app1], by rw [i2, show 80 - k = (80 - (k + 1)) + 1 by omega, hstep], by rw [List.length_append, List.length_singleton]; omega, ⟨by (try dsimp only); omega, by (try dsimp only); omega⟩, R_12, R41_15, f36_13, ⟨_, _, f37_14⟩, ((i7.sub (by decide)).tr (F_12.sub (by decide)))⟩) (by simp only; omega)
          · exact absurd rfl c_84
        · exact absurd rfl c_59
      · have e0 : P.getD i 0 = 92 := (chAt_eq h256 (by decide) (by decide)).mp (Classical.not_not.mp c_49)
        refine m_iconst (pc' := 53) (v := bI true) C dX8_unescapePiece_52 (by decide) rfl ?_
        refine m_goto (tgt := 57) C dX8_unescapePiece_53 (by decide) ?_
        refine m_istore_n (pc' := 58) (lv' := [(3, .int (bI true)), (0, .ref (ad 36)), (1, .int (nI i)), (2, .int (nI k))]) C dX8_unescapePiece_57 rfl (by decide) rfl rfl ?_
        refine m_iload_n (pc' := 59) C dX8_unescapePiece_58 rfl 0 rfl rfl ?_
        refine m_if_eq (pc' := 62) (tgt := 83) C dX8_unescapePiece_59 (by decide) rfl (fun c_59 => ?_) (fun c_59 => ?_)
        · exact absurd c_59 (by decide)
        · refine m_aload_n (pc' := 63) C dX8_unescapePiece_62 rfl 1 rfl rfl ?_
          refine m_get (pc' := 66) C 36 (by omega) i5 rfl inW_X8 6 (by decide) (gW_of tm_1_210) rfl rfl dX8_unescapePiece_63 rfl ?_
          refine m_iload_n (pc' := 67) C dX8_unescapePiece_66 rfl 2 rfl rfl ?_
          refine m_iconst (pc' := 68) (v := nI 1) C dX8_unescapePiece_67 (by decide) rfl ?_
          refine m_iadd (pc' := 69) (v := nI (i + 1)) C dX8_unescapePiece_68 (nI_add _ _) rfl ?_
          refine m_callVi (pc' := 72) (As := [.int (nI (i + 1))]) (rest := []) C (kX9_at hI i4 (nI (i + 1))) (cwV 1 C.1.2.2.2.2 (goodV tm_2_127 tm_2_128 tm_2_129 tm_1_3 tm_2_130) rfl rfl rfl (by decide +kernel) ⟨by decide, by decide⟩) i4.1 i4.ob rfl rfl rfl (Nat.le_of_ble_eq_true rfl) dX8_unescapePiece_69 rfl ⟨by decide, by decide⟩ (fun x_16 N_16 q_16 => ?_)
          obtain ⟨e_16, E_16⟩ := q_16
          replace E_16 := E_16.symm
          subst E_16
          replace e_16 : x_16 = chAt P (i + 1) := e_16.trans (rowAt_full hP8 (by omega) (by omega))
          replace e_16 := e_16.symm
          subst e_16
          refine m_bipush (pc' := 74) (v := nI 99) C dX8_unescapePiece_72 (by decide) rfl ?_
          refine m_icmp_ne (pc' := 77) (tgt := 83) C dX8_unescapePiece_74 (by decide) rfl (fun c_74 => ?_) (fun c_74 => ?_)
          · have e1 : ¬ P.getD (i + 1) 0 = 99 := fun q => c_74 ((chAt_eq h256 (by decide) (by decide)).mpr q)
            refine m_iload_n (pc' := 84) C dX8_unescapePiece_83 rfl 0 rfl rfl ?_
            refine m_if_eq (pc' := 87) (tgt := 129) C dX8_unescapePiece_84 (by decide) rfl (fun c_84 => ?_) (fun c_84 => ?_)
            · exact absurd c_84 (by decide)
            · refine m_aload_n (pc' := 88) C dX8_unescapePiece_87 rfl 1 rfl rfl ?_
              refine m_get (pc' := 91) C 36 (by omega) i5 rfl inW_X8 3 (by decide) (gW_of tm_1_207) rfl rfl dX8_unescapePiece_88 rfl ?_
              refine m_aload_n (pc' := 92) C dX8_unescapePiece_91 rfl 1 rfl rfl ?_
              refine m_get (pc' := 95) C 36 (by omega) i5 rfl inW_X8 6 (by decide) (gW_of tm_1_210) rfl rfl dX8_unescapePiece_92 rfl ?_
              refine m_iload_n (pc' := 96) C dX8_unescapePiece_95 rfl 2 rfl rfl ?_
              refine m_iconst (pc' := 97) (v := nI 1) C dX8_unescapePiece_96 (by decide) rfl ?_
              refine m_iadd (pc' := 98) (v := nI (i + 1)) C dX8_unescapePiece_97 (nI_add _ _) rfl ?_
              refine m_callVi (pc' := 101) (As := [.ref (ad 41), .int (nI (i + 1))]) (rest := []) C (kX3_readInText hI i4 hP8 (by omega) i6 (by decide) (by omega)) (cwV 2 C.1.2.2.2.2 (goodV tm_3_92 tm_3_93 tm_3_94 tm_1_8 tm_3_95) rfl rfl rfl (by decide +kernel) ⟨by decide, by decide⟩) (by omega) i6 rfl rfl rfl (Nat.le_of_ble_eq_true rfl) dX8_unescapePiece_98 rfl ⟨by decide, by decide⟩ (fun x_17 M17 q_17 => ?_)
              obtain ⟨e_17, ⟨x9, y9, g_17, hxy⟩, F_17⟩ := q_17
              replace e_17 := e_17.symm
              subst e_17
              refine m_if_eq (pc' := 104) (tgt := 129) C dX8_unescapePiece_101 (by decide) rfl (fun c_101 => ?_) (fun c_101 => ?_)
              · have hok : txOk P (i + 1) = false := (bI_0 _).mp c_101
                have hstep : unsF P (80 - (k + 1) + 1) i = (P.getD i 0 :: (unsF P (80 - (k + 1)) (i + 1)).1, (unsF P (80 - (k + 1)) (i + 1)).2) := unsF_p2 hlt e1 hok
                refine m_aload_n (pc' := 130) C dX8_unescapePiece_129 rfl 1 rfl rfl ?_
                have f36_18 : M17 36 = .inr (8, [.ref (ad 5), .ref (ad 9), .ref (ad 1), .ref (ad 37), .ref (ad 38), .ref (ad 39), .ref (ad 41), .int (bI ended)]) := (F_17 36 (by decide)).trans i5
                refine m_get (pc' := 133) C 36 (by omega) f36_18 rfl inW_X8 5 (by decide) (gW_of tm_1_209) rfl rfl dX8_unescapePiece_130 rfl ?_
                refine m_aload_n (pc' := 134) C dX8_unescapePiece_133 rfl 1 rfl rfl ?_
                refine m_get (pc' := 137) C 36 (by omega) f36_18 rfl inW_X8 6 (by decide) (gW_of tm_1_210) rfl rfl dX8_unescapePiece_134 rfl ?_
                refine m_iload_n (pc' := 138) C dX8_unescapePiece_137 rfl 2 rfl rfl ?_
                have R41_19 := i4.fr F_17 (by decide) (by decide)
                refine m_callVi (pc' := 141) (As := [.int (nI i)]) (rest := [.ref (ad 39)]) C (kX9_at hI R41_19 (nI i)) (cwV 1 C.1.2.2.2.2 (goodV tm_2_127 tm_2_128 tm_2_129 tm_1_3 tm_2_130) rfl rfl rfl (by decide +kernel) ⟨by decide, by decide⟩) R41_19.1 R41_19.ob rfl rfl rfl (Nat.le_of_ble_eq_true rfl) dX8_unescapePiece_138 rfl ⟨by decide, by decide⟩ (fun x_20 N_20 q_20 => ?_)
                obtain ⟨e_20, E_20⟩ := q_20
                replace E_20 := E_20.symm
                subst E_20
                replace e_20 : x_20 = chAt P i := e_20.trans (rowAt_full hP8 (by omega) (by omega))
                replace e_20 := e_20.symm
                subst e_20
                have R39_21 := i3.fr F_17 (by decide) (by decide)
                refine m_callVv (pc' := 144) (As := [.int (chAt P i)]) (rest := []) C (kX9_add hI R39_21 (chAt P i)) (cwV 1 C.1.2.2.2.2 (goodV tm_2_210 tm_2_211 tm_2_212 tm_1_3 tm_2_213) rfl rfl rfl (by decide +kernel) ⟨by decide, by decide⟩) R39_21.1 R39_21.ob rfl rfl rfl (Nat.le_of_ble_eq_true rfl) dX8_unescapePiece_141 rfl ⟨by decide, by decide⟩ (fun M22 q_22 => ?_)
                obtain ⟨R_22, F_22⟩ := q_22
                rw [show lowb (chAt P i) = P.getD i 0 by unfold chAt; rw [if_pos hlt, lowb_nI (gd_lt (by decide) h256 i)]] at R_22
                refine m_iinc (pc' := 147) (v := nI (i + 1)) (lv' := [(1, .int (nI (i + 1))), (3, .int (bI true)), (0, .ref (ad 36)), (2, .int (nI k))]) C dX8_unescapePiece_144 (k := 2) rfl (nI_add _ _) (by decide) rfl rfl ?_
                refine m_iinc (pc' := 150) (v := nI (k + 1)) (lv' := [(2, .int (nI (k + 1))), (1, .int (nI (i + 1))), (3, .int (bI true)), (0, .ref (ad 36))]) C dX8_unescapePiece_147 (k := 3) rfl (nI_add _ _) (by decide) rfl rfl ?_
                refine m_goto (tgt := 22) C dX8_unescapePiece_150 (by decide) ?_
                have f36_23 : M22 36 = .inr (8, [.ref (ad 5), .ref (ad 9), .ref (ad 1), .ref (ad 37), .ref (ad 38), .ref (ad 39), .ref (ad 41), .int (bI ended)]) := (F_22 36 (by decide)).trans f36_18
                have f37_24 : M22 37 = .inr (3, [.int (x9), .int (y9)]) := (F_22 37 (by decide)).trans g_17
                have R41_25 := R41_19.fr F_22 (by decide) (by decide)
                refine m_lv [3, 1, 0] rfl ?_
                exact ih (k + 1, (i + 1), R ++ [P.getD i 0], M22) (⟨by rw [i1, show 80 - k = (80 - (k + 1)) + 1 by omega, hstep, app1], by rw [i2, show 80 - k = (80 - (k + 1)) + 1 by omega, hstep], by rw [List.length_append, List.length_singleton]; omega, ⟨by (try dsimp only); omega, by (try dsimp only); omega⟩, R_22, R41_25, f36_23, ⟨_, _, f37_24⟩, (((i7.sub (by decide)).tr (F_17.sub (by decide))).tr (F_22.sub (by decide)))⟩) (by simp only; omega)
              · have hok : txOk P (i + 1) = true := ts_of c_101
                obtain ⟨hx9, hy9⟩ := hxy hok
                subst hx9
                subst hy9
                have htE := txE_le P (i + 1)
                have hstep : unsF P (80 - (k + 1) + 1) i = (txV P (i + 1) % 256 :: (unsF P (80 - (k + 1)) (txE P (i + 1))).1, (unsF P (80 - (k + 1)) (txE P (i + 1))).2) := unsF_x hlt e0 e1 hok
                refine m_aload_n (pc' := 105) C dX8_unescapePiece_104 rfl 1 rfl rfl ?_
                have f36_26 : M17 36 = .inr (8, [.ref (ad 5), .ref (ad 9), .ref (ad 1), .ref (ad 37), .ref (ad 38), .ref (ad 39), .ref (ad 41), .int (bI ended)]) := (F_17 36 (by decide)).trans i5
                refine m_get (pc' := 108) C 36 (by omega) f36_26 rfl inW_X8 5 (by decide) (gW_of tm_1_209) rfl rfl dX8_unescapePiece_105 rfl ?_
                refine m_aload_n (pc' := 109) C dX8_unescapePiece_108 rfl 1 rfl rfl ?_
                refine m_get (pc' := 112) C 36 (by omega) f36_26 rfl inW_X8 3 (by decide) (gW_of tm_1_207) rfl rfl dX8_unescapePiece_109 rfl ?_
                refine m_callVi (pc' := 115) (As := []) (rest := [.ref (ad 39)]) C (kX3_value hI (by omega) g_17) (cwV 0 C.1.2.2.2.2 (goodV tm_2_206 tm_2_207 tm_2_208 tm_1_8 tm_2_209) rfl rfl rfl (by decide +kernel) ⟨by decide, by decide⟩) (by omega) g_17 rfl rfl rfl (Nat.le_of_ble_eq_true rfl) dX8_unescapePiece_112 rfl ⟨by decide, by decide⟩ (fun x_27 N_27 q_27 => ?_)
                obtain ⟨e_27, E_27⟩ := q_27
                replace E_27 := E_27.symm
                subst E_27
                replace e_27 := e_27.symm
                subst e_27
                have R39_28 := i3.fr F_17 (by decide) (by decide)
                refine m_callVv (pc' := 118) (As := [.int (nI (txV P (i + 1)))]) (rest := []) C (kX9_add hI R39_28 (nI (txV P (i + 1)))) (cwV 1 C.1.2.2.2.2 (goodV tm_2_210 tm_2_211 tm_2_212 tm_1_3 tm_2_213) rfl rfl rfl (by decide +kernel) ⟨by decide, by decide⟩) R39_28.1 R39_28.ob rfl rfl rfl (Nat.le_of_ble_eq_true rfl) dX8_unescapePiece_115 rfl ⟨by decide, by decide⟩ (fun M29 q_29 => ?_)
                obtain ⟨R_29, F_29⟩ := q_29
                rw [lowb_mod (Nat.lt_of_lt_of_le (txV_lt P (i + 1)) (by decide))] at R_29
                refine m_aload_n (pc' := 119) C dX8_unescapePiece_118 rfl 1 rfl rfl ?_
                have f36_30 : M29 36 = .inr (8, [.ref (ad 5), .ref (ad 9), .ref (ad 1), .ref (ad 37), .ref (ad 38), .ref (ad 39), .ref (ad 41), .int (bI ended)]) := (F_29 36 (by decide)).trans f36_26
                refine m_get (pc' := 122) C 36 (by omega) f36_30 rfl inW_X8 3 (by decide) (gW_of tm_1_207) rfl rfl dX8_unescapePiece_119 rfl ?_
                have f37_31 : M29 37 = .inr (3, [.int (nI (txV P (i + 1))), .int (nI (txE P (i + 1)))]) := (F_29 37 (by decide)).trans g_17
                refine m_callVi (pc' := 125) (As := []) (rest := []) C (kX3_end hI (by omega) f37_31) (cwV 0 C.1.2.2.2.2 (goodV tm_2_150 tm_2_151 tm_2_152 tm_1_8 tm_2_153) rfl rfl rfl (by decide +kernel) ⟨by decide, by decide⟩) (by omega) f37_31 rfl rfl rfl (Nat.le_of_ble_eq_true rfl) dX8_unescapePiece_122 rfl ⟨by decide, by decide⟩ (fun x_32 N_32 q_32 => ?_)
                obtain ⟨e_32, E_32⟩ := q_32
                replace E_32 := E_32.symm
                subst E_32
                replace e_32 := e_32.symm
                subst e_32
                refine m_istore_n (pc' := 126) (lv' := [(1, .int (nI (txE P (i + 1)))), (3, .int (bI true)), (0, .ref (ad 36)), (2, .int (nI k))]) C dX8_unescapePiece_125 rfl (by decide) rfl rfl ?_
                refine m_goto (tgt := 147) C dX8_unescapePiece_126 (by decide) ?_
                refine m_iinc (pc' := 150) (v := nI (k + 1)) (lv' := [(2, .int (nI (k + 1))), (1, .int (nI (txE P (i + 1)))), (3, .int (bI true)), (0, .ref (ad 36))]) C dX8_unescapePiece_147 (k := 3) rfl (nI_add _ _) (by decide) rfl rfl ?_
                refine m_goto (tgt := 22) C dX8_unescapePiece_150 (by decide) ?_
                have R41_33 := i4.fr F_17 (by decide) (by decide)
                have R41_34 := R41_33.fr F_29 (by decide) (by decide)
                refine m_lv [3, 1, 0] rfl ?_
                exact ih (k + 1, (txE P (i + 1)), R ++ [txV P (i + 1) % 256], M29) (⟨by rw [i1, show 80 - k = (80 - (k + 1)) + 1 by omega, hstep, app1], by rw [i2, show 80 - k = (80 - (k + 1)) + 1 by omega, hstep], by rw [List.length_append, List.length_singleton]; omega, ⟨by (try dsimp only); omega, by (try dsimp only); omega⟩, R_29, R41_34, f36_30, ⟨_, _, f37_31⟩, (((i7.sub (by decide)).tr (F_17.sub (by decide))).tr (F_29.sub (by decide)))⟩) (by simp only; omega)
          · have e1 : P.getD (i + 1) 0 = 99 := (chAt_eq h256 (by decide) (by decide)).mp (Classical.not_not.mp c_74)
            have hdone : unsF P (80 - k) i = ([], true) := by rw [show 80 - k = (80 - (k + 1)) + 1 by omega]; exact unsF_c hlt e0 e1
            refine m_aload_n (pc' := 78) C dX8_unescapePiece_77 rfl 1 rfl rfl ?_
            refine m_iconst (pc' := 79) (v := bI true) C dX8_unescapePiece_78 (by decide) rfl ?_
            refine m_put (pc' := 82) (ty := .boolean) (fs' := [.ref (ad 5), .ref (ad 9), .ref (ad 1), .ref (ad 37), .ref (ad 38), .ref (ad 39), .ref (ad 41), .int (bI true)]) C 36 (by omega) i5 rfl inW_X8 tyX8 tyX8_ok nmX8 7 (by decide) (gW_of tm_1_211) rfl rfl (by decide +kernel) (nar_z _) (fit_z _) (by simp) rfl dX8_unescapePiece_79 rfl (fun M35 g_35 F_35 => ?_)
            refine m_vret C hrt0 hlk0 dX8_unescapePiece_82 ?_
            have f37_36 : M35 37 = .inr (3, [.int (ev2), .int (ee2)]) := (F_35 37 (by decide)).trans i6
            have R39_37 := i3.fr F_35 (by decide) (by decide)
            have R41_38 := i4.fr F_35 (by decide) (by decide)
            rw [hdone, List.append_nil] at i1
            rw [hdone] at i2
            rw [i1, i2]
            exact ⟨R39_37, by omega, by rw [Bool.or_true]; exact g_35, ⟨_, _, f37_36⟩, ⟨_, R41_38⟩, ((i7.sub (by decide)).tr (F_35.sub (by decide)))⟩
