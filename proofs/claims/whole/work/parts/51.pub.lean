set_option maxHeartbeats 4000000 in
set_option maxRecDepth 100000 in
theorem kX11_type {l : Launch} {D : va_G} {cy : Nat → ClassId} {ad : Nat → Nat} {n : Nat} {A : Nat → Prop} (hI : mI ad n A) {M : Nat → va_E} (hst9 : l.stackTraces = false) (hn : 52 ≤ n) {fp ot : Int32} (h0 : M 0 = fdO ad fp ot) {T : List Nat} (ht : isRow cy ad n M 3 4 80 80 T) (hT : T.length ≤ 80) (a b c d e : Int32) : mXi l yX11_type (gW yX11_type cX11_type 7 (some .int)) { frames := 6, cells := 1, slots := 6, locals := 90 } D cy ad n A [.ref (ad 0), .int (a), .int (b), .int (c), .int (d), .int (e)] M (fun res M' => T.length + tn5 a b c d e ≤ 80 ∧ res = nI (T.length + tn5 a b c d e) ∧ isRow cy ad n M' 3 4 80 80 (T ++ ty5 a b c d e) ∧ Fr [3, 4] M M') (fun E M' => (80 < T.length + tn5 a b c d e ∧ E = eST) ∧ M' = M) := by
  have hle5 := tn5_le a b c d e
  refine m_entryX (cc := cX11_type) (maxL := 7) (ret := (some .int)) (own := RX11) (lv := [(0, .ref (ad 0)), (1, .int (a)), (2, .int (b)), (3, .int (c)), (4, .int (d)), (5, .int (e))]) hI (by decide) rfl rfl (Nat.le_of_ble_eq_true rfl) rfl (fun pX eX sX mX aX bX tX cX C hrt0 hlk0 hz9 hx9 hout9 hml9 => ?_)
  refine m_iload_n (pc' := 1) C dX11_type_0 rfl 1 rfl rfl ?_
  refine m_callSi (pc' := 4) (As := [.int (a)]) (rest := []) C (kX11_charactersIn hI a) (cwS 1 C.1.2.2.2.2 (goodS tm_3_175 tm_3_176 tm_1_1 tm_3_177) rfl rfl rfl (by decide +kernel) ⟨by decide, by decide⟩) rfl rfl (Nat.le_of_ble_eq_true rfl) dX11_type_1 rfl ⟨by decide, by decide⟩ (fun x_1 N_1 q_1 => ?_)
  obtain ⟨e_1, E_1⟩ := q_1
  replace E_1 := E_1.symm
  subst E_1
  replace e_1 := e_1.symm
  subst e_1
  refine m_iload_n (pc' := 5) C dX11_type_4 rfl 2 rfl rfl ?_
  refine m_callSi (pc' := 8) (As := [.int (b)]) (rest := [.int (nI (nzb a 4))]) C (kX11_charactersIn hI b) (cwS 1 C.1.2.2.2.2 (goodS tm_3_175 tm_3_176 tm_1_1 tm_3_177) rfl rfl rfl (by decide +kernel) ⟨by decide, by decide⟩) rfl rfl (Nat.le_of_ble_eq_true rfl) dX11_type_5 rfl ⟨by decide, by decide⟩ (fun x_2 N_2 q_2 => ?_)
  obtain ⟨e_2, E_2⟩ := q_2
  replace E_2 := E_2.symm
  subst E_2
  replace e_2 := e_2.symm
  subst e_2
  refine m_iadd (pc' := 9) (v := nI ((nzb a 4) + (nzb b 4))) C dX11_type_8 (nI_add _ _) rfl ?_
  refine m_iload_n (pc' := 10) C dX11_type_9 rfl 3 rfl rfl ?_
  refine m_callSi (pc' := 13) (As := [.int (c)]) (rest := [.int (nI ((nzb a 4) + (nzb b 4)))]) C (kX11_charactersIn hI c) (cwS 1 C.1.2.2.2.2 (goodS tm_3_175 tm_3_176 tm_1_1 tm_3_177) rfl rfl rfl (by decide +kernel) ⟨by decide, by decide⟩) rfl rfl (Nat.le_of_ble_eq_true rfl) dX11_type_10 rfl ⟨by decide, by decide⟩ (fun x_3 N_3 q_3 => ?_)
  obtain ⟨e_3, E_3⟩ := q_3
  replace E_3 := E_3.symm
  subst E_3
  replace e_3 := e_3.symm
  subst e_3
  refine m_iadd (pc' := 14) (v := nI (((nzb a 4) + (nzb b 4)) + (nzb c 4))) C dX11_type_13 (nI_add _ _) rfl ?_
  refine m_iload (pc' := 16) C dX11_type_14 4 rfl rfl ?_
  refine m_callSi (pc' := 19) (As := [.int (d)]) (rest := [.int (nI (((nzb a 4) + (nzb b 4)) + (nzb c 4)))]) C (kX11_charactersIn hI d) (cwS 1 C.1.2.2.2.2 (goodS tm_3_175 tm_3_176 tm_1_1 tm_3_177) rfl rfl rfl (by decide +kernel) ⟨by decide, by decide⟩) rfl rfl (Nat.le_of_ble_eq_true rfl) dX11_type_16 rfl ⟨by decide, by decide⟩ (fun x_4 N_4 q_4 => ?_)
  obtain ⟨e_4, E_4⟩ := q_4
  replace E_4 := E_4.symm
  subst E_4
  replace e_4 := e_4.symm
  subst e_4
  refine m_iadd (pc' := 20) (v := nI ((((nzb a 4) + (nzb b 4)) + (nzb c 4)) + (nzb d 4))) C dX11_type_19 (nI_add _ _) rfl ?_
  refine m_iload (pc' := 22) C dX11_type_20 5 rfl rfl ?_
  refine m_callSi (pc' := 25) (As := [.int (e)]) (rest := [.int (nI ((((nzb a 4) + (nzb b 4)) + (nzb c 4)) + (nzb d 4)))]) C (kX11_charactersIn hI e) (cwS 1 C.1.2.2.2.2 (goodS tm_3_175 tm_3_176 tm_1_1 tm_3_177) rfl rfl rfl (by decide +kernel) ⟨by decide, by decide⟩) rfl rfl (Nat.le_of_ble_eq_true rfl) dX11_type_22 rfl ⟨by decide, by decide⟩ (fun x_5 N_5 q_5 => ?_)
  obtain ⟨e_5, E_5⟩ := q_5
  replace E_5 := E_5.symm
  subst E_5
  replace e_5 := e_5.symm
  subst e_5
  refine m_iadd (pc' := 26) (v := nI (((((nzb a 4) + (nzb b 4)) + (nzb c 4)) + (nzb d 4)) + (nzb e 4))) C dX11_type_25 (nI_add _ _) rfl ?_
  refine m_istore (pc' := 28) (lv' := [(6, .int (nI (((((nzb a 4) + (nzb b 4)) + (nzb c 4)) + (nzb d 4)) + (nzb e 4)))), (0, .ref (ad 0)), (1, .int (a)), (2, .int (b)), (3, .int (c)), (4, .int (d)), (5, .int (e))]) C dX11_type_26 (by decide) rfl rfl ?_
  refine m_aload_n (pc' := 29) C dX11_type_28 rfl 1 rfl rfl ?_
  refine m_get (pc' := 32) C 0 (by omega) h0 rfl inW_X11 0 (by decide) (gW_of tm_2_59) rfl rfl dX11_type_29 rfl ?_
  refine m_callVi (pc' := 35) (As := []) (rest := []) C (kX9_size hI ht) (cwV 0 C.1.2.2.2.2 (goodV tm_2_94 tm_2_95 tm_2_96 tm_1_3 tm_2_97) rfl rfl rfl (by decide +kernel) ⟨by decide, by decide⟩) ht.1 ht.ob rfl rfl rfl (Nat.le_of_ble_eq_true rfl) dX11_type_32 rfl ⟨by decide, by decide⟩ (fun x_6 N_6 q_6 => ?_)
  obtain ⟨e_6, E_6⟩ := q_6
  replace E_6 := E_6.symm
  subst E_6
  replace e_6 : x_6 = nI T.length := e_6.trans (by rw [Nat.min_eq_left hT])
  replace e_6 := e_6.symm
  subst e_6
  refine m_iload (pc' := 37) C dX11_type_35 0 rfl rfl ?_
  refine m_iadd (pc' := 38) (v := nI (T.length + tn5 a b c d e)) C dX11_type_37 (nI_add _ _) rfl ?_
  refine m_bipush (pc' := 40) (v := nI 80) C dX11_type_38 (by decide) rfl ?_
  refine m_icmp_le (pc' := 43) (tgt := 51) C dX11_type_40 (by decide) rfl (fun c_40 => ?_) (fun c_40 => ?_)
  · have n_40 : (T.length + tn5 a b c d e) ≤ 80 := (nI_leI (by omega) (by decide)).mp c_40
    refine m_aload_n (pc' := 52) C dX11_type_51 rfl 1 rfl rfl ?_
    refine m_iload_n (pc' := 53) C dX11_type_52 rfl 2 rfl rfl ?_
    refine m_callVv (pc' := 56) (As := [.int (a)]) (rest := []) C (kX11_typeWord hI hn h0 ht a) (cwV 1 C.1.2.2.2.2 (goodV tm_4_4 tm_4_6 tp_27 tm_1_1 tm_4_7) rfl rfl rfl (by decide +kernel) ⟨by decide, by decide⟩) (by omega) h0 rfl rfl rfl (Nat.le_of_ble_eq_true rfl) dX11_type_53 rfl ⟨by decide, by decide⟩ (fun M7 q_7 => ?_)
    obtain ⟨R_7, F_7⟩ := q_7
    refine m_aload_n (pc' := 57) C dX11_type_56 rfl 1 rfl rfl ?_
    refine m_iload_n (pc' := 58) C dX11_type_57 rfl 3 rfl rfl ?_
    have f0_9 : M7 0 = .inr (11, [.ref (ad 3), .ref (ad 5), .ref (ad 7), .ref (ad 9), .ref (ad 36), .ref (ad 43), .ref (ad 46), .ref (ad 47), .int (fp), .int (ot)]) := (F_7 0 (by decide)).trans h0
    refine m_callVv (pc' := 61) (As := [.int (b)]) (rest := []) C (kX11_typeWord hI hn f0_9 R_7 b) (cwV 1 C.1.2.2.2.2 (goodV tm_4_4 tm_4_6 tp_27 tm_1_1 tm_4_7) rfl rfl rfl (by decide +kernel) ⟨by decide, by decide⟩) (by omega) f0_9 rfl rfl rfl (Nat.le_of_ble_eq_true rfl) dX11_type_58 rfl ⟨by decide, by decide⟩ (fun M8 q_8 => ?_)
    obtain ⟨R_8, F_8⟩ := q_8
    refine m_aload_n (pc' := 62) C dX11_type_61 rfl 1 rfl rfl ?_
    refine m_iload_n (pc' := 63) C dX11_type_62 rfl 4 rfl rfl ?_
    have f0_11 : M8 0 = .inr (11, [.ref (ad 3), .ref (ad 5), .ref (ad 7), .ref (ad 9), .ref (ad 36), .ref (ad 43), .ref (ad 46), .ref (ad 47), .int (fp), .int (ot)]) := (F_8 0 (by decide)).trans f0_9
    refine m_callVv (pc' := 66) (As := [.int (c)]) (rest := []) C (kX11_typeWord hI hn f0_11 R_8 c) (cwV 1 C.1.2.2.2.2 (goodV tm_4_4 tm_4_6 tp_27 tm_1_1 tm_4_7) rfl rfl rfl (by decide +kernel) ⟨by decide, by decide⟩) (by omega) f0_11 rfl rfl rfl (Nat.le_of_ble_eq_true rfl) dX11_type_63 rfl ⟨by decide, by decide⟩ (fun M10 q_10 => ?_)
    obtain ⟨R_10, F_10⟩ := q_10
    refine m_aload_n (pc' := 67) C dX11_type_66 rfl 1 rfl rfl ?_
    refine m_iload (pc' := 69) C dX11_type_67 5 rfl rfl ?_
    have f0_13 : M10 0 = .inr (11, [.ref (ad 3), .ref (ad 5), .ref (ad 7), .ref (ad 9), .ref (ad 36), .ref (ad 43), .ref (ad 46), .ref (ad 47), .int (fp), .int (ot)]) := (F_10 0 (by decide)).trans f0_11
    refine m_callVv (pc' := 72) (As := [.int (d)]) (rest := []) C (kX11_typeWord hI hn f0_13 R_10 d) (cwV 1 C.1.2.2.2.2 (goodV tm_4_4 tm_4_6 tp_27 tm_1_1 tm_4_7) rfl rfl rfl (by decide +kernel) ⟨by decide, by decide⟩) (by omega) f0_13 rfl rfl rfl (Nat.le_of_ble_eq_true rfl) dX11_type_69 rfl ⟨by decide, by decide⟩ (fun M12 q_12 => ?_)
    obtain ⟨R_12, F_12⟩ := q_12
    refine m_aload_n (pc' := 73) C dX11_type_72 rfl 1 rfl rfl ?_
    refine m_iload (pc' := 75) C dX11_type_73 6 rfl rfl ?_
    have f0_15 : M12 0 = .inr (11, [.ref (ad 3), .ref (ad 5), .ref (ad 7), .ref (ad 9), .ref (ad 36), .ref (ad 43), .ref (ad 46), .ref (ad 47), .int (fp), .int (ot)]) := (F_12 0 (by decide)).trans f0_13
    refine m_callVv (pc' := 78) (As := [.int (e)]) (rest := []) C (kX11_typeWord hI hn f0_15 R_12 e) (cwV 1 C.1.2.2.2.2 (goodV tm_4_4 tm_4_6 tp_27 tm_1_1 tm_4_7) rfl rfl rfl (by decide +kernel) ⟨by decide, by decide⟩) (by omega) f0_15 rfl rfl rfl (Nat.le_of_ble_eq_true rfl) dX11_type_75 rfl ⟨by decide, by decide⟩ (fun M14 q_14 => ?_)
    obtain ⟨R_14, F_14⟩ := q_14
    have hty : T ++ ty5 a b c d e = T ++ wchs a 4 ++ wchs b 4 ++ wchs c 4 ++ wchs d 4 ++ wchs e 4 := by unfold ty5; simp only [List.append_assoc]
    refine m_aload_n (pc' := 79) C dX11_type_78 rfl 1 rfl rfl ?_
    have f0_16 : M14 0 = .inr (11, [.ref (ad 3), .ref (ad 5), .ref (ad 7), .ref (ad 9), .ref (ad 36), .ref (ad 43), .ref (ad 46), .ref (ad 47), .int (fp), .int (ot)]) := (F_14 0 (by decide)).trans f0_15
    refine m_get (pc' := 82) C 0 (by omega) f0_16 rfl inW_X11 0 (by decide) (gW_of tm_2_59) rfl rfl dX11_type_79 rfl ?_
    refine m_callVi (pc' := 85) (As := []) (rest := []) C (kX9_size hI R_14) (cwV 0 C.1.2.2.2.2 (goodV tm_2_94 tm_2_95 tm_2_96 tm_1_3 tm_2_97) rfl rfl rfl (by decide +kernel) ⟨by decide, by decide⟩) R_14.1 R_14.ob rfl rfl rfl (Nat.le_of_ble_eq_true rfl) dX11_type_82 rfl ⟨by decide, by decide⟩ (fun x_17 N_17 q_17 => ?_)
    obtain ⟨e_17, E_17⟩ := q_17
    replace E_17 := E_17.symm
    subst E_17
    replace e_17 := e_17.symm
    subst e_17
    refine m_xret (by decide) (by decide) ?_
    refine m_iret C hrt0 hlk0 rfl dX11_type_85 ?_
    refine ⟨n_40, ?_, ?_, (((((F_7.sub (by decide)).tr (F_8.sub (by decide))).tr (F_10.sub (by decide))).tr (F_12.sub (by decide))).tr (F_14.sub (by decide)))⟩
    · rw [← hty, List.length_append, ty5_len, Nat.min_eq_left n_40]
    · rw [hty]; exact R_14
  · have n_40 : 80 < (T.length + tn5 a b c d e) := Nat.lt_of_not_le (fun q => c_40 ((nI_leI (by omega) (by decide)).mpr q))
    exact m_throw C hst9 hz9 hx9 hout9 hml9 hlk0 (by decide) (by decide +kernel) (gW_of tm_3_181) (gW_of tm_1_17) (fun w h => gW_of (xw_ST w h)) xb_ST xo_ST dX11_type_43 dX11_type_46 dX11_type_47 dX11_type_50 (by decide) (by decide) ⟨by decide, by decide⟩ ⟨by decide, by decide⟩ ⟨⟨n_40, rfl⟩, rfl⟩
set_option maxHeartbeats 4000000 in
set_option maxRecDepth 100000 in
theorem kX11_number {l : Launch} {D : va_G} {cy : Nat → ClassId} {ad : Nat → Nat} {n : Nat} {A : Nat → Prop} (hI : mI ad n A) {M : Nat → va_E} (hst9 : l.stackTraces = false) (hn : 52 ≤ n) {fp ot : Int32} (h0 : M 0 = fdO ad fp ot) {xs : Nat → Arg} {cnt tk od : Nat} (hA : isArgs cy ad n M xs cnt tk od) (x : Int64) : mXi l yX11_number (gW yX11_number cX11_number 3 (some .int)) { frames := 6, cells := 1, slots := 6, locals := 90 } D cy ad n A [.ref (ad 0), .long (x)] M (fun res M' => cnt < 8 ∧ res = nI (cnt + 1) ∧ isArgs cy ad n M' (va_up xs cnt (.inl x)) (cnt + 1) tk od ∧ Fr argS M M') (fun E M' => (8 ≤ cnt ∧ E = eST) ∧ M' = M) := by
  have hc8 := hA.2.1
  refine m_entryX (cc := cX11_number) (maxL := 3) (ret := (some .int)) (own := RX11) (lv := [(0, .ref (ad 0)), (1, .long (x))]) hI (by decide) rfl rfl (Nat.le_of_ble_eq_true rfl) rfl (fun pX eX sX mX aX bX tX cX C hrt0 hlk0 hz9 hx9 hout9 hml9 => ?_)
  refine m_aload_n (pc' := 1) C dX11_number_0 rfl 0 rfl rfl ?_
  refine m_get (pc' := 4) C 0 (by omega) h0 rfl inW_X11 3 (by decide) (gW_of tm_2_62) rfl rfl dX11_number_1 rfl ?_
  refine m_callVi (pc' := 7) (As := []) (rest := []) C (kX1_count hI hA) (cwV 0 C.1.2.2.2.2 (goodV tm_2_106 tm_2_107 tm_2_108 tm_1_4 tm_2_109) rfl rfl rfl (by decide +kernel) ⟨by decide, by decide⟩) hA.lt9 hA.ob9 rfl rfl rfl (Nat.le_of_ble_eq_true rfl) dX11_number_4 rfl ⟨by decide, by decide⟩ (fun x_1 N_1 q_1 => ?_)
  obtain ⟨e_1, E_1⟩ := q_1
  replace E_1 := E_1.symm
  subst E_1
  replace e_1 := e_1.symm
  subst e_1
  refine m_bipush (pc' := 9) (v := nI 8) C dX11_number_7 (by decide) rfl ?_
  refine m_icmp_lt (pc' := 12) (tgt := 20) C dX11_number_9 (by decide) rfl (fun c_9 => ?_) (fun c_9 => ?_)
  · have n_9 : cnt < 8 := (nI_ltI (by omega) (by omega)).mp c_9
    refine m_aload_n (pc' := 21) C dX11_number_20 rfl 0 rfl rfl ?_
    refine m_get (pc' := 24) C 0 (by omega) h0 rfl inW_X11 3 (by decide) (gW_of tm_2_62) rfl rfl dX11_number_21 rfl ?_
    refine m_lload_n (pc' := 25) C dX11_number_24 rfl 1 rfl rfl ?_
    refine m_callVv (pc' := 28) (As := [.long (x)]) (rest := []) C (kX1_addNumber hI hA n_9 x) (cwV 1 C.1.2.2.2.2 (goodV tm_4_16 tm_4_17 tm_4_18 tm_1_4 tm_4_19) rfl rfl rfl (by decide +kernel) ⟨by decide, by decide⟩) hA.lt9 hA.ob9 rfl rfl rfl (Nat.le_of_ble_eq_true rfl) dX11_number_25 rfl ⟨by decide, by decide⟩ (fun M2 q_2 => ?_)
    obtain ⟨A_2, F_2⟩ := q_2
    refine m_aload_n (pc' := 29) C dX11_number_28 rfl 0 rfl rfl ?_
    have f0_3 : M2 0 = .inr (11, [.ref (ad 3), .ref (ad 5), .ref (ad 7), .ref (ad 9), .ref (ad 36), .ref (ad 43), .ref (ad 46), .ref (ad 47), .int (fp), .int (ot)]) := (F_2 0 (by decide)).trans h0
    refine m_get (pc' := 32) C 0 (by omega) f0_3 rfl inW_X11 3 (by decide) (gW_of tm_2_62) rfl rfl dX11_number_29 rfl ?_
    refine m_callVi (pc' := 35) (As := []) (rest := []) C (kX1_count hI A_2) (cwV 0 C.1.2.2.2.2 (goodV tm_2_106 tm_2_107 tm_2_108 tm_1_4 tm_2_109) rfl rfl rfl (by decide +kernel) ⟨by decide, by decide⟩) A_2.lt9 A_2.ob9 rfl rfl rfl (Nat.le_of_ble_eq_true rfl) dX11_number_32 rfl ⟨by decide, by decide⟩ (fun x_4 N_4 q_4 => ?_)
    obtain ⟨e_4, E_4⟩ := q_4
    replace E_4 := E_4.symm
    subst E_4
    replace e_4 := e_4.symm
    subst e_4
    refine m_xret (by decide) (by decide) ?_
    refine m_iret C hrt0 hlk0 rfl dX11_number_35 ?_
    exact ⟨n_9, rfl, A_2, (F_2.sub (by decide))⟩
  · have n_9 : 8 ≤ cnt := Nat.le_of_not_lt (fun q => c_9 ((nI_ltI (by omega) (by omega)).mpr q))
    exact m_throw C hst9 hz9 hx9 hout9 hml9 hlk0 (by decide) (by decide +kernel) (gW_of tm_3_181) (gW_of tm_1_17) (fun w h => gW_of (xw_ST w h)) xb_ST xo_ST dX11_number_12 dX11_number_15 dX11_number_16 dX11_number_19 (by decide) (by decide) ⟨by decide, by decide⟩ ⟨by decide, by decide⟩ ⟨⟨n_9, rfl⟩, rfl⟩
set_option maxHeartbeats 4000000 in
set_option maxRecDepth 100000 in
theorem kX11_text {l : Launch} {D : va_G} {cy : Nat → ClassId} {ad : Nat → Nat} {n : Nat} {A : Nat → Prop} (hI : mI ad n A) {M : Nat → va_E} (hst9 : l.stackTraces = false) (hn : 52 ≤ n) {fp ot : Int32} (h0 : M 0 = fdO ad fp ot) {xs : Nat → Arg} {cnt tk od : Nat} (hA : isArgs cy ad n M xs cnt tk od) {T : List Nat} (ht : isRow cy ad n M 3 4 80 80 T) (hT : T.length ≤ 80) : mXi l yX11_text (gW yX11_text cX11_text 1 (some .int)) { frames := 6, cells := 1, slots := 6, locals := 90 } D cy ad n A [.ref (ad 0)] M (fun res M' => cnt < 8 ∧ res = nI (cnt + 1) ∧ isArgs cy ad n M' (va_up xs cnt (.inr T)) (cnt + 1) tk od ∧ isRow cy ad n M' 3 4 80 80 [] ∧ Fr (3 :: argS) M M') (fun E M' => (8 ≤ cnt ∧ E = eST) ∧ M' = M) := by
  have hc8 := hA.2.1
  refine m_entryX (cc := cX11_text) (maxL := 1) (ret := (some .int)) (own := RX11) (lv := [(0, .ref (ad 0))]) hI (by decide) rfl rfl (Nat.le_of_ble_eq_true rfl) rfl (fun pX eX sX mX aX bX tX cX C hrt0 hlk0 hz9 hx9 hout9 hml9 => ?_)
  refine m_aload_n (pc' := 1) C dX11_text_0 rfl 0 rfl rfl ?_
  refine m_get (pc' := 4) C 0 (by omega) h0 rfl inW_X11 3 (by decide) (gW_of tm_2_62) rfl rfl dX11_text_1 rfl ?_
  refine m_callVi (pc' := 7) (As := []) (rest := []) C (kX1_count hI hA) (cwV 0 C.1.2.2.2.2 (goodV tm_2_106 tm_2_107 tm_2_108 tm_1_4 tm_2_109) rfl rfl rfl (by decide +kernel) ⟨by decide, by decide⟩) hA.lt9 hA.ob9 rfl rfl rfl (Nat.le_of_ble_eq_true rfl) dX11_text_4 rfl ⟨by decide, by decide⟩ (fun x_1 N_1 q_1 => ?_)
  obtain ⟨e_1, E_1⟩ := q_1
  replace E_1 := E_1.symm
  subst E_1
  replace e_1 := e_1.symm
  subst e_1
  refine m_bipush (pc' := 9) (v := nI 8) C dX11_text_7 (by decide) rfl ?_
  refine m_icmp_lt (pc' := 12) (tgt := 20) C dX11_text_9 (by decide) rfl (fun c_9 => ?_) (fun c_9 => ?_)
  · have n_9 : cnt < 8 := (nI_ltI (by omega) (by omega)).mp c_9
    refine m_aload_n (pc' := 21) C dX11_text_20 rfl 0 rfl rfl ?_
    refine m_get (pc' := 24) C 0 (by omega) h0 rfl inW_X11 3 (by decide) (gW_of tm_2_62) rfl rfl dX11_text_21 rfl ?_
    refine m_aload_n (pc' := 25) C dX11_text_24 rfl 0 rfl rfl ?_
    refine m_get (pc' := 28) C 0 (by omega) h0 rfl inW_X11 0 (by decide) (gW_of tm_2_59) rfl rfl dX11_text_25 rfl ?_
    refine m_callVv (pc' := 31) (As := [.ref (ad 3)]) (rest := []) C (kX1_addText hI hA n_9 ht hT (by decide)) (cwV 1 C.1.2.2.2.2 (goodV tm_4_27 tm_4_28 tm_4_29 tm_1_4 tm_4_30) rfl rfl rfl (by decide +kernel) ⟨by decide, by decide⟩) hA.lt9 hA.ob9 rfl rfl rfl (Nat.le_of_ble_eq_true rfl) dX11_text_28 rfl ⟨by decide, by decide⟩ (fun M2 q_2 => ?_)
    obtain ⟨A_2, F_2⟩ := q_2
    refine m_aload_n (pc' := 32) C dX11_text_31 rfl 0 rfl rfl ?_
    have f0_3 : M2 0 = .inr (11, [.ref (ad 3), .ref (ad 5), .ref (ad 7), .ref (ad 9), .ref (ad 36), .ref (ad 43), .ref (ad 46), .ref (ad 47), .int (fp), .int (ot)]) := (F_2 0 (by decide)).trans h0
    refine m_get (pc' := 35) C 0 (by omega) f0_3 rfl inW_X11 0 (by decide) (gW_of tm_2_59) rfl rfl dX11_text_32 rfl ?_
    have R3_4 := ht.fr F_2 (by decide) (by decide)
    refine m_callVv (pc' := 38) (As := []) (rest := []) C (kX9_clear hI R3_4.pre) (cwV 0 C.1.2.2.2.2 (goodV tm_2_98 tm_2_99 tm_2_100 tm_1_3 tm_2_101) rfl rfl rfl (by decide +kernel) ⟨by decide, by decide⟩) R3_4.1 R3_4.ob rfl rfl rfl (Nat.le_of_ble_eq_true rfl) dX11_text_35 rfl ⟨by decide, by decide⟩ (fun M5 q_5 => ?_)
    obtain ⟨R_5, F_5⟩ := q_5
    refine m_aload_n (pc' := 39) C dX11_text_38 rfl 0 rfl rfl ?_
    have f0_6 : M5 0 = .inr (11, [.ref (ad 3), .ref (ad 5), .ref (ad 7), .ref (ad 9), .ref (ad 36), .ref (ad 43), .ref (ad 46), .ref (ad 47), .int (fp), .int (ot)]) := (F_5 0 (by decide)).trans f0_3
    refine m_get (pc' := 42) C 0 (by omega) f0_6 rfl inW_X11 3 (by decide) (gW_of tm_2_62) rfl rfl dX11_text_39 rfl ?_
    have A_8 := A_2.fr F_5 (by decide)
    refine m_callVi (pc' := 45) (As := []) (rest := []) C (kX1_count hI A_8) (cwV 0 C.1.2.2.2.2 (goodV tm_2_106 tm_2_107 tm_2_108 tm_1_4 tm_2_109) rfl rfl rfl (by decide +kernel) ⟨by decide, by decide⟩) A_8.lt9 A_8.ob9 rfl rfl rfl (Nat.le_of_ble_eq_true rfl) dX11_text_42 rfl ⟨by decide, by decide⟩ (fun x_7 N_7 q_7 => ?_)
    obtain ⟨e_7, E_7⟩ := q_7
    replace E_7 := E_7.symm
    subst E_7
    replace e_7 := e_7.symm
    subst e_7
    refine m_xret (by decide) (by decide) ?_
    refine m_iret C hrt0 hlk0 rfl dX11_text_45 ?_
    exact ⟨n_9, rfl, A_8, R_5, ((F_2.sub (by decide)).tr (F_5.sub (by decide)))⟩
  · have n_9 : 8 ≤ cnt := Nat.le_of_not_lt (fun q => c_9 ((nI_ltI (by omega) (by omega)).mpr q))
    exact m_throw C hst9 hz9 hx9 hout9 hml9 hlk0 (by decide) (by decide +kernel) (gW_of tm_3_181) (gW_of tm_1_17) (fun w h => gW_of (xw_ST w h)) xb_ST xo_ST dX11_text_12 dX11_text_15 dX11_text_16 dX11_text_19 (by decide) (by decide) ⟨by decide, by decide⟩ ⟨by decide, by decide⟩ ⟨⟨n_9, rfl⟩, rfl⟩
set_option maxHeartbeats 4000000 in
set_option maxRecDepth 100000 in
theorem kX11_room {l : Launch} {D : va_G} {cy : Nat → ClassId} {ad : Nat → Nat} {n : Nat} {A : Nat → Prop} (hI : mI ad n A) {M : Nat → va_E} (hst9 : l.stackTraces = false) (hn : 52 ≤ n) {fp ot : Int32} (h0 : M 0 = fdO ad fp ot) {lim : Nat} {O : List Nat} (hg : isRow cy ad n M 5 6 2000 lim O) (x : Int32) : mXv l yX11_room (gW yX11_room cX11_room 2 none) { frames := 6, cells := 1, slots := 6, locals := 90 } D cy ad n A [.ref (ad 0), .int (x)] M (fun M' => (¬ x < 0 ∧ cl x ≤ 2000) ∧ isRow cy ad n M' 5 6 2000 (cl x) [] ∧ Fr [5] M M') (fun E M' => ((x < 0 ∨ 2000 < cl x) ∧ E = eAR) ∧ M' = M) := by
  refine m_entryX (cc := cX11_room) (maxL := 2) (ret := none) (own := RX11) (lv := [(0, .ref (ad 0)), (1, .int (x))]) hI (by decide) rfl rfl (Nat.le_of_ble_eq_true rfl) rfl (fun pX eX sX mX aX bX tX cX C hrt0 hlk0 hz9 hx9 hout9 hml9 => ?_)
  refine m_iload_n (pc' := 1) C dX11_room_0 rfl 1 rfl rfl ?_
  refine m_if_lt (pc' := 4) (tgt := 11) C dX11_room_1 (by decide) rfl (fun c_1 => ?_) (fun c_1 => ?_)
  · exact m_throw C hst9 hz9 hx9 hout9 hml9 hlk0 (by decide) (by decide +kernel) (gW_of tm_4_40) (gW_of tm_1_18) (fun w h => gW_of (xw_AR w h)) xb_AR xo_AR dX11_room_11 dX11_room_14 dX11_room_15 dX11_room_18 (by decide) (by decide) ⟨by decide, by decide⟩ ⟨by decide, by decide⟩ ⟨⟨Or.inl c_1, rfl⟩, rfl⟩
  · have ex := of_nn c_1
    have hcl := clamp_lt x
    refine m_iload_n (pc' := 5) C dX11_room_4 rfl 1 rfl rfl ?_
    refine m_sipush (pc' := 8) (v := nI 2000) C dX11_room_5 (by decide) rfl ?_
    refine m_icmp_le (pc' := 11) (tgt := 19) C dX11_room_8 (by decide) rfl (fun c_8 => ?_) (fun c_8 => ?_)
    · have n8 : cl x ≤ 2000 := by rw [ex] at c_8; exact (nI_leI hcl (by decide)).mp c_8
      refine m_lvx (lv' := [(0, .ref (ad 0)), (1, .int (nI (cl x)))]) (by rw [← ex]) ?_
      refine m_aload_n (pc' := 20) C dX11_room_19 rfl 0 rfl rfl ?_
      refine m_get (pc' := 23) C 0 (by omega) h0 rfl inW_X11 1 (by decide) (gW_of tm_2_60) rfl rfl dX11_room_20 rfl ?_
      refine m_iload_n (pc' := 24) C dX11_room_23 rfl 1 rfl rfl ?_
      refine m_callVv (pc' := 27) (As := [.int (nI (cl x))]) (rest := []) C (kX9_limitTo hI hg.pre (k := (cl x)) (by omega)) (cwV 1 C.1.2.2.2.2 (goodV tm_4_55 tm_4_56 tm_4_57 tm_1_3 tm_4_58) rfl rfl rfl (by decide +kernel) ⟨by decide, by decide⟩) hg.1 hg.ob rfl rfl rfl (Nat.le_of_ble_eq_true rfl) dX11_room_24 rfl ⟨by decide, by decide⟩ (fun M1 q_1 => ?_)
      obtain ⟨R_1, F_1⟩ := q_1
      obtain ⟨z1, z2, z3, z4, sz9, ov9, g9, z5, z6⟩ := id R_1
      refine m_aload_n (pc' := 28) C dX11_room_27 rfl 0 rfl rfl ?_
      have f0_2 : M1 0 = .inr (11, [.ref (ad 3), .ref (ad 5), .ref (ad 7), .ref (ad 9), .ref (ad 36), .ref (ad 43), .ref (ad 46), .ref (ad 47), .int (fp), .int (ot)]) := (F_1 0 (by decide)).trans h0
      refine m_get (pc' := 31) C 0 (by omega) f0_2 rfl inW_X11 1 (by decide) (gW_of tm_2_60) rfl rfl dX11_room_28 rfl ?_
      refine m_callVv (pc' := 34) (As := []) (rest := []) C (kX9_clear hI R_1) (cwV 0 C.1.2.2.2.2 (goodV tm_2_98 tm_2_99 tm_2_100 tm_1_3 tm_2_101) rfl rfl rfl (by decide +kernel) ⟨by decide, by decide⟩) (by omega) z5 rfl rfl rfl (Nat.le_of_ble_eq_true rfl) dX11_room_31 rfl ⟨by decide, by decide⟩ (fun M3 q_3 => ?_)
      obtain ⟨R_3, F_3⟩ := q_3
      refine m_xret (by decide) (by decide) ?_
      refine m_vret C hrt0 hlk0 dX11_room_34 ?_
      exact ⟨⟨c_1, n8⟩, R_3, ((F_1.sub (by decide)).tr (F_3.sub (by decide)))⟩
    · have n8 : 2000 < cl x := by rw [ex] at c_8; exact Nat.lt_of_not_le (fun z => c_8 ((nI_leI hcl (by decide)).mpr z))
      exact m_throw C hst9 hz9 hx9 hout9 hml9 hlk0 (by decide) (by decide +kernel) (gW_of tm_4_40) (gW_of tm_1_18) (fun w h => gW_of (xw_AR w h)) xb_AR xo_AR dX11_room_11 dX11_room_14 dX11_room_15 dX11_room_18 (by decide) (by decide) ⟨by decide, by decide⟩ ⟨by decide, by decide⟩ ⟨⟨Or.inr n8, rfl⟩, rfl⟩
set_option maxHeartbeats 4000000 in
set_option maxRecDepth 100000 in
theorem kX11_cut {l : Launch} {D : va_G} {cy : Nat → ClassId} {ad : Nat → Nat} {n : Nat} {A : Nat → Prop} (hI : mI ad n A) {M : Nat → va_E} (hst9 : l.stackTraces = false) (hn : 52 ≤ n) {fp ot : Int32} (h0 : M 0 = fdO ad fp ot) {B : List Nat} (hb : isRow cy ad n M 7 8 256 256 B) (hB : B.length ≤ 256) (x : Int32) : mXi l yX11_cut (gW yX11_cut cX11_cut 2 (some .int)) { frames := 6, cells := 1, slots := 6, locals := 90 } D cy ad n A [.ref (ad 0), .int (x)] M (fun res M' => (¬ x < 0 ∧ cl x ≤ B.length) ∧ res = nI (B.length - cl x) ∧ isRow cy ad n M' 7 8 256 256 (B.take (cl x)) ∧ Fr [7] M M') (fun E M' => ((x < 0 ∨ B.length < cl x) ∧ E = eAR) ∧ M' = M) := by
  refine m_entryX (cc := cX11_cut) (maxL := 2) (ret := (some .int)) (own := RX11) (lv := [(0, .ref (ad 0)), (1, .int (x))]) hI (by decide) rfl rfl (Nat.le_of_ble_eq_true rfl) rfl (fun pX eX sX mX aX bX tX cX C hrt0 hlk0 hz9 hx9 hout9 hml9 => ?_)
  refine m_iload_n (pc' := 1) C dX11_cut_0 rfl 1 rfl rfl ?_
  refine m_if_lt (pc' := 4) (tgt := 15) C dX11_cut_1 (by decide) rfl (fun c_1 => ?_) (fun c_1 => ?_)
  · exact m_throw C hst9 hz9 hx9 hout9 hml9 hlk0 (by decide) (by decide +kernel) (gW_of tm_4_40) (gW_of tm_1_18) (fun w h => gW_of (xw_AR w h)) xb_AR xo_AR dX11_cut_15 dX11_cut_18 dX11_cut_19 dX11_cut_22 (by decide) (by decide) ⟨by decide, by decide⟩ ⟨by decide, by decide⟩ ⟨⟨Or.inl c_1, rfl⟩, rfl⟩
  · have ex := of_nn c_1
    have hcl := clamp_lt x
    refine m_iload_n (pc' := 5) C dX11_cut_4 rfl 1 rfl rfl ?_
    refine m_aload_n (pc' := 6) C dX11_cut_5 rfl 0 rfl rfl ?_
    refine m_get (pc' := 9) C 0 (by omega) h0 rfl inW_X11 2 (by decide) (gW_of tm_2_61) rfl rfl dX11_cut_6 rfl ?_
    refine m_callVi (pc' := 12) (As := []) (rest := [.int (x)]) C (kX9_size hI hb) (cwV 0 C.1.2.2.2.2 (goodV tm_2_94 tm_2_95 tm_2_96 tm_1_3 tm_2_97) rfl rfl rfl (by decide +kernel) ⟨by decide, by decide⟩) hb.1 hb.ob rfl rfl rfl (Nat.le_of_ble_eq_true rfl) dX11_cut_9 rfl ⟨by decide, by decide⟩ (fun x_1 N_1 q_1 => ?_)
    obtain ⟨e_1, E_1⟩ := q_1
    replace E_1 := E_1.symm
    subst E_1
    replace e_1 : x_1 = nI B.length := e_1.trans (by rw [Nat.min_eq_left hB])
    replace e_1 := e_1.symm
    subst e_1
    refine m_icmp_le (pc' := 15) (tgt := 23) C dX11_cut_12 (by decide) rfl (fun c_12 => ?_) (fun c_12 => ?_)
    · have n12 : cl x ≤ B.length := by rw [ex] at c_12; exact (nI_leI hcl (by omega)).mp c_12
      refine m_lvx (lv' := [(0, .ref (ad 0)), (1, .int (nI (cl x)))]) (by rw [← ex]) ?_
      refine m_aload_n (pc' := 24) C dX11_cut_23 rfl 0 rfl rfl ?_
      refine m_get (pc' := 27) C 0 (by omega) h0 rfl inW_X11 2 (by decide) (gW_of tm_2_61) rfl rfl dX11_cut_24 rfl ?_
      refine m_iload_n (pc' := 28) C dX11_cut_27 rfl 1 rfl rfl ?_
      refine m_callVi (pc' := 31) (As := [.int (nI (cl x))]) (rest := []) C (kX9_keepFirst hI hb hB (k := (cl x)) (by omega)) (cwV 1 C.1.2.2.2.2 (goodV tm_4_77 tm_3_81 tm_3_82 tm_1_3 tm_3_83) rfl rfl rfl (by decide +kernel) ⟨by decide, by decide⟩) hb.1 hb.ob rfl rfl rfl (Nat.le_of_ble_eq_true rfl) dX11_cut_28 rfl ⟨by decide, by decide⟩ (fun x_2 M2 q_2 => ?_)
      obtain ⟨e_2, R_2, F_2⟩ := q_2
      refine m_xret (by decide) (by decide) ?_
      refine m_iret C hrt0 hlk0 rfl dX11_cut_31 ?_
      exact ⟨⟨c_1, n12⟩, by rw [e_2, Nat.min_eq_left n12], R_2, (F_2.sub (by decide))⟩
    · have n12 : B.length < cl x := by rw [ex] at c_12; exact Nat.lt_of_not_le (fun z => c_12 ((nI_leI hcl (by omega)).mpr z))
      exact m_throw C hst9 hz9 hx9 hout9 hml9 hlk0 (by decide) (by decide +kernel) (gW_of tm_4_40) (gW_of tm_1_18) (fun w h => gW_of (xw_AR w h)) xb_AR xo_AR dX11_cut_15 dX11_cut_18 dX11_cut_19 dX11_cut_22 (by decide) (by decide) ⟨by decide, by decide⟩ ⟨by decide, by decide⟩ ⟨⟨Or.inr n12, rfl⟩, rfl⟩
set_option maxHeartbeats 4000000 in
set_option maxRecDepth 100000 in
theorem kX11_trim {l : Launch} {D : va_G} {cy : Nat → ClassId} {ad : Nat → Nat} {n : Nat} {A : Nat → Prop} (hI : mI ad n A) {M : Nat → va_E} (hst9 : l.stackTraces = false) (hn : 52 ≤ n) {fp ot : Int32} (h0 : M 0 = fdO ad fp ot) {lim : Nat} {O : List Nat} (hg : isRow cy ad n M 5 6 2000 lim O) (hO : O.length ≤ lim) (hl2 : lim ≤ 2000) (x : Int32) : mXi l yX11_trim (gW yX11_trim cX11_trim 2 (some .int)) { frames := 6, cells := 1, slots := 6, locals := 90 } D cy ad n A [.ref (ad 0), .int (x)] M (fun res M' => (¬ x < 0 ∧ cl x ≤ O.length) ∧ res = nI (O.length - cl x) ∧ isRow cy ad n M' 5 6 2000 lim (O.take (cl x)) ∧ Fr [5] M M') (fun E M' => ((x < 0 ∨ O.length < cl x) ∧ E = eAR) ∧ M' = M) := by
  refine m_entryX (cc := cX11_trim) (maxL := 2) (ret := (some .int)) (own := RX11) (lv := [(0, .ref (ad 0)), (1, .int (x))]) hI (by decide) rfl rfl (Nat.le_of_ble_eq_true rfl) rfl (fun pX eX sX mX aX bX tX cX C hrt0 hlk0 hz9 hx9 hout9 hml9 => ?_)
  refine m_iload_n (pc' := 1) C dX11_trim_0 rfl 1 rfl rfl ?_
  refine m_if_lt (pc' := 4) (tgt := 15) C dX11_trim_1 (by decide) rfl (fun c_1 => ?_) (fun c_1 => ?_)
  · exact m_throw C hst9 hz9 hx9 hout9 hml9 hlk0 (by decide) (by decide +kernel) (gW_of tm_4_40) (gW_of tm_1_18) (fun w h => gW_of (xw_AR w h)) xb_AR xo_AR dX11_trim_15 dX11_trim_18 dX11_trim_19 dX11_trim_22 (by decide) (by decide) ⟨by decide, by decide⟩ ⟨by decide, by decide⟩ ⟨⟨Or.inl c_1, rfl⟩, rfl⟩
  · have ex := of_nn c_1
    have hcl := clamp_lt x
    refine m_iload_n (pc' := 5) C dX11_trim_4 rfl 1 rfl rfl ?_
    refine m_aload_n (pc' := 6) C dX11_trim_5 rfl 0 rfl rfl ?_
    refine m_get (pc' := 9) C 0 (by omega) h0 rfl inW_X11 1 (by decide) (gW_of tm_2_60) rfl rfl dX11_trim_6 rfl ?_
    refine m_callVi (pc' := 12) (As := []) (rest := [.int (x)]) C (kX9_size hI hg) (cwV 0 C.1.2.2.2.2 (goodV tm_2_94 tm_2_95 tm_2_96 tm_1_3 tm_2_97) rfl rfl rfl (by decide +kernel) ⟨by decide, by decide⟩) hg.1 hg.ob rfl rfl rfl (Nat.le_of_ble_eq_true rfl) dX11_trim_9 rfl ⟨by decide, by decide⟩ (fun x_1 N_1 q_1 => ?_)
    obtain ⟨e_1, E_1⟩ := q_1
    replace E_1 := E_1.symm
    subst E_1
    replace e_1 : x_1 = nI O.length := e_1.trans (by rw [Nat.min_eq_left hO])
    replace e_1 := e_1.symm
    subst e_1
    refine m_icmp_le (pc' := 15) (tgt := 23) C dX11_trim_12 (by decide) rfl (fun c_12 => ?_) (fun c_12 => ?_)
    · have n12 : cl x ≤ O.length := by rw [ex] at c_12; exact (nI_leI hcl (by omega)).mp c_12
      refine m_lvx (lv' := [(0, .ref (ad 0)), (1, .int (nI (cl x)))]) (by rw [← ex]) ?_
      refine m_aload_n (pc' := 24) C dX11_trim_23 rfl 0 rfl rfl ?_
      refine m_get (pc' := 27) C 0 (by omega) h0 rfl inW_X11 1 (by decide) (gW_of tm_2_60) rfl rfl dX11_trim_24 rfl ?_
      refine m_iload_n (pc' := 28) C dX11_trim_27 rfl 1 rfl rfl ?_
      refine m_callVi (pc' := 31) (As := [.int (nI (cl x))]) (rest := []) C (kX9_keepFirst hI hg hO (k := (cl x)) (by omega)) (cwV 1 C.1.2.2.2.2 (goodV tm_4_77 tm_3_81 tm_3_82 tm_1_3 tm_3_83) rfl rfl rfl (by decide +kernel) ⟨by decide, by decide⟩) hg.1 hg.ob rfl rfl rfl (Nat.le_of_ble_eq_true rfl) dX11_trim_28 rfl ⟨by decide, by decide⟩ (fun x_2 M2 q_2 => ?_)
      obtain ⟨e_2, R_2, F_2⟩ := q_2
      refine m_xret (by decide) (by decide) ?_
      refine m_iret C hrt0 hlk0 rfl dX11_trim_31 ?_
      exact ⟨⟨c_1, n12⟩, by rw [e_2, Nat.min_eq_left n12], R_2, (F_2.sub (by decide))⟩
    · have n12 : O.length < cl x := by rw [ex] at c_12; exact Nat.lt_of_not_le (fun z => c_12 ((nI_leI hcl (by omega)).mpr z))
      exact m_throw C hst9 hz9 hx9 hout9 hml9 hlk0 (by decide) (by decide +kernel) (gW_of tm_4_40) (gW_of tm_1_18) (fun w h => gW_of (xw_AR w h)) xb_AR xo_AR dX11_trim_15 dX11_trim_18 dX11_trim_19 dX11_trim_22 (by decide) (by decide) ⟨by decide, by decide⟩ ⟨by decide, by decide⟩ ⟨⟨Or.inr n12, rfl⟩, rfl⟩
