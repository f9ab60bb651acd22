set_option maxHeartbeats 4000000 in
set_option maxRecDepth 100000 in
theorem kX12_typed {l : Launch} {D : va_G} {cy : Nat → ClassId} {ad : Nat → Nat} {n : Nat} {A : Nat → Prop} (hI : mI ad n A) {M : Nat → va_E} (hn : 63 ≤ n) (hn2 : n ≤ 100) (hro : rO ad M) {X : List Nat} (hlw : isLnW cy M X) (x : Int32) (hX : X.length ≤ 100) : mMi l yX12_typed (gW yX12_typed cX12_typed 6 (some .int)) { frames := 0, cells := 0, slots := 0, locals := 0 } D cy ad n A [.ref (ad 52), .int x, .int (nI X.length)] M (fun res M' => res = nI (X ++ wchs x 4).length ∧ rO ad M' ∧ isLnW cy M' (X ++ wchs x 4) ∧ Fr [53] M M') := by
  refine m_entry (cc := cX12_typed) (maxL := 6) (ret := (some .int)) (own := RX12) (lv := [(0, .ref (ad 52)), (1, .int (x)), (2, .int (nI X.length))]) hI (by decide) rfl rfl (Nat.le_of_ble_eq_true rfl) rfl (fun pX eX sX mX aX bX tX cX C hrt0 hlk0 => ?_)
  refine m_iload_n (pc' := 1) C dX12_typed_0 rfl 2 rfl rfl ?_
  refine m_istore_n (pc' := 2) (lv' := [(3, .int (nI X.length)), (0, .ref (ad 52)), (1, .int (x)), (2, .int (nI X.length))]) C dX12_typed_1 rfl (by decide) rfl rfl ?_
  refine m_bipush (pc' := 4) (v := nI 24) C dX12_typed_2 (by decide) rfl ?_
  refine m_istore (pc' := 6) (lv' := [(4, .int (nI 24)), (3, .int (nI X.length)), (0, .ref (ad 52)), (1, .int (x)), (2, .int (nI X.length))]) C dX12_typed_4 (by decide) rfl rfl ?_
  refine m_lvx (lv' := [(4, .int (nI 24 - nI (8 * 0))), (3, .int (nI (X ++ wchs x 0).length)), (0, .ref (ad 52)), (1, .int (x)), (2, .int (nI X.length))]) (by rw [show wchs x 0 = [] from rfl, List.append_nil]; rfl) ?_
  refine m_lv [2, 3, 1, 0] rfl ?_
  refine m_loop (σ := Nat × (Nat → va_E)) (fun a => a.2) (fun a => [(0, .ref (ad 52)), (1, .int (x)), (3, .int (nI (X ++ wchs x a.1).length)), (4, .int (nI 24 - nI (8 * a.1)))]) (fun a => a.1 ≤ 4 ∧ isLnW cy a.2 (X ++ wchs x a.1) ∧ rO ad a.2 ∧ Fr [53] M a.2) (fun a => 4 - a.1) (0, M) (⟨Nat.zero_le _, by (try dsimp only); rw [show wchs x 0 = [] from rfl, List.append_nil]; exact hlw, hro, Fr.rf⟩) ?_
  rintro ⟨j, Mk⟩ hinv ih
  dsimp only at hinv ih ⊢
  obtain ⟨i1, i3, i4, i5⟩ := hinv
  have hwl := wchs_len x j
  have hwl2 := nzb_le x j
  have hXl : (X ++ wchs x j).length ≤ 104 := by rw [List.length_append]; omega
  refine m_iload (pc' := 8) C dX12_typed_6 3 rfl rfl ?_
  refine m_if_lt (pc' := 11) (tgt := 50) C dX12_typed_8 (by decide) rfl (fun c_8 => ?_) (fun c_8 => ?_)
  · have hj4 : j = 4 := by
      rcases Nat.lt_or_ge j 4 with q | q
      · exact absurd c_8 (k24 j q).2.1
      · omega
    refine m_iload_n (pc' := 51) C dX12_typed_50 rfl 2 rfl rfl ?_
    refine m_iret C hrt0 hlk0 rfl dX12_typed_51 ?_
    rw [hj4] at i3 ⊢
    exact ⟨rfl, i4, i3, i5⟩
  · have hj4 : j < 4 := by
      rcases Nat.lt_or_ge j 4 with q | q
      · exact q
      · exact absurd (by rw [show j = 4 by omega]; exact k24e) c_8
    have hk := k24 j hj4
    have hw8 := wby_lt x j
    obtain ⟨-, -, -, g, g5, g6⟩ := id i3
    refine m_iload_n (pc' := 12) C dX12_typed_11 rfl 1 rfl rfl ?_
    refine m_iload (pc' := 14) C dX12_typed_12 3 rfl rfl ?_
    refine m_ishr (pc' := 15) (v := x >>> (nI (24 - 8 * j) &&& 31)) C dX12_typed_14 (by rw [hk.1]) rfl ?_
    refine m_sipush (pc' := 18) (v := nI 255) C dX12_typed_15 (by decide) rfl ?_
    refine m_iand (pc' := 19) (v := nI (wby x j)) C dX12_typed_18 (sar_wby x hj4) rfl ?_
    refine m_istore (pc' := 21) (lv' := [(5, .int (nI (wby x j))), (0, .ref (ad 52)), (1, .int (x)), (3, .int (nI (X ++ wchs x j).length)), (4, .int (nI 24 - nI (8 * j)))]) C dX12_typed_19 (by decide) rfl rfl ?_
    refine m_iload (pc' := 23) C dX12_typed_21 0 rfl rfl ?_
    refine m_if_eq (pc' := 26) (tgt := 44) C dX12_typed_23 (by decide) rfl (fun c_23 => ?_) (fun c_23 => ?_)
    · have n_23 : (wby x j) = 0 := (nI_eq (by omega) (by omega)).mp (c_23.trans nI_0.symm)
      have hb0 := n_23
      refine m_lvx (lv' := [(5, .int (nI (wby x j))), (0, .ref (ad 52)), (1, .int (x)), (3, .int (nI (X ++ wchs x (j + 1)).length)), (4, .int (nI 24 - nI (8 * j)))]) (by rw [wchs_succ, if_pos hb0, List.append_nil]) ?_
      refine m_iinc (pc' := 47) (v := nI 24 - nI (8 * (j + 1))) (lv' := [(4, .int (nI 24 - nI (8 * (j + 1)))), (5, .int (nI (wby x j))), (0, .ref (ad 52)), (1, .int (x)), (3, .int (nI (X ++ wchs x (j + 1)).length))]) C dX12_typed_44 (k := 4) rfl hk.2.2 (by decide) rfl rfl ?_
      refine m_goto (tgt := 6) C dX12_typed_47 (by decide) ?_
      refine m_lv [2, 3, 4, 0] rfl ?_
      exact ih (j + 1, Mk) (⟨by (try dsimp only); omega, by (try dsimp only); rw [wchs_succ, if_pos hb0, List.append_nil]; exact i3, i4, i5⟩) (by simp only; omega)
    · have n_23 : ¬ (wby x j) = 0 := fun q => c_23 (((nI_eq (by omega) (by omega)).mpr q).trans nI_0)
      have hb0 := n_23
      refine m_iload_n (pc' := 27) C dX12_typed_26 rfl 3 rfl rfl ?_
      refine m_bipush (pc' := 29) (v := nI 80) C dX12_typed_27 (by decide) rfl ?_
      refine m_icmp_ge (pc' := 32) (tgt := 41) C dX12_typed_29 (by decide) rfl (fun c_29 => ?_) (fun c_29 => ?_)
      · have n_29 : 80 ≤ ((X ++ wchs x j).length) := (nI_leI (by omega) (by omega)).mp c_29
        refine m_iinc (pc' := 44) (v := nI (X ++ wchs x (j + 1)).length) (lv' := [(3, .int (nI (X ++ wchs x (j + 1)).length)), (5, .int (nI (wby x j))), (0, .ref (ad 52)), (1, .int (x)), (4, .int (nI 24 - nI (8 * j)))]) C dX12_typed_41 (k := 3) rfl (by show nI (X ++ wchs x j).length + nI 1 = _; rw [nI_add, wchs_succ, if_neg hb0, ← List.append_assoc, List.length_append (as := X ++ wchs x j)]; rfl) (by decide) rfl rfl ?_
        refine m_iinc (pc' := 47) (v := nI 24 - nI (8 * (j + 1))) (lv' := [(4, .int (nI 24 - nI (8 * (j + 1)))), (3, .int (nI (X ++ wchs x (j + 1)).length)), (5, .int (nI (wby x j))), (0, .ref (ad 52)), (1, .int (x))]) C dX12_typed_44 (k := 4) rfl hk.2.2 (by decide) rfl rfl ?_
        refine m_goto (tgt := 6) C dX12_typed_47 (by decide) ?_
        refine m_lv [3, 4, 1, 0] rfl ?_
        exact ih (j + 1, Mk) (⟨by (try dsimp only); omega, by (try dsimp only); rw [wchs_succ, if_neg hb0, ← List.append_assoc]; exact isLnW.push i3 (wby_lt _ _) hb0 g5 g6 (Or.inr ⟨n_29, rfl⟩), i4, i5⟩) (by simp only; omega)
      · have n_29 : ((X ++ wchs x j).length) < 80 := Nat.lt_of_not_le (fun q => c_29 ((nI_leI (by omega) (by omega)).mpr q))
        refine m_aload_n (pc' := 33) C dX12_typed_32 rfl 1 rfl rfl ?_
        refine r_get C hn i4 inW_X12 1 (by decide) ⟨rfl, rfl, rfl⟩ (gW_of tm_5_51) rfl dX12_typed_33 rfl ?_
        refine m_iload_n (pc' := 37) C dX12_typed_36 rfl 3 rfl rfl ?_
        refine m_iload (pc' := 39) C dX12_typed_37 0 rfl rfl ?_
        refine m_i2c (pc' := 40) (v := nI (wby x j)) C dX12_typed_39 (i2c_nI (by omega)) rfl ?_
        refine m_cast (pc' := 41) (E' := .inl (cy 0, 80, .inl (fun i => nI (va_up g (X ++ wchs x j).length (wby x j) i)))) C 53 (by omega) g5 (vp_in_nI (by omega) (by decide)) (by rw [nI_clamp (by omega), nar_cv (by omega), upd_nI]) dX12_typed_40 rfl (fun M1 g_1 F_1 => ?_)
        refine m_iinc (pc' := 44) (v := nI (X ++ wchs x (j + 1)).length) (lv' := [(3, .int (nI (X ++ wchs x (j + 1)).length)), (5, .int (nI (wby x j))), (0, .ref (ad 52)), (1, .int (x)), (4, .int (nI 24 - nI (8 * j)))]) C dX12_typed_41 (k := 3) rfl (by show nI (X ++ wchs x j).length + nI 1 = _; rw [nI_add, wchs_succ, if_neg hb0, ← List.append_assoc, List.length_append (as := X ++ wchs x j)]; rfl) (by decide) rfl rfl ?_
        refine m_iinc (pc' := 47) (v := nI 24 - nI (8 * (j + 1))) (lv' := [(4, .int (nI 24 - nI (8 * (j + 1)))), (3, .int (nI (X ++ wchs x (j + 1)).length)), (5, .int (nI (wby x j))), (0, .ref (ad 52)), (1, .int (x))]) C dX12_typed_44 (k := 4) rfl hk.2.2 (by decide) rfl rfl ?_
        refine m_goto (tgt := 6) C dX12_typed_47 (by decide) ?_
        have ro_2 := i4.fr F_1 (by decide)
        refine m_lv [3, 4, 1, 0] rfl ?_
        exact ih (j + 1, M1) (⟨by (try dsimp only); omega, by (try dsimp only); rw [wchs_succ, if_neg hb0, ← List.append_assoc]; exact isLnW.push i3 (wby_lt _ _) hb0 g5 g6 (Or.inl ⟨n_29, g_1⟩), ro_2, (i5.tr (F_1.sub (by decide)))⟩) (by simp only; omega)
set_option maxHeartbeats 4000000 in
set_option maxRecDepth 100000 in
theorem kX12_type {l : Launch} {D : va_G} {cy : Nat → ClassId} {ad : Nat → Nat} {n : Nat} {A : Nat → Prop} (hI : mI ad n A) {M : Nat → va_E} (hn : 63 ≤ n) (hn2 : n ≤ 100) {T : List Nat} {xs : Nat → Arg} {cnt lim : Nat} {O B : List Nat} {fp ot : Int32} (hM : isM cy ad M T xs cnt lim O B fp ot) (p1 p2 p3 p4 p5 : Int32) : mMi l yX12_type (gW yX12_type cX12_type 7 (some .int)) { frames := 1, cells := 0, slots := 0, locals := 25 } D cy ad n A [.ref (ad 52), .int p1, .int p2, .int p3, .int p4, .int p5] M (fun res M' => (tyK T p1 p2 p3 p4 p5 = 0 → res = nI (T.length + tn5 p1 p2 p3 p4 p5)) ∧ M' 100 = gh (.int (nI (tyK T p1 p2 p3 p4 p5))) ∧ isM cy ad M' (sel (tyK T p1 p2 p3 p4 p5) (T ++ ty5 p1 p2 p3 p4 p5) T) xs cnt lim O B fp ot ∧ Fr refS M M') := by
  obtain ⟨hro, hln, hra, hout, hby, h14, h15, ⟨W, hrw⟩, ⟨L, hdg⟩, gf, hfd⟩ := hM
  have b5a := nzb_le p1 4
  have b5b := nzb_le p2 4
  have b5c := nzb_le p3 4
  have b5d := nzb_le p4 4
  have b5e := nzb_le p5 4
  have tl := hln.2.2.2.1
  refine m_entry (cc := cX12_type) (maxL := 7) (ret := (some .int)) (own := RX12) (lv := [(0, .ref (ad 52)), (1, .int (p1)), (2, .int (p2)), (3, .int (p3)), (4, .int (p4)), (5, .int (p5))]) hI (by decide) rfl rfl (Nat.le_of_ble_eq_true rfl) rfl (fun pX eX sX mX aX bX tX cX C hrt0 hlk0 => ?_)
  refine m_aload_n (pc' := 1) C dX12_type_0 rfl 0 rfl rfl ?_
  refine m_iload_n (pc' := 2) C dX12_type_1 rfl 1 rfl rfl ?_
  refine m_aload_n (pc' := 3) C dX12_type_2 rfl 0 rfl rfl ?_
  refine r_get C hn hro inW_X12 2 (by decide) ⟨rfl, rfl, rfl⟩ (gW_of tm_5_52) (r_at 2 rfl hln.2.2.1) dX12_type_3 rfl ?_
  refine m_callVi (pc' := 9) (As := [.int (p1), .int (nI T.length)]) (rest := []) C (kX12_typed hI hn hn2 hro (isLnW.of hln) p1 (by omega)) (cwV 2 C.1.2.2.2.2 (goodV tm_5_170 tm_5_172 tp_48 tm_1_13 tm_5_173) rfl rfl rfl (by decide +kernel) ⟨by decide, by decide⟩) (by omega) hro rfl rfl rfl (Nat.le_of_ble_eq_true rfl) dX12_type_6 rfl ⟨by decide, by decide⟩ (fun x_1 M1 q_1 => ?_)
  obtain ⟨e_1, pro_1, plw_1, F_1⟩ := q_1
  replace e_1 := e_1.symm
  subst e_1
  refine m_istore (pc' := 11) (lv' := [(6, .int (nI (T ++ wchs p1 4).length)), (0, .ref (ad 52)), (1, .int (p1)), (2, .int (p2)), (3, .int (p3)), (4, .int (p4)), (5, .int (p5))]) C dX12_type_9 (by decide) rfl rfl ?_
  refine m_aload_n (pc' := 12) C dX12_type_11 rfl 1 rfl rfl ?_
  refine m_iload_n (pc' := 13) C dX12_type_12 rfl 3 rfl rfl ?_
  refine m_iload (pc' := 15) C dX12_type_13 0 rfl rfl ?_
  refine m_callVi (pc' := 18) (As := [.int (p2), .int (nI (T ++ wchs p1 4).length)]) (rest := []) C (kX12_typed hI hn hn2 pro_1 plw_1 p2 (by simp only [List.length_append, wchs_len]; omega)) (cwV 2 C.1.2.2.2.2 (goodV tm_5_170 tm_5_172 tp_48 tm_1_13 tm_5_173) rfl rfl rfl (by decide +kernel) ⟨by decide, by decide⟩) (by omega) pro_1 rfl rfl rfl (Nat.le_of_ble_eq_true rfl) dX12_type_15 rfl ⟨by decide, by decide⟩ (fun x_2 M2 q_2 => ?_)
  obtain ⟨e_2, pro_2, plw_2, F_2⟩ := q_2
  replace e_2 := e_2.symm
  subst e_2
  refine m_istore (pc' := 20) (lv' := [(6, .int (nI ((T ++ wchs p1 4) ++ wchs p2 4).length)), (0, .ref (ad 52)), (1, .int (p1)), (2, .int (p2)), (3, .int (p3)), (4, .int (p4)), (5, .int (p5))]) C dX12_type_18 (by decide) rfl rfl ?_
  refine m_aload_n (pc' := 21) C dX12_type_20 rfl 1 rfl rfl ?_
  refine m_iload_n (pc' := 22) C dX12_type_21 rfl 4 rfl rfl ?_
  refine m_iload (pc' := 24) C dX12_type_22 0 rfl rfl ?_
  refine m_callVi (pc' := 27) (As := [.int (p3), .int (nI ((T ++ wchs p1 4) ++ wchs p2 4).length)]) (rest := []) C (kX12_typed hI hn hn2 pro_2 plw_2 p3 (by simp only [List.length_append, wchs_len]; omega)) (cwV 2 C.1.2.2.2.2 (goodV tm_5_170 tm_5_172 tp_48 tm_1_13 tm_5_173) rfl rfl rfl (by decide +kernel) ⟨by decide, by decide⟩) (by omega) pro_2 rfl rfl rfl (Nat.le_of_ble_eq_true rfl) dX12_type_24 rfl ⟨by decide, by decide⟩ (fun x_3 M3 q_3 => ?_)
  obtain ⟨e_3, pro_3, plw_3, F_3⟩ := q_3
  replace e_3 := e_3.symm
  subst e_3
  refine m_istore (pc' := 29) (lv' := [(6, .int (nI (((T ++ wchs p1 4) ++ wchs p2 4) ++ wchs p3 4).length)), (0, .ref (ad 52)), (1, .int (p1)), (2, .int (p2)), (3, .int (p3)), (4, .int (p4)), (5, .int (p5))]) C dX12_type_27 (by decide) rfl rfl ?_
  refine m_aload_n (pc' := 30) C dX12_type_29 rfl 1 rfl rfl ?_
  refine m_iload (pc' := 32) C dX12_type_30 5 rfl rfl ?_
  refine m_iload (pc' := 34) C dX12_type_32 0 rfl rfl ?_
  refine m_callVi (pc' := 37) (As := [.int (p4), .int (nI (((T ++ wchs p1 4) ++ wchs p2 4) ++ wchs p3 4).length)]) (rest := []) C (kX12_typed hI hn hn2 pro_3 plw_3 p4 (by simp only [List.length_append, wchs_len]; omega)) (cwV 2 C.1.2.2.2.2 (goodV tm_5_170 tm_5_172 tp_48 tm_1_13 tm_5_173) rfl rfl rfl (by decide +kernel) ⟨by decide, by decide⟩) (by omega) pro_3 rfl rfl rfl (Nat.le_of_ble_eq_true rfl) dX12_type_34 rfl ⟨by decide, by decide⟩ (fun x_4 M4 q_4 => ?_)
  obtain ⟨e_4, pro_4, plw_4, F_4⟩ := q_4
  replace e_4 := e_4.symm
  subst e_4
  refine m_istore (pc' := 39) (lv' := [(6, .int (nI ((((T ++ wchs p1 4) ++ wchs p2 4) ++ wchs p3 4) ++ wchs p4 4).length)), (0, .ref (ad 52)), (1, .int (p1)), (2, .int (p2)), (3, .int (p3)), (4, .int (p4)), (5, .int (p5))]) C dX12_type_37 (by decide) rfl rfl ?_
  refine m_aload_n (pc' := 40) C dX12_type_39 rfl 1 rfl rfl ?_
  refine m_iload (pc' := 42) C dX12_type_40 6 rfl rfl ?_
  refine m_iload (pc' := 44) C dX12_type_42 0 rfl rfl ?_
  refine m_callVi (pc' := 47) (As := [.int (p5), .int (nI ((((T ++ wchs p1 4) ++ wchs p2 4) ++ wchs p3 4) ++ wchs p4 4).length)]) (rest := []) C (kX12_typed hI hn hn2 pro_4 plw_4 p5 (by simp only [List.length_append, wchs_len]; omega)) (cwV 2 C.1.2.2.2.2 (goodV tm_5_170 tm_5_172 tp_48 tm_1_13 tm_5_173) rfl rfl rfl (by decide +kernel) ⟨by decide, by decide⟩) (by omega) pro_4 rfl rfl rfl (Nat.le_of_ble_eq_true rfl) dX12_type_44 rfl ⟨by decide, by decide⟩ (fun x_5 M5 q_5 => ?_)
  obtain ⟨e_5, pro_5, plw_5, F_5⟩ := q_5
  replace e_5 := e_5.symm
  subst e_5
  refine m_istore (pc' := 49) (lv' := [(6, .int (nI (((((T ++ wchs p1 4) ++ wchs p2 4) ++ wchs p3 4) ++ wchs p4 4) ++ wchs p5 4).length)), (0, .ref (ad 52)), (1, .int (p1)), (2, .int (p2)), (3, .int (p3)), (4, .int (p4)), (5, .int (p5))]) C dX12_type_47 (by decide) rfl rfl ?_
  have h5e : (((((T ++ wchs p1 4) ++ wchs p2 4) ++ wchs p3 4) ++ wchs p4 4) ++ wchs p5 4) = T ++ ty5 p1 p2 p3 p4 p5 := by unfold ty5; simp only [List.append_assoc]
  have h5l : (((((T ++ wchs p1 4) ++ wchs p2 4) ++ wchs p3 4) ++ wchs p4 4) ++ wchs p5 4).length = T.length + tn5 p1 p2 p3 p4 p5 := by rw [h5e, List.length_append, ty5_len]
  have h5b := tn5_le p1 p2 p3 p4 p5
  refine m_aload_n (pc' := 50) C dX12_type_49 rfl 1 rfl rfl ?_
  refine m_cut (σ := Int32) (fun a => a = nI (tyK T p1 p2 p3 p4 p5)) (fun a => M5) 62 (fun a => [(6, .int (nI (((((T ++ wchs p1 4) ++ wchs p2 4) ++ wchs p3 4) ++ wchs p4 4) ++ wchs p5 4).length)), (0, .ref (ad 52)), (1, .int (p1)), (2, .int (p2)), (3, .int (p3)), (4, .int (p4)), (5, .int (p5))]) (fun a => [.int (a), .ref (ad 52)]) ?_ (fun J62 => ?_)
  · rintro y9 hj
    try dsimp only at hj ⊢
    subst hj
    have hKb : tyK T p1 p2 p3 p4 p5 ≤ 2 := by unfold tyK; (repeat' split) <;> omega
    refine m_callVi (pc' := 65) (As := [.int (nI (tyK T p1 p2 p3 p4 p5))]) (rest := []) C (kX12_refused hI hn hn2 pro_5 (k := (tyK T p1 p2 p3 p4 p5)) (by omega)) (cwV 1 C.1.2.2.2.2 (goodV tm_5_174 tm_5_176 tp_49 tm_1_13 tm_5_177) rfl rfl rfl (by decide +kernel) ⟨by decide, by decide⟩) (by omega) pro_5 rfl rfl rfl (Nat.le_of_ble_eq_true rfl) dX12_type_62 rfl ⟨by decide, by decide⟩ (fun x_6 M6 q_6 => ?_)
    obtain ⟨e_6, pro_6, pf0_6, F_6⟩ := q_6
    replace e_6 := e_6.symm
    subst e_6
    refine m_if_eq (pc' := 68) (tgt := 70) C dX12_type_65 (by decide) rfl (fun c_65 => ?_) (fun c_65 => ?_)
    · have hK : tyK T p1 p2 p3 p4 p5 = 0 := by have := of_decide_eq_false ((bI_0 _).mp c_65); omega
      refine m_aload_n (pc' := 71) C dX12_type_70 rfl 1 rfl rfl ?_
      refine m_iload (pc' := 73) C dX12_type_71 0 rfl rfl ?_
      refine r_put (ty := .int) C hn hn2 pro_6 inW_X12 2 102 (by decide) rfl ⟨rfl, rfl, rfl, rfl⟩ (gW_of tm_5_52) (by decide +kernel) rfl rfl (fun _ => rfl) dX12_type_73 rfl (fun M7 go_7 g_7 F_7 => ?_)
      refine m_iload (pc' := 78) C dX12_type_76 0 rfl rfl ?_
      refine m_iret C hrt0 hlk0 rfl dX12_type_78 ?_
      have ff0_8 : M7 100 = gh (.int (nI (tyK T p1 p2 p3 p4 p5))) := (F_7 100 (by decide)).trans pf0_6
      have xlw_9 := plw_5.fr F_6 (by decide)
      have xlw_10 := xlw_9.fr F_7 (by decide)
      have hle9 : T.length + tn5 p1 p2 p3 p4 p5 ≤ 80 := by unfold tyK at hK; split at hK <;> omega
      have hln9 : isLn cy M7 (T ++ ty5 p1 p2 p3 p4 p5) := by rw [← h5e]; exact isLnW.to xlw_10 (by omega) g_7
      have xra_11 := hra.fr F_1 (by decide)
      have xra_12 := xra_11.fr F_2 (by decide)
      have xra_13 := xra_12.fr F_3 (by decide)
      have xra_14 := xra_13.fr F_4 (by decide)
      have xra_15 := xra_14.fr F_5 (by decide)
      have xra_16 := xra_15.fr F_6 (by decide)
      have xra_17 := xra_16.fr F_7 (by decide)
      have xoutR_18 := hout.fr F_1 (by decide)
      have xoutR_19 := xoutR_18.fr F_2 (by decide)
      have xoutR_20 := xoutR_19.fr F_3 (by decide)
      have xoutR_21 := xoutR_20.fr F_4 (by decide)
      have xoutR_22 := xoutR_21.fr F_5 (by decide)
      have xoutR_23 := xoutR_22.fr F_6 (by decide)
      have xoutR_24 := xoutR_23.fr F_7 (by decide)
      have xby_25 := hby.fr F_1 (by decide)
      have xby_26 := xby_25.fr F_2 (by decide)
      have xby_27 := xby_26.fr F_3 (by decide)
      have xby_28 := xby_27.fr F_4 (by decide)
      have xby_29 := xby_28.fr F_5 (by decide)
      have xby_30 := xby_29.fr F_6 (by decide)
      have xby_31 := xby_30.fr F_7 (by decide)
      have ff14_32 : M1 114 = gh (.int (fp)) := (F_1 114 (by decide)).trans h14
      have ff14_33 : M2 114 = gh (.int (fp)) := (F_2 114 (by decide)).trans ff14_32
      have ff14_34 : M3 114 = gh (.int (fp)) := (F_3 114 (by decide)).trans ff14_33
      have ff14_35 : M4 114 = gh (.int (fp)) := (F_4 114 (by decide)).trans ff14_34
      have ff14_36 : M5 114 = gh (.int (fp)) := (F_5 114 (by decide)).trans ff14_35
      have ff14_37 : M6 114 = gh (.int (fp)) := (F_6 114 (by decide)).trans ff14_36
      have ff14_38 : M7 114 = gh (.int (fp)) := (F_7 114 (by decide)).trans ff14_37
      have ff15_39 : M1 115 = gh (.int (ot)) := (F_1 115 (by decide)).trans h15
      have ff15_40 : M2 115 = gh (.int (ot)) := (F_2 115 (by decide)).trans ff15_39
      have ff15_41 : M3 115 = gh (.int (ot)) := (F_3 115 (by decide)).trans ff15_40
      have ff15_42 : M4 115 = gh (.int (ot)) := (F_4 115 (by decide)).trans ff15_41
      have ff15_43 : M5 115 = gh (.int (ot)) := (F_5 115 (by decide)).trans ff15_42
      have ff15_44 : M6 115 = gh (.int (ot)) := (F_6 115 (by decide)).trans ff15_43
      have ff15_45 : M7 115 = gh (.int (ot)) := (F_7 115 (by decide)).trans ff15_44
      have xrw_46 := hrw.fr F_1 (by decide)
      have xrw_47 := xrw_46.fr F_2 (by decide)
      have xrw_48 := xrw_47.fr F_3 (by decide)
      have xrw_49 := xrw_48.fr F_4 (by decide)
      have xrw_50 := xrw_49.fr F_5 (by decide)
      have xrw_51 := xrw_50.fr F_6 (by decide)
      have xrw_52 := xrw_51.fr F_7 (by decide)
      have xdg_53 := hdg.fr F_1 (by decide)
      have xdg_54 := xdg_53.fr F_2 (by decide)
      have xdg_55 := xdg_54.fr F_3 (by decide)
      have xdg_56 := xdg_55.fr F_4 (by decide)
      have xdg_57 := xdg_56.fr F_5 (by decide)
      have xdg_58 := xdg_57.fr F_6 (by decide)
      have xdg_59 := xdg_58.fr F_7 (by decide)
      have f62_60 : M1 62 = .inl (cy 1, 2000, .inl (fun i => nI (gf i))) := (F_1 62 (by decide)).trans hfd
      have f62_61 : M2 62 = .inl (cy 1, 2000, .inl (fun i => nI (gf i))) := (F_2 62 (by decide)).trans f62_60
      have f62_62 : M3 62 = .inl (cy 1, 2000, .inl (fun i => nI (gf i))) := (F_3 62 (by decide)).trans f62_61
      have f62_63 : M4 62 = .inl (cy 1, 2000, .inl (fun i => nI (gf i))) := (F_4 62 (by decide)).trans f62_62
      have f62_64 : M5 62 = .inl (cy 1, 2000, .inl (fun i => nI (gf i))) := (F_5 62 (by decide)).trans f62_63
      have f62_65 : M6 62 = .inl (cy 1, 2000, .inl (fun i => nI (gf i))) := (F_6 62 (by decide)).trans f62_64
      have f62_66 : M7 62 = .inl (cy 1, 2000, .inl (fun i => nI (gf i))) := (F_7 62 (by decide)).trans f62_65
      simp only [sel0 hK]
      exact ⟨(fun _ => by rw [h5l]), ff0_8, ⟨go_7, hln9, xra_17, xoutR_24, xby_31, ff14_38, ff15_45, ⟨_, xrw_52⟩, ⟨_, xdg_59⟩, ⟨_, f62_66⟩⟩, (((((((F_1.sub (by decide)).tr (F_2.sub (by decide))).tr (F_3.sub (by decide))).tr (F_4.sub (by decide))).tr (F_5.sub (by decide))).tr (F_6.sub (by decide))).tr (F_7.sub (by decide)))⟩
    · have hK : ¬ tyK T p1 p2 p3 p4 p5 = 0 := by have := of_decide_eq_true (ts_of c_65); omega
      refine m_iconst (pc' := 69) (v := nI 0) C dX12_type_68 (by decide) rfl ?_
      refine m_iret C hrt0 hlk0 rfl dX12_type_69 ?_
      have xlw_67 := plw_5.fr F_6 (by decide)
      have ff2_68 : M1 102 = gh (.int (nI T.length)) := (F_1 102 (by decide)).trans hln.2.2.1
      have ff2_69 : M2 102 = gh (.int (nI T.length)) := (F_2 102 (by decide)).trans ff2_68
      have ff2_70 : M3 102 = gh (.int (nI T.length)) := (F_3 102 (by decide)).trans ff2_69
      have ff2_71 : M4 102 = gh (.int (nI T.length)) := (F_4 102 (by decide)).trans ff2_70
      have ff2_72 : M5 102 = gh (.int (nI T.length)) := (F_5 102 (by decide)).trans ff2_71
      have ff2_73 : M6 102 = gh (.int (nI T.length)) := (F_6 102 (by decide)).trans ff2_72
      have hln9 : isLn cy M6 T := ty_back xlw_67 hln.2.2.2.1 ff2_73
      have xra_74 := hra.fr F_1 (by decide)
      have xra_75 := xra_74.fr F_2 (by decide)
      have xra_76 := xra_75.fr F_3 (by decide)
      have xra_77 := xra_76.fr F_4 (by decide)
      have xra_78 := xra_77.fr F_5 (by decide)
      have xra_79 := xra_78.fr F_6 (by decide)
      have xoutR_80 := hout.fr F_1 (by decide)
      have xoutR_81 := xoutR_80.fr F_2 (by decide)
      have xoutR_82 := xoutR_81.fr F_3 (by decide)
      have xoutR_83 := xoutR_82.fr F_4 (by decide)
      have xoutR_84 := xoutR_83.fr F_5 (by decide)
      have xoutR_85 := xoutR_84.fr F_6 (by decide)
      have xby_86 := hby.fr F_1 (by decide)
      have xby_87 := xby_86.fr F_2 (by decide)
      have xby_88 := xby_87.fr F_3 (by decide)
      have xby_89 := xby_88.fr F_4 (by decide)
      have xby_90 := xby_89.fr F_5 (by decide)
      have xby_91 := xby_90.fr F_6 (by decide)
      have ff14_92 : M1 114 = gh (.int (fp)) := (F_1 114 (by decide)).trans h14
      have ff14_93 : M2 114 = gh (.int (fp)) := (F_2 114 (by decide)).trans ff14_92
      have ff14_94 : M3 114 = gh (.int (fp)) := (F_3 114 (by decide)).trans ff14_93
      have ff14_95 : M4 114 = gh (.int (fp)) := (F_4 114 (by decide)).trans ff14_94
      have ff14_96 : M5 114 = gh (.int (fp)) := (F_5 114 (by decide)).trans ff14_95
      have ff14_97 : M6 114 = gh (.int (fp)) := (F_6 114 (by decide)).trans ff14_96
      have ff15_98 : M1 115 = gh (.int (ot)) := (F_1 115 (by decide)).trans h15
      have ff15_99 : M2 115 = gh (.int (ot)) := (F_2 115 (by decide)).trans ff15_98
      have ff15_100 : M3 115 = gh (.int (ot)) := (F_3 115 (by decide)).trans ff15_99
      have ff15_101 : M4 115 = gh (.int (ot)) := (F_4 115 (by decide)).trans ff15_100
      have ff15_102 : M5 115 = gh (.int (ot)) := (F_5 115 (by decide)).trans ff15_101
      have ff15_103 : M6 115 = gh (.int (ot)) := (F_6 115 (by decide)).trans ff15_102
      have xrw_104 := hrw.fr F_1 (by decide)
      have xrw_105 := xrw_104.fr F_2 (by decide)
      have xrw_106 := xrw_105.fr F_3 (by decide)
      have xrw_107 := xrw_106.fr F_4 (by decide)
      have xrw_108 := xrw_107.fr F_5 (by decide)
      have xrw_109 := xrw_108.fr F_6 (by decide)
      have xdg_110 := hdg.fr F_1 (by decide)
      have xdg_111 := xdg_110.fr F_2 (by decide)
      have xdg_112 := xdg_111.fr F_3 (by decide)
      have xdg_113 := xdg_112.fr F_4 (by decide)
      have xdg_114 := xdg_113.fr F_5 (by decide)
      have xdg_115 := xdg_114.fr F_6 (by decide)
      have f62_116 : M1 62 = .inl (cy 1, 2000, .inl (fun i => nI (gf i))) := (F_1 62 (by decide)).trans hfd
      have f62_117 : M2 62 = .inl (cy 1, 2000, .inl (fun i => nI (gf i))) := (F_2 62 (by decide)).trans f62_116
      have f62_118 : M3 62 = .inl (cy 1, 2000, .inl (fun i => nI (gf i))) := (F_3 62 (by decide)).trans f62_117
      have f62_119 : M4 62 = .inl (cy 1, 2000, .inl (fun i => nI (gf i))) := (F_4 62 (by decide)).trans f62_118
      have f62_120 : M5 62 = .inl (cy 1, 2000, .inl (fun i => nI (gf i))) := (F_5 62 (by decide)).trans f62_119
      have f62_121 : M6 62 = .inl (cy 1, 2000, .inl (fun i => nI (gf i))) := (F_6 62 (by decide)).trans f62_120
      simp only [sel1 hK]
      exact ⟨(fun q => absurd q hK), pf0_6, ⟨pro_6, hln9, xra_79, xoutR_85, xby_91, ff14_97, ff15_103, ⟨_, xrw_109⟩, ⟨_, xdg_115⟩, ⟨_, f62_121⟩⟩, ((((((F_1.sub (by decide)).tr (F_2.sub (by decide))).tr (F_3.sub (by decide))).tr (F_4.sub (by decide))).tr (F_5.sub (by decide))).tr (F_6.sub (by decide)))⟩
  refine m_iload (pc' := 52) C dX12_type_50 0 rfl rfl ?_
  refine m_bipush (pc' := 54) (v := nI 80) C dX12_type_52 (by decide) rfl ?_
  refine m_icmp_le (pc' := 57) (tgt := 61) C dX12_type_54 (by decide) rfl (fun c_54 => ?_) (fun c_54 => ?_)
  · have n_54 : ((((((T ++ wchs p1 4) ++ wchs p2 4) ++ wchs p3 4) ++ wchs p4 4) ++ wchs p5 4).length) ≤ 80 := (nI_leI (by omega) (by omega)).mp c_54
    refine m_iconst (pc' := 62) (v := nI 0) C dX12_type_61 (by decide) rfl ?_
    refine m_lv [0, 1, 2, 3, 4, 5, 6] rfl ?_
    exact J62 (nI 0) (by unfold tyK; rw [if_neg (by omega)])
  · have n_54 : 80 < ((((((T ++ wchs p1 4) ++ wchs p2 4) ++ wchs p3 4) ++ wchs p4 4) ++ wchs p5 4).length) := Nat.lt_of_not_le (fun q => c_54 ((nI_leI (by omega) (by omega)).mpr q))
    refine m_iconst (pc' := 58) (v := nI 1) C dX12_type_57 (by decide) rfl ?_
    refine m_goto (tgt := 62) C dX12_type_58 (by decide) ?_
    refine m_lv [0, 1, 2, 3, 4, 5, 6] rfl ?_
    exact J62 (nI 1) (by unfold tyK; rw [if_pos (by omega)])
set_option maxHeartbeats 4000000 in
set_option maxRecDepth 100000 in
theorem kX12_erase {l : Launch} {D : va_G} {cy : Nat → ClassId} {ad : Nat → Nat} {n : Nat} {A : Nat → Prop} (hI : mI ad n A) {M : Nat → va_E} (hn : 63 ≤ n) (hn2 : n ≤ 100) {T : List Nat} {xs : Nat → Arg} {cnt lim : Nat} {O B : List Nat} {fp ot : Int32} (hM : isM cy ad M T xs cnt lim O B fp ot)  : mMi l yX12_erase (gW yX12_erase cX12_erase 2 (some .int)) { frames := 0, cells := 0, slots := 0, locals := 0 } D cy ad n A [.ref (ad 52)] M (fun res M' => res = nI T.length ∧ M' 100 = gh (.int (nI (0))) ∧ isM cy ad M' ([]) xs cnt lim O B fp ot ∧ Fr refS M M') := by
  obtain ⟨hro, hln, hra, hout, hby, h14, h15, ⟨W, hrw⟩, ⟨L, hdg⟩, gf, hfd⟩ := hM
  refine m_entry (cc := cX12_erase) (maxL := 2) (ret := (some .int)) (own := RX12) (lv := [(0, .ref (ad 52))]) hI (by decide) rfl rfl (Nat.le_of_ble_eq_true rfl) rfl (fun pX eX sX mX aX bX tX cX C hrt0 hlk0 => ?_)
  refine m_aload_n (pc' := 1) C dX12_erase_0 rfl 0 rfl rfl ?_
  refine m_iconst (pc' := 2) (v := nI 0) C dX12_erase_1 (by decide) rfl ?_
  refine r_put (ty := .int) C hn hn2 hro inW_X12 0 100 (by decide) rfl ⟨rfl, rfl, rfl, rfl⟩ (gW_of tm_5_50) (by decide +kernel) rfl rfl (fun _ => rfl) dX12_erase_2 rfl (fun M1 go_1 g_1 F_1 => ?_)
  refine m_aload_n (pc' := 6) C dX12_erase_5 rfl 0 rfl rfl ?_
  have ff2_2 : M1 102 = gh (.int (nI T.length)) := (F_1 102 (by decide)).trans hln.2.2.1
  refine r_get C hn go_1 inW_X12 2 (by decide) ⟨rfl, rfl, rfl⟩ (gW_of tm_5_52) (r_at 2 rfl ff2_2) dX12_erase_6 rfl ?_
  refine m_istore_n (pc' := 10) (lv' := [(1, .int (nI T.length)), (0, .ref (ad 52))]) C dX12_erase_9 rfl (by decide) rfl rfl ?_
  refine m_aload_n (pc' := 11) C dX12_erase_10 rfl 1 rfl rfl ?_
  refine m_iconst (pc' := 12) (v := nI 0) C dX12_erase_11 (by decide) rfl ?_
  refine r_put (ty := .int) C hn hn2 go_1 inW_X12 2 102 (by decide) rfl ⟨rfl, rfl, rfl, rfl⟩ (gW_of tm_5_52) (by decide +kernel) rfl rfl (fun _ => rfl) dX12_erase_12 rfl (fun M3 go_3 g_3 F_3 => ?_)
  refine m_iload_n (pc' := 16) C dX12_erase_15 rfl 0 rfl rfl ?_
  refine m_iret C hrt0 hlk0 rfl dX12_erase_16 ?_
  have hln9 : isLn cy M3 [] := isLn.nil hln (S := [52, 100, 102]) ((F_1.sub (by decide)).tr (F_3.sub (by decide))) (by decide) g_3
  have xra_4 := hra.fr F_1 (by decide)
  have xra_5 := xra_4.fr F_3 (by decide)
  have xoutR_6 := hout.fr F_1 (by decide)
  have xoutR_7 := xoutR_6.fr F_3 (by decide)
  have xby_8 := hby.fr F_1 (by decide)
  have xby_9 := xby_8.fr F_3 (by decide)
  have ff14_10 : M1 114 = gh (.int (fp)) := (F_1 114 (by decide)).trans h14
  have ff14_11 : M3 114 = gh (.int (fp)) := (F_3 114 (by decide)).trans ff14_10
  have ff15_12 : M1 115 = gh (.int (ot)) := (F_1 115 (by decide)).trans h15
  have ff15_13 : M3 115 = gh (.int (ot)) := (F_3 115 (by decide)).trans ff15_12
  have xrw_14 := hrw.fr F_1 (by decide)
  have xrw_15 := xrw_14.fr F_3 (by decide)
  have xdg_16 := hdg.fr F_1 (by decide)
  have xdg_17 := xdg_16.fr F_3 (by decide)
  have f62_18 : M1 62 = .inl (cy 1, 2000, .inl (fun i => nI (gf i))) := (F_1 62 (by decide)).trans hfd
  have f62_19 : M3 62 = .inl (cy 1, 2000, .inl (fun i => nI (gf i))) := (F_3 62 (by decide)).trans f62_18
  have ff0_20 : M3 100 = gh (.int (nI 0)) := (F_3 100 (by decide)).trans g_1
  exact ⟨rfl, ff0_20, ⟨go_3, hln9, xra_5, xoutR_7, xby_9, ff14_11, ff15_13, ⟨_, xrw_15⟩, ⟨_, xdg_17⟩, ⟨_, f62_19⟩⟩, ((F_1.sub (by decide)).tr (F_3.sub (by decide)))⟩
set_option maxHeartbeats 4000000 in
set_option maxRecDepth 100000 in
theorem kX12_none {l : Launch} {D : va_G} {cy : Nat → ClassId} {ad : Nat → Nat} {n : Nat} {A : Nat → Prop} (hI : mI ad n A) {M : Nat → va_E} (hn : 63 ≤ n) (hn2 : n ≤ 100) {T : List Nat} {xs : Nat → Arg} {cnt lim : Nat} {O B : List Nat} {fp ot : Int32} (hM : isM cy ad M T xs cnt lim O B fp ot)  : mMi l yX12_none (gW yX12_none cX12_none 2 (some .int)) { frames := 0, cells := 0, slots := 0, locals := 0 } D cy ad n A [.ref (ad 52)] M (fun res M' => res = nI cnt ∧ M' 100 = gh (.int (nI (0))) ∧ isM cy ad M' T xs 0 lim O B fp ot ∧ Fr refS M M') := by
  obtain ⟨hro, hln, hra, hout, hby, h14, h15, ⟨W, hrw⟩, ⟨L, hdg⟩, gf, hfd⟩ := hM
  refine m_entry (cc := cX12_none) (maxL := 2) (ret := (some .int)) (own := RX12) (lv := [(0, .ref (ad 52))]) hI (by decide) rfl rfl (Nat.le_of_ble_eq_true rfl) rfl (fun pX eX sX mX aX bX tX cX C hrt0 hlk0 => ?_)
  refine m_aload_n (pc' := 1) C dX12_none_0 rfl 0 rfl rfl ?_
  refine m_iconst (pc' := 2) (v := nI 0) C dX12_none_1 (by decide) rfl ?_
  refine r_put (ty := .int) C hn hn2 hro inW_X12 0 100 (by decide) rfl ⟨rfl, rfl, rfl, rfl⟩ (gW_of tm_5_50) (by decide +kernel) rfl rfl (fun _ => rfl) dX12_none_2 rfl (fun M1 go_1 g_1 F_1 => ?_)
  refine m_aload_n (pc' := 6) C dX12_none_5 rfl 0 rfl rfl ?_
  have ff3_2 : M1 103 = gh (.int (nI cnt)) := (F_1 103 (by decide)).trans hra.2.1
  refine r_get C hn go_1 inW_X12 3 (by decide) ⟨rfl, rfl, rfl⟩ (gW_of tm_5_53) (r_at 3 rfl ff3_2) dX12_none_6 rfl ?_
  refine m_istore_n (pc' := 10) (lv' := [(1, .int (nI cnt)), (0, .ref (ad 52))]) C dX12_none_9 rfl (by decide) rfl rfl ?_
  refine m_aload_n (pc' := 11) C dX12_none_10 rfl 1 rfl rfl ?_
  refine m_iconst (pc' := 12) (v := nI 0) C dX12_none_11 (by decide) rfl ?_
  refine r_put (ty := .int) C hn hn2 go_1 inW_X12 3 103 (by decide) rfl ⟨rfl, rfl, rfl, rfl⟩ (gW_of tm_5_53) (by decide +kernel) rfl rfl (fun _ => rfl) dX12_none_12 rfl (fun M3 go_3 g_3 F_3 => ?_)
  refine m_iload_n (pc' := 16) C dX12_none_15 rfl 0 rfl rfl ?_
  refine m_iret C hrt0 hlk0 rfl dX12_none_16 ?_
  have hra9 : isRA cy M3 xs 0 := isRA.nil hra (S := [52, 100, 103]) ((F_1.sub (by decide)).tr (F_3.sub (by decide))) (by decide) g_3
  have xln_4 := hln.fr F_1 (by decide)
  have xln_5 := xln_4.fr F_3 (by decide)
  have xoutR_6 := hout.fr F_1 (by decide)
  have xoutR_7 := xoutR_6.fr F_3 (by decide)
  have xby_8 := hby.fr F_1 (by decide)
  have xby_9 := xby_8.fr F_3 (by decide)
  have ff14_10 : M1 114 = gh (.int (fp)) := (F_1 114 (by decide)).trans h14
  have ff14_11 : M3 114 = gh (.int (fp)) := (F_3 114 (by decide)).trans ff14_10
  have ff15_12 : M1 115 = gh (.int (ot)) := (F_1 115 (by decide)).trans h15
  have ff15_13 : M3 115 = gh (.int (ot)) := (F_3 115 (by decide)).trans ff15_12
  have xrw_14 := hrw.fr F_1 (by decide)
  have xrw_15 := xrw_14.fr F_3 (by decide)
  have xdg_16 := hdg.fr F_1 (by decide)
  have xdg_17 := xdg_16.fr F_3 (by decide)
  have f62_18 : M1 62 = .inl (cy 1, 2000, .inl (fun i => nI (gf i))) := (F_1 62 (by decide)).trans hfd
  have f62_19 : M3 62 = .inl (cy 1, 2000, .inl (fun i => nI (gf i))) := (F_3 62 (by decide)).trans f62_18
  have ff0_20 : M3 100 = gh (.int (nI 0)) := (F_3 100 (by decide)).trans g_1
  exact ⟨rfl, ff0_20, ⟨go_3, xln_5, hra9, xoutR_7, xby_9, ff14_11, ff15_13, ⟨_, xrw_15⟩, ⟨_, xdg_17⟩, ⟨_, f62_19⟩⟩, ((F_1.sub (by decide)).tr (F_3.sub (by decide)))⟩
set_option maxHeartbeats 4000000 in
set_option maxRecDepth 100000 in
theorem kX12_odd {l : Launch} {D : va_G} {cy : Nat → ClassId} {ad : Nat → Nat} {n : Nat} {A : Nat → Prop} (hI : mI ad n A) {M : Nat → va_E} (hn : 63 ≤ n) (hn2 : n ≤ 100) {T : List Nat} {xs : Nat → Arg} {cnt lim : Nat} {O B : List Nat} {fp ot : Int32} (hM : isM cy ad M T xs cnt lim O B fp ot)  : mMi l yX12_odd (gW yX12_odd cX12_odd 1 (some .int)) { frames := 0, cells := 0, slots := 0, locals := 0 } D cy ad n A [.ref (ad 52)] M (fun res M' => res = ot ∧ M' 100 = gh (.int (nI (0))) ∧ isM cy ad M' T xs cnt lim O B fp ot ∧ Fr refS M M') := by
  obtain ⟨hro, hln, hra, hout, hby, h14, h15, ⟨W, hrw⟩, ⟨L, hdg⟩, gf, hfd⟩ := hM
  refine m_entry (cc := cX12_odd) (maxL := 1) (ret := (some .int)) (own := RX12) (lv := [(0, .ref (ad 52))]) hI (by decide) rfl rfl (Nat.le_of_ble_eq_true rfl) rfl (fun pX eX sX mX aX bX tX cX C hrt0 hlk0 => ?_)
  refine m_aload_n (pc' := 1) C dX12_odd_0 rfl 0 rfl rfl ?_
  refine m_iconst (pc' := 2) (v := nI 0) C dX12_odd_1 (by decide) rfl ?_
  refine r_put (ty := .int) C hn hn2 hro inW_X12 0 100 (by decide) rfl ⟨rfl, rfl, rfl, rfl⟩ (gW_of tm_5_50) (by decide +kernel) rfl rfl (fun _ => rfl) dX12_odd_2 rfl (fun M1 go_1 g_1 F_1 => ?_)
  refine m_aload_n (pc' := 6) C dX12_odd_5 rfl 0 rfl rfl ?_
  have ff15_2 : M1 115 = gh (.int (ot)) := (F_1 115 (by decide)).trans h15
  refine r_get C hn go_1 inW_X12 15 (by decide) ⟨rfl, rfl, rfl⟩ (gW_of tm_5_65) (r_at 15 rfl ff15_2) dX12_odd_6 rfl ?_
  refine m_iret C hrt0 hlk0 rfl dX12_odd_9 ?_
  have xln_3 := hln.fr F_1 (by decide)
  have xra_4 := hra.fr F_1 (by decide)
  have xoutR_5 := hout.fr F_1 (by decide)
  have xby_6 := hby.fr F_1 (by decide)
  have ff14_7 : M1 114 = gh (.int (fp)) := (F_1 114 (by decide)).trans h14
  have xrw_8 := hrw.fr F_1 (by decide)
  have xdg_9 := hdg.fr F_1 (by decide)
  have f62_10 : M1 62 = .inl (cy 1, 2000, .inl (fun i => nI (gf i))) := (F_1 62 (by decide)).trans hfd
  exact ⟨rfl, g_1, ⟨go_1, xln_3, xra_4, xoutR_5, xby_6, ff14_7, ff15_2, ⟨_, xrw_8⟩, ⟨_, xdg_9⟩, ⟨_, f62_10⟩⟩, (F_1.sub (by decide))⟩
set_option maxHeartbeats 4000000 in
set_option maxRecDepth 100000 in
theorem kX12_place {l : Launch} {D : va_G} {cy : Nat → ClassId} {ad : Nat → Nat} {n : Nat} {A : Nat → Prop} (hI : mI ad n A) {M : Nat → va_E} (hn : 63 ≤ n) (hn2 : n ≤ 100) {T : List Nat} {xs : Nat → Arg} {cnt lim : Nat} {O B : List Nat} {fp ot : Int32} (hM : isM cy ad M T xs cnt lim O B fp ot)  : mMi l yX12_place (gW yX12_place cX12_place 1 (some .int)) { frames := 0, cells := 0, slots := 0, locals := 0 } D cy ad n A [.ref (ad 52)] M (fun res M' => res = fp ∧ M' 100 = gh (.int (nI (0))) ∧ isM cy ad M' T xs cnt lim O B fp ot ∧ Fr refS M M') := by
  obtain ⟨hro, hln, hra, hout, hby, h14, h15, ⟨W, hrw⟩, ⟨L, hdg⟩, gf, hfd⟩ := hM
  refine m_entry (cc := cX12_place) (maxL := 1) (ret := (some .int)) (own := RX12) (lv := [(0, .ref (ad 52))]) hI (by decide) rfl rfl (Nat.le_of_ble_eq_true rfl) rfl (fun pX eX sX mX aX bX tX cX C hrt0 hlk0 => ?_)
  refine m_aload_n (pc' := 1) C dX12_place_0 rfl 0 rfl rfl ?_
  refine m_iconst (pc' := 2) (v := nI 0) C dX12_place_1 (by decide) rfl ?_
  refine r_put (ty := .int) C hn hn2 hro inW_X12 0 100 (by decide) rfl ⟨rfl, rfl, rfl, rfl⟩ (gW_of tm_5_50) (by decide +kernel) rfl rfl (fun _ => rfl) dX12_place_2 rfl (fun M1 go_1 g_1 F_1 => ?_)
  refine m_aload_n (pc' := 6) C dX12_place_5 rfl 0 rfl rfl ?_
  have ff14_2 : M1 114 = gh (.int (fp)) := (F_1 114 (by decide)).trans h14
  refine r_get C hn go_1 inW_X12 14 (by decide) ⟨rfl, rfl, rfl⟩ (gW_of tm_5_64) (r_at 14 rfl ff14_2) dX12_place_6 rfl ?_
  refine m_iret C hrt0 hlk0 rfl dX12_place_9 ?_
  have xln_3 := hln.fr F_1 (by decide)
  have xra_4 := hra.fr F_1 (by decide)
  have xoutR_5 := hout.fr F_1 (by decide)
  have xby_6 := hby.fr F_1 (by decide)
  have ff15_7 : M1 115 = gh (.int (ot)) := (F_1 115 (by decide)).trans h15
  have xrw_8 := hrw.fr F_1 (by decide)
  have xdg_9 := hdg.fr F_1 (by decide)
  have f62_10 : M1 62 = .inl (cy 1, 2000, .inl (fun i => nI (gf i))) := (F_1 62 (by decide)).trans hfd
  exact ⟨rfl, g_1, ⟨go_1, xln_3, xra_4, xoutR_5, xby_6, ff14_2, ff15_7, ⟨_, xrw_8⟩, ⟨_, xdg_9⟩, ⟨_, f62_10⟩⟩, (F_1.sub (by decide))⟩
set_option maxHeartbeats 4000000 in
set_option maxRecDepth 100000 in
theorem kX12_output {l : Launch} {D : va_G} {cy : Nat → ClassId} {ad : Nat → Nat} {n : Nat} {A : Nat → Prop} (hI : mI ad n A) {M : Nat → va_E} (hn : 63 ≤ n) (hn2 : n ≤ 100) {T : List Nat} {xs : Nat → Arg} {cnt lim : Nat} {O B : List Nat} {fp ot : Int32} (hM : isM cy ad M T xs cnt lim O B fp ot) (x : Int32) : mMi l yX12_output (gW yX12_output cX12_output 2 (some .int)) { frames := 1, cells := 0, slots := 0, locals := 22 } D cy ad n A [.ref (ad 52), .int x] M (fun res M' => res = rowAt O x ∧ M' 100 = gh (.int (nI (0))) ∧ isM cy ad M' T xs cnt lim O B fp ot ∧ Fr refS M M') := by
  obtain ⟨hro, hln, hra, hout, hby, h14, h15, ⟨W, hrw⟩, ⟨L, hdg⟩, gf, hfd⟩ := hM
  obtain ⟨h1, h0, h2, -, -, -, h6, g, h7, h8⟩ := id hout
  refine m_entry (cc := cX12_output) (maxL := 2) (ret := (some .int)) (own := RX12) (lv := [(0, .ref (ad 52)), (1, .int (x))]) hI (by decide) rfl rfl (Nat.le_of_ble_eq_true rfl) rfl (fun pX eX sX mX aX bX tX cX C hrt0 hlk0 => ?_)
  refine m_aload_n (pc' := 1) C dX12_output_0 rfl 0 rfl rfl ?_
  refine m_iconst (pc' := 2) (v := nI 0) C dX12_output_1 (by decide) rfl ?_
  refine r_put (ty := .int) C hn hn2 hro inW_X12 0 100 (by decide) rfl ⟨rfl, rfl, rfl, rfl⟩ (gW_of tm_5_50) (by decide +kernel) rfl rfl (fun _ => rfl) dX12_output_2 rfl (fun M1 go_1 g_1 F_1 => ?_)
  refine m_iload_n (pc' := 6) C dX12_output_5 rfl 1 rfl rfl ?_
  refine m_iconst (pc' := 7) (v := 0) C dX12_output_6 (by decide) rfl ?_
  refine m_aload_n (pc' := 8) C dX12_output_7 rfl 0 rfl rfl ?_
  have ff11_2 : M1 111 = gh (.int (nI O.length)) := (F_1 111 (by decide)).trans hout.2.2.2.2.1
  refine r_get C hn go_1 inW_X12 11 (by decide) ⟨rfl, rfl, rfl⟩ (gW_of tm_5_61) (r_at 11 rfl ff11_2) dX12_output_8 rfl ?_
  refine m_iconst (pc' := 12) (v := nI 1) C dX12_output_11 (by decide) rfl ?_
  refine m_isub (pc' := 13) (v := (nI O.length) - (nI 1)) C dX12_output_12 rfl rfl ?_
  refine m_callSi (pc' := 16) (As := [.int (x), .int (0), .int ((nI O.length) - (nI 1))]) (rest := []) C (kX12_isIn hI x 0 ((nI O.length) - (nI 1))) (cwS 3 C.1.2.2.2.2 (goodS tm_5_198 tm_5_199 tm_1_13 tm_5_200) rfl rfl rfl (by decide +kernel) ⟨by decide, by decide⟩) rfl rfl (Nat.le_of_ble_eq_true rfl) dX12_output_13 rfl ⟨by decide, by decide⟩ (fun x_3 N_3 q_3 => ?_)
  obtain ⟨e_3, E_3⟩ := q_3
  replace E_3 := E_3.symm
  subst E_3
  replace e_3 := e_3.symm
  subst e_3
  refine m_if_eq (pc' := 19) (tgt := 28) C dX12_output_16 (by decide) rfl (fun c_16 => ?_) (fun c_16 => ?_)
  · have hq := of_decide_eq_false ((bI_0 _).mp c_16)
    rw [in_size (by omega)] at hq
    refine m_iconst (pc' := 29) (v := (-1)) C dX12_output_28 (by decide) rfl ?_
    refine m_iret C hrt0 hlk0 rfl dX12_output_29 ?_
    have xln_4 := hln.fr F_1 (by decide)
    have xra_5 := hra.fr F_1 (by decide)
    have xoutR_6 := hout.fr F_1 (by decide)
    have xby_7 := hby.fr F_1 (by decide)
    have ff14_8 : M1 114 = gh (.int (fp)) := (F_1 114 (by decide)).trans h14
    have ff15_9 : M1 115 = gh (.int (ot)) := (F_1 115 (by decide)).trans h15
    have xrw_10 := hrw.fr F_1 (by decide)
    have xdg_11 := hdg.fr F_1 (by decide)
    have f62_12 : M1 62 = .inl (cy 1, 2000, .inl (fun i => nI (gf i))) := (F_1 62 (by decide)).trans hfd
    exact ⟨(by unfold rowAt; rw [if_neg hq]), g_1, ⟨go_1, xln_4, xra_5, xoutR_6, xby_7, ff14_8, ff15_9, ⟨_, xrw_10⟩, ⟨_, xdg_11⟩, ⟨_, f62_12⟩⟩, (F_1.sub (by decide))⟩
  · have hq := of_decide_eq_true (ts_of c_16)
    rw [in_size (by omega)] at hq
    have hxe := of_nn (Int32.not_lt.mpr hq.1)
    have hxl : cl x < O.length := by have h9 := hq.2; rw [hxe] at h9; exact (nI_ltI (clamp_lt x) (by omega)).mp h9
    refine m_aload_n (pc' := 20) C dX12_output_19 rfl 0 rfl rfl ?_
    refine r_get C hn go_1 inW_X12 12 (by decide) ⟨rfl, rfl, rfl⟩ (gW_of tm_5_62) rfl dX12_output_20 rfl ?_
    refine m_iload_n (pc' := 24) C dX12_output_23 rfl 1 rfl rfl ?_
    have f59_13 : M1 59 = .inl (cy 0, 2000, .inl (fun i => nI (g i))) := (F_1 59 (by decide)).trans h7
    refine m_cald (pc' := 25) (v := nI (O.getD (cl x) 0)) C 59 (by omega) f59_13 (by rw [hxe]; exact vp_in_nI (by omega) (by decide)) (by show nI (g (cl x)) = _; rw [h8 _ hxl]) dX12_output_24 rfl ?_
    refine m_goto (tgt := 29) C dX12_output_25 (by decide) ?_
    refine m_iret C hrt0 hlk0 rfl dX12_output_29 ?_
    have xln_14 := hln.fr F_1 (by decide)
    have xra_15 := hra.fr F_1 (by decide)
    have xoutR_16 := hout.fr F_1 (by decide)
    have xby_17 := hby.fr F_1 (by decide)
    have ff14_18 : M1 114 = gh (.int (fp)) := (F_1 114 (by decide)).trans h14
    have ff15_19 : M1 115 = gh (.int (ot)) := (F_1 115 (by decide)).trans h15
    have xrw_20 := hrw.fr F_1 (by decide)
    have xdg_21 := hdg.fr F_1 (by decide)
    have f62_22 : M1 62 = .inl (cy 1, 2000, .inl (fun i => nI (gf i))) := (F_1 62 (by decide)).trans hfd
    exact ⟨(by unfold rowAt; rw [if_pos hq]), g_1, ⟨go_1, xln_14, xra_15, xoutR_16, xby_17, ff14_18, ff15_19, ⟨_, xrw_20⟩, ⟨_, xdg_21⟩, ⟨_, f62_22⟩⟩, (F_1.sub (by decide))⟩
set_option maxHeartbeats 4000000 in
set_option maxRecDepth 100000 in
theorem kX12_data {l : Launch} {D : va_G} {cy : Nat → ClassId} {ad : Nat → Nat} {n : Nat} {A : Nat → Prop} (hI : mI ad n A) {M : Nat → va_E} (hn : 63 ≤ n) (hn2 : n ≤ 100) {T : List Nat} {xs : Nat → Arg} {cnt lim : Nat} {O B : List Nat} {fp ot : Int32} (hM : isM cy ad M T xs cnt lim O B fp ot) (x : Int32) : mMi l yX12_data (gW yX12_data cX12_data 2 (some .int)) { frames := 1, cells := 0, slots := 0, locals := 22 } D cy ad n A [.ref (ad 52), .int x] M (fun res M' => res = rowAt B x ∧ M' 100 = gh (.int (nI (0))) ∧ isM cy ad M' T xs cnt lim O B fp ot ∧ Fr refS M M') := by
  obtain ⟨hro, hln, hra, hout, hby, h14, h15, ⟨W, hrw⟩, ⟨L, hdg⟩, gf, hfd⟩ := hM
  obtain ⟨h2, -, h6, g, h7, h8⟩ := id hby
  refine m_entry (cc := cX12_data) (maxL := 2) (ret := (some .int)) (own := RX12) (lv := [(0, .ref (ad 52)), (1, .int (x))]) hI (by decide) rfl rfl (Nat.le_of_ble_eq_true rfl) rfl (fun pX eX sX mX aX bX tX cX C hrt0 hlk0 => ?_)
  refine m_aload_n (pc' := 1) C dX12_data_0 rfl 0 rfl rfl ?_
  refine m_iconst (pc' := 2) (v := nI 0) C dX12_data_1 (by decide) rfl ?_
  refine r_put (ty := .int) C hn hn2 hro inW_X12 0 100 (by decide) rfl ⟨rfl, rfl, rfl, rfl⟩ (gW_of tm_5_50) (by decide +kernel) rfl rfl (fun _ => rfl) dX12_data_2 rfl (fun M1 go_1 g_1 F_1 => ?_)
  refine m_iload_n (pc' := 6) C dX12_data_5 rfl 1 rfl rfl ?_
  refine m_iconst (pc' := 7) (v := 0) C dX12_data_6 (by decide) rfl ?_
  refine m_aload_n (pc' := 8) C dX12_data_7 rfl 0 rfl rfl ?_
  have ff8_2 : M1 108 = gh (.int (nI B.length)) := (F_1 108 (by decide)).trans hby.2.1
  refine r_get C hn go_1 inW_X12 8 (by decide) ⟨rfl, rfl, rfl⟩ (gW_of tm_5_58) (r_at 8 rfl ff8_2) dX12_data_8 rfl ?_
  refine m_iconst (pc' := 12) (v := nI 1) C dX12_data_11 (by decide) rfl ?_
  refine m_isub (pc' := 13) (v := (nI B.length) - (nI 1)) C dX12_data_12 rfl rfl ?_
  refine m_callSi (pc' := 16) (As := [.int (x), .int (0), .int ((nI B.length) - (nI 1))]) (rest := []) C (kX12_isIn hI x 0 ((nI B.length) - (nI 1))) (cwS 3 C.1.2.2.2.2 (goodS tm_5_198 tm_5_199 tm_1_13 tm_5_200) rfl rfl rfl (by decide +kernel) ⟨by decide, by decide⟩) rfl rfl (Nat.le_of_ble_eq_true rfl) dX12_data_13 rfl ⟨by decide, by decide⟩ (fun x_3 N_3 q_3 => ?_)
  obtain ⟨e_3, E_3⟩ := q_3
  replace E_3 := E_3.symm
  subst E_3
  replace e_3 := e_3.symm
  subst e_3
  refine m_if_eq (pc' := 19) (tgt := 28) C dX12_data_16 (by decide) rfl (fun c_16 => ?_) (fun c_16 => ?_)
  · have hq := of_decide_eq_false ((bI_0 _).mp c_16)
    rw [in_size (by omega)] at hq
    refine m_iconst (pc' := 29) (v := (-1)) C dX12_data_28 (by decide) rfl ?_
    refine m_iret C hrt0 hlk0 rfl dX12_data_29 ?_
    have xln_4 := hln.fr F_1 (by decide)
    have xra_5 := hra.fr F_1 (by decide)
    have xoutR_6 := hout.fr F_1 (by decide)
    have xby_7 := hby.fr F_1 (by decide)
    have ff14_8 : M1 114 = gh (.int (fp)) := (F_1 114 (by decide)).trans h14
    have ff15_9 : M1 115 = gh (.int (ot)) := (F_1 115 (by decide)).trans h15
    have xrw_10 := hrw.fr F_1 (by decide)
    have xdg_11 := hdg.fr F_1 (by decide)
    have f62_12 : M1 62 = .inl (cy 1, 2000, .inl (fun i => nI (gf i))) := (F_1 62 (by decide)).trans hfd
    exact ⟨(by unfold rowAt; rw [if_neg hq]), g_1, ⟨go_1, xln_4, xra_5, xoutR_6, xby_7, ff14_8, ff15_9, ⟨_, xrw_10⟩, ⟨_, xdg_11⟩, ⟨_, f62_12⟩⟩, (F_1.sub (by decide))⟩
  · have hq := of_decide_eq_true (ts_of c_16)
    rw [in_size (by omega)] at hq
    have hxe := of_nn (Int32.not_lt.mpr hq.1)
    have hxl : cl x < B.length := by have h9 := hq.2; rw [hxe] at h9; exact (nI_ltI (clamp_lt x) (by omega)).mp h9
    refine m_aload_n (pc' := 20) C dX12_data_19 rfl 0 rfl rfl ?_
    refine r_get C hn go_1 inW_X12 9 (by decide) ⟨rfl, rfl, rfl⟩ (gW_of tm_5_59) rfl dX12_data_20 rfl ?_
    refine m_iload_n (pc' := 24) C dX12_data_23 rfl 1 rfl rfl ?_
    have f58_13 : M1 58 = .inl (cy 1, 256, .inl (fun i => nI (g i))) := (F_1 58 (by decide)).trans h7
    refine m_iald (pc' := 25) (v := nI (B.getD (cl x) 0)) C 58 (by omega) f58_13 (by rw [hxe]; exact vp_in_nI (by omega) (by decide)) (by show nI (g (cl x)) = _; rw [h8 _ hxl]) dX12_data_24 rfl ?_
    refine m_goto (tgt := 29) C dX12_data_25 (by decide) ?_
    refine m_iret C hrt0 hlk0 rfl dX12_data_29 ?_
    have xln_14 := hln.fr F_1 (by decide)
    have xra_15 := hra.fr F_1 (by decide)
    have xoutR_16 := hout.fr F_1 (by decide)
    have xby_17 := hby.fr F_1 (by decide)
    have ff14_18 : M1 114 = gh (.int (fp)) := (F_1 114 (by decide)).trans h14
    have ff15_19 : M1 115 = gh (.int (ot)) := (F_1 115 (by decide)).trans h15
    have xrw_20 := hrw.fr F_1 (by decide)
    have xdg_21 := hdg.fr F_1 (by decide)
    have f62_22 : M1 62 = .inl (cy 1, 2000, .inl (fun i => nI (gf i))) := (F_1 62 (by decide)).trans hfd
    exact ⟨(by unfold rowAt; rw [if_pos hq]), g_1, ⟨go_1, xln_14, xra_15, xoutR_16, xby_17, ff14_18, ff15_19, ⟨_, xrw_20⟩, ⟨_, xdg_21⟩, ⟨_, f62_22⟩⟩, (F_1.sub (by decide))⟩
