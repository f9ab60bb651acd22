set_option maxHeartbeats 4000000 in
set_option maxRecDepth 100000 in
theorem kX2_readTwoDigits {l : Launch} {D : va_G} {cy : Nat → ClassId} {ad : Nat → Nat} {n : Nat} {A : Nat → Prop} (hI : mI ad n A) {M : Nat → va_E} {r ra : Nat} {T : List Nat} (ht : isRow cy ad n M r ra 80 80 T) (hT : T.length ≤ 80) {dd : Nat} {fl fp fb fm fz sw sp : Bool} {wd pr bt lt : Int32} {i : Nat} (hdd : dd < n) (hd : M dd = .inr (2, [.int (bI fl), .int (bI fp), .int (bI fb), .int (bI fm), .int (bI fz), .int (bI sw), .int (bI sp), .int (wd), .int (pr), .int (bt), .int (lt), .int (nI i)])) (hdj : dd ≠ r ∧ dd ≠ ra) (hi : i ≤ 200) : mMi l yX2_readTwoDigits (gW yX2_readTwoDigits cX2_readTwoDigits 4 (some .int)) { frames := 1, cells := 0, slots := 0, locals := 22 } D cy ad n A [.ref (ad dd), .ref (ad r)] M (fun res M' => res = nI (valN 10 (dg2 T i)) ∧ M' dd = .inr (2, [.int (bI fl), .int (bI fp), .int (bI fb), .int (bI fm), .int (bI fz), .int (bI sw), .int (bI sp), .int (wd), .int (pr), .int (bt), .int (lt), .int (nI (i + (dg2 T i).length))]) ∧ Fr [dd] M M') := by
  have h256 : ∀ x ∈ T, x < 256 := ht.2.2.2.2.1
  refine m_entry (cc := cX2_readTwoDigits) (maxL := 4) (ret := (some .int)) (own := RX2) (lv := [(0, .ref (ad dd)), (1, .ref (ad r))]) hI (by decide) rfl rfl (Nat.le_of_ble_eq_true rfl) rfl (fun pX eX sX mX aX bX tX cX C hrt0 hlk0 => ?_)
  refine m_iconst (pc' := 1) (v := nI (valN 10 [])) C dX2_readTwoDigits_0 (by decide) rfl ?_
  refine m_istore_n (pc' := 2) (lv' := [(2, .int (nI (valN 10 []))), (0, .ref (ad dd)), (1, .ref (ad r))]) C dX2_readTwoDigits_1 rfl (by decide) rfl rfl ?_
  refine m_iconst (pc' := 3) (v := nI 0) C dX2_readTwoDigits_2 (by decide) rfl ?_
  refine m_istore_n (pc' := 4) (lv' := [(3, .int (nI 0)), (2, .int (nI (valN 10 []))), (0, .ref (ad dd)), (1, .ref (ad r))]) C dX2_readTwoDigits_3 rfl (by decide) rfl rfl ?_
  refine m_lv [2, 3, 1, 0] rfl ?_
  refine m_loop (σ := Nat × List Nat × (Nat → va_E)) (fun a => a.2.2) (fun a => [(0, .ref (ad dd)), (1, .ref (ad r)), (2, .int (nI (valN 10 a.2.1))), (3, .int (nI a.1))]) (fun a => a.2.1.length = a.1 ∧ dg2 T i = a.2.1 ++ dgr 10 T (i + a.1) (2 - a.1) ∧ (∀ x ∈ a.2.1, x < 10) ∧ a.2.2 dd = .inr (2, [.int (bI fl), .int (bI fp), .int (bI fb), .int (bI fm), .int (bI fz), .int (bI sw), .int (bI sp), .int (wd), .int (pr), .int (bt), .int (lt), .int (nI (i + a.1))]) ∧ Fr [dd] M a.2.2) (fun a => 2 - a.1) (0, [], M) (⟨rfl, by simp [dg2], by simp, hd, Fr.rf⟩) ?_
  rintro ⟨k, ps, Mk⟩ hinv ih
  dsimp only at hinv ih ⊢
  obtain ⟨i1, i2, i3, i5, i6⟩ := hinv
  have hk3 : k ≤ 2 := by rw [← i1]; have h9 := dg2_len T i; rw [i2, List.length_append] at h9; omega
  have hvb : valN 10 ps < 2 ^ 9 := Nat.lt_of_lt_of_le (valN_lt ps i3) (by rw [i1]; exact Nat.le_trans (Nat.pow_le_pow_right (by decide) hk3) (by decide))
  refine m_iload_n (pc' := 5) C dX2_readTwoDigits_4 rfl 3 rfl rfl ?_
  refine m_iconst (pc' := 6) (v := nI 2) C dX2_readTwoDigits_5 (by decide) rfl ?_
  refine m_icmp_ge (pc' := 9) (tgt := 61) C dX2_readTwoDigits_6 (by decide) rfl (fun c_6 => ?_) (fun c_6 => ?_)
  · have hk : 2 ≤ k := by
      rcases Nat.lt_or_ge k 2 with q | q
      · exact absurd c_6 (nI_ge q (by omega))
      · exact q
    have hds : dg2 T i = ps := by rw [i2, show 2 - k = 0 by omega, dgr_0, List.append_nil]
    refine m_iload_n (pc' := 62) C dX2_readTwoDigits_61 rfl 2 rfl rfl ?_
    refine m_iret C hrt0 hlk0 rfl dX2_readTwoDigits_62 ?_
    rw [hds, i1]
    exact ⟨rfl, i5, (i6.sub (by simp))⟩
  · have hlt : k < 2 := by
      rcases Nat.lt_or_ge k 2 with q | q
      · exact q
      · exact absurd (nI_le q (by omega)) c_6
    refine m_aload_n (pc' := 10) C dX2_readTwoDigits_9 rfl 1 rfl rfl ?_
    refine m_aload_n (pc' := 11) C dX2_readTwoDigits_10 rfl 0 rfl rfl ?_
    refine m_get (pc' := 14) C dd hdd i5 rfl inW_X2 11 (by decide) (gW_of tm_1_175) rfl rfl dX2_readTwoDigits_11 rfl ?_
    have Rr_1 := ht.fr i6 (by simp <;> omega) (by simp <;> omega)
    refine m_callVi (pc' := 17) (As := [.int (nI (i + k))]) (rest := []) C (kX9_at hI Rr_1 (nI (i + k))) (cwV 1 C.1.2.2.2.2 (goodV tm_2_163 tm_2_128 tm_2_129 tm_1_3 tm_2_130) rfl rfl rfl (by decide +kernel) ⟨by decide, by decide⟩) Rr_1.1 Rr_1.ob rfl rfl rfl (Nat.le_of_ble_eq_true rfl) dX2_readTwoDigits_14 rfl ⟨by decide, by decide⟩ (fun x_2 N_2 q_2 => ?_)
    obtain ⟨e_2, E_2⟩ := q_2
    replace E_2 := E_2.symm
    subst E_2
    replace e_2 : x_2 = chAt T (i + k) := e_2.trans (rowAt_full hT (by omega) (by omega))
    replace e_2 := e_2.symm
    subst e_2
    refine m_bipush (pc' := 19) (v := nI 10) C dX2_readTwoDigits_17 (by decide) rfl ?_
    refine m_callNi (pc' := 22) (As := [.int (chAt T (i + k)), .int (nI 10)]) (rest := []) C (kX11_digitOf hI (chAt T (i + k)) (nI 10)) ⟨va_cnB 2 C.1.2.2.2.2 (goodN tm_2_149) rfl rfl rfl (C.2.1.2 (RX2, 107, yX11_digitOf) (List.mem_of_getElem? (i := 1) rfl)) (C.1.2.2.2.2 _ (gW_of tm_1_1)) (by decide +kernel) ⟨by decide, by decide⟩, C.1.2.2.2.2 _ (gW_of tm_2_148), trivial⟩ rfl rfl (Nat.le_of_ble_eq_true rfl) dX2_readTwoDigits_19 rfl ⟨by decide, by decide⟩ (fun x_3 N_3 q_3 => ?_)
    obtain ⟨e_3, E_3⟩ := q_3
    replace E_3 := E_3.symm
    subst E_3
    replace e_3 : x_3 = dI (T.getD (i + k) 0) 10 := e_3.trans (digI_at (by omega) h256)
    replace e_3 := e_3.symm
    subst e_3
    refine m_iconst (pc' := 23) (v := (-1)) C dX2_readTwoDigits_22 (by decide) rfl ?_
    refine m_icmp_eq (pc' := 26) (tgt := 61) C dX2_readTwoDigits_23 (by decide) rfl (fun c_23 => ?_) (fun c_23 => ?_)
    · have hdv := (dI_m1 (by decide)).mp c_23
      have hds : dg2 T i = ps := by rw [i2, dgr_n hdv, List.append_nil]
      refine m_iload_n (pc' := 62) C dX2_readTwoDigits_61 rfl 2 rfl rfl ?_
      refine m_iret C hrt0 hlk0 rfl dX2_readTwoDigits_62 ?_
      rw [hds, i1]
      exact ⟨rfl, i5, (i6.sub (by simp))⟩
    · have hdv : dvN (T.getD (i + k) 0) < 10 := Classical.not_not.mp (fun q => c_23 ((dI_m1 (by decide)).mpr q))
      refine m_iload_n (pc' := 27) C dX2_readTwoDigits_26 rfl 2 rfl rfl ?_
      refine m_bipush (pc' := 29) (v := nI 10) C dX2_readTwoDigits_27 (by decide) rfl ?_
      refine m_imul (pc' := 30) (v := nI ((valN 10 ps) * 10)) C dX2_readTwoDigits_29 (pk_mul _ _) rfl ?_
      refine m_aload_n (pc' := 31) C dX2_readTwoDigits_30 rfl 1 rfl rfl ?_
      refine m_aload_n (pc' := 32) C dX2_readTwoDigits_31 rfl 0 rfl rfl ?_
      refine m_get (pc' := 35) C dd hdd i5 rfl inW_X2 11 (by decide) (gW_of tm_1_175) rfl rfl dX2_readTwoDigits_32 rfl ?_
      refine m_callVi (pc' := 38) (As := [.int (nI (i + k))]) (rest := [.int (nI ((valN 10 ps) * 10))]) C (kX9_at hI Rr_1 (nI (i + k))) (cwV 1 C.1.2.2.2.2 (goodV tm_2_163 tm_2_128 tm_2_129 tm_1_3 tm_2_130) rfl rfl rfl (by decide +kernel) ⟨by decide, by decide⟩) Rr_1.1 Rr_1.ob rfl rfl rfl (Nat.le_of_ble_eq_true rfl) dX2_readTwoDigits_35 rfl ⟨by decide, by decide⟩ (fun x_4 N_4 q_4 => ?_)
      obtain ⟨e_4, E_4⟩ := q_4
      replace E_4 := E_4.symm
      subst E_4
      replace e_4 : x_4 = chAt T (i + k) := e_4.trans (rowAt_full hT (by omega) (by omega))
      replace e_4 := e_4.symm
      subst e_4
      refine m_bipush (pc' := 40) (v := nI 10) C dX2_readTwoDigits_38 (by decide) rfl ?_
      refine m_callNi (pc' := 43) (As := [.int (chAt T (i + k)), .int (nI 10)]) (rest := [.int (nI ((valN 10 ps) * 10))]) C (kX11_digitOf hI (chAt T (i + k)) (nI 10)) ⟨va_cnB 2 C.1.2.2.2.2 (goodN tm_2_149) rfl rfl rfl (C.2.1.2 (RX2, 107, yX11_digitOf) (List.mem_of_getElem? (i := 1) rfl)) (C.1.2.2.2.2 _ (gW_of tm_1_1)) (by decide +kernel) ⟨by decide, by decide⟩, C.1.2.2.2.2 _ (gW_of tm_2_148), trivial⟩ rfl rfl (Nat.le_of_ble_eq_true rfl) dX2_readTwoDigits_40 rfl ⟨by decide, by decide⟩ (fun x_5 N_5 q_5 => ?_)
      obtain ⟨e_5, E_5⟩ := q_5
      replace E_5 := E_5.symm
      subst E_5
      replace e_5 : x_5 = nI (dvN (T.getD (i + k) 0)) := e_5.trans ((digI_at (by omega) h256).trans (by unfold dI; rw [if_pos hdv]))
      replace e_5 := e_5.symm
      subst e_5
      refine m_iadd (pc' := 44) (v := nI (valN 10 (ps ++ [dvN (T.getD (i + k) 0)]))) C dX2_readTwoDigits_43 (by rw [nI_add, valN_s]) rfl ?_
      refine m_istore_n (pc' := 45) (lv' := [(2, .int (nI (valN 10 (ps ++ [dvN (T.getD (i + k) 0)])))), (0, .ref (ad dd)), (1, .ref (ad r)), (3, .int (nI k))]) C dX2_readTwoDigits_44 rfl (by decide) rfl rfl ?_
      refine m_aload_n (pc' := 46) C dX2_readTwoDigits_45 rfl 1 rfl rfl ?_
      refine m_dup (pc' := 47) C dX2_readTwoDigits_46 rfl rfl ?_
      refine m_get (pc' := 50) C dd hdd i5 rfl inW_X2 11 (by decide) (gW_of tm_1_175) rfl rfl dX2_readTwoDigits_47 rfl ?_
      refine m_iconst (pc' := 51) (v := nI 1) C dX2_readTwoDigits_50 (by decide) rfl ?_
      refine m_iadd (pc' := 52) (v := nI (i + (k + 1))) C dX2_readTwoDigits_51 (by rw [← Nat.add_assoc]; exact nI_add _ _) rfl ?_
      refine m_put (pc' := 55) (ty := .int) (fs' := [.int (bI fl), .int (bI fp), .int (bI fb), .int (bI fm), .int (bI fz), .int (bI sw), .int (bI sp), .int (wd), .int (pr), .int (bt), .int (lt), .int (nI (i + (k + 1)))]) C dd hdd i5 rfl inW_X2 tyX2 tyX2_ok nmX2 11 (by decide) (gW_of tm_1_175) rfl rfl (by decide +kernel) rfl rfl (by simp) rfl dX2_readTwoDigits_52 rfl (fun M6 g_6 F_6 => ?_)
      refine m_iinc (pc' := 58) (v := nI (k + 1)) (lv' := [(3, .int (nI (k + 1))), (2, .int (nI (valN 10 (ps ++ [dvN (T.getD (i + k) 0)])))), (0, .ref (ad dd)), (1, .ref (ad r))]) C dX2_readTwoDigits_55 (k := 3) rfl (nI_add _ _) (by decide) rfl rfl ?_
      refine m_goto (tgt := 4) C dX2_readTwoDigits_58 (by decide) ?_
      refine m_lv [2, 3, 1, 0] rfl ?_
      exact ih (k + 1, ps ++ [dvN (T.getD (i + k) 0)], M6) (⟨by simp [i1], by rw [i2, show 2 - k = (2 - (k + 1)) + 1 by omega, dgr_s (by decide) hdv, List.append_assoc]; rfl, by intro x hx; rcases List.mem_append.mp hx with q | q; exact i3 x q; rw [List.mem_singleton.mp q]; exact hdv, g_6, ((i6.sub (by simp)).tr (F_6.sub (by simp)))⟩) (by simp only; omega)
set_option maxHeartbeats 4000000 in
set_option maxRecDepth 100000 in
theorem kX2_readWidth {l : Launch} {D : va_G} {cy : Nat → ClassId} {ad : Nat → Nat} {n : Nat} {A : Nat → Prop} (hI : mI ad n A) {M : Nat → va_E} {r ra : Nat} {T : List Nat} (ht : isRow cy ad n M r ra 80 80 T) (hT : T.length ≤ 80) {dd : Nat} {fl fp fb fm fz sp : Bool} {pr bt lt : Int32} {i : Nat} (hdd : dd < n) (hd : M dd = .inr (2, [.int (bI fl), .int (bI fp), .int (bI fb), .int (bI fm), .int (bI fz), .int (bI false), .int (bI sp), .int (nI 0), .int (pr), .int (bt), .int (lt), .int (nI i)])) (hdj : dd ≠ r ∧ dd ≠ ra) (hi : i ≤ 190) : mMv l yX2_readWidth (gW yX2_readWidth cX2_readWidth 2 none) { frames := 2, cells := 0, slots := 0, locals := 45 } D cy ad n A [.ref (ad dd), .ref (ad r)] M (fun M' => M' dd = .inr (2, [.int (bI fl), .int (bI fp), .int (bI fb), .int (bI fm), .int (bI fz), .int (bI (wdS T i)), .int (bI sp), .int (nI (wdN T i)), .int (pr), .int (bt), .int (lt), .int (nI (wdE T i))]) ∧ Fr [dd] M M') := by
  have h256 : ∀ x ∈ T, x < 256 := ht.2.2.2.2.1
  refine m_entry (cc := cX2_readWidth) (maxL := 2) (ret := none) (own := RX2) (lv := [(0, .ref (ad dd)), (1, .ref (ad r))]) hI (by decide) rfl rfl (Nat.le_of_ble_eq_true rfl) rfl (fun pX eX sX mX aX bX tX cX C hrt0 hlk0 => ?_)
  refine m_aload_n (pc' := 1) C dX2_readWidth_0 rfl 1 rfl rfl ?_
  refine m_aload_n (pc' := 2) C dX2_readWidth_1 rfl 0 rfl rfl ?_
  refine m_get (pc' := 5) C dd hdd hd rfl inW_X2 11 (by decide) (gW_of tm_1_175) rfl rfl dX2_readWidth_2 rfl ?_
  refine m_callVi (pc' := 8) (As := [.int (nI i)]) (rest := []) C (kX9_at hI ht (nI i)) (cwV 1 C.1.2.2.2.2 (goodV tm_2_163 tm_2_128 tm_2_129 tm_1_3 tm_2_130) rfl rfl rfl (by decide +kernel) ⟨by decide, by decide⟩) ht.1 ht.ob rfl rfl rfl (Nat.le_of_ble_eq_true rfl) dX2_readWidth_5 rfl ⟨by decide, by decide⟩ (fun x_1 N_1 q_1 => ?_)
  obtain ⟨e_1, E_1⟩ := q_1
  replace E_1 := E_1.symm
  subst E_1
  replace e_1 : x_1 = chAt T i := e_1.trans (rowAt_full hT (by omega) (by omega))
  replace e_1 := e_1.symm
  subst e_1
  refine m_bipush (pc' := 10) (v := nI 42) C dX2_readWidth_8 (by decide) rfl ?_
  refine m_icmp_ne (pc' := 13) (tgt := 31) C dX2_readWidth_10 (by decide) rfl (fun c_10 => ?_) (fun c_10 => ?_)
  · have e10 : ¬ T.getD i 0 = 42 := fun q => c_10 ((chAt_eq h256 (by decide) (by decide)).mpr q)
    refine m_aload_n (pc' := 32) C dX2_readWidth_31 rfl 0 rfl rfl ?_
    refine m_aload_n (pc' := 33) C dX2_readWidth_32 rfl 0 rfl rfl ?_
    refine m_aload_n (pc' := 34) C dX2_readWidth_33 rfl 1 rfl rfl ?_
    refine m_callVi (pc' := 37) (As := [.ref (ad r)]) (rest := [.ref (ad dd)]) C (kX2_readTwoDigits hI ht hT hdd hd hdj (by omega)) (cwV 1 C.1.2.2.2.2 (goodV tm_2_172 tm_2_174 tp_7 tm_1_9 tm_2_175) rfl rfl rfl (by decide +kernel) ⟨by decide, by decide⟩) hdd hd rfl rfl rfl (Nat.le_of_ble_eq_true rfl) dX2_readWidth_34 rfl ⟨by decide, by decide⟩ (fun x_2 M2 q_2 => ?_)
    obtain ⟨e_2, g_2, F_2⟩ := q_2
    replace e_2 := e_2.symm
    subst e_2
    refine m_put (pc' := 40) (ty := .int) (fs' := [.int (bI fl), .int (bI fp), .int (bI fb), .int (bI fm), .int (bI fz), .int (bI false), .int (bI sp), .int (nI (valN 10 (dg2 T i))), .int (pr), .int (bt), .int (lt), .int (nI (i + (dg2 T i).length))]) C dd hdd g_2 rfl inW_X2 tyX2 tyX2_ok nmX2 7 (by decide) (gW_of tm_1_167) rfl rfl (by decide +kernel) rfl rfl (by simp) rfl dX2_readWidth_37 rfl (fun M3 g_3 F_3 => ?_)
    refine m_vret C hrt0 hlk0 dX2_readWidth_40 ?_
    refine ⟨?_, ((F_2.sub (by simp)).tr (F_3.sub (by simp)))⟩
    rw [g_3]
    unfold wdS wdN wdE
    first | (rw [if_pos e10, if_pos e10, e10]; rfl) | (rw [if_neg e10, if_neg e10, beq_eq_false_iff_ne.mpr e10])
  · have e10 : T.getD i 0 = 42 := (chAt_eq h256 (by decide) (by decide)).mp (Classical.not_not.mp c_10)
    refine m_aload_n (pc' := 14) C dX2_readWidth_13 rfl 0 rfl rfl ?_
    refine m_iconst (pc' := 15) (v := bI true) C dX2_readWidth_14 (by decide) rfl ?_
    refine m_put (pc' := 18) (ty := .boolean) (fs' := [.int (bI fl), .int (bI fp), .int (bI fb), .int (bI fm), .int (bI fz), .int (bI true), .int (bI sp), .int (nI 0), .int (pr), .int (bt), .int (lt), .int (nI i)]) C dd hdd hd rfl inW_X2 tyX2 tyX2_ok nmX2 5 (by decide) (gW_of tm_1_164) rfl rfl (by decide +kernel) (nar_z _) (fit_z _) (by simp) rfl dX2_readWidth_15 rfl (fun M4 g_4 F_4 => ?_)
    refine m_aload_n (pc' := 19) C dX2_readWidth_18 rfl 0 rfl rfl ?_
    refine m_dup (pc' := 20) C dX2_readWidth_19 rfl rfl ?_
    refine m_get (pc' := 23) C dd hdd g_4 rfl inW_X2 11 (by decide) (gW_of tm_1_175) rfl rfl dX2_readWidth_20 rfl ?_
    refine m_iconst (pc' := 24) (v := nI 1) C dX2_readWidth_23 (by decide) rfl ?_
    refine m_iadd (pc' := 25) (v := nI (i + 1)) C dX2_readWidth_24 (nI_add _ _) rfl ?_
    refine m_put (pc' := 28) (ty := .int) (fs' := [.int (bI fl), .int (bI fp), .int (bI fb), .int (bI fm), .int (bI fz), .int (bI true), .int (bI sp), .int (nI 0), .int (pr), .int (bt), .int (lt), .int (nI (i + 1))]) C dd hdd g_4 rfl inW_X2 tyX2 tyX2_ok nmX2 11 (by decide) (gW_of tm_1_175) rfl rfl (by decide +kernel) rfl rfl (by simp) rfl dX2_readWidth_25 rfl (fun M5 g_5 F_5 => ?_)
    refine m_goto (tgt := 40) C dX2_readWidth_28 (by decide) ?_
    refine m_vret C hrt0 hlk0 dX2_readWidth_40 ?_
    refine ⟨?_, ((F_4.sub (by simp)).tr (F_5.sub (by simp)))⟩
    rw [g_5]
    unfold wdS wdN wdE
    first | (rw [if_pos e10, if_pos e10, e10]; rfl) | (rw [if_neg e10, if_neg e10, beq_eq_false_iff_ne.mpr e10])
set_option maxHeartbeats 4000000 in
set_option maxRecDepth 100000 in
theorem kX2_readPrecision {l : Launch} {D : va_G} {cy : Nat → ClassId} {ad : Nat → Nat} {n : Nat} {A : Nat → Prop} (hI : mI ad n A) {M : Nat → va_E} {r ra : Nat} {T : List Nat} (ht : isRow cy ad n M r ra 80 80 T) (hT : T.length ≤ 80) {dd : Nat} {fl fp fb fm fz sw : Bool} {wd bt lt : Int32} {i : Nat} (hdd : dd < n) (hd : M dd = .inr (2, [.int (bI fl), .int (bI fp), .int (bI fb), .int (bI fm), .int (bI fz), .int (bI sw), .int (bI false), .int (wd), .int (-1), .int (bt), .int (lt), .int (nI i)])) (hdj : dd ≠ r ∧ dd ≠ ra) (hi : i ≤ 190) : mMv l yX2_readPrecision (gW yX2_readPrecision cX2_readPrecision 2 none) { frames := 2, cells := 0, slots := 0, locals := 45 } D cy ad n A [.ref (ad dd), .ref (ad r)] M (fun M' => M' dd = .inr (2, [.int (bI fl), .int (bI fp), .int (bI fb), .int (bI fm), .int (bI fz), .int (bI sw), .int (bI (prS T i)), .int (wd), .int (prI T i), .int (bt), .int (lt), .int (nI (prE T i))]) ∧ Fr [dd] M M') := by
  have h256 : ∀ x ∈ T, x < 256 := ht.2.2.2.2.1
  refine m_entry (cc := cX2_readPrecision) (maxL := 2) (ret := none) (own := RX2) (lv := [(0, .ref (ad dd)), (1, .ref (ad r))]) hI (by decide) rfl rfl (Nat.le_of_ble_eq_true rfl) rfl (fun pX eX sX mX aX bX tX cX C hrt0 hlk0 => ?_)
  refine m_aload_n (pc' := 1) C dX2_readPrecision_0 rfl 1 rfl rfl ?_
  refine m_aload_n (pc' := 2) C dX2_readPrecision_1 rfl 0 rfl rfl ?_
  refine m_get (pc' := 5) C dd hdd hd rfl inW_X2 11 (by decide) (gW_of tm_1_175) rfl rfl dX2_readPrecision_2 rfl ?_
  refine m_callVi (pc' := 8) (As := [.int (nI i)]) (rest := []) C (kX9_at hI ht (nI i)) (cwV 1 C.1.2.2.2.2 (goodV tm_2_163 tm_2_128 tm_2_129 tm_1_3 tm_2_130) rfl rfl rfl (by decide +kernel) ⟨by decide, by decide⟩) ht.1 ht.ob rfl rfl rfl (Nat.le_of_ble_eq_true rfl) dX2_readPrecision_5 rfl ⟨by decide, by decide⟩ (fun x_1 N_1 q_1 => ?_)
  obtain ⟨e_1, E_1⟩ := q_1
  replace E_1 := E_1.symm
  subst E_1
  replace e_1 : x_1 = chAt T i := e_1.trans (rowAt_full hT (by omega) (by omega))
  replace e_1 := e_1.symm
  subst e_1
  refine m_bipush (pc' := 10) (v := nI 46) C dX2_readPrecision_8 (by decide) rfl ?_
  refine m_icmp_eq (pc' := 13) (tgt := 14) C dX2_readPrecision_10 (by decide) rfl (fun c_10 => ?_) (fun c_10 => ?_)
  · have e10 : T.getD i 0 = 46 := (chAt_eq h256 (by decide) (by decide)).mp c_10
    refine m_aload_n (pc' := 15) C dX2_readPrecision_14 rfl 0 rfl rfl ?_
    refine m_dup (pc' := 16) C dX2_readPrecision_15 rfl rfl ?_
    refine m_get (pc' := 19) C dd hdd hd rfl inW_X2 11 (by decide) (gW_of tm_1_175) rfl rfl dX2_readPrecision_16 rfl ?_
    refine m_iconst (pc' := 20) (v := nI 1) C dX2_readPrecision_19 (by decide) rfl ?_
    refine m_iadd (pc' := 21) (v := nI (i + 1)) C dX2_readPrecision_20 (nI_add _ _) rfl ?_
    refine m_put (pc' := 24) (ty := .int) (fs' := [.int (bI fl), .int (bI fp), .int (bI fb), .int (bI fm), .int (bI fz), .int (bI sw), .int (bI false), .int (wd), .int ((-1)), .int (bt), .int (lt), .int (nI (i + 1))]) C dd hdd hd rfl inW_X2 tyX2 tyX2_ok nmX2 11 (by decide) (gW_of tm_1_175) rfl rfl (by decide +kernel) rfl rfl (by simp) rfl dX2_readPrecision_21 rfl (fun M2 g_2 F_2 => ?_)
    refine m_aload_n (pc' := 25) C dX2_readPrecision_24 rfl 1 rfl rfl ?_
    refine m_aload_n (pc' := 26) C dX2_readPrecision_25 rfl 0 rfl rfl ?_
    refine m_get (pc' := 29) C dd hdd g_2 rfl inW_X2 11 (by decide) (gW_of tm_1_175) rfl rfl dX2_readPrecision_26 rfl ?_
    have Rr_3 := ht.fr F_2 (by simp <;> omega) (by simp <;> omega)
    refine m_callVi (pc' := 32) (As := [.int (nI (i + 1))]) (rest := []) C (kX9_at hI Rr_3 (nI (i + 1))) (cwV 1 C.1.2.2.2.2 (goodV tm_2_163 tm_2_128 tm_2_129 tm_1_3 tm_2_130) rfl rfl rfl (by decide +kernel) ⟨by decide, by decide⟩) Rr_3.1 Rr_3.ob rfl rfl rfl (Nat.le_of_ble_eq_true rfl) dX2_readPrecision_29 rfl ⟨by decide, by decide⟩ (fun x_4 N_4 q_4 => ?_)
    obtain ⟨e_4, E_4⟩ := q_4
    replace E_4 := E_4.symm
    subst E_4
    replace e_4 : x_4 = chAt T (i + 1) := e_4.trans (rowAt_full hT (by omega) (by omega))
    replace e_4 := e_4.symm
    subst e_4
    refine m_bipush (pc' := 34) (v := nI 42) C dX2_readPrecision_32 (by decide) rfl ?_
    refine m_icmp_ne (pc' := 37) (tgt := 55) C dX2_readPrecision_34 (by decide) rfl (fun c_34 => ?_) (fun c_34 => ?_)
    · have e34 : ¬ T.getD (i + 1) 0 = 42 := fun q => c_34 ((chAt_eq h256 (by decide) (by decide)).mpr q)
      refine m_aload_n (pc' := 56) C dX2_readPrecision_55 rfl 0 rfl rfl ?_
      refine m_aload_n (pc' := 57) C dX2_readPrecision_56 rfl 0 rfl rfl ?_
      refine m_aload_n (pc' := 58) C dX2_readPrecision_57 rfl 1 rfl rfl ?_
      refine m_callVi (pc' := 61) (As := [.ref (ad r)]) (rest := [.ref (ad dd)]) C (kX2_readTwoDigits hI Rr_3 hT hdd g_2 hdj (by omega)) (cwV 1 C.1.2.2.2.2 (goodV tm_2_172 tm_2_174 tp_7 tm_1_9 tm_2_175) rfl rfl rfl (by decide +kernel) ⟨by decide, by decide⟩) hdd g_2 rfl rfl rfl (Nat.le_of_ble_eq_true rfl) dX2_readPrecision_58 rfl ⟨by decide, by decide⟩ (fun x_5 M5 q_5 => ?_)
      obtain ⟨e_5, g_5, F_5⟩ := q_5
      replace e_5 := e_5.symm
      subst e_5
      refine m_put (pc' := 64) (ty := .int) (fs' := [.int (bI fl), .int (bI fp), .int (bI fb), .int (bI fm), .int (bI fz), .int (bI sw), .int (bI false), .int (wd), .int (nI (valN 10 (dg2 T (i + 1)))), .int (bt), .int (lt), .int (nI ((i + 1) + (dg2 T (i + 1)).length))]) C dd hdd g_5 rfl inW_X2 tyX2 tyX2_ok nmX2 8 (by decide) (gW_of tm_1_169) rfl rfl (by decide +kernel) rfl rfl (by simp) rfl dX2_readPrecision_61 rfl (fun M6 g_6 F_6 => ?_)
      refine m_vret C hrt0 hlk0 dX2_readPrecision_64 ?_
      refine ⟨?_, (((F_2.sub (by simp)).tr (F_5.sub (by simp))).tr (F_6.sub (by simp)))⟩
      rw [g_6]
      unfold prS prI prE
      first | (rw [if_pos e10, if_pos e10, if_pos e34, if_pos e34, e10, e34]; rfl) | (rw [if_pos e10, if_pos e10, if_neg e34, if_neg e34, beq_eq_false_iff_ne.mpr e34, Bool.and_false]) | (rw [if_neg e10, if_neg e10, beq_eq_false_iff_ne.mpr e10, Bool.false_and])
    · have e34 : T.getD (i + 1) 0 = 42 := (chAt_eq h256 (by decide) (by decide)).mp (Classical.not_not.mp c_34)
      refine m_aload_n (pc' := 38) C dX2_readPrecision_37 rfl 0 rfl rfl ?_
      refine m_iconst (pc' := 39) (v := bI true) C dX2_readPrecision_38 (by decide) rfl ?_
      refine m_put (pc' := 42) (ty := .boolean) (fs' := [.int (bI fl), .int (bI fp), .int (bI fb), .int (bI fm), .int (bI fz), .int (bI sw), .int (bI true), .int (wd), .int ((-1)), .int (bt), .int (lt), .int (nI (i + 1))]) C dd hdd g_2 rfl inW_X2 tyX2 tyX2_ok nmX2 6 (by decide) (gW_of tm_1_166) rfl rfl (by decide +kernel) (nar_z _) (fit_z _) (by simp) rfl dX2_readPrecision_39 rfl (fun M7 g_7 F_7 => ?_)
      refine m_aload_n (pc' := 43) C dX2_readPrecision_42 rfl 0 rfl rfl ?_
      refine m_dup (pc' := 44) C dX2_readPrecision_43 rfl rfl ?_
      refine m_get (pc' := 47) C dd hdd g_7 rfl inW_X2 11 (by decide) (gW_of tm_1_175) rfl rfl dX2_readPrecision_44 rfl ?_
      refine m_iconst (pc' := 48) (v := nI 1) C dX2_readPrecision_47 (by decide) rfl ?_
      refine m_iadd (pc' := 49) (v := nI ((i + 1) + 1)) C dX2_readPrecision_48 (nI_add _ _) rfl ?_
      refine m_put (pc' := 52) (ty := .int) (fs' := [.int (bI fl), .int (bI fp), .int (bI fb), .int (bI fm), .int (bI fz), .int (bI sw), .int (bI true), .int (wd), .int ((-1)), .int (bt), .int (lt), .int (nI ((i + 1) + 1))]) C dd hdd g_7 rfl inW_X2 tyX2 tyX2_ok nmX2 11 (by decide) (gW_of tm_1_175) rfl rfl (by decide +kernel) rfl rfl (by simp) rfl dX2_readPrecision_49 rfl (fun M8 g_8 F_8 => ?_)
      refine m_goto (tgt := 64) C dX2_readPrecision_52 (by decide) ?_
      refine m_vret C hrt0 hlk0 dX2_readPrecision_64 ?_
      refine ⟨?_, (((F_2.sub (by simp)).tr (F_7.sub (by simp))).tr (F_8.sub (by simp)))⟩
      rw [g_8]
      unfold prS prI prE
      first | (rw [if_pos e10, if_pos e10, if_pos e34, if_pos e34, e10, e34]; rfl) | (rw [if_pos e10, if_pos e10, if_neg e34, if_neg e34, beq_eq_false_iff_ne.mpr e34, Bool.and_false]) | (rw [if_neg e10, if_neg e10, beq_eq_false_iff_ne.mpr e10, Bool.false_and])
  · have e10 : ¬ T.getD i 0 = 46 := fun q => c_10 ((chAt_eq h256 (by decide) (by decide)).mpr q)
    refine m_vret C hrt0 hlk0 dX2_readPrecision_13 ?_
    refine ⟨?_, Fr.rf⟩
    rw [hd]
    unfold prS prI prE
    first | (rw [if_pos e10, if_pos e10, if_pos e34, if_pos e34, e10, e34]; rfl) | (rw [if_pos e10, if_pos e10, if_neg e34, if_neg e34, beq_eq_false_iff_ne.mpr e34, Bool.and_false]) | (rw [if_neg e10, if_neg e10, beq_eq_false_iff_ne.mpr e10, Bool.false_and])
set_option maxHeartbeats 4000000 in
set_option maxRecDepth 100000 in
theorem kX2_readLength {l : Launch} {D : va_G} {cy : Nat → ClassId} {ad : Nat → Nat} {n : Nat} {A : Nat → Prop} (hI : mI ad n A) {M : Nat → va_E} {r ra : Nat} {T : List Nat} (ht : isRow cy ad n M r ra 80 80 T) (hT : T.length ≤ 80) {dd : Nat} {fl fp fb fm fz sw sp : Bool} {wd pr lt : Int32} {i : Nat} (hdd : dd < n) (hd : M dd = .inr (2, [.int (bI fl), .int (bI fp), .int (bI fb), .int (bI fm), .int (bI fz), .int (bI sw), .int (bI sp), .int (wd), .int (pr), .int (nI 32), .int (lt), .int (nI i)])) (hdj : dd ≠ r ∧ dd ≠ ra) (hi : i ≤ 190) : mMv l yX2_readLength (gW yX2_readLength cX2_readLength 3 none) { frames := 1, cells := 0, slots := 0, locals := 21 } D cy ad n A [.ref (ad dd), .ref (ad r)] M (fun M' => M' dd = .inr (2, [.int (bI fl), .int (bI fp), .int (bI fb), .int (bI fm), .int (bI fz), .int (bI sw), .int (bI sp), .int (wd), .int (pr), .int (nI (lnB T i)), .int (lt), .int (nI (lnE T i))]) ∧ Fr [dd] M M') := by
  have h256 : ∀ x ∈ T, x < 256 := ht.2.2.2.2.1
  refine m_entry (cc := cX2_readLength) (maxL := 3) (ret := none) (own := RX2) (lv := [(0, .ref (ad dd)), (1, .ref (ad r))]) hI (by decide) rfl rfl (Nat.le_of_ble_eq_true rfl) rfl (fun pX eX sX mX aX bX tX cX C hrt0 hlk0 => ?_)
  refine m_aload_n (pc' := 1) C dX2_readLength_0 rfl 1 rfl rfl ?_
  refine m_aload_n (pc' := 2) C dX2_readLength_1 rfl 0 rfl rfl ?_
  refine m_get (pc' := 5) C dd hdd hd rfl inW_X2 11 (by decide) (gW_of tm_1_175) rfl rfl dX2_readLength_2 rfl ?_
  refine m_callVi (pc' := 8) (As := [.int (nI i)]) (rest := []) C (kX9_at hI ht (nI i)) (cwV 1 C.1.2.2.2.2 (goodV tm_2_163 tm_2_128 tm_2_129 tm_1_3 tm_2_130) rfl rfl rfl (by decide +kernel) ⟨by decide, by decide⟩) ht.1 ht.ob rfl rfl rfl (Nat.le_of_ble_eq_true rfl) dX2_readLength_5 rfl ⟨by decide, by decide⟩ (fun x_1 N_1 q_1 => ?_)
  obtain ⟨e_1, E_1⟩ := q_1
  replace E_1 := E_1.symm
  subst E_1
  replace e_1 : x_1 = chAt T i := e_1.trans (rowAt_full hT (by omega) (by omega))
  replace e_1 := e_1.symm
  subst e_1
  refine m_istore_n (pc' := 9) (lv' := [(2, .int (chAt T i)), (0, .ref (ad dd)), (1, .ref (ad r))]) C dX2_readLength_8 rfl (by decide) rfl rfl ?_
  refine m_iload_n (pc' := 10) C dX2_readLength_9 rfl 0 rfl rfl ?_
  refine m_bipush (pc' := 12) (v := nI 104) C dX2_readLength_10 (by decide) rfl ?_
  refine m_icmp_eq (pc' := 15) (tgt := 28) C dX2_readLength_12 (by decide) rfl (fun c_12 => ?_) (fun c_12 => ?_)
  · have e0 : T.getD i 0 = 104 := (chAt_eq h256 (by decide) (by decide)).mp c_12
    have x0 : chAt T i = nI 104 := c_12
    refine m_aload_n (pc' := 29) C dX2_readLength_28 rfl 1 rfl rfl ?_
    refine m_dup (pc' := 30) C dX2_readLength_29 rfl rfl ?_
    refine m_get (pc' := 33) C dd hdd hd rfl inW_X2 11 (by decide) (gW_of tm_1_175) rfl rfl dX2_readLength_30 rfl ?_
    refine m_iconst (pc' := 34) (v := nI 1) C dX2_readLength_33 (by decide) rfl ?_
    refine m_iadd (pc' := 35) (v := nI (i + 1)) C dX2_readLength_34 (nI_add _ _) rfl ?_
    refine m_put (pc' := 38) (ty := .int) (fs' := [.int (bI fl), .int (bI fp), .int (bI fb), .int (bI fm), .int (bI fz), .int (bI sw), .int (bI sp), .int (wd), .int (pr), .int (nI 32), .int (lt), .int (nI (i + 1))]) C dd hdd hd rfl inW_X2 tyX2 tyX2_ok nmX2 11 (by decide) (gW_of tm_1_175) rfl rfl (by decide +kernel) rfl rfl (by simp) rfl dX2_readLength_35 rfl (fun M2 g_2 F_2 => ?_)
    refine m_aload_n (pc' := 39) C dX2_readLength_38 rfl 1 rfl rfl ?_
    refine m_iload_n (pc' := 40) C dX2_readLength_39 rfl 0 rfl rfl ?_
    refine m_bipush (pc' := 42) (v := nI 104) C dX2_readLength_40 (by decide) rfl ?_
    refine m_icmp_ne (pc' := 45) (tgt := 50) C dX2_readLength_42 (by decide) rfl (fun c_42 => ?_) (fun c_42 => ?_)
    · exact absurd x0 c_42
    · refine m_bipush (pc' := 47) (v := nI 16) C dX2_readLength_45 (by decide) rfl ?_
      refine m_goto (tgt := 52) C dX2_readLength_47 (by decide) ?_
      refine m_put (pc' := 55) (ty := .int) (fs' := [.int (bI fl), .int (bI fp), .int (bI fb), .int (bI fm), .int (bI fz), .int (bI sw), .int (bI sp), .int (wd), .int (pr), .int (nI 16), .int (lt), .int (nI (i + 1))]) C dd hdd g_2 rfl inW_X2 tyX2 tyX2_ok nmX2 9 (by decide) (gW_of tm_1_171) rfl rfl (by decide +kernel) rfl rfl (by simp) rfl dX2_readLength_52 rfl (fun M3 g_3 F_3 => ?_)
      refine m_iload_n (pc' := 56) C dX2_readLength_55 rfl 0 rfl rfl ?_
      refine m_bipush (pc' := 58) (v := nI 106) C dX2_readLength_56 (by decide) rfl ?_
      refine m_icmp_eq (pc' := 61) (tgt := 100) C dX2_readLength_58 (by decide) rfl (fun c_58 => ?_) (fun c_58 => ?_)
      · exact absurd c_58 (by rw [x0]; decide)
      · refine m_aload_n (pc' := 62) C dX2_readLength_61 rfl 2 rfl rfl ?_
        refine m_aload_n (pc' := 63) C dX2_readLength_62 rfl 1 rfl rfl ?_
        refine m_get (pc' := 66) C dd hdd g_3 rfl inW_X2 11 (by decide) (gW_of tm_1_175) rfl rfl dX2_readLength_63 rfl ?_
        have Rr_4 := ht.fr F_2 (by simp <;> omega) (by simp <;> omega)
        have Rr_5 := Rr_4.fr F_3 (by simp <;> omega) (by simp <;> omega)
        refine m_callVi (pc' := 69) (As := [.int (nI (i + 1))]) (rest := []) C (kX9_at hI Rr_5 (nI (i + 1))) (cwV 1 C.1.2.2.2.2 (goodV tm_2_163 tm_2_128 tm_2_129 tm_1_3 tm_2_130) rfl rfl rfl (by decide +kernel) ⟨by decide, by decide⟩) Rr_5.1 Rr_5.ob rfl rfl rfl (Nat.le_of_ble_eq_true rfl) dX2_readLength_66 rfl ⟨by decide, by decide⟩ (fun x_6 N_6 q_6 => ?_)
        obtain ⟨e_6, E_6⟩ := q_6
        replace E_6 := E_6.symm
        subst E_6
        replace e_6 : x_6 = chAt T (i + 1) := e_6.trans (rowAt_full hT (by omega) (by omega))
        replace e_6 := e_6.symm
        subst e_6
        refine m_iload_n (pc' := 70) C dX2_readLength_69 rfl 0 rfl rfl ?_
        refine m_icmp_ne (pc' := 73) (tgt := 100) C dX2_readLength_70 (by decide) rfl (fun c_70 => ?_) (fun c_70 => ?_)
        · have e1 : ¬ T.getD (i + 1) 0 = 104 := fun q => c_70 (by rw [x0]; exact (chAt_eq h256 (by decide) (by decide)).mpr q)
          refine m_vret C hrt0 hlk0 dX2_readLength_100 ?_
          refine ⟨?_, ((F_2.sub (by simp)).tr (F_3.sub (by simp)))⟩
          rw [g_3]
          unfold lnB lnE
          rw [e0]
          first | (rw [e1]; rfl) | (generalize T.getD (i + 1) 0 = c1 at e1 ⊢; simp [e1]; done) | rfl
        · have e1 : T.getD (i + 1) 0 = 104 := (chAt_eq h256 (by decide) (by decide)).mp ((Classical.not_not.mp c_70).trans x0)
          refine m_aload_n (pc' := 74) C dX2_readLength_73 rfl 1 rfl rfl ?_
          refine m_dup (pc' := 75) C dX2_readLength_74 rfl rfl ?_
          refine m_get (pc' := 78) C dd hdd g_3 rfl inW_X2 11 (by decide) (gW_of tm_1_175) rfl rfl dX2_readLength_75 rfl ?_
          refine m_iconst (pc' := 79) (v := nI 1) C dX2_readLength_78 (by decide) rfl ?_
          refine m_iadd (pc' := 80) (v := nI ((i + 1) + 1)) C dX2_readLength_79 (nI_add _ _) rfl ?_
          refine m_put (pc' := 83) (ty := .int) (fs' := [.int (bI fl), .int (bI fp), .int (bI fb), .int (bI fm), .int (bI fz), .int (bI sw), .int (bI sp), .int (wd), .int (pr), .int (nI 16), .int (lt), .int (nI ((i + 1) + 1))]) C dd hdd g_3 rfl inW_X2 tyX2 tyX2_ok nmX2 11 (by decide) (gW_of tm_1_175) rfl rfl (by decide +kernel) rfl rfl (by simp) rfl dX2_readLength_80 rfl (fun M7 g_7 F_7 => ?_)
          refine m_aload_n (pc' := 84) C dX2_readLength_83 rfl 1 rfl rfl ?_
          refine m_iload_n (pc' := 85) C dX2_readLength_84 rfl 0 rfl rfl ?_
          refine m_bipush (pc' := 87) (v := nI 104) C dX2_readLength_85 (by decide) rfl ?_
          refine m_icmp_ne (pc' := 90) (tgt := 95) C dX2_readLength_87 (by decide) rfl (fun c_87 => ?_) (fun c_87 => ?_)
          · exact absurd x0 c_87
          · refine m_bipush (pc' := 92) (v := nI 8) C dX2_readLength_90 (by decide) rfl ?_
            refine m_goto (tgt := 97) C dX2_readLength_92 (by decide) ?_
            refine m_put (pc' := 100) (ty := .int) (fs' := [.int (bI fl), .int (bI fp), .int (bI fb), .int (bI fm), .int (bI fz), .int (bI sw), .int (bI sp), .int (wd), .int (pr), .int (nI 8), .int (lt), .int (nI ((i + 1) + 1))]) C dd hdd g_7 rfl inW_X2 tyX2 tyX2_ok nmX2 9 (by decide) (gW_of tm_1_171) rfl rfl (by decide +kernel) rfl rfl (by simp) rfl dX2_readLength_97 rfl (fun M8 g_8 F_8 => ?_)
            refine m_vret C hrt0 hlk0 dX2_readLength_100 ?_
            refine ⟨?_, ((((F_2.sub (by simp)).tr (F_3.sub (by simp))).tr (F_7.sub (by simp))).tr (F_8.sub (by simp)))⟩
            rw [g_8]
            unfold lnB lnE
            rw [e0]
            first | (rw [e1]; rfl) | (generalize T.getD (i + 1) 0 = c1 at e1 ⊢; simp [e1]; done) | rfl
  · have n12 : ¬ T.getD i 0 = 104 := fun q => c_12 ((chAt_eq h256 (by decide) (by decide)).mpr q)
    refine m_iload_n (pc' := 16) C dX2_readLength_15 rfl 0 rfl rfl ?_
    refine m_bipush (pc' := 18) (v := nI 108) C dX2_readLength_16 (by decide) rfl ?_
    refine m_icmp_eq (pc' := 21) (tgt := 28) C dX2_readLength_18 (by decide) rfl (fun c_18 => ?_) (fun c_18 => ?_)
    · have e0 : T.getD i 0 = 108 := (chAt_eq h256 (by decide) (by decide)).mp c_18
      have x0 : chAt T i = nI 108 := c_18
      refine m_aload_n (pc' := 29) C dX2_readLength_28 rfl 1 rfl rfl ?_
      refine m_dup (pc' := 30) C dX2_readLength_29 rfl rfl ?_
      refine m_get (pc' := 33) C dd hdd hd rfl inW_X2 11 (by decide) (gW_of tm_1_175) rfl rfl dX2_readLength_30 rfl ?_
      refine m_iconst (pc' := 34) (v := nI 1) C dX2_readLength_33 (by decide) rfl ?_
      refine m_iadd (pc' := 35) (v := nI (i + 1)) C dX2_readLength_34 (nI_add _ _) rfl ?_
      refine m_put (pc' := 38) (ty := .int) (fs' := [.int (bI fl), .int (bI fp), .int (bI fb), .int (bI fm), .int (bI fz), .int (bI sw), .int (bI sp), .int (wd), .int (pr), .int (nI 32), .int (lt), .int (nI (i + 1))]) C dd hdd hd rfl inW_X2 tyX2 tyX2_ok nmX2 11 (by decide) (gW_of tm_1_175) rfl rfl (by decide +kernel) rfl rfl (by simp) rfl dX2_readLength_35 rfl (fun M9 g_9 F_9 => ?_)
      refine m_aload_n (pc' := 39) C dX2_readLength_38 rfl 1 rfl rfl ?_
      refine m_iload_n (pc' := 40) C dX2_readLength_39 rfl 0 rfl rfl ?_
      refine m_bipush (pc' := 42) (v := nI 104) C dX2_readLength_40 (by decide) rfl ?_
      refine m_icmp_ne (pc' := 45) (tgt := 50) C dX2_readLength_42 (by decide) rfl (fun c_42 => ?_) (fun c_42 => ?_)
      · refine m_bipush (pc' := 52) (v := nI 64) C dX2_readLength_50 (by decide) rfl ?_
        refine m_put (pc' := 55) (ty := .int) (fs' := [.int (bI fl), .int (bI fp), .int (bI fb), .int (bI fm), .int (bI fz), .int (bI sw), .int (bI sp), .int (wd), .int (pr), .int (nI 64), .int (lt), .int (nI (i + 1))]) C dd hdd g_9 rfl inW_X2 tyX2 tyX2_ok nmX2 9 (by decide) (gW_of tm_1_171) rfl rfl (by decide +kernel) rfl rfl (by simp) rfl dX2_readLength_52 rfl (fun M10 g_10 F_10 => ?_)
        refine m_iload_n (pc' := 56) C dX2_readLength_55 rfl 0 rfl rfl ?_
        refine m_bipush (pc' := 58) (v := nI 106) C dX2_readLength_56 (by decide) rfl ?_
        refine m_icmp_eq (pc' := 61) (tgt := 100) C dX2_readLength_58 (by decide) rfl (fun c_58 => ?_) (fun c_58 => ?_)
        · exact absurd c_58 (by rw [x0]; decide)
        · refine m_aload_n (pc' := 62) C dX2_readLength_61 rfl 2 rfl rfl ?_
          refine m_aload_n (pc' := 63) C dX2_readLength_62 rfl 1 rfl rfl ?_
          refine m_get (pc' := 66) C dd hdd g_10 rfl inW_X2 11 (by decide) (gW_of tm_1_175) rfl rfl dX2_readLength_63 rfl ?_
          have Rr_11 := ht.fr F_9 (by simp <;> omega) (by simp <;> omega)
          have Rr_12 := Rr_11.fr F_10 (by simp <;> omega) (by simp <;> omega)
          refine m_callVi (pc' := 69) (As := [.int (nI (i + 1))]) (rest := []) C (kX9_at hI Rr_12 (nI (i + 1))) (cwV 1 C.1.2.2.2.2 (goodV tm_2_163 tm_2_128 tm_2_129 tm_1_3 tm_2_130) rfl rfl rfl (by decide +kernel) ⟨by decide, by decide⟩) Rr_12.1 Rr_12.ob rfl rfl rfl (Nat.le_of_ble_eq_true rfl) dX2_readLength_66 rfl ⟨by decide, by decide⟩ (fun x_13 N_13 q_13 => ?_)
          obtain ⟨e_13, E_13⟩ := q_13
          replace E_13 := E_13.symm
          subst E_13
          replace e_13 : x_13 = chAt T (i + 1) := e_13.trans (rowAt_full hT (by omega) (by omega))
          replace e_13 := e_13.symm
          subst e_13
          refine m_iload_n (pc' := 70) C dX2_readLength_69 rfl 0 rfl rfl ?_
          refine m_icmp_ne (pc' := 73) (tgt := 100) C dX2_readLength_70 (by decide) rfl (fun c_70 => ?_) (fun c_70 => ?_)
          · have e1 : ¬ T.getD (i + 1) 0 = 108 := fun q => c_70 (by rw [x0]; exact (chAt_eq h256 (by decide) (by decide)).mpr q)
            refine m_vret C hrt0 hlk0 dX2_readLength_100 ?_
            refine ⟨?_, ((F_9.sub (by simp)).tr (F_10.sub (by simp)))⟩
            rw [g_10]
            unfold lnB lnE
            rw [e0]
            first | (rw [e1]; rfl) | (generalize T.getD (i + 1) 0 = c1 at e1 ⊢; simp [e1]; done) | rfl
          · have e1 : T.getD (i + 1) 0 = 108 := (chAt_eq h256 (by decide) (by decide)).mp ((Classical.not_not.mp c_70).trans x0)
            refine m_aload_n (pc' := 74) C dX2_readLength_73 rfl 1 rfl rfl ?_
            refine m_dup (pc' := 75) C dX2_readLength_74 rfl rfl ?_
            refine m_get (pc' := 78) C dd hdd g_10 rfl inW_X2 11 (by decide) (gW_of tm_1_175) rfl rfl dX2_readLength_75 rfl ?_
            refine m_iconst (pc' := 79) (v := nI 1) C dX2_readLength_78 (by decide) rfl ?_
            refine m_iadd (pc' := 80) (v := nI ((i + 1) + 1)) C dX2_readLength_79 (nI_add _ _) rfl ?_
            refine m_put (pc' := 83) (ty := .int) (fs' := [.int (bI fl), .int (bI fp), .int (bI fb), .int (bI fm), .int (bI fz), .int (bI sw), .int (bI sp), .int (wd), .int (pr), .int (nI 64), .int (lt), .int (nI ((i + 1) + 1))]) C dd hdd g_10 rfl inW_X2 tyX2 tyX2_ok nmX2 11 (by decide) (gW_of tm_1_175) rfl rfl (by decide +kernel) rfl rfl (by simp) rfl dX2_readLength_80 rfl (fun M14 g_14 F_14 => ?_)
            refine m_aload_n (pc' := 84) C dX2_readLength_83 rfl 1 rfl rfl ?_
            refine m_iload_n (pc' := 85) C dX2_readLength_84 rfl 0 rfl rfl ?_
            refine m_bipush (pc' := 87) (v := nI 104) C dX2_readLength_85 (by decide) rfl ?_
            refine m_icmp_ne (pc' := 90) (tgt := 95) C dX2_readLength_87 (by decide) rfl (fun c_87 => ?_) (fun c_87 => ?_)
            · refine m_bipush (pc' := 97) (v := nI 64) C dX2_readLength_95 (by decide) rfl ?_
              refine m_put (pc' := 100) (ty := .int) (fs' := [.int (bI fl), .int (bI fp), .int (bI fb), .int (bI fm), .int (bI fz), .int (bI sw), .int (bI sp), .int (wd), .int (pr), .int (nI 64), .int (lt), .int (nI ((i + 1) + 1))]) C dd hdd g_14 rfl inW_X2 tyX2 tyX2_ok nmX2 9 (by decide) (gW_of tm_1_171) rfl rfl (by decide +kernel) rfl rfl (by simp) rfl dX2_readLength_97 rfl (fun M15 g_15 F_15 => ?_)
              refine m_vret C hrt0 hlk0 dX2_readLength_100 ?_
              refine ⟨?_, ((((F_9.sub (by simp)).tr (F_10.sub (by simp))).tr (F_14.sub (by simp))).tr (F_15.sub (by simp)))⟩
              rw [g_15]
              unfold lnB lnE
              rw [e0]
              first | (rw [e1]; rfl) | (generalize T.getD (i + 1) 0 = c1 at e1 ⊢; simp [e1]; done) | rfl
            · exact absurd (Classical.not_not.mp c_87) (by rw [x0]; decide)
      · exact absurd (Classical.not_not.mp c_42) (by rw [x0]; decide)
    · have n18 : ¬ T.getD i 0 = 108 := fun q => c_18 ((chAt_eq h256 (by decide) (by decide)).mpr q)
      refine m_iload_n (pc' := 22) C dX2_readLength_21 rfl 0 rfl rfl ?_
      refine m_bipush (pc' := 24) (v := nI 106) C dX2_readLength_22 (by decide) rfl ?_
      refine m_icmp_eq (pc' := 27) (tgt := 28) C dX2_readLength_24 (by decide) rfl (fun c_24 => ?_) (fun c_24 => ?_)
      · have e0 : T.getD i 0 = 106 := (chAt_eq h256 (by decide) (by decide)).mp c_24
        have x0 : chAt T i = nI 106 := c_24
        refine m_aload_n (pc' := 29) C dX2_readLength_28 rfl 1 rfl rfl ?_
        refine m_dup (pc' := 30) C dX2_readLength_29 rfl rfl ?_
        refine m_get (pc' := 33) C dd hdd hd rfl inW_X2 11 (by decide) (gW_of tm_1_175) rfl rfl dX2_readLength_30 rfl ?_
        refine m_iconst (pc' := 34) (v := nI 1) C dX2_readLength_33 (by decide) rfl ?_
        refine m_iadd (pc' := 35) (v := nI (i + 1)) C dX2_readLength_34 (nI_add _ _) rfl ?_
        refine m_put (pc' := 38) (ty := .int) (fs' := [.int (bI fl), .int (bI fp), .int (bI fb), .int (bI fm), .int (bI fz), .int (bI sw), .int (bI sp), .int (wd), .int (pr), .int (nI 32), .int (lt), .int (nI (i + 1))]) C dd hdd hd rfl inW_X2 tyX2 tyX2_ok nmX2 11 (by decide) (gW_of tm_1_175) rfl rfl (by decide +kernel) rfl rfl (by simp) rfl dX2_readLength_35 rfl (fun M16 g_16 F_16 => ?_)
        refine m_aload_n (pc' := 39) C dX2_readLength_38 rfl 1 rfl rfl ?_
        refine m_iload_n (pc' := 40) C dX2_readLength_39 rfl 0 rfl rfl ?_
        refine m_bipush (pc' := 42) (v := nI 104) C dX2_readLength_40 (by decide) rfl ?_
        refine m_icmp_ne (pc' := 45) (tgt := 50) C dX2_readLength_42 (by decide) rfl (fun c_42 => ?_) (fun c_42 => ?_)
        · refine m_bipush (pc' := 52) (v := nI 64) C dX2_readLength_50 (by decide) rfl ?_
          refine m_put (pc' := 55) (ty := .int) (fs' := [.int (bI fl), .int (bI fp), .int (bI fb), .int (bI fm), .int (bI fz), .int (bI sw), .int (bI sp), .int (wd), .int (pr), .int (nI 64), .int (lt), .int (nI (i + 1))]) C dd hdd g_16 rfl inW_X2 tyX2 tyX2_ok nmX2 9 (by decide) (gW_of tm_1_171) rfl rfl (by decide +kernel) rfl rfl (by simp) rfl dX2_readLength_52 rfl (fun M17 g_17 F_17 => ?_)
          refine m_iload_n (pc' := 56) C dX2_readLength_55 rfl 0 rfl rfl ?_
          refine m_bipush (pc' := 58) (v := nI 106) C dX2_readLength_56 (by decide) rfl ?_
          refine m_icmp_eq (pc' := 61) (tgt := 100) C dX2_readLength_58 (by decide) rfl (fun c_58 => ?_) (fun c_58 => ?_)
          · refine m_vret C hrt0 hlk0 dX2_readLength_100 ?_
            refine ⟨?_, ((F_16.sub (by simp)).tr (F_17.sub (by simp)))⟩
            rw [g_17]
            unfold lnB lnE
            rw [e0]
            first | (rw [e1]; rfl) | (generalize T.getD (i + 1) 0 = c1 at e1 ⊢; simp [e1]; done) | rfl
          · exact absurd x0 c_58
        · exact absurd (Classical.not_not.mp c_42) (by rw [x0]; decide)
      · have n24 : ¬ T.getD i 0 = 106 := fun q => c_24 ((chAt_eq h256 (by decide) (by decide)).mpr q)
        refine m_vret C hrt0 hlk0 dX2_readLength_27 ?_
        refine ⟨?_, Fr.rf⟩
        rw [hd]
        unfold lnB lnE
        rw [if_neg n12, if_neg (fun q => q.elim n18 n24), if_neg (fun q => q.elim n12 n18), if_neg n24]
set_option maxHeartbeats 4000000 in
set_option maxRecDepth 100000 in
theorem kX2_isLetter {l : Launch} {D : va_G} {cy : Nat → ClassId} {ad : Nat → Nat} {n : Nat} {A : Nat → Prop} (hI : mI ad n A) {M : Nat → va_E} {T : List Nat} {j : Nat} {dd : Nat} {fl fp fb fm fz sw sp : Bool} {wd pr bt en : Int32} (hdd : dd < n) (hd : M dd = .inr (2, [.int (bI fl), .int (bI fp), .int (bI fb), .int (bI fm), .int (bI fz), .int (bI sw), .int (bI sp), .int (wd), .int (pr), .int (bt), .int (chAt T j), .int (en)])) (h256 : ∀ x ∈ T, x < 256) : mMi l yX2_isLetter (gW yX2_isLetter cX2_isLetter 1 (some .boolean)) { frames := 0, cells := 0, slots := 0, locals := 0 } D cy ad n A [.ref (ad dd)] M (fun res M' => res = bI (letC (T.getD j 0)) ∧ M' = M) := by
  refine m_entry (cc := cX2_isLetter) (maxL := 1) (ret := (some .boolean)) (own := RX2) (lv := [(0, .ref (ad dd))]) hI (by decide) rfl rfl (Nat.le_of_ble_eq_true rfl) rfl (fun pX eX sX mX aX bX tX cX C hrt0 hlk0 => ?_)
  refine m_aload_n (pc' := 1) C dX2_isLetter_0 rfl 0 rfl rfl ?_
  refine m_get (pc' := 4) C dd hdd hd rfl inW_X2 10 (by decide) (gW_of tm_1_173) rfl rfl dX2_isLetter_1 rfl ?_
  refine dite (chAt T j = nI 88) (fun s4_88 => ?_) (fun s4_88 => ?_)
  · have e9 : T.getD j 0 = 88 := (chAt_eq h256 (by decide) (by decide)).mp s4_88
    refine m_tab (off := 148) (tgt := 152) C dX2_isLetter_4 (by decide) (by rw [s4_88]; decide) (by decide) ?_
    refine m_iconst (pc' := 153) (v := bI true) C dX2_isLetter_152 (by decide) rfl ?_
    refine m_iret C hrt0 hlk0 (nar_z _) dX2_isLetter_153 ?_
    exact ⟨by first | (rw [e9]; done) | (rw [e9]; rfl), rfl⟩
  refine dite (chAt T j = nI 98) (fun s4_98 => ?_) (fun s4_98 => ?_)
  · have e9 : T.getD j 0 = 98 := (chAt_eq h256 (by decide) (by decide)).mp s4_98
    refine m_tab (off := 148) (tgt := 152) C dX2_isLetter_4 (by decide) (by rw [s4_98]; decide) (by decide) ?_
    refine m_iconst (pc' := 153) (v := bI true) C dX2_isLetter_152 (by decide) rfl ?_
    refine m_iret C hrt0 hlk0 (nar_z _) dX2_isLetter_153 ?_
    exact ⟨by first | (rw [e9]; done) | (rw [e9]; rfl), rfl⟩
  refine dite (chAt T j = nI 99) (fun s4_99 => ?_) (fun s4_99 => ?_)
  · have e9 : T.getD j 0 = 99 := (chAt_eq h256 (by decide) (by decide)).mp s4_99
    refine m_tab (off := 148) (tgt := 152) C dX2_isLetter_4 (by decide) (by rw [s4_99]; decide) (by decide) ?_
    refine m_iconst (pc' := 153) (v := bI true) C dX2_isLetter_152 (by decide) rfl ?_
    refine m_iret C hrt0 hlk0 (nar_z _) dX2_isLetter_153 ?_
    exact ⟨by first | (rw [e9]; done) | (rw [e9]; rfl), rfl⟩
  refine dite (chAt T j = nI 100) (fun s4_100 => ?_) (fun s4_100 => ?_)
  · have e9 : T.getD j 0 = 100 := (chAt_eq h256 (by decide) (by decide)).mp s4_100
    refine m_tab (off := 148) (tgt := 152) C dX2_isLetter_4 (by decide) (by rw [s4_100]; decide) (by decide) ?_
    refine m_iconst (pc' := 153) (v := bI true) C dX2_isLetter_152 (by decide) rfl ?_
    refine m_iret C hrt0 hlk0 (nar_z _) dX2_isLetter_153 ?_
    exact ⟨by first | (rw [e9]; done) | (rw [e9]; rfl), rfl⟩
  refine dite (chAt T j = nI 105) (fun s4_105 => ?_) (fun s4_105 => ?_)
  · have e9 : T.getD j 0 = 105 := (chAt_eq h256 (by decide) (by decide)).mp s4_105
    refine m_tab (off := 148) (tgt := 152) C dX2_isLetter_4 (by decide) (by rw [s4_105]; decide) (by decide) ?_
    refine m_iconst (pc' := 153) (v := bI true) C dX2_isLetter_152 (by decide) rfl ?_
    refine m_iret C hrt0 hlk0 (nar_z _) dX2_isLetter_153 ?_
    exact ⟨by first | (rw [e9]; done) | (rw [e9]; rfl), rfl⟩
  refine dite (chAt T j = nI 111) (fun s4_111 => ?_) (fun s4_111 => ?_)
  · have e9 : T.getD j 0 = 111 := (chAt_eq h256 (by decide) (by decide)).mp s4_111
    refine m_tab (off := 148) (tgt := 152) C dX2_isLetter_4 (by decide) (by rw [s4_111]; decide) (by decide) ?_
    refine m_iconst (pc' := 153) (v := bI true) C dX2_isLetter_152 (by decide) rfl ?_
    refine m_iret C hrt0 hlk0 (nar_z _) dX2_isLetter_153 ?_
    exact ⟨by first | (rw [e9]; done) | (rw [e9]; rfl), rfl⟩
  refine dite (chAt T j = nI 115) (fun s4_115 => ?_) (fun s4_115 => ?_)
  · have e9 : T.getD j 0 = 115 := (chAt_eq h256 (by decide) (by decide)).mp s4_115
    refine m_tab (off := 148) (tgt := 152) C dX2_isLetter_4 (by decide) (by rw [s4_115]; decide) (by decide) ?_
    refine m_iconst (pc' := 153) (v := bI true) C dX2_isLetter_152 (by decide) rfl ?_
    refine m_iret C hrt0 hlk0 (nar_z _) dX2_isLetter_153 ?_
    exact ⟨by first | (rw [e9]; done) | (rw [e9]; rfl), rfl⟩
  refine dite (chAt T j = nI 117) (fun s4_117 => ?_) (fun s4_117 => ?_)
  · have e9 : T.getD j 0 = 117 := (chAt_eq h256 (by decide) (by decide)).mp s4_117
    refine m_tab (off := 148) (tgt := 152) C dX2_isLetter_4 (by decide) (by rw [s4_117]; decide) (by decide) ?_
    refine m_iconst (pc' := 153) (v := bI true) C dX2_isLetter_152 (by decide) rfl ?_
    refine m_iret C hrt0 hlk0 (nar_z _) dX2_isLetter_153 ?_
    exact ⟨by first | (rw [e9]; done) | (rw [e9]; rfl), rfl⟩
  refine dite (chAt T j = nI 120) (fun s4_120 => ?_) (fun s4_120 => ?_)
  · have e9 : T.getD j 0 = 120 := (chAt_eq h256 (by decide) (by decide)).mp s4_120
    refine m_tab (off := 148) (tgt := 152) C dX2_isLetter_4 (by decide) (by rw [s4_120]; decide) (by decide) ?_
    refine m_iconst (pc' := 153) (v := bI true) C dX2_isLetter_152 (by decide) rfl ?_
    refine m_iret C hrt0 hlk0 (nar_z _) dX2_isLetter_153 ?_
    exact ⟨by first | (rw [e9]; done) | (rw [e9]; rfl), rfl⟩
  have e9 : letC (T.getD j 0) = false := by
    unfold letC
    rw [beq_eq_false_iff_ne.mpr (fun q => s4_88 ((chAt_eq h256 (by decide) (by decide)).mpr q)), beq_eq_false_iff_ne.mpr (fun q => s4_98 ((chAt_eq h256 (by decide) (by decide)).mpr q)), beq_eq_false_iff_ne.mpr (fun q => s4_99 ((chAt_eq h256 (by decide) (by decide)).mpr q)), beq_eq_false_iff_ne.mpr (fun q => s4_100 ((chAt_eq h256 (by decide) (by decide)).mpr q)), beq_eq_false_iff_ne.mpr (fun q => s4_105 ((chAt_eq h256 (by decide) (by decide)).mpr q)), beq_eq_false_iff_ne.mpr (fun q => s4_111 ((chAt_eq h256 (by decide) (by decide)).mpr q)), beq_eq_false_iff_ne.mpr (fun q => s4_115 ((chAt_eq h256 (by decide) (by decide)).mpr q)), beq_eq_false_iff_ne.mpr (fun q => s4_117 ((chAt_eq h256 (by decide) (by decide)).mpr q)), beq_eq_false_iff_ne.mpr (fun q => s4_120 ((chAt_eq h256 (by decide) (by decide)).mpr q))]
    rfl
  refine m_tab (off := 150) (tgt := 154) C dX2_isLetter_4 (by decide) (tab_def [88, 98, 99, 100, 105, 111, 115, 117, 120] (by decide) (by decide) (nmc (lv_neT s4_88 (by decide)) (nmc (lv_neT s4_98 (by decide)) (nmc (lv_neT s4_99 (by decide)) (nmc (lv_neT s4_100 (by decide)) (nmc (lv_neT s4_105 (by decide)) (nmc (lv_neT s4_111 (by decide)) (nmc (lv_neT s4_115 (by decide)) (nmc (lv_neT s4_117 (by decide)) (nmc (lv_neT s4_120 (by decide)) List.not_mem_nil)))))))))) (by decide) ?_
  refine m_iconst (pc' := 155) (v := bI false) C dX2_isLetter_154 (by decide) rfl ?_
  refine m_iret C hrt0 hlk0 (nar_z _) dX2_isLetter_155 ?_
  exact ⟨by first | (rw [e9]; done) | (rw [e9]; rfl), rfl⟩
set_option maxHeartbeats 4000000 in
set_option maxRecDepth 100000 in
theorem kX2_cutToStar {l : Launch} {D : va_G} {cy : Nat → ClassId} {ad : Nat → Nat} {n : Nat} {A : Nat → Prop} (hI : mI ad n A) {M : Nat → va_E} (v : Int64) : mMi l yX2_cutToStar (gW yX2_cutToStar cX2_cutToStar 2 (some .int)) { frames := 1, cells := 0, slots := 0, locals := 23 } D cy ad n A [.long v] M (fun res M' => res = cutI v ∧ M' = M) := by
  refine m_entry (cc := cX2_cutToStar) (maxL := 2) (ret := (some .int)) (own := RX2) (lv := [(0, .long (v))]) hI (by decide) rfl rfl (Nat.le_of_ble_eq_true rfl) rfl (fun pX eX sX mX aX bX tX cX C hrt0 hlk0 => ?_)
  refine m_ldc2 (pc' := 3) (v := (-99)) C dX2_cutToStar_0 (gW_of tm_3_19) rfl ?_
  refine m_ldc2 (pc' := 6) (v := (99)) C dX2_cutToStar_3 (gW_of tm_3_20) rfl ?_
  refine m_lload_n (pc' := 7) C dX2_cutToStar_6 rfl 0 rfl rfl ?_
  refine m_mminl (pc' := 10) (v := if v < (99) then v else (99)) C (gW_of tm_3_21) (gW_of tm_3_22) (gW_of tm_1_19) (gW_of tm_3_23) (by decide) (Nat.le_of_ble_eq_true rfl) ⟨by decide, by decide⟩ rfl dX2_cutToStar_7 rfl ?_
  refine m_mmaxl (pc' := 13) (v := if (if v < (99) then v else (99)) < (-99) then (-99) else (if v < (99) then v else (99))) C (gW_of tm_3_24) (gW_of tm_3_25) (gW_of tm_1_19) (gW_of tm_3_26) (by decide) (Nat.le_of_ble_eq_true rfl) ⟨by decide, by decide⟩ rfl dX2_cutToStar_10 rfl ?_
  refine m_l2i (pc' := 14) (v := (if (if v < (99) then v else (99)) < (-99) then (-99) else (if v < (99) then v else (99))).toInt32) C dX2_cutToStar_13 rfl rfl ?_
  exact m_iret C hrt0 hlk0 rfl dX2_cutToStar_14 ⟨rfl, rfl⟩
set_option maxHeartbeats 4000000 in
set_option maxRecDepth 100000 in
theorem kX2_takeWidth {l : Launch} {D : va_G} {cy : Nat → ClassId} {ad : Nat → Nat} {n : Nat} {A : Nat → Prop} (hI : mI ad n A) {M : Nat → va_E} {dd : Nat} {fl fp fb fm fz sw sp : Bool} {wd pr bt lt en : Int32} (hdd : dd < n) (hd : M dd = .inr (2, [.int (bI fl), .int (bI fp), .int (bI fb), .int (bI fm), .int (bI fz), .int (bI sw), .int (bI sp), .int (wd), .int (pr), .int (bt), .int (lt), .int (en)])) (v : Int64) : mMv l yX2_takeWidth (gW yX2_takeWidth cX2_takeWidth 4 none) { frames := 2, cells := 0, slots := 0, locals := 44 } D cy ad n A [.ref (ad dd), .long v] M (fun M' => M' dd = .inr (2, [.int (bI (fl || decide (cutI v < 0))), .int (bI fp), .int (bI fb), .int (bI fm), .int (bI fz), .int (bI sw), .int (bI sp), .int (if cutI v < 0 then -(cutI v) else cutI v), .int (pr), .int (bt), .int (lt), .int (en)]) ∧ Fr [dd] M M') := by
  refine m_entry (cc := cX2_takeWidth) (maxL := 4) (ret := none) (own := RX2) (lv := [(0, .ref (ad dd)), (1, .long (v))]) hI (by decide) rfl rfl (Nat.le_of_ble_eq_true rfl) rfl (fun pX eX sX mX aX bX tX cX C hrt0 hlk0 => ?_)
  refine m_lload_n (pc' := 1) C dX2_takeWidth_0 rfl 1 rfl rfl ?_
  refine m_callSi (pc' := 4) (As := [.long (v)]) (rest := []) C (kX2_cutToStar hI v) (cwS 1 C.1.2.2.2.2 (goodS tm_3_16 tm_3_17 tm_1_9 tm_3_18) rfl rfl rfl (by decide +kernel) ⟨by decide, by decide⟩) rfl rfl (Nat.le_of_ble_eq_true rfl) dX2_takeWidth_1 rfl ⟨by decide, by decide⟩ (fun x_1 N_1 q_1 => ?_)
  obtain ⟨e_1, E_1⟩ := q_1
  replace E_1 := E_1.symm
  subst E_1
  replace e_1 := e_1.symm
  subst e_1
  refine m_istore_n (pc' := 5) (lv' := [(3, .int (cutI v)), (0, .ref (ad dd)), (1, .long (v))]) C dX2_takeWidth_4 rfl (by decide) rfl rfl ?_
  refine m_iload_n (pc' := 6) C dX2_takeWidth_5 rfl 0 rfl rfl ?_
  refine m_if_ge (pc' := 9) (tgt := 17) C dX2_takeWidth_6 (by decide) rfl (fun c_6 => ?_) (fun c_6 => ?_)
  · refine m_aload_n (pc' := 18) C dX2_takeWidth_17 rfl 1 rfl rfl ?_
    refine m_iload_n (pc' := 19) C dX2_takeWidth_18 rfl 0 rfl rfl ?_
    refine m_put (pc' := 22) (ty := .int) (fs' := [.int (bI fl), .int (bI fp), .int (bI fb), .int (bI fm), .int (bI fz), .int (bI sw), .int (bI sp), .int (cutI v), .int (pr), .int (bt), .int (lt), .int (en)]) C dd hdd hd rfl inW_X2 tyX2 tyX2_ok nmX2 7 (by decide) (gW_of tm_1_167) rfl rfl (by decide +kernel) rfl rfl (by simp) rfl dX2_takeWidth_19 rfl (fun M2 g_2 F_2 => ?_)
    refine m_vret C hrt0 hlk0 dX2_takeWidth_22 ?_
    refine ⟨?_, (F_2.sub (by simp))⟩
    rw [g_2]
    first | (rw [if_neg (Int32.not_lt.mpr c_6), decide_eq_false (Int32.not_lt.mpr c_6), Bool.or_false]) | (rw [if_pos (Int32.not_le.mp c_6), decide_eq_true (Int32.not_le.mp c_6), Bool.or_true])
  · refine m_aload_n (pc' := 10) C dX2_takeWidth_9 rfl 1 rfl rfl ?_
    refine m_iconst (pc' := 11) (v := bI true) C dX2_takeWidth_10 (by decide) rfl ?_
    refine m_put (pc' := 14) (ty := .boolean) (fs' := [.int (bI true), .int (bI fp), .int (bI fb), .int (bI fm), .int (bI fz), .int (bI sw), .int (bI sp), .int (wd), .int (pr), .int (bt), .int (lt), .int (en)]) C dd hdd hd rfl inW_X2 tyX2 tyX2_ok nmX2 0 (by decide) (gW_of tm_1_154) rfl rfl (by decide +kernel) (nar_z _) (fit_z _) (by simp) rfl dX2_takeWidth_11 rfl (fun M3 g_3 F_3 => ?_)
    refine m_iload_n (pc' := 15) C dX2_takeWidth_14 rfl 0 rfl rfl ?_
    refine m_ineg (pc' := 16) (v := -(cutI v)) C dX2_takeWidth_15 rfl rfl ?_
    refine m_istore_n (pc' := 17) (lv' := [(3, .int (-(cutI v))), (0, .ref (ad dd)), (1, .long (v))]) C dX2_takeWidth_16 rfl (by decide) rfl rfl ?_
    refine m_aload_n (pc' := 18) C dX2_takeWidth_17 rfl 1 rfl rfl ?_
    refine m_iload_n (pc' := 19) C dX2_takeWidth_18 rfl 0 rfl rfl ?_
    refine m_put (pc' := 22) (ty := .int) (fs' := [.int (bI true), .int (bI fp), .int (bI fb), .int (bI fm), .int (bI fz), .int (bI sw), .int (bI sp), .int (-(cutI v)), .int (pr), .int (bt), .int (lt), .int (en)]) C dd hdd g_3 rfl inW_X2 tyX2 tyX2_ok nmX2 7 (by decide) (gW_of tm_1_167) rfl rfl (by decide +kernel) rfl rfl (by simp) rfl dX2_takeWidth_19 rfl (fun M4 g_4 F_4 => ?_)
    refine m_vret C hrt0 hlk0 dX2_takeWidth_22 ?_
    refine ⟨?_, ((F_3.sub (by simp)).tr (F_4.sub (by simp)))⟩
    rw [g_4]
    first | (rw [if_neg (Int32.not_lt.mpr c_6), decide_eq_false (Int32.not_lt.mpr c_6), Bool.or_false]) | (rw [if_pos (Int32.not_le.mp c_6), decide_eq_true (Int32.not_le.mp c_6), Bool.or_true])
set_option maxHeartbeats 4000000 in
set_option maxRecDepth 100000 in
theorem kX2_takePrecision {l : Launch} {D : va_G} {cy : Nat → ClassId} {ad : Nat → Nat} {n : Nat} {A : Nat → Prop} (hI : mI ad n A) {M : Nat → va_E} {dd : Nat} {fl fp fb fm fz sw sp : Bool} {wd pr bt lt en : Int32} (hdd : dd < n) (hd : M dd = .inr (2, [.int (bI fl), .int (bI fp), .int (bI fb), .int (bI fm), .int (bI fz), .int (bI sw), .int (bI sp), .int (wd), .int (pr), .int (bt), .int (lt), .int (en)])) (v : Int64) : mMv l yX2_takePrecision (gW yX2_takePrecision cX2_takePrecision 3 none) { frames := 2, cells := 0, slots := 0, locals := 44 } D cy ad n A [.ref (ad dd), .long v] M (fun M' => M' dd = .inr (2, [.int (bI fl), .int (bI fp), .int (bI fb), .int (bI fm), .int (bI fz), .int (bI sw), .int (bI sp), .int (wd), .int (if v < 0 then -1 else cutI v), .int (bt), .int (lt), .int (en)]) ∧ Fr [dd] M M') := by
  refine m_entry (cc := cX2_takePrecision) (maxL := 3) (ret := none) (own := RX2) (lv := [(0, .ref (ad dd)), (1, .long (v))]) hI (by decide) rfl rfl (Nat.le_of_ble_eq_true rfl) rfl (fun pX eX sX mX aX bX tX cX C hrt0 hlk0 => ?_)
  refine m_aload_n (pc' := 1) C dX2_takePrecision_0 rfl 0 rfl rfl ?_
  refine m_lload_n (pc' := 2) C dX2_takePrecision_1 rfl 1 rfl rfl ?_
  refine m_lconst (pc' := 3) (v := 0) C dX2_takePrecision_2 (by decide) rfl ?_
  refine m_lcmp (pc' := 4) (v := lg_cmp v 0) C dX2_takePrecision_3 rfl rfl ?_
  refine m_if_ge (pc' := 7) (tgt := 11) C dX2_takePrecision_4 (by decide) rfl (fun c_4 => ?_) (fun c_4 => ?_)
  · refine m_lload_n (pc' := 12) C dX2_takePrecision_11 rfl 1 rfl rfl ?_
    refine m_callSi (pc' := 15) (As := [.long (v)]) (rest := [.ref (ad dd)]) C (kX2_cutToStar hI v) (cwS 1 C.1.2.2.2.2 (goodS tm_3_16 tm_3_17 tm_1_9 tm_3_18) rfl rfl rfl (by decide +kernel) ⟨by decide, by decide⟩) rfl rfl (Nat.le_of_ble_eq_true rfl) dX2_takePrecision_12 rfl ⟨by decide, by decide⟩ (fun x_1 N_1 q_1 => ?_)
    obtain ⟨e_1, E_1⟩ := q_1
    replace E_1 := E_1.symm
    subst E_1
    replace e_1 := e_1.symm
    subst e_1
    refine m_put (pc' := 18) (ty := .int) (fs' := [.int (bI fl), .int (bI fp), .int (bI fb), .int (bI fm), .int (bI fz), .int (bI sw), .int (bI sp), .int (wd), .int (cutI v), .int (bt), .int (lt), .int (en)]) C dd hdd hd rfl inW_X2 tyX2 tyX2_ok nmX2 8 (by decide) (gW_of tm_1_169) rfl rfl (by decide +kernel) rfl rfl (by simp) rfl dX2_takePrecision_15 rfl (fun M2 g_2 F_2 => ?_)
    refine m_vret C hrt0 hlk0 dX2_takePrecision_18 ?_
    refine ⟨?_, (F_2.sub (by simp))⟩
    rw [g_2]
    first | rw [if_neg ((lcmp_ge v).mp c_4)] | rw [if_pos (Classical.not_not.mp (fun q => c_4 ((lcmp_ge v).mpr q)))]
  · refine m_iconst (pc' := 8) (v := (-1)) C dX2_takePrecision_7 (by decide) rfl ?_
    refine m_goto (tgt := 15) C dX2_takePrecision_8 (by decide) ?_
    refine m_put (pc' := 18) (ty := .int) (fs' := [.int (bI fl), .int (bI fp), .int (bI fb), .int (bI fm), .int (bI fz), .int (bI sw), .int (bI sp), .int (wd), .int ((-1)), .int (bt), .int (lt), .int (en)]) C dd hdd hd rfl inW_X2 tyX2 tyX2_ok nmX2 8 (by decide) (gW_of tm_1_169) rfl rfl (by decide +kernel) rfl rfl (by simp) rfl dX2_takePrecision_15 rfl (fun M3 g_3 F_3 => ?_)
    refine m_vret C hrt0 hlk0 dX2_takePrecision_18 ?_
    refine ⟨?_, (F_3.sub (by simp))⟩
    rw [g_3]
    first | rw [if_neg ((lcmp_ge v).mp c_4)] | rw [if_pos (Classical.not_not.mp (fun q => c_4 ((lcmp_ge v).mpr q)))]
