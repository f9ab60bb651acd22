set_option maxHeartbeats 4000000 in
set_option maxRecDepth 100000 in
theorem kX2_read {l : Launch} {D : va_G} {cy : Nat → ClassId} {ad : Nat → Nat} {n : Nat} {A : Nat → Prop} (hI : mI ad n A) {M : Nat → va_E} {r ra : Nat} {T : List Nat} (ht : isRow cy ad n M r ra 80 80 T) (hT : T.length ≤ 80) {dd : Nat} {fl fp fb fm fz sw sp : Bool} {wd pr bt lt en : Int32} (hdd : dd < n) (hd : M dd = .inr (2, [.int (bI fl), .int (bI fp), .int (bI fb), .int (bI fm), .int (bI fz), .int (bI sw), .int (bI sp), .int (wd), .int (pr), .int (bt), .int (lt), .int (en)])) (hdj : dd ≠ r ∧ dd ≠ ra) {i : Nat} (hi : i ≤ 100) : mMi l yX2_read (gW yX2_read cX2_read 3 (some .boolean)) { frames := 3, cells := 0, slots := 0, locals := 66 } D cy ad n A [.ref (ad dd), .ref (ad r), .int (nI i)] M (fun res M' => res = bI (dirOk T i) ∧ M' dd = .inr (2, dirF T i) ∧ Fr [dd] M M') := by
  have h256 : ∀ x ∈ T, x < 256 := ht.2.2.2.2.1
  have b1 := dP1_le T i
  unfold dP1 at b1
  have b2 := wdE_le T (i + (flR (T.drop i)).length)
  have b3 := prE_le T (wdE T (i + (flR (T.drop i)).length))
  have b4 := lnE_le T (prE T (wdE T (i + (flR (T.drop i)).length)))
  refine m_entry (cc := cX2_read) (maxL := 3) (ret := (some .boolean)) (own := RX2) (lv := [(0, .ref (ad dd)), (1, .ref (ad r)), (2, .int (nI i))]) hI (by decide) rfl rfl (Nat.le_of_ble_eq_true rfl) rfl (fun pX eX sX mX aX bX tX cX C hrt0 hlk0 => ?_)
  refine m_aload_n (pc' := 1) C dX2_read_0 rfl 0 rfl rfl ?_
  refine m_callVv (pc' := 4) (As := []) (rest := []) C (kX2_forget hI hdd hd) (cwV 0 C.1.2.2.2.2 (goodV tm_1_150 tm_1_152 tp_0 tm_1_9 tm_1_153) rfl rfl rfl (by decide +kernel) ⟨by decide, by decide⟩) hdd hd rfl rfl rfl (Nat.le_of_ble_eq_true rfl) dX2_read_1 rfl ⟨by decide, by decide⟩ (fun M1 q_1 => ?_)
  obtain ⟨g_1, F_1⟩ := q_1
  refine m_aload_n (pc' := 5) C dX2_read_4 rfl 0 rfl rfl ?_
  refine m_iload_n (pc' := 6) C dX2_read_5 rfl 2 rfl rfl ?_
  refine m_put (pc' := 9) (ty := .int) (fs' := [.int (bI false), .int (bI false), .int (bI false), .int (bI false), .int (bI false), .int (bI false), .int (bI false), .int (nI 0), .int ((-1)), .int (nI 32), .int ((-1)), .int (nI i)]) C dd hdd g_1 rfl inW_X2 tyX2 tyX2_ok nmX2 11 (by decide) (gW_of tm_1_175) rfl rfl (by decide +kernel) rfl rfl (by simp) rfl dX2_read_6 rfl (fun M2 g_2 F_2 => ?_)
  refine m_aload_n (pc' := 10) C dX2_read_9 rfl 0 rfl rfl ?_
  refine m_aload_n (pc' := 11) C dX2_read_10 rfl 1 rfl rfl ?_
  have Rr_4 := ht.fr F_1 (by simp <;> omega) (by simp <;> omega)
  have Rr_5 := Rr_4.fr F_2 (by simp <;> omega) (by simp <;> omega)
  refine m_callVv (pc' := 14) (As := [.ref (ad r)]) (rest := []) C (kX2_readFlags hI Rr_5 hT hdd g_2 hdj (by omega)) (cwV 1 C.1.2.2.2.2 (goodV tm_2_158 tm_2_160 tp_4 tm_1_9 tm_2_161) rfl rfl rfl (by decide +kernel) ⟨by decide, by decide⟩) hdd g_2 rfl rfl rfl (Nat.le_of_ble_eq_true rfl) dX2_read_11 rfl ⟨by decide, by decide⟩ (fun M3 q_3 => ?_)
  obtain ⟨g_3, F_3⟩ := q_3
  refine m_aload_n (pc' := 15) C dX2_read_14 rfl 0 rfl rfl ?_
  refine m_aload_n (pc' := 16) C dX2_read_15 rfl 1 rfl rfl ?_
  have Rr_7 := Rr_5.fr F_3 (by simp <;> omega) (by simp <;> omega)
  refine m_callVv (pc' := 19) (As := [.ref (ad r)]) (rest := []) C (kX2_readWidth hI Rr_7 hT hdd g_3 hdj (by omega)) (cwV 1 C.1.2.2.2.2 (goodV tm_2_168 tm_2_170 tp_6 tm_1_9 tm_2_171) rfl rfl rfl (by decide +kernel) ⟨by decide, by decide⟩) hdd g_3 rfl rfl rfl (Nat.le_of_ble_eq_true rfl) dX2_read_16 rfl ⟨by decide, by decide⟩ (fun M6 q_6 => ?_)
  obtain ⟨g_6, F_6⟩ := q_6
  refine m_aload_n (pc' := 20) C dX2_read_19 rfl 0 rfl rfl ?_
  refine m_aload_n (pc' := 21) C dX2_read_20 rfl 1 rfl rfl ?_
  have Rr_9 := Rr_7.fr F_6 (by simp <;> omega) (by simp <;> omega)
  refine m_callVv (pc' := 24) (As := [.ref (ad r)]) (rest := []) C (kX2_readPrecision hI Rr_9 hT hdd g_6 hdj (by omega)) (cwV 1 C.1.2.2.2.2 (goodV tm_2_177 tm_2_179 tp_8 tm_1_9 tm_2_180) rfl rfl rfl (by decide +kernel) ⟨by decide, by decide⟩) hdd g_6 rfl rfl rfl (Nat.le_of_ble_eq_true rfl) dX2_read_21 rfl ⟨by decide, by decide⟩ (fun M8 q_8 => ?_)
  obtain ⟨g_8, F_8⟩ := q_8
  refine m_aload_n (pc' := 25) C dX2_read_24 rfl 0 rfl rfl ?_
  refine m_aload_n (pc' := 26) C dX2_read_25 rfl 1 rfl rfl ?_
  have Rr_11 := Rr_9.fr F_8 (by simp <;> omega) (by simp <;> omega)
  refine m_callVv (pc' := 29) (As := [.ref (ad r)]) (rest := []) C (kX2_readLength hI Rr_11 hT hdd g_8 hdj (by omega)) (cwV 1 C.1.2.2.2.2 (goodV tm_2_181 tm_2_183 tp_9 tm_1_9 tm_2_184) rfl rfl rfl (by decide +kernel) ⟨by decide, by decide⟩) hdd g_8 rfl rfl rfl (Nat.le_of_ble_eq_true rfl) dX2_read_26 rfl ⟨by decide, by decide⟩ (fun M10 q_10 => ?_)
  obtain ⟨g_10, F_10⟩ := q_10
  refine m_aload_n (pc' := 30) C dX2_read_29 rfl 0 rfl rfl ?_
  refine m_aload_n (pc' := 31) C dX2_read_30 rfl 1 rfl rfl ?_
  refine m_aload_n (pc' := 32) C dX2_read_31 rfl 0 rfl rfl ?_
  refine m_get (pc' := 35) C dd hdd g_10 rfl inW_X2 11 (by decide) (gW_of tm_1_175) rfl rfl dX2_read_32 rfl ?_
  have Rr_12 := Rr_11.fr F_10 (by simp <;> omega) (by simp <;> omega)
  refine m_callVi (pc' := 38) (As := [.int (nI (lnE T (prE T (wdE T (i + (flR (T.drop i)).length)))))]) (rest := [.ref (ad dd)]) C (kX9_at hI Rr_12 (nI (lnE T (prE T (wdE T (i + (flR (T.drop i)).length)))))) (cwV 1 C.1.2.2.2.2 (goodV tm_2_163 tm_2_128 tm_2_129 tm_1_3 tm_2_130) rfl rfl rfl (by decide +kernel) ⟨by decide, by decide⟩) Rr_12.1 Rr_12.ob rfl rfl rfl (Nat.le_of_ble_eq_true rfl) dX2_read_35 rfl ⟨by decide, by decide⟩ (fun x_13 N_13 q_13 => ?_)
  obtain ⟨e_13, E_13⟩ := q_13
  replace E_13 := E_13.symm
  subst E_13
  replace e_13 : x_13 = chAt T (lnE T (prE T (wdE T (i + (flR (T.drop i)).length)))) := e_13.trans (rowAt_full hT (by omega) (by omega))
  replace e_13 := e_13.symm
  subst e_13
  refine m_put (pc' := 41) (ty := .int) (fs' := [.int (bI (has 45 (flR (T.drop i)))), .int (bI (has 43 (flR (T.drop i)))), .int (bI (has 32 (flR (T.drop i)))), .int (bI (has 35 (flR (T.drop i)))), .int (bI (has 48 (flR (T.drop i)))), .int (bI (wdS T (i + (flR (T.drop i)).length))), .int (bI (prS T (wdE T (i + (flR (T.drop i)).length)))), .int (nI (wdN T (i + (flR (T.drop i)).length))), .int (prI T (wdE T (i + (flR (T.drop i)).length))), .int (nI (lnB T (prE T (wdE T (i + (flR (T.drop i)).length))))), .int (chAt T (lnE T (prE T (wdE T (i + (flR (T.drop i)).length))))), .int (nI (lnE T (prE T (wdE T (i + (flR (T.drop i)).length)))))]) C dd hdd g_10 rfl inW_X2 tyX2 tyX2_ok nmX2 10 (by decide) (gW_of tm_1_173) rfl rfl (by decide +kernel) rfl rfl (by simp) rfl dX2_read_38 rfl (fun M14 g_14 F_14 => ?_)
  refine m_aload_n (pc' := 42) C dX2_read_41 rfl 0 rfl rfl ?_
  refine m_dup (pc' := 43) C dX2_read_42 rfl rfl ?_
  refine m_get (pc' := 46) C dd hdd g_14 rfl inW_X2 11 (by decide) (gW_of tm_1_175) rfl rfl dX2_read_43 rfl ?_
  refine m_iconst (pc' := 47) (v := nI 1) C dX2_read_46 (by decide) rfl ?_
  refine m_iadd (pc' := 48) (v := nI ((lnE T (prE T (wdE T (i + (flR (T.drop i)).length)))) + 1)) C dX2_read_47 (nI_add _ _) rfl ?_
  refine m_put (pc' := 51) (ty := .int) (fs' := [.int (bI (has 45 (flR (T.drop i)))), .int (bI (has 43 (flR (T.drop i)))), .int (bI (has 32 (flR (T.drop i)))), .int (bI (has 35 (flR (T.drop i)))), .int (bI (has 48 (flR (T.drop i)))), .int (bI (wdS T (i + (flR (T.drop i)).length))), .int (bI (prS T (wdE T (i + (flR (T.drop i)).length)))), .int (nI (wdN T (i + (flR (T.drop i)).length))), .int (prI T (wdE T (i + (flR (T.drop i)).length))), .int (nI (lnB T (prE T (wdE T (i + (flR (T.drop i)).length))))), .int (chAt T (lnE T (prE T (wdE T (i + (flR (T.drop i)).length))))), .int (nI ((lnE T (prE T (wdE T (i + (flR (T.drop i)).length)))) + 1))]) C dd hdd g_14 rfl inW_X2 tyX2 tyX2_ok nmX2 11 (by decide) (gW_of tm_1_175) rfl rfl (by decide +kernel) rfl rfl (by simp) rfl dX2_read_48 rfl (fun M15 g_15 F_15 => ?_)
  refine m_aload_n (pc' := 52) C dX2_read_51 rfl 0 rfl rfl ?_
  refine m_callVi (pc' := 55) (As := []) (rest := []) C (kX2_isLetter hI hdd g_15 h256) (cwV 0 C.1.2.2.2.2 (goodV tm_2_185 tm_2_187 tp_10 tm_1_9 tm_2_188) rfl rfl rfl (by decide +kernel) ⟨by decide, by decide⟩) hdd g_15 rfl rfl rfl (Nat.le_of_ble_eq_true rfl) dX2_read_52 rfl ⟨by decide, by decide⟩ (fun x_16 N_16 q_16 => ?_)
  obtain ⟨e_16, E_16⟩ := q_16
  replace E_16 := E_16.symm
  subst E_16
  replace e_16 := e_16.symm
  subst e_16
  refine m_iret C hrt0 hlk0 (nar_z _) dX2_read_55 ?_
  exact ⟨rfl, g_15, ((((((((F_1.sub (by simp)).tr (F_2.sub (by simp))).tr (F_3.sub (by simp))).tr (F_6.sub (by simp))).tr (F_8.sub (by simp))).tr (F_10.sub (by simp))).tr (F_14.sub (by simp))).tr (F_15.sub (by simp)))⟩
set_option maxHeartbeats 4000000 in
set_option maxRecDepth 100000 in
theorem kX3_readInText {l : Launch} {D : va_G} {cy : Nat → ClassId} {ad : Nat → Nat} {n : Nat} {A : Nat → Prop} (hI : mI ad n A) {M : Nat → va_E} {r ra : Nat} {T : List Nat} (ht : isRow cy ad n M r ra 80 80 T) (hT : T.length ≤ 80) {eo : Nat} {ev ee : Int32} (heo : eo < n) (he : M eo = .inr (3, [.int ev, .int ee])) (hdj : eo ≠ r ∧ eo ≠ ra) {i : Nat} (hi : i ≤ 100) : mMi l yX3_readInText (gW yX3_readInText cX3_readInText 3 (some .boolean)) { frames := 2, cells := 0, slots := 0, locals := 45 } D cy ad n A [.ref (ad eo), .ref (ad r), .int (nI i)] M (fun res M' => res = bI (txOk T i) ∧ (∃ x y : Int32, M' eo = .inr (3, [.int x, .int y]) ∧ (txOk T i = true → x = nI (txV T i) ∧ y = nI (txE T i))) ∧ Fr [eo] M M') := by
  have h256 : ∀ x ∈ T, x < 256 := ht.2.2.2.2.1
  refine m_entry (cc := cX3_readInText) (maxL := 3) (ret := (some .boolean)) (own := RX3) (lv := [(0, .ref (ad eo)), (1, .ref (ad r)), (2, .int (nI i))]) hI (by decide) rfl rfl (Nat.le_of_ble_eq_true rfl) rfl (fun pX eX sX mX aX bX tX cX C hrt0 hlk0 => ?_)
  refine m_aload_n (pc' := 1) C dX3_readInText_0 rfl 0 rfl rfl ?_
  refine m_aload_n (pc' := 2) C dX3_readInText_1 rfl 1 rfl rfl ?_
  refine m_iload_n (pc' := 3) C dX3_readInText_2 rfl 2 rfl rfl ?_
  refine m_callVi (pc' := 6) (As := [.ref (ad r), .int (nI i)]) (rest := []) C (kX3_readLetter hI ht hT heo he hdj (by omega)) (cwV 2 C.1.2.2.2.2 (goodV tm_2_135 tm_2_137 tp_2 tm_1_8 tm_2_138) rfl rfl rfl (by decide +kernel) ⟨by decide, by decide⟩) heo he rfl rfl rfl (Nat.le_of_ble_eq_true rfl) dX3_readInText_3 rfl ⟨by decide, by decide⟩ (fun x_1 M1 q_1 => ?_)
  obtain ⟨e_1, g_1, F_1⟩ := q_1
  replace e_1 := e_1.symm
  subst e_1
  refine m_if_eq (pc' := 9) (tgt := 11) C dX3_readInText_6 (by decide) rfl (fun c_6 => ?_) (fun c_6 => ?_)
  · have hz : escC (T.getD i 0) = 0 := by have h9 := (bI_0 _).mp c_6; exact Classical.not_not.mp (fun q => by rw [bne_iff_ne.mpr q] at h9; cases h9)
    refine m_aload_n (pc' := 12) C dX3_readInText_11 rfl 1 rfl rfl ?_
    refine m_iload_n (pc' := 13) C dX3_readInText_12 rfl 2 rfl rfl ?_
    have Rr_2 := ht.fr F_1 (by simp <;> omega) (by simp <;> omega)
    refine m_callVi (pc' := 16) (As := [.int (nI i)]) (rest := []) C (kX9_at hI Rr_2 (nI i)) (cwV 1 C.1.2.2.2.2 (goodV tm_2_139 tm_2_128 tm_2_129 tm_1_3 tm_2_130) rfl rfl rfl (by decide +kernel) ⟨by decide, by decide⟩) Rr_2.1 Rr_2.ob rfl rfl rfl (Nat.le_of_ble_eq_true rfl) dX3_readInText_13 rfl ⟨by decide, by decide⟩ (fun x_3 N_3 q_3 => ?_)
    obtain ⟨e_3, E_3⟩ := q_3
    replace E_3 := E_3.symm
    subst E_3
    replace e_3 : x_3 = chAt T i := e_3.trans (rowAt_full hT (by omega) (by omega))
    replace e_3 := e_3.symm
    subst e_3
    refine m_bipush (pc' := 18) (v := nI 48) C dX3_readInText_16 (by decide) rfl ?_
    refine m_icmp_eq (pc' := 21) (tgt := 23) C dX3_readInText_18 (by decide) rfl (fun c_18 => ?_) (fun c_18 => ?_)
    · have e18 : T.getD i 0 = 48 := (chAt_eq h256 (by decide) (by decide)).mp c_18
      refine m_aload_n (pc' := 24) C dX3_readInText_23 rfl 0 rfl rfl ?_
      refine m_aload_n (pc' := 25) C dX3_readInText_24 rfl 1 rfl rfl ?_
      refine m_iload_n (pc' := 26) C dX3_readInText_25 rfl 2 rfl rfl ?_
      refine m_iconst (pc' := 27) (v := nI 1) C dX3_readInText_26 (by decide) rfl ?_
      refine m_iadd (pc' := 28) (v := nI (i + 1)) C dX3_readInText_27 (nI_add _ _) rfl ?_
      refine m_callVv (pc' := 31) (As := [.ref (ad r), .int (nI (i + 1))]) (rest := []) C (kX3_readOctal hI Rr_2 hT heo g_1 hdj (by omega)) (cwV 2 C.1.2.2.2.2 (goodV tm_2_143 tm_2_145 tp_3 tm_1_8 tm_2_146) rfl rfl rfl (by decide +kernel) ⟨by decide, by decide⟩) heo g_1 rfl rfl rfl (Nat.le_of_ble_eq_true rfl) dX3_readInText_28 rfl ⟨by decide, by decide⟩ (fun M4 q_4 => ?_)
      obtain ⟨g_4, F_4⟩ := q_4
      refine m_iconst (pc' := 32) (v := bI true) C dX3_readInText_31 (by decide) rfl ?_
      refine m_iret C hrt0 hlk0 (nar_z _) dX3_readInText_32 ?_
      refine ⟨?_, ⟨_, _, g_4, fun _ => ⟨?_, ?_⟩⟩, ((F_1.sub (by simp)).tr (F_4.sub (by simp)))⟩
      · unfold txOk; rw [e18]; rfl
      · unfold txV; rw [if_pos hz]
      · unfold txE; rw [if_pos hz]
    · have e18 : ¬ T.getD i 0 = 48 := fun q => c_18 ((chAt_eq h256 (by decide) (by decide)).mpr q)
      refine m_iconst (pc' := 22) (v := bI false) C dX3_readInText_21 (by decide) rfl ?_
      refine m_iret C hrt0 hlk0 (nar_z _) dX3_readInText_22 ?_
      refine ⟨?_, ⟨_, _, g_1, fun q => ?_⟩, (F_1.sub (by simp))⟩
      · unfold txOk; rw [hz, beq_eq_false_iff_ne.mpr e18]; rfl
      · unfold txOk at q; rw [hz, beq_eq_false_iff_ne.mpr e18] at q; cases q
  · have hz : ¬ escC (T.getD i 0) = 0 := bne_iff_ne.mp (ts_of c_6)
    refine m_iconst (pc' := 10) (v := bI true) C dX3_readInText_9 (by decide) rfl ?_
    refine m_iret C hrt0 hlk0 (nar_z _) dX3_readInText_10 ?_
    refine ⟨?_, ⟨_, _, g_1, fun _ => ⟨?_, ?_⟩⟩, (F_1.sub (by simp))⟩
    · unfold txOk; rw [bne_iff_ne.mpr hz]; rfl
    · unfold txV escI; rw [if_neg hz, if_neg hz]
    · unfold txE; rw [if_neg hz]
