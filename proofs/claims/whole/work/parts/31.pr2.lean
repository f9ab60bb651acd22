set_option maxHeartbeats 4000000 in
set_option maxRecDepth 100000 in
theorem kX8_printFilled {l : Launch} {D : va_G} {cy : Nat → ClassId} {ad : Nat → Nat} {n : Nat} {A : Nat → Prop} (hI : mI ad n A) {M : Nat → va_E} (hn : 52 ≤ n) {ended : Bool} (hpr : M 36 = prO ad ended) {P : List Nat} (hp : isRow cy ad n M 39 40 80 80 P) (hP8 : P.length ≤ 80) {lim : Nat} {O : List Nat} (hg : isRow cy ad n M 5 6 2000 lim O) {w : Nat} (hw : w < 2 ^ 30) {fl fp fb fm fz sw sp : Bool} {pr bt lt en : Int32} (hd : M 38 = .inr (2, dF fl fp fb fm fz sw sp (nI w) pr bt lt en)) : mMv l yX8_printFilled (gW yX8_printFilled cX8_printFilled 3 none) { frames := 2, cells := 0, slots := 0, locals := 44 } D cy ad n A [.ref (ad 36)] M (fun M' => isRow cy ad n M' 5 6 2000 lim (O ++ padT fl w P) ∧ Fr [5, 6] M M') := by
  have h255 : ∀ x ∈ P, x < 256 := hp.2.2.2.2.1
  refine m_entry (cc := cX8_printFilled) (maxL := 3) (ret := none) (own := RX8) (lv := [(0, .ref (ad 36))]) hI (by decide) rfl rfl (Nat.le_of_ble_eq_true rfl) rfl (fun pX eX sX mX aX bX tX cX C hrt0 hlk0 => ?_)
  refine m_aload_n (pc' := 1) C dX8_printFilled_0 rfl 0 rfl rfl ?_
  refine m_get (pc' := 4) C 36 (by omega) hpr rfl inW_X8 4 (by decide) (gW_of tm_1_208) rfl rfl dX8_printFilled_1 rfl ?_
  refine m_get (pc' := 7) C 38 (by omega) hd rfl inW_X2 7 (by decide) (gW_of tm_1_168) rfl rfl dX8_printFilled_4 rfl ?_
  refine m_aload_n (pc' := 8) C dX8_printFilled_7 rfl 0 rfl rfl ?_
  refine m_get (pc' := 11) C 36 (by omega) hpr rfl inW_X8 5 (by decide) (gW_of tm_1_209) rfl rfl dX8_printFilled_8 rfl ?_
  refine m_callVi (pc' := 14) (As := []) (rest := [.int (nI w)]) C (kX9_size hI hp) (cwV 0 C.1.2.2.2.2 (goodV tm_2_122 tm_2_95 tm_2_96 tm_1_3 tm_2_97) rfl rfl rfl (by decide +kernel) ⟨by decide, by decide⟩) hp.1 hp.ob rfl rfl rfl (Nat.le_of_ble_eq_true rfl) dX8_printFilled_11 rfl ⟨by decide, by decide⟩ (fun x_1 N_1 q_1 => ?_)
  obtain ⟨e_1, E_1⟩ := q_1
  replace E_1 := E_1.symm
  subst E_1
  replace e_1 : x_1 = nI P.length := e_1.trans (by rw [Nat.min_eq_left hP8])
  replace e_1 := e_1.symm
  subst e_1
  refine m_isub (pc' := 15) (v := (nI w) - (nI P.length)) C dX8_printFilled_14 rfl rfl ?_
  refine m_istore_n (pc' := 16) (lv' := [(1, .int ((nI w) - (nI P.length))), (0, .ref (ad 36))]) C dX8_printFilled_15 rfl (by decide) rfl rfl ?_
  refine m_cut (σ := (Nat → va_E)) (fun a => isRow cy ad n a 5 6 2000 lim (O ++ (if fl then [] else List.replicate (w - P.length) 32)) ∧ Fr [5, 6] M a) (fun a => a) 36 (fun a => [(0, .ref (ad 36)), (1, .int (nI w - nI P.length))]) (fun a => []) ?_ (fun J36 => ?_)
  · rintro Mj hj
    try dsimp only at hj ⊢
    obtain ⟨j1, j2⟩ := hj
    obtain ⟨Q, hQ⟩ : ∃ Q, Q = O ++ (if fl then [] else List.replicate (w - P.length) 32) := ⟨_, rfl⟩
    rw [← hQ] at j1
    refine m_iconst (pc' := 37) (v := nI 0) C dX8_printFilled_36 (by decide) rfl ?_
    refine m_istore_n (pc' := 38) (lv' := [(2, .int (nI 0)), (0, .ref (ad 36)), (1, .int (nI w - nI P.length))]) C dX8_printFilled_37 rfl (by decide) rfl rfl ?_
    refine m_lv [1, 2, 0] rfl ?_
    refine m_loop (σ := Nat × (Nat → va_E)) (fun a => a.2) (fun a => [(0, .ref (ad 36)), (1, .int (nI w - nI P.length)), (2, .int (nI a.1))]) (fun a => a.1 ≤ P.length ∧ isRow cy ad n a.2 5 6 2000 lim (Q ++ P.take a.1) ∧ Fr [5, 6] M a.2) (fun a => P.length - a.1) (0, Mj) (⟨Nat.zero_le _, by simpa using j1, (j2.sub (by simp))⟩) ?_
    rintro ⟨k, Mk⟩ hinv ih
    dsimp only at hinv ih ⊢
    obtain ⟨hkP, l1, l2⟩ := hinv
    refine m_iload_n (pc' := 39) C dX8_printFilled_38 rfl 2 rfl rfl ?_
    refine m_aload_n (pc' := 40) C dX8_printFilled_39 rfl 0 rfl rfl ?_
    have f36_2 : Mk 36 = .inr (8, [.ref (ad 5), .ref (ad 9), .ref (ad 1), .ref (ad 37), .ref (ad 38), .ref (ad 39), .ref (ad 41), .int (bI ended)]) := (l2 36 (by decide)).trans hpr
    refine m_get (pc' := 43) C 36 (by omega) f36_2 rfl inW_X8 5 (by decide) (gW_of tm_1_209) rfl rfl dX8_printFilled_40 rfl ?_
    have R39_3 := hp.fr l2 (by decide) (by decide)
    refine m_callVi (pc' := 46) (As := []) (rest := [.int (nI k)]) C (kX9_size hI R39_3) (cwV 0 C.1.2.2.2.2 (goodV tm_2_122 tm_2_95 tm_2_96 tm_1_3 tm_2_97) rfl rfl rfl (by decide +kernel) ⟨by decide, by decide⟩) R39_3.1 R39_3.ob rfl rfl rfl (Nat.le_of_ble_eq_true rfl) dX8_printFilled_43 rfl ⟨by decide, by decide⟩ (fun x_4 N_4 q_4 => ?_)
    obtain ⟨e_4, E_4⟩ := q_4
    replace E_4 := E_4.symm
    subst E_4
    replace e_4 : x_4 = nI P.length := e_4.trans (by rw [Nat.min_eq_left hP8])
    replace e_4 := e_4.symm
    subst e_4
    refine m_icmp_ge (pc' := 49) (tgt := 70) C dX8_printFilled_46 (by decide) rfl (fun c_46 => ?_) (fun c_46 => ?_)
    · have hge : P.length ≤ k := by
        rcases Nat.lt_or_ge k P.length with q | q
        · exact absurd c_46 (nI_ge q (by omega))
        · exact q
      rw [List.take_of_length_le hge] at l1
      refine m_aload_n (pc' := 71) C dX8_printFilled_70 rfl 0 rfl rfl ?_
      refine m_get (pc' := 74) C 36 (by omega) f36_2 rfl inW_X8 4 (by decide) (gW_of tm_1_208) rfl rfl dX8_printFilled_71 rfl ?_
      have f38_5 : Mk 38 = .inr (2, [.int (bI fl), .int (bI fp), .int (bI fb), .int (bI fm), .int (bI fz), .int (bI sw), .int (bI sp), .int (nI w), .int (pr), .int (bt), .int (lt), .int (en)]) := (l2 38 (by decide)).trans hd
      refine m_get (pc' := 77) C 38 (by omega) f38_5 rfl inW_X2 0 (by decide) (gW_of tm_1_155) rfl rfl dX8_printFilled_74 rfl ?_
      refine m_if_eq (pc' := 80) (tgt := 90) C dX8_printFilled_77 (by decide) rfl (fun c_77 => ?_) (fun c_77 => ?_)
      · refine m_vret C hrt0 hlk0 dX8_printFilled_90 ?_
        refine ⟨?_, (l2.sub (by simp))⟩
        unfold padT
        first | (rw [(bI_0 _).mp c_77] at hQ ⊢; rw [if_neg (by decide)] at hQ; rw [if_neg (by decide), ← List.append_assoc, ← hQ]; exact l1) | (rw [ts_of c_77] at hQ ⊢; rw [if_pos rfl, List.append_nil] at hQ; rw [if_pos rfl, ← List.append_assoc, ← hQ]; exact l1)
      · refine m_aload_n (pc' := 81) C dX8_printFilled_80 rfl 0 rfl rfl ?_
        refine m_get (pc' := 84) C 36 (by omega) f36_2 rfl inW_X8 0 (by decide) (gW_of tm_1_204) rfl rfl dX8_printFilled_81 rfl ?_
        refine m_bipush (pc' := 86) (v := nI 32) C dX8_printFilled_84 (by decide) rfl ?_
        refine m_iload_n (pc' := 87) C dX8_printFilled_86 rfl 1 rfl rfl ?_
        refine m_callVv (pc' := 90) (As := [.int (nI 32), .int (nI w - nI P.length)]) (rest := []) C (kX9_addMany hI l1 (nI 32) (nI w - nI P.length)) (cwV 2 C.1.2.2.2.2 (goodV tm_3_40 tm_3_41 tm_3_42 tm_1_3 tm_3_43) rfl rfl rfl (by decide +kernel) ⟨by decide, by decide⟩) l1.1 l1.ob rfl rfl rfl (Nat.le_of_ble_eq_true rfl) dX8_printFilled_87 rfl ⟨by decide, by decide⟩ (fun M6 q_6 => ?_)
        obtain ⟨R_6, F_6⟩ := q_6
        rw [fill_eq hw (by omega)] at R_6
        refine m_vret C hrt0 hlk0 dX8_printFilled_90 ?_
        refine ⟨?_, ((l2.sub (by simp)).tr (F_6.sub (by simp)))⟩
        unfold padT
        first | (rw [(bI_0 _).mp c_77] at hQ ⊢; rw [if_neg (by decide)] at hQ; rw [if_neg (by decide), ← List.append_assoc, ← hQ]; exact R_6) | (rw [ts_of c_77] at hQ ⊢; rw [if_pos rfl, List.append_nil] at hQ; rw [if_pos rfl, ← List.append_assoc, ← hQ]; exact R_6)
    · have hlt : k < P.length := by
        rcases Nat.lt_or_ge k P.length with q | q
        · exact q
        · exact absurd (nI_le q (by omega)) c_46
      refine m_aload_n (pc' := 50) C dX8_printFilled_49 rfl 0 rfl rfl ?_
      refine m_get (pc' := 53) C 36 (by omega) f36_2 rfl inW_X8 0 (by decide) (gW_of tm_1_204) rfl rfl dX8_printFilled_50 rfl ?_
      refine m_aload_n (pc' := 54) C dX8_printFilled_53 rfl 0 rfl rfl ?_
      refine m_get (pc' := 57) C 36 (by omega) f36_2 rfl inW_X8 5 (by decide) (gW_of tm_1_209) rfl rfl dX8_printFilled_54 rfl ?_
      refine m_iload_n (pc' := 58) C dX8_printFilled_57 rfl 2 rfl rfl ?_
      refine m_callVi (pc' := 61) (As := [.int (nI k)]) (rest := [.ref (ad 5)]) C (kX9_at hI R39_3 (nI k)) (cwV 1 C.1.2.2.2.2 (goodV tm_2_127 tm_2_128 tm_2_129 tm_1_3 tm_2_130) rfl rfl rfl (by decide +kernel) ⟨by decide, by decide⟩) R39_3.1 R39_3.ob rfl rfl rfl (Nat.le_of_ble_eq_true rfl) dX8_printFilled_58 rfl ⟨by decide, by decide⟩ (fun x_7 N_7 q_7 => ?_)
      obtain ⟨e_7, E_7⟩ := q_7
      replace E_7 := E_7.symm
      subst E_7
      replace e_7 : x_7 = nI (P.getD k 0) := e_7.trans ((rowAt_full hP8 (by omega) (by omega)).trans (by unfold chAt; rw [if_pos hlt]))
      replace e_7 := e_7.symm
      subst e_7
      refine m_callVv (pc' := 64) (As := [.int (nI (P.getD k 0))]) (rest := []) C (kX9_add hI l1 (nI (P.getD k 0))) (cwV 1 C.1.2.2.2.2 (goodV tm_2_210 tm_2_211 tm_2_212 tm_1_3 tm_2_213) rfl rfl rfl (by decide +kernel) ⟨by decide, by decide⟩) l1.1 l1.ob rfl rfl rfl (Nat.le_of_ble_eq_true rfl) dX8_printFilled_61 rfl ⟨by decide, by decide⟩ (fun M8 q_8 => ?_)
      obtain ⟨R_8, F_8⟩ := q_8
      rw [app_take hlt h255] at R_8
      refine m_iinc (pc' := 67) (v := nI (k + 1)) (lv' := [(2, .int (nI (k + 1))), (0, .ref (ad 36)), (1, .int (nI w - nI P.length))]) C dX8_printFilled_64 (k := 2) rfl (nI_add _ _) (by decide) rfl rfl ?_
      refine m_goto (tgt := 38) C dX8_printFilled_67 (by decide) ?_
      refine m_lv [1, 2, 0] rfl ?_
      exact ih (k + 1, M8) (⟨hlt, R_8, ((l2.sub (by simp)).tr (F_8.sub (by simp)))⟩) (by simp only; omega)
  refine m_aload_n (pc' := 17) C dX8_printFilled_16 rfl 1 rfl rfl ?_
  refine m_get (pc' := 20) C 36 (by omega) hpr rfl inW_X8 4 (by decide) (gW_of tm_1_208) rfl rfl dX8_printFilled_17 rfl ?_
  refine m_get (pc' := 23) C 38 (by omega) hd rfl inW_X2 0 (by decide) (gW_of tm_1_155) rfl rfl dX8_printFilled_20 rfl ?_
  refine m_if_ne (pc' := 26) (tgt := 36) C dX8_printFilled_23 (by decide) rfl (fun c_23 => ?_) (fun c_23 => ?_)
  · refine m_lv [1, 0] rfl ?_
    exact J36 M (⟨by first | (rw [ts_of c_23, if_pos rfl, List.append_nil]; exact hg) | (rw [(bI_0 _).mp (Classical.not_not.mp c_23), if_neg (by decide)]; exact hg), Fr.rf⟩)
  · refine m_aload_n (pc' := 27) C dX8_printFilled_26 rfl 1 rfl rfl ?_
    refine m_get (pc' := 30) C 36 (by omega) hpr rfl inW_X8 0 (by decide) (gW_of tm_1_204) rfl rfl dX8_printFilled_27 rfl ?_
    refine m_bipush (pc' := 32) (v := nI 32) C dX8_printFilled_30 (by decide) rfl ?_
    refine m_iload_n (pc' := 33) C dX8_printFilled_32 rfl 0 rfl rfl ?_
    refine m_callVv (pc' := 36) (As := [.int (nI 32), .int ((nI w) - (nI P.length))]) (rest := []) C (kX9_addMany hI hg (nI 32) ((nI w) - (nI P.length))) (cwV 2 C.1.2.2.2.2 (goodV tm_3_40 tm_3_41 tm_3_42 tm_1_3 tm_3_43) rfl rfl rfl (by decide +kernel) ⟨by decide, by decide⟩) hg.1 hg.ob rfl rfl rfl (Nat.le_of_ble_eq_true rfl) dX8_printFilled_33 rfl ⟨by decide, by decide⟩ (fun M9 q_9 => ?_)
    obtain ⟨R_9, F_9⟩ := q_9
    rw [fill_eq hw (by omega)] at R_9
    refine m_lv [1, 0] rfl ?_
    exact J36 M9 (⟨by first | (rw [ts_of c_23, if_pos rfl, List.append_nil]; exact R_9) | (rw [(bI_0 _).mp (Classical.not_not.mp c_23), if_neg (by decide)]; exact R_9), (F_9.sub (by simp))⟩)
set_option maxHeartbeats 4000000 in
set_option maxRecDepth 100000 in
theorem kX8_narrowed {l : Launch} {D : va_G} {cy : Nat → ClassId} {ad : Nat → Nat} {n : Nat} {A : Nat → Prop} (hI : mI ad n A) {M : Nat → va_E} (hn : 52 ≤ n) {ended : Bool} (hpr : M 36 = prO ad ended) {b : Nat} (hb : b ≤ 64) {fl fp fb fm fz sw sp : Bool} {wd pr lt en : Int32} (hd : M 38 = .inr (2, dF fl fp fb fm fz sw sp wd pr (nI b) lt en)) (x : Int64) : mMl l yX8_narrowed (gW yX8_narrowed cX8_narrowed 6 (some .long)) { frames := 1, cells := 0, slots := 0, locals := 20 } D cy ad n A [.ref (ad 36), .long x] M (fun res M' => res = narI b (sgdL lt) x ∧ M' = M) := by
  refine m_entry (cc := cX8_narrowed) (maxL := 6) (ret := (some .long)) (own := RX8) (lv := [(0, .ref (ad 36)), (1, .long (x))]) hI (by decide) rfl rfl (Nat.le_of_ble_eq_true rfl) rfl (fun pX eX sX mX aX bX tX cX C hrt0 hlk0 => ?_)
  refine m_bipush (pc' := 2) (v := nI 64) C dX8_narrowed_0 (by decide) rfl ?_
  refine m_aload_n (pc' := 3) C dX8_narrowed_2 rfl 0 rfl rfl ?_
  refine m_get (pc' := 6) C 36 (by omega) hpr rfl inW_X8 4 (by decide) (gW_of tm_1_208) rfl rfl dX8_narrowed_3 rfl ?_
  refine m_get (pc' := 9) C 38 (by omega) hd rfl inW_X2 9 (by decide) (gW_of tm_1_172) rfl rfl dX8_narrowed_6 rfl ?_
  refine m_isub (pc' := 10) (v := nI (64 - b)) C dX8_narrowed_9 (pk_sub (by omega)) rfl ?_
  refine m_istore_n (pc' := 11) (lv' := [(3, .int (nI (64 - b))), (0, .ref (ad 36)), (1, .long (x))]) C dX8_narrowed_10 rfl (by decide) rfl rfl ?_
  refine m_lload_n (pc' := 12) C dX8_narrowed_11 rfl 2 rfl rfl ?_
  refine m_iload_n (pc' := 13) C dX8_narrowed_12 rfl 0 rfl rfl ?_
  refine m_lshl (pc' := 14) (v := x <<< (((nI (64 - b))).toInt64 &&& 63)) C dX8_narrowed_13 rfl rfl ?_
  refine m_lstore (pc' := 16) (lv' := [(4, .long (x <<< (((nI (64 - b))).toInt64 &&& 63))), (3, .int (nI (64 - b))), (0, .ref (ad 36)), (1, .long (x))]) C dX8_narrowed_14 (by decide) rfl rfl ?_
  refine m_aload_n (pc' := 17) C dX8_narrowed_16 rfl 2 rfl rfl ?_
  refine m_get (pc' := 20) C 36 (by omega) hpr rfl inW_X8 4 (by decide) (gW_of tm_1_208) rfl rfl dX8_narrowed_17 rfl ?_
  refine m_callVi (pc' := 23) (As := []) (rest := []) C (kX2_isSigned hI (by omega) hd) (cwV 0 C.1.2.2.2.2 (goodV tm_3_104 tm_3_105 tm_3_106 tm_1_9 tm_3_107) rfl rfl rfl (by decide +kernel) ⟨by decide, by decide⟩) (by omega) hd rfl rfl rfl (Nat.le_of_ble_eq_true rfl) dX8_narrowed_20 rfl ⟨by decide, by decide⟩ (fun x_1 N_1 q_1 => ?_)
  obtain ⟨e_1, E_1⟩ := q_1
  replace E_1 := E_1.symm
  subst E_1
  replace e_1 := e_1.symm
  subst e_1
  refine m_if_eq (pc' := 26) (tgt := 33) C dX8_narrowed_23 (by decide) rfl (fun c_23 => ?_) (fun c_23 => ?_)
  · have hs := (bI_0 _).mp c_23
    refine m_lload (pc' := 35) C dX8_narrowed_33 0 rfl rfl ?_
    refine m_iload_n (pc' := 36) C dX8_narrowed_35 rfl 1 rfl rfl ?_
    refine m_lushr (pc' := 37) (v := ((x <<< (((nI (64 - b))).toInt64 &&& 63)).toUInt64 >>> ((nI (64 - b)).toInt64.toUInt64 &&& Int64.toUInt64 63)).toInt64) C dX8_narrowed_36 rfl rfl ?_
    refine m_lret C hrt0 hlk0 dX8_narrowed_37 ?_
    exact ⟨by unfold narI sgdL; rw [hs]; rfl, rfl⟩
  · have hs := ts_of c_23
    refine m_lload (pc' := 28) C dX8_narrowed_26 0 rfl rfl ?_
    refine m_iload_n (pc' := 29) C dX8_narrowed_28 rfl 1 rfl rfl ?_
    refine m_lshr (pc' := 30) (v := (x <<< (((nI (64 - b))).toInt64 &&& 63)) >>> (((nI (64 - b))).toInt64 &&& 63)) C dX8_narrowed_29 rfl rfl ?_
    refine m_goto (tgt := 37) C dX8_narrowed_30 (by decide) ?_
    refine m_lret C hrt0 hlk0 dX8_narrowed_37 ?_
    exact ⟨by unfold narI sgdL; rw [hs]; rfl, rfl⟩
set_option maxHeartbeats 4000000 in
set_option maxRecDepth 100000 in
theorem kX8_signOf {l : Launch} {D : va_G} {cy : Nat → ClassId} {ad : Nat → Nat} {n : Nat} {A : Nat → Prop} (hI : mI ad n A) {M : Nat → va_E} (hn : 52 ≤ n) {ended : Bool} (hpr : M 36 = prO ad ended) {fl fp fb fm fz sw sp : Bool} {wd pr bt lt en : Int32} (hd : M 38 = .inr (2, dF fl fp fb fm fz sw sp wd pr bt lt en)) (bl : Bool) : mMi l yX8_signOf (gW yX8_signOf cX8_signOf 2 (some .int)) { frames := 1, cells := 0, slots := 0, locals := 20 } D cy ad n A [.ref (ad 36), .int (bI bl)] M (fun res M' => res = sgI (sgdL lt) bl fp fb ∧ M' = M) := by
  refine m_entry (cc := cX8_signOf) (maxL := 2) (ret := (some .int)) (own := RX8) (lv := [(0, .ref (ad 36)), (1, .int (bI bl))]) hI (by decide) rfl rfl (Nat.le_of_ble_eq_true rfl) rfl (fun pX eX sX mX aX bX tX cX C hrt0 hlk0 => ?_)
  refine m_aload_n (pc' := 1) C dX8_signOf_0 rfl 0 rfl rfl ?_
  refine m_get (pc' := 4) C 36 (by omega) hpr rfl inW_X8 4 (by decide) (gW_of tm_1_208) rfl rfl dX8_signOf_1 rfl ?_
  refine m_callVi (pc' := 7) (As := []) (rest := []) C (kX2_isSigned hI (by omega) hd) (cwV 0 C.1.2.2.2.2 (goodV tm_3_104 tm_3_105 tm_3_106 tm_1_9 tm_3_107) rfl rfl rfl (by decide +kernel) ⟨by decide, by decide⟩) (by omega) hd rfl rfl rfl (Nat.le_of_ble_eq_true rfl) dX8_signOf_4 rfl ⟨by decide, by decide⟩ (fun x_1 N_1 q_1 => ?_)
  obtain ⟨e_1, E_1⟩ := q_1
  replace E_1 := E_1.symm
  subst E_1
  replace e_1 := e_1.symm
  subst e_1
  refine m_if_ne (pc' := 10) (tgt := 12) C dX8_signOf_7 (by decide) rfl (fun c_7 => ?_) (fun c_7 => ?_)
  · have h1 := ts_of c_7
    refine m_iload_n (pc' := 13) C dX8_signOf_12 rfl 1 rfl rfl ?_
    refine m_if_eq (pc' := 16) (tgt := 19) C dX8_signOf_13 (by decide) rfl (fun c_13 => ?_) (fun c_13 => ?_)
    · have h2 := (bI_0 _).mp c_13
      refine m_aload_n (pc' := 20) C dX8_signOf_19 rfl 0 rfl rfl ?_
      refine m_get (pc' := 23) C 36 (by omega) hpr rfl inW_X8 4 (by decide) (gW_of tm_1_208) rfl rfl dX8_signOf_20 rfl ?_
      refine m_get (pc' := 26) C 38 (by omega) hd rfl inW_X2 1 (by decide) (gW_of tm_1_157) rfl rfl dX8_signOf_23 rfl ?_
      refine m_if_eq (pc' := 29) (tgt := 32) C dX8_signOf_26 (by decide) rfl (fun c_26 => ?_) (fun c_26 => ?_)
      · have h3 := (bI_0 _).mp c_26
        refine m_aload_n (pc' := 33) C dX8_signOf_32 rfl 0 rfl rfl ?_
        refine m_get (pc' := 36) C 36 (by omega) hpr rfl inW_X8 4 (by decide) (gW_of tm_1_208) rfl rfl dX8_signOf_33 rfl ?_
        refine m_get (pc' := 39) C 38 (by omega) hd rfl inW_X2 2 (by decide) (gW_of tm_1_159) rfl rfl dX8_signOf_36 rfl ?_
        refine m_if_eq (pc' := 42) (tgt := 47) C dX8_signOf_39 (by decide) rfl (fun c_39 => ?_) (fun c_39 => ?_)
        · have h4 := (bI_0 _).mp c_39
          refine m_iconst (pc' := 48) (v := (-1)) C dX8_signOf_47 (by decide) rfl ?_
          refine m_iret C hrt0 hlk0 rfl dX8_signOf_48 ?_
          refine ⟨?_, rfl⟩
          unfold sgI sgdL
          first | (rw [h1, h2, h3, h4]; rfl) | (rw [h1, h2, h3]; rfl) | (rw [h1, h2]; rfl) | (rw [h1]; rfl)
        · have h4 := ts_of c_39
          refine m_bipush (pc' := 44) (v := nI 32) C dX8_signOf_42 (by decide) rfl ?_
          refine m_goto (tgt := 48) C dX8_signOf_44 (by decide) ?_
          refine m_iret C hrt0 hlk0 rfl dX8_signOf_48 ?_
          refine ⟨?_, rfl⟩
          unfold sgI sgdL
          first | (rw [h1, h2, h3, h4]; rfl) | (rw [h1, h2, h3]; rfl) | (rw [h1, h2]; rfl) | (rw [h1]; rfl)
      · have h3 := ts_of c_26
        refine m_bipush (pc' := 31) (v := nI 43) C dX8_signOf_29 (by decide) rfl ?_
        refine m_iret C hrt0 hlk0 rfl dX8_signOf_31 ?_
        refine ⟨?_, rfl⟩
        unfold sgI sgdL
        first | (rw [h1, h2, h3, h4]; rfl) | (rw [h1, h2, h3]; rfl) | (rw [h1, h2]; rfl) | (rw [h1]; rfl)
    · have h2 := ts_of c_13
      refine m_bipush (pc' := 18) (v := nI 45) C dX8_signOf_16 (by decide) rfl ?_
      refine m_iret C hrt0 hlk0 rfl dX8_signOf_18 ?_
      refine ⟨?_, rfl⟩
      unfold sgI sgdL
      first | (rw [h1, h2, h3, h4]; rfl) | (rw [h1, h2, h3]; rfl) | (rw [h1, h2]; rfl) | (rw [h1]; rfl)
  · have h1 := (bI_0 _).mp (Classical.not_not.mp c_7)
    refine m_iconst (pc' := 11) (v := (-1)) C dX8_signOf_10 (by decide) rfl ?_
    refine m_iret C hrt0 hlk0 rfl dX8_signOf_11 ?_
    refine ⟨?_, rfl⟩
    unfold sgI sgdL
    first | (rw [h1, h2, h3, h4]; rfl) | (rw [h1, h2, h3]; rfl) | (rw [h1, h2]; rfl) | (rw [h1]; rfl)
set_option maxHeartbeats 4000000 in
set_option maxRecDepth 100000 in
theorem kX8_digitsDue_n {l : Launch} {D : va_G} {cy : Nat → ClassId} {ad : Nat → Nat} {n : Nat} {A : Nat → Prop} (hI : mI ad n A) {M : Nat → va_E} (hn : 52 ≤ n) {ended : Bool} (hpr : M 36 = prO ad ended) {ds : List Nat} {lg : Bool} (hf : isFig cy ad n M 1 2 ds lg) {fl fp fb fm fz sw sp : Bool} {wd bt lt en : Int32} (hd : M 38 = .inr (2, dF fl fp fb fm fz sw sp wd (-1) bt lt en)) : mMi l yX8_digitsDue (gW yX8_digitsDue cX8_digitsDue 3 (some .int)) { frames := 1, cells := 0, slots := 0, locals := 23 } D cy ad n A [.ref (ad 36)] M (fun res M' => res = nI (dueN none ds.length (fm && decide (lt = nI 111))) ∧ M' = M) := by
  have hdl := hf.2.2.1
  refine m_entry (cc := cX8_digitsDue) (maxL := 3) (ret := (some .int)) (own := RX8) (lv := [(0, .ref (ad 36))]) hI (by decide) rfl rfl (Nat.le_of_ble_eq_true rfl) rfl (fun pX eX sX mX aX bX tX cX C hrt0 hlk0 => ?_)
  refine m_aload_n (pc' := 1) C dX8_digitsDue_0 rfl 0 rfl rfl ?_
  refine m_get (pc' := 4) C 36 (by omega) hpr rfl inW_X8 4 (by decide) (gW_of tm_1_208) rfl rfl dX8_digitsDue_1 rfl ?_
  refine m_get (pc' := 7) C 38 (by omega) hd rfl inW_X2 8 (by decide) (gW_of tm_1_170) rfl rfl dX8_digitsDue_4 rfl ?_
  refine m_iconst (pc' := 8) (v := (-1)) C dX8_digitsDue_7 (by decide) rfl ?_
  refine m_icmp_ne (pc' := 11) (tgt := 15) C dX8_digitsDue_8 (by decide) rfl (fun c_8 => ?_) (fun c_8 => ?_)
  · exact absurd rfl c_8
  · refine m_iconst (pc' := 12) (v := nI 1) C dX8_digitsDue_11 (by decide) rfl ?_
    refine m_goto (tgt := 22) C dX8_digitsDue_12 (by decide) ?_
    refine m_istore_n (pc' := 23) (lv' := [(1, .int (nI 1)), (0, .ref (ad 36))]) C dX8_digitsDue_22 rfl (by decide) rfl rfl ?_
    refine m_iload_n (pc' := 24) C dX8_digitsDue_23 rfl 0 rfl rfl ?_
    refine m_aload_n (pc' := 25) C dX8_digitsDue_24 rfl 1 rfl rfl ?_
    refine m_get (pc' := 28) C 36 (by omega) hpr rfl inW_X8 2 (by decide) (gW_of tm_1_206) rfl rfl dX8_digitsDue_25 rfl ?_
    refine m_callVi (pc' := 31) (As := []) (rest := [.int (nI 1)]) C (kX4_size hI hf) (cwV 0 C.1.2.2.2.2 (goodV tm_3_120 tm_3_121 tm_3_122 tm_1_2 tm_3_123) rfl rfl rfl (by decide +kernel) ⟨by decide, by decide⟩) hf.1 hf.ob rfl rfl rfl (Nat.le_of_ble_eq_true rfl) dX8_digitsDue_28 rfl ⟨by decide, by decide⟩ (fun x_1 N_1 q_1 => ?_)
    obtain ⟨e_1, E_1⟩ := q_1
    replace E_1 := E_1.symm
    subst E_1
    replace e_1 := e_1.symm
    subst e_1
    refine m_mmax (pc' := 34) (v := nI (max (leastP none) ds.length)) C (gW_of tm_3_124) (gW_of tm_3_65) (gW_of tm_1_19) (gW_of tm_3_66) (by decide) (Nat.le_of_ble_eq_true rfl) ⟨by decide, by decide⟩ (max_nI (by first | omega | (simp only [leastP]; omega)) (by omega)) dX8_digitsDue_31 rfl ?_
    refine m_istore_n (pc' := 35) (lv' := [(2, .int (nI (max (leastP none) ds.length))), (1, .int (nI 1)), (0, .ref (ad 36))]) C dX8_digitsDue_34 rfl (by decide) rfl rfl ?_
    refine m_aload_n (pc' := 36) C dX8_digitsDue_35 rfl 2 rfl rfl ?_
    refine m_get (pc' := 39) C 36 (by omega) hpr rfl inW_X8 4 (by decide) (gW_of tm_1_208) rfl rfl dX8_digitsDue_36 rfl ?_
    refine m_get (pc' := 42) C 38 (by omega) hd rfl inW_X2 3 (by decide) (gW_of tm_1_161) rfl rfl dX8_digitsDue_39 rfl ?_
    refine m_if_eq (pc' := 45) (tgt := 71) C dX8_digitsDue_42 (by decide) rfl (fun c_42 => ?_) (fun c_42 => ?_)
    · have h1 := (bI_0 _).mp c_42
      refine m_iload_n (pc' := 72) C dX8_digitsDue_71 rfl 0 rfl rfl ?_
      refine m_iret C hrt0 hlk0 rfl dX8_digitsDue_72 ?_
      refine ⟨?_, rfl⟩
      unfold dueN
      first | (rw [h1, Bool.false_and, Bool.false_and]; rfl) | (rw [decide_eq_false c_54, Bool.and_false, Bool.false_and]; rfl) | (rw [decide_eq_false h3, Bool.and_false]; rfl) | (rw [h1, decide_eq_true (Classical.not_not.mp c_54), decide_eq_true h3]; rfl)
    · have h1 := ts_of c_42
      refine m_aload_n (pc' := 46) C dX8_digitsDue_45 rfl 2 rfl rfl ?_
      refine m_get (pc' := 49) C 36 (by omega) hpr rfl inW_X8 4 (by decide) (gW_of tm_1_208) rfl rfl dX8_digitsDue_46 rfl ?_
      refine m_get (pc' := 52) C 38 (by omega) hd rfl inW_X2 10 (by decide) (gW_of tm_1_174) rfl rfl dX8_digitsDue_49 rfl ?_
      refine m_bipush (pc' := 54) (v := nI 111) C dX8_digitsDue_52 (by decide) rfl ?_
      refine m_icmp_ne (pc' := 57) (tgt := 71) C dX8_digitsDue_54 (by decide) rfl (fun c_54 => ?_) (fun c_54 => ?_)
      · refine m_iload_n (pc' := 72) C dX8_digitsDue_71 rfl 0 rfl rfl ?_
        refine m_iret C hrt0 hlk0 rfl dX8_digitsDue_72 ?_
        refine ⟨?_, rfl⟩
        unfold dueN
        first | (rw [h1, Bool.false_and, Bool.false_and]; rfl) | (rw [decide_eq_false c_54, Bool.and_false, Bool.false_and]; rfl) | (rw [decide_eq_false h3, Bool.and_false]; rfl) | (rw [h1, decide_eq_true (Classical.not_not.mp c_54), decide_eq_true h3]; rfl)
      · refine m_iload_n (pc' := 58) C dX8_digitsDue_57 rfl 0 rfl rfl ?_
        refine m_aload_n (pc' := 59) C dX8_digitsDue_58 rfl 2 rfl rfl ?_
        refine m_get (pc' := 62) C 36 (by omega) hpr rfl inW_X8 2 (by decide) (gW_of tm_1_206) rfl rfl dX8_digitsDue_59 rfl ?_
        refine m_callVi (pc' := 65) (As := []) (rest := [.int (nI (max (leastP none) ds.length))]) C (kX4_size hI hf) (cwV 0 C.1.2.2.2.2 (goodV tm_3_120 tm_3_121 tm_3_122 tm_1_2 tm_3_123) rfl rfl rfl (by decide +kernel) ⟨by decide, by decide⟩) hf.1 hf.ob rfl rfl rfl (Nat.le_of_ble_eq_true rfl) dX8_digitsDue_62 rfl ⟨by decide, by decide⟩ (fun x_2 N_2 q_2 => ?_)
        obtain ⟨e_2, E_2⟩ := q_2
        replace E_2 := E_2.symm
        subst E_2
        replace e_2 := e_2.symm
        subst e_2
        refine m_icmp_ne (pc' := 68) (tgt := 71) C dX8_digitsDue_65 (by decide) rfl (fun c_65 => ?_) (fun c_65 => ?_)
        · have h3 : ¬ max (leastP none) ds.length = ds.length := fun q => c_65 (by rw [q])
          refine m_iload_n (pc' := 72) C dX8_digitsDue_71 rfl 0 rfl rfl ?_
          refine m_iret C hrt0 hlk0 rfl dX8_digitsDue_72 ?_
          refine ⟨?_, rfl⟩
          unfold dueN
          first | (rw [h1, Bool.false_and, Bool.false_and]; rfl) | (rw [decide_eq_false c_54, Bool.and_false, Bool.false_and]; rfl) | (rw [decide_eq_false h3, Bool.and_false]; rfl) | (rw [h1, decide_eq_true (Classical.not_not.mp c_54), decide_eq_true h3]; rfl)
        · have h3 : max (leastP none) ds.length = ds.length := nI_inj (by first | omega | (simp only [leastP]; omega)) (by omega) (Classical.not_not.mp c_65)
          refine m_iinc (pc' := 71) (v := nI ((max (leastP none) ds.length) + 1)) (lv' := [(2, .int (nI ((max (leastP none) ds.length) + 1))), (1, .int (nI 1)), (0, .ref (ad 36))]) C dX8_digitsDue_68 (k := 0) rfl (nI_add _ _) (by decide) rfl rfl ?_
          refine m_iload_n (pc' := 72) C dX8_digitsDue_71 rfl 0 rfl rfl ?_
          refine m_iret C hrt0 hlk0 rfl dX8_digitsDue_72 ?_
          refine ⟨?_, rfl⟩
          unfold dueN
          first | (rw [h1, Bool.false_and, Bool.false_and]; rfl) | (rw [decide_eq_false c_54, Bool.and_false, Bool.false_and]; rfl) | (rw [decide_eq_false h3, Bool.and_false]; rfl) | (rw [h1, decide_eq_true (Classical.not_not.mp c_54), decide_eq_true h3]; rfl)
set_option maxHeartbeats 4000000 in
set_option maxRecDepth 100000 in
theorem kX8_digitsDue_s {l : Launch} {D : va_G} {cy : Nat → ClassId} {ad : Nat → Nat} {n : Nat} {A : Nat → Prop} (hI : mI ad n A) {M : Nat → va_E} (hn : 52 ≤ n) {ended : Bool} (hpr : M 36 = prO ad ended) {ds : List Nat} {lg : Bool} (hf : isFig cy ad n M 1 2 ds lg) {k : Nat} (hk : k < 2 ^ 20) {fl fp fb fm fz sw sp : Bool} {wd bt lt en : Int32} (hd : M 38 = .inr (2, dF fl fp fb fm fz sw sp wd (nI k) bt lt en)) : mMi l yX8_digitsDue (gW yX8_digitsDue cX8_digitsDue 3 (some .int)) { frames := 1, cells := 0, slots := 0, locals := 23 } D cy ad n A [.ref (ad 36)] M (fun res M' => res = nI (dueN (some k) ds.length (fm && decide (lt = nI 111))) ∧ M' = M) := by
  have hdl := hf.2.2.1
  refine m_entry (cc := cX8_digitsDue) (maxL := 3) (ret := (some .int)) (own := RX8) (lv := [(0, .ref (ad 36))]) hI (by decide) rfl rfl (Nat.le_of_ble_eq_true rfl) rfl (fun pX eX sX mX aX bX tX cX C hrt0 hlk0 => ?_)
  refine m_aload_n (pc' := 1) C dX8_digitsDue_0 rfl 0 rfl rfl ?_
  refine m_get (pc' := 4) C 36 (by omega) hpr rfl inW_X8 4 (by decide) (gW_of tm_1_208) rfl rfl dX8_digitsDue_1 rfl ?_
  refine m_get (pc' := 7) C 38 (by omega) hd rfl inW_X2 8 (by decide) (gW_of tm_1_170) rfl rfl dX8_digitsDue_4 rfl ?_
  refine m_iconst (pc' := 8) (v := (-1)) C dX8_digitsDue_7 (by decide) rfl ?_
  refine m_icmp_ne (pc' := 11) (tgt := 15) C dX8_digitsDue_8 (by decide) rfl (fun c_8 => ?_) (fun c_8 => ?_)
  · refine m_aload_n (pc' := 16) C dX8_digitsDue_15 rfl 0 rfl rfl ?_
    refine m_get (pc' := 19) C 36 (by omega) hpr rfl inW_X8 4 (by decide) (gW_of tm_1_208) rfl rfl dX8_digitsDue_16 rfl ?_
    refine m_get (pc' := 22) C 38 (by omega) hd rfl inW_X2 8 (by decide) (gW_of tm_1_170) rfl rfl dX8_digitsDue_19 rfl ?_
    refine m_istore_n (pc' := 23) (lv' := [(1, .int (nI k)), (0, .ref (ad 36))]) C dX8_digitsDue_22 rfl (by decide) rfl rfl ?_
    refine m_iload_n (pc' := 24) C dX8_digitsDue_23 rfl 0 rfl rfl ?_
    refine m_aload_n (pc' := 25) C dX8_digitsDue_24 rfl 1 rfl rfl ?_
    refine m_get (pc' := 28) C 36 (by omega) hpr rfl inW_X8 2 (by decide) (gW_of tm_1_206) rfl rfl dX8_digitsDue_25 rfl ?_
    refine m_callVi (pc' := 31) (As := []) (rest := [.int (nI k)]) C (kX4_size hI hf) (cwV 0 C.1.2.2.2.2 (goodV tm_3_120 tm_3_121 tm_3_122 tm_1_2 tm_3_123) rfl rfl rfl (by decide +kernel) ⟨by decide, by decide⟩) hf.1 hf.ob rfl rfl rfl (Nat.le_of_ble_eq_true rfl) dX8_digitsDue_28 rfl ⟨by decide, by decide⟩ (fun x_1 N_1 q_1 => ?_)
    obtain ⟨e_1, E_1⟩ := q_1
    replace E_1 := E_1.symm
    subst E_1
    replace e_1 := e_1.symm
    subst e_1
    refine m_mmax (pc' := 34) (v := nI (max (leastP (some k)) ds.length)) C (gW_of tm_3_124) (gW_of tm_3_65) (gW_of tm_1_19) (gW_of tm_3_66) (by decide) (Nat.le_of_ble_eq_true rfl) ⟨by decide, by decide⟩ (max_nI (by first | omega | (simp only [leastP]; omega)) (by omega)) dX8_digitsDue_31 rfl ?_
    refine m_istore_n (pc' := 35) (lv' := [(2, .int (nI (max (leastP (some k)) ds.length))), (1, .int (nI k)), (0, .ref (ad 36))]) C dX8_digitsDue_34 rfl (by decide) rfl rfl ?_
    refine m_aload_n (pc' := 36) C dX8_digitsDue_35 rfl 2 rfl rfl ?_
    refine m_get (pc' := 39) C 36 (by omega) hpr rfl inW_X8 4 (by decide) (gW_of tm_1_208) rfl rfl dX8_digitsDue_36 rfl ?_
    refine m_get (pc' := 42) C 38 (by omega) hd rfl inW_X2 3 (by decide) (gW_of tm_1_161) rfl rfl dX8_digitsDue_39 rfl ?_
    refine m_if_eq (pc' := 45) (tgt := 71) C dX8_digitsDue_42 (by decide) rfl (fun c_42 => ?_) (fun c_42 => ?_)
    · have h1 := (bI_0 _).mp c_42
      refine m_iload_n (pc' := 72) C dX8_digitsDue_71 rfl 0 rfl rfl ?_
      refine m_iret C hrt0 hlk0 rfl dX8_digitsDue_72 ?_
      refine ⟨?_, rfl⟩
      unfold dueN
      first | (rw [h1, Bool.false_and, Bool.false_and]; rfl) | (rw [decide_eq_false c_54, Bool.and_false, Bool.false_and]; rfl) | (rw [decide_eq_false h3, Bool.and_false]; rfl) | (rw [h1, decide_eq_true (Classical.not_not.mp c_54), decide_eq_true h3]; rfl)
    · have h1 := ts_of c_42
      refine m_aload_n (pc' := 46) C dX8_digitsDue_45 rfl 2 rfl rfl ?_
      refine m_get (pc' := 49) C 36 (by omega) hpr rfl inW_X8 4 (by decide) (gW_of tm_1_208) rfl rfl dX8_digitsDue_46 rfl ?_
      refine m_get (pc' := 52) C 38 (by omega) hd rfl inW_X2 10 (by decide) (gW_of tm_1_174) rfl rfl dX8_digitsDue_49 rfl ?_
      refine m_bipush (pc' := 54) (v := nI 111) C dX8_digitsDue_52 (by decide) rfl ?_
      refine m_icmp_ne (pc' := 57) (tgt := 71) C dX8_digitsDue_54 (by decide) rfl (fun c_54 => ?_) (fun c_54 => ?_)
      · refine m_iload_n (pc' := 72) C dX8_digitsDue_71 rfl 0 rfl rfl ?_
        refine m_iret C hrt0 hlk0 rfl dX8_digitsDue_72 ?_
        refine ⟨?_, rfl⟩
        unfold dueN
        first | (rw [h1, Bool.false_and, Bool.false_and]; rfl) | (rw [decide_eq_false c_54, Bool.and_false, Bool.false_and]; rfl) | (rw [decide_eq_false h3, Bool.and_false]; rfl) | (rw [h1, decide_eq_true (Classical.not_not.mp c_54), decide_eq_true h3]; rfl)
      · refine m_iload_n (pc' := 58) C dX8_digitsDue_57 rfl 0 rfl rfl ?_
        refine m_aload_n (pc' := 59) C dX8_digitsDue_58 rfl 2 rfl rfl ?_
        refine m_get (pc' := 62) C 36 (by omega) hpr rfl inW_X8 2 (by decide) (gW_of tm_1_206) rfl rfl dX8_digitsDue_59 rfl ?_
        refine m_callVi (pc' := 65) (As := []) (rest := [.int (nI (max (leastP (some k)) ds.length))]) C (kX4_size hI hf) (cwV 0 C.1.2.2.2.2 (goodV tm_3_120 tm_3_121 tm_3_122 tm_1_2 tm_3_123) rfl rfl rfl (by decide +kernel) ⟨by decide, by decide⟩) hf.1 hf.ob rfl rfl rfl (Nat.le_of_ble_eq_true rfl) dX8_digitsDue_62 rfl ⟨by decide, by decide⟩ (fun x_2 N_2 q_2 => ?_)
        obtain ⟨e_2, E_2⟩ := q_2
        replace E_2 := E_2.symm
        subst E_2
        replace e_2 := e_2.symm
        subst e_2
        refine m_icmp_ne (pc' := 68) (tgt := 71) C dX8_digitsDue_65 (by decide) rfl (fun c_65 => ?_) (fun c_65 => ?_)
        · have h3 : ¬ max (leastP (some k)) ds.length = ds.length := fun q => c_65 (by rw [q])
          refine m_iload_n (pc' := 72) C dX8_digitsDue_71 rfl 0 rfl rfl ?_
          refine m_iret C hrt0 hlk0 rfl dX8_digitsDue_72 ?_
          refine ⟨?_, rfl⟩
          unfold dueN
          first | (rw [h1, Bool.false_and, Bool.false_and]; rfl) | (rw [decide_eq_false c_54, Bool.and_false, Bool.false_and]; rfl) | (rw [decide_eq_false h3, Bool.and_false]; rfl) | (rw [h1, decide_eq_true (Classical.not_not.mp c_54), decide_eq_true h3]; rfl)
        · have h3 : max (leastP (some k)) ds.length = ds.length := nI_inj (by first | omega | (simp only [leastP]; omega)) (by omega) (Classical.not_not.mp c_65)
          refine m_iinc (pc' := 71) (v := nI ((max (leastP (some k)) ds.length) + 1)) (lv' := [(2, .int (nI ((max (leastP (some k)) ds.length) + 1))), (1, .int (nI k)), (0, .ref (ad 36))]) C dX8_digitsDue_68 (k := 0) rfl (nI_add _ _) (by decide) rfl rfl ?_
          refine m_iload_n (pc' := 72) C dX8_digitsDue_71 rfl 0 rfl rfl ?_
          refine m_iret C hrt0 hlk0 rfl dX8_digitsDue_72 ?_
          refine ⟨?_, rfl⟩
          unfold dueN
          first | (rw [h1, Bool.false_and, Bool.false_and]; rfl) | (rw [decide_eq_false c_54, Bool.and_false, Bool.false_and]; rfl) | (rw [decide_eq_false h3, Bool.and_false]; rfl) | (rw [h1, decide_eq_true (Classical.not_not.mp c_54), decide_eq_true h3]; rfl)
  · exact absurd (Classical.not_not.mp c_8).symm (neg1_nI (by omega))
theorem kX8_digitsDue {l : Launch} {D : va_G} {cy : Nat → ClassId} {ad : Nat → Nat} {n : Nat} {A : Nat → Prop} (hI : mI ad n A) {M : Nat → va_E} (hn : 52 ≤ n) {ended : Bool} (hpr : M 36 = prO ad ended) {ds : List Nat} {lg : Bool} (hf : isFig cy ad n M 1 2 ds lg) {po : Option Nat} (hpo : ∀ k, po = some k → k < 2 ^ 20) {fl fp fb fm fz sw sp : Bool} {wd bt lt en : Int32} (hd : M 38 = .inr (2, dF fl fp fb fm fz sw sp wd (pI po) bt lt en)) : mMi l yX8_digitsDue (gW yX8_digitsDue cX8_digitsDue 3 (some .int)) { frames := 1, cells := 0, slots := 0, locals := 23 } D cy ad n A [.ref (ad 36)] M (fun res M' => res = nI (dueN po ds.length (fm && decide (lt = nI 111))) ∧ M' = M) := by
  cases po with
  | none => exact kX8_digitsDue_n hI hn hpr hf hd
  | some k => exact kX8_digitsDue_s hI hn hpr hf (hpo k rfl) hd
