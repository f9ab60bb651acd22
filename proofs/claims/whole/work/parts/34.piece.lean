set_option maxHeartbeats 4000000 in
set_option maxRecDepth 100000 in
theorem kX8_readPiece {l : Launch} {D : va_G} {cy : Nat → ClassId} {ad : Nat → Nat} {n : Nat} {A : Nat → Prop} (hI : mI ad n A) {M : Nat → va_E} (hn : 52 ≤ n) {ended : Bool} (hpr : M 36 = prO ad ended) {T : List Nat} (ht : isRow cy ad n M 3 4 80 80 T) (hT : T.length ≤ 80) (hes : isEsc M) (hdi : isDir M) {i : Nat} (hi : i ≤ 90) : mMi l yX8_readPiece (gW yX8_readPiece cX8_readPiece 4 (some .int)) { frames := 4, cells := 0, slots := 0, locals := 88 } D cy ad n A [.ref (ad 36), .ref (ad 3), .int (nI i)] M (fun res M' => res = pcI T i ∧ isEsc M' ∧ isDir M' ∧ (T.getD i 0 = 92 → escOk T (i + 1) = true → M' 37 = .inr (3, [.int (nI (escV T (i + 1))), .int (nI (escE T (i + 1)))])) ∧ (T.getD i 0 = 37 → ¬ T.getD (i + 1) 0 = 37 → M' 38 = .inr (2, dirF T (i + 1))) ∧ Fr [37, 38] M M') := by
  obtain ⟨ev, ee, he⟩ := hes
  obtain ⟨fl, fp, fb, fm, fz, sw, sp, wd, pr, bt, lt, en, hd⟩ := hdi
  have h256 : ∀ x ∈ T, x < 256 := ht.2.2.2.2.1
  refine m_entry (cc := cX8_readPiece) (maxL := 4) (ret := (some .int)) (own := RX8) (lv := [(0, .ref (ad 36)), (1, .ref (ad 3)), (2, .int (nI i))]) hI (by decide) rfl rfl (Nat.le_of_ble_eq_true rfl) rfl (fun pX eX sX mX aX bX tX cX C hrt0 hlk0 => ?_)
  refine m_aload_n (pc' := 1) C dX8_readPiece_0 rfl 1 rfl rfl ?_
  refine m_iload_n (pc' := 2) C dX8_readPiece_1 rfl 2 rfl rfl ?_
  refine m_callVi (pc' := 5) (As := [.int (nI i)]) (rest := []) C (kX9_at hI ht (nI i)) (cwV 1 C.1.2.2.2.2 (goodV tm_2_127 tm_2_128 tm_2_129 tm_1_3 tm_2_130) rfl rfl rfl (by decide +kernel) ⟨by decide, by decide⟩) ht.1 ht.ob rfl rfl rfl (Nat.le_of_ble_eq_true rfl) dX8_readPiece_2 rfl ⟨by decide, by decide⟩ (fun x_1 N_1 q_1 => ?_)
  obtain ⟨e_1, E_1⟩ := q_1
  replace E_1 := E_1.symm
  subst E_1
  replace e_1 : x_1 = chAt T i := e_1.trans (rowAt_full hT (by omega) (by omega))
  replace e_1 := e_1.symm
  subst e_1
  refine m_istore_n (pc' := 6) (lv' := [(3, .int (chAt T i)), (0, .ref (ad 36)), (1, .ref (ad 3)), (2, .int (nI i))]) C dX8_readPiece_5 rfl (by decide) rfl rfl ?_
  refine m_iload_n (pc' := 7) C dX8_readPiece_6 rfl 0 rfl rfl ?_
  refine m_bipush (pc' := 9) (v := nI 92) C dX8_readPiece_7 (by decide) rfl ?_
  refine m_icmp_ne (pc' := 12) (tgt := 38) C dX8_readPiece_9 (by decide) rfl (fun c_9 => ?_) (fun c_9 => ?_)
  · have e9 : ¬ T.getD i 0 = 92 := fun q => c_9 ((chAt_eq h256 (by decide) (by decide)).mpr q)
    refine m_iload_n (pc' := 39) C dX8_readPiece_38 rfl 0 rfl rfl ?_
    refine m_bipush (pc' := 41) (v := nI 37) C dX8_readPiece_39 (by decide) rfl ?_
    refine m_icmp_eq (pc' := 44) (tgt := 48) C dX8_readPiece_41 (by decide) rfl (fun c_41 => ?_) (fun c_41 => ?_)
    · have e41 : T.getD i 0 = 37 := (chAt_eq h256 (by decide) (by decide)).mp c_41
      refine m_aload_n (pc' := 49) C dX8_readPiece_48 rfl 2 rfl rfl ?_
      refine m_iload_n (pc' := 50) C dX8_readPiece_49 rfl 3 rfl rfl ?_
      refine m_iconst (pc' := 51) (v := nI 1) C dX8_readPiece_50 (by decide) rfl ?_
      refine m_iadd (pc' := 52) (v := nI (i + 1)) C dX8_readPiece_51 (nI_add _ _) rfl ?_
      refine m_callVi (pc' := 55) (As := [.int (nI (i + 1))]) (rest := []) C (kX9_at hI ht (nI (i + 1))) (cwV 1 C.1.2.2.2.2 (goodV tm_2_127 tm_2_128 tm_2_129 tm_1_3 tm_2_130) rfl rfl rfl (by decide +kernel) ⟨by decide, by decide⟩) ht.1 ht.ob rfl rfl rfl (Nat.le_of_ble_eq_true rfl) dX8_readPiece_52 rfl ⟨by decide, by decide⟩ (fun x_2 N_2 q_2 => ?_)
      obtain ⟨e_2, E_2⟩ := q_2
      replace E_2 := E_2.symm
      subst E_2
      replace e_2 : x_2 = chAt T (i + 1) := e_2.trans (rowAt_full hT (by omega) (by omega))
      replace e_2 := e_2.symm
      subst e_2
      refine m_bipush (pc' := 57) (v := nI 37) C dX8_readPiece_55 (by decide) rfl ?_
      refine m_icmp_ne (pc' := 60) (tgt := 64) C dX8_readPiece_57 (by decide) rfl (fun c_57 => ?_) (fun c_57 => ?_)
      · have e57 : ¬ T.getD (i + 1) 0 = 37 := fun q => c_57 ((chAt_eq h256 (by decide) (by decide)).mpr q)
        refine m_aload_n (pc' := 65) C dX8_readPiece_64 rfl 1 rfl rfl ?_
        refine m_get (pc' := 68) C 36 (by omega) hpr rfl inW_X8 4 (by decide) (gW_of tm_1_208) rfl rfl dX8_readPiece_65 rfl ?_
        refine m_aload_n (pc' := 69) C dX8_readPiece_68 rfl 2 rfl rfl ?_
        refine m_iload_n (pc' := 70) C dX8_readPiece_69 rfl 3 rfl rfl ?_
        refine m_iconst (pc' := 71) (v := nI 1) C dX8_readPiece_70 (by decide) rfl ?_
        refine m_iadd (pc' := 72) (v := nI (i + 1)) C dX8_readPiece_71 (nI_add _ _) rfl ?_
        refine m_callVi (pc' := 75) (As := [.ref (ad 3), .int (nI (i + 1))]) (rest := []) C (kX2_read hI ht hT (by omega) hd (by decide) (by omega)) (cwV 2 C.1.2.2.2.2 (goodV tm_2_154 tm_2_155 tm_2_156 tm_1_9 tm_2_157) rfl rfl rfl (by decide +kernel) ⟨by decide, by decide⟩) (by omega) hd rfl rfl rfl (Nat.le_of_ble_eq_true rfl) dX8_readPiece_72 rfl ⟨by decide, by decide⟩ (fun x_3 M3 q_3 => ?_)
        obtain ⟨e_3, g_3, F_3⟩ := q_3
        replace e_3 := e_3.symm
        subst e_3
        refine m_if_eq (pc' := 78) (tgt := 88) C dX8_readPiece_75 (by decide) rfl (fun c_75 => ?_) (fun c_75 => ?_)
        · have hok : dirOk T (i + 1) = false := (bI_0 _).mp c_75
          refine m_iconst (pc' := 89) (v := (-1)) C dX8_readPiece_88 (by decide) rfl ?_
          refine m_iret C hrt0 hlk0 rfl dX8_readPiece_89 ?_
          have f37_4 : M3 37 = .inr (3, [.int (ev), .int (ee)]) := (F_3 37 (by decide)).trans he
          exact ⟨by unfold pcI; rw [if_neg e9, if_pos e41, if_neg e57, hok]; rfl, ⟨_, _, f37_4⟩, ⟨_, _, _, _, _, _, _, _, _, _, _, _, g_3⟩, fun q => absurd q e9, fun _ _ => g_3, (F_3.sub (by decide))⟩
        · have hok : dirOk T (i + 1) = true := ts_of c_75
          refine m_aload_n (pc' := 79) C dX8_readPiece_78 rfl 1 rfl rfl ?_
          have f36_5 : M3 36 = .inr (8, [.ref (ad 5), .ref (ad 9), .ref (ad 1), .ref (ad 37), .ref (ad 38), .ref (ad 39), .ref (ad 41), .int (bI ended)]) := (F_3 36 (by decide)).trans hpr
          refine m_get (pc' := 82) C 36 (by omega) f36_5 rfl inW_X8 4 (by decide) (gW_of tm_1_208) rfl rfl dX8_readPiece_79 rfl ?_
          refine m_get (pc' := 85) C 38 (by omega) g_3 rfl inW_X2 11 (by decide) (gW_of tm_1_176) rfl rfl dX8_readPiece_82 rfl ?_
          refine m_goto (tgt := 89) C dX8_readPiece_85 (by decide) ?_
          refine m_iret C hrt0 hlk0 rfl dX8_readPiece_89 ?_
          have f37_6 : M3 37 = .inr (3, [.int (ev), .int (ee)]) := (F_3 37 (by decide)).trans he
          exact ⟨by unfold pcI; rw [if_neg e9, if_pos e41, if_neg e57, hok]; rfl, ⟨_, _, f37_6⟩, ⟨_, _, _, _, _, _, _, _, _, _, _, _, g_3⟩, fun q => absurd q e9, fun _ _ => g_3, (F_3.sub (by decide))⟩
      · have e57 : T.getD (i + 1) 0 = 37 := (chAt_eq h256 (by decide) (by decide)).mp (Classical.not_not.mp c_57)
        refine m_iload_n (pc' := 61) C dX8_readPiece_60 rfl 3 rfl rfl ?_
        refine m_iconst (pc' := 62) (v := nI 2) C dX8_readPiece_61 (by decide) rfl ?_
        refine m_iadd (pc' := 63) (v := nI (i + 2)) C dX8_readPiece_62 (nI_add _ _) rfl ?_
        refine m_iret C hrt0 hlk0 rfl dX8_readPiece_63 ?_
        exact ⟨by unfold pcI; rw [if_neg e9, if_pos e41, if_pos e57], ⟨_, _, he⟩, ⟨_, _, _, _, _, _, _, _, _, _, _, _, hd⟩, fun q => absurd q e9, fun _ q => absurd e57 q, Fr.rf⟩
    · have e41 : ¬ T.getD i 0 = 37 := fun q => c_41 ((chAt_eq h256 (by decide) (by decide)).mpr q)
      refine m_iload_n (pc' := 45) C dX8_readPiece_44 rfl 3 rfl rfl ?_
      refine m_iconst (pc' := 46) (v := nI 1) C dX8_readPiece_45 (by decide) rfl ?_
      refine m_iadd (pc' := 47) (v := nI (i + 1)) C dX8_readPiece_46 (nI_add _ _) rfl ?_
      refine m_iret C hrt0 hlk0 rfl dX8_readPiece_47 ?_
      exact ⟨by unfold pcI; rw [if_neg e9, if_neg e41], ⟨_, _, he⟩, ⟨_, _, _, _, _, _, _, _, _, _, _, _, hd⟩, fun q => absurd q e9, fun q => absurd q e41, Fr.rf⟩
  · have e9 : T.getD i 0 = 92 := (chAt_eq h256 (by decide) (by decide)).mp (Classical.not_not.mp c_9)
    refine m_aload_n (pc' := 13) C dX8_readPiece_12 rfl 1 rfl rfl ?_
    refine m_get (pc' := 16) C 36 (by omega) hpr rfl inW_X8 3 (by decide) (gW_of tm_1_207) rfl rfl dX8_readPiece_13 rfl ?_
    refine m_aload_n (pc' := 17) C dX8_readPiece_16 rfl 2 rfl rfl ?_
    refine m_iload_n (pc' := 18) C dX8_readPiece_17 rfl 3 rfl rfl ?_
    refine m_iconst (pc' := 19) (v := nI 1) C dX8_readPiece_18 (by decide) rfl ?_
    refine m_iadd (pc' := 20) (v := nI (i + 1)) C dX8_readPiece_19 (nI_add _ _) rfl ?_
    refine m_callVi (pc' := 23) (As := [.ref (ad 3), .int (nI (i + 1))]) (rest := []) C (kX3_readInFormat hI ht hT (by omega) he (by decide) (by omega)) (cwV 2 C.1.2.2.2.2 (goodV tm_2_131 tm_2_132 tm_2_133 tm_1_8 tm_2_134) rfl rfl rfl (by decide +kernel) ⟨by decide, by decide⟩) (by omega) he rfl rfl rfl (Nat.le_of_ble_eq_true rfl) dX8_readPiece_20 rfl ⟨by decide, by decide⟩ (fun x_7 M7 q_7 => ?_)
    obtain ⟨e_7, g_7, F_7⟩ := q_7
    replace e_7 := e_7.symm
    subst e_7
    refine m_if_eq (pc' := 26) (tgt := 36) C dX8_readPiece_23 (by decide) rfl (fun c_23 => ?_) (fun c_23 => ?_)
    · have hok : escOk T (i + 1) = false := (bI_0 _).mp c_23
      refine m_iconst (pc' := 37) (v := (-1)) C dX8_readPiece_36 (by decide) rfl ?_
      refine m_iret C hrt0 hlk0 rfl dX8_readPiece_37 ?_
      have f38_8 : M7 38 = .inr (2, [.int (bI fl), .int (bI fp), .int (bI fb), .int (bI fm), .int (bI fz), .int (bI sw), .int (bI sp), .int (wd), .int (pr), .int (bt), .int (lt), .int (en)]) := (F_7 38 (by decide)).trans hd
      exact ⟨by unfold pcI; rw [if_pos e9]; first | (rw [hok]; rfl) | (rw [hok]; done), ⟨_, _, g_7⟩, ⟨_, _, _, _, _, _, _, _, _, _, _, _, f38_8⟩, fun _ _ => g_7, fun q => absurd (e9.symm.trans q) (by decide), (F_7.sub (by decide))⟩
    · have hok : escOk T (i + 1) = true := ts_of c_23
      refine m_aload_n (pc' := 27) C dX8_readPiece_26 rfl 1 rfl rfl ?_
      have f36_9 : M7 36 = .inr (8, [.ref (ad 5), .ref (ad 9), .ref (ad 1), .ref (ad 37), .ref (ad 38), .ref (ad 39), .ref (ad 41), .int (bI ended)]) := (F_7 36 (by decide)).trans hpr
      refine m_get (pc' := 30) C 36 (by omega) f36_9 rfl inW_X8 3 (by decide) (gW_of tm_1_207) rfl rfl dX8_readPiece_27 rfl ?_
      refine m_callVi (pc' := 33) (As := []) (rest := []) C (kX3_end hI (by omega) g_7) (cwV 0 C.1.2.2.2.2 (goodV tm_2_150 tm_2_151 tm_2_152 tm_1_8 tm_2_153) rfl rfl rfl (by decide +kernel) ⟨by decide, by decide⟩) (by omega) g_7 rfl rfl rfl (Nat.le_of_ble_eq_true rfl) dX8_readPiece_30 rfl ⟨by decide, by decide⟩ (fun x_10 N_10 q_10 => ?_)
      obtain ⟨e_10, E_10⟩ := q_10
      replace E_10 := E_10.symm
      subst E_10
      replace e_10 := e_10.symm
      subst e_10
      refine m_goto (tgt := 37) C dX8_readPiece_33 (by decide) ?_
      refine m_iret C hrt0 hlk0 rfl dX8_readPiece_37 ?_
      have f38_11 : M7 38 = .inr (2, [.int (bI fl), .int (bI fp), .int (bI fb), .int (bI fm), .int (bI fz), .int (bI sw), .int (bI sp), .int (wd), .int (pr), .int (bt), .int (lt), .int (en)]) := (F_7 38 (by decide)).trans hd
      exact ⟨by unfold pcI; rw [if_pos e9]; first | (rw [hok]; rfl) | (rw [hok]; done), ⟨_, _, g_7⟩, ⟨_, _, _, _, _, _, _, _, _, _, _, _, f38_11⟩, fun _ _ => g_7, fun q => absurd (e9.symm.trans q) (by decide), (F_7.sub (by decide))⟩
