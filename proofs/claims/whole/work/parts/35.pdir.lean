theorem kX1_takeNext_u {l : Launch} {D : va_G} {cy : Nat → ClassId} {ad : Nat → Nat} {n : Nat} {A : Nat → Prop} (hI : mI ad n A) {M : Nat → va_E} {xs : Nat → Arg} {cnt tk od : Nat} (h : isArgs cy ad n M xs cnt tk od) : mMq l yX1_takeNext (gW yX1_takeNext cX1_takeNext 1 (some (.object "FormatDump$Argument"))) { frames := 0, cells := 0, slots := 0, locals := 0 } D cy ad n A [.ref (ad 9)] M (fun res M' => res = nxR ad cnt tk ∧ isArgs cy ad n M' xs cnt (nextT cnt tk) od ∧ Fr argS M M') := by
  unfold nxR nextT
  by_cases hc : tk < cnt
  · rw [if_pos hc, if_pos hc]
    have h9 := kX1_takeNext_t (l := l) (D := D) hI h hc
    exact Met.weaken_q h9 (fun r u q => ⟨q.1, q.2.1, q.2.2.sub (by decide)⟩)
  · rw [if_neg hc, if_neg hc]
    have h9 := kX1_takeNext_n (l := l) (D := D) hI h (by omega)
    exact Met.weaken_q h9 (fun r u q => ⟨q.1, by rw [q.2]; exact h, by rw [q.2]; exact Fr.rf⟩)
theorem kX8_loadText_u {l : Launch} {D : va_G} {cy : Nat → ClassId} {ad : Nat → Nat} {n : Nat} {A : Nat → Prop} (hI : mI ad n A) {M : Nat → va_E} (hn : 52 ≤ n) {ended : Bool} (hpr : M 36 = prO ad ended) {P : List Nat} (hp : isRow cy ad n M 39 40 80 80 P) {ds : List Nat} {lg : Bool} (hf : isFig cy ad n M 1 2 ds lg) {xs : Nat → Arg} {cnt tk0 od : Nat} (hA : isArgs cy ad n M xs cnt tk0 od) (tk : Nat) : mMv l yX8_loadText (gW yX8_loadText cX8_loadText 2 none) { frames := 3, cells := 0, slots := 0, locals := 75 } D cy ad n A [.ref (ad 36), va_rf (nxR ad cnt tk)] M (fun M' => isRow cy ad n M' 39 40 80 80 (nxA xs cnt tk) ∧ (∃ (ds2 : List Nat) (lg2 : Bool), isFig cy ad n M' 1 2 ds2 lg2) ∧ Fr [1, 2, 39, 40] M M') := by
  unfold nxR nxA
  by_cases hc : tk < cnt
  · rw [if_pos hc, if_pos hc]
    have h2 := hA.2.1
    exact kX8_loadText_t hI hn hpr hp hf (hA.2.2.2.2.2.2.1 tk (by omega)) (by omega)
  · rw [if_neg hc, if_neg hc]
    exact kX8_loadText_n hI hn hpr hp hf
theorem kX8_loadCharacter_u {l : Launch} {D : va_G} {cy : Nat → ClassId} {ad : Nat → Nat} {n : Nat} {A : Nat → Prop} (hI : mI ad n A) {M : Nat → va_E} (hn : 52 ≤ n) {ended : Bool} (hpr : M 36 = prO ad ended) {P : List Nat} (hp : isRow cy ad n M 39 40 80 80 P) {xs : Nat → Arg} {cnt tk0 od : Nat} (hA : isArgs cy ad n M xs cnt tk0 od) (tk : Nat) : mMv l yX8_loadCharacter (gW yX8_loadCharacter cX8_loadCharacter 2 none) { frames := 1, cells := 0, slots := 0, locals := 21 } D cy ad n A [.ref (ad 36), va_rf (nxR ad cnt tk)] M (fun M' => isRow cy ad n M' 39 40 80 80 (nxC xs cnt tk) ∧ Fr [39, 40] M M') := by
  unfold nxR nxC
  by_cases hc : tk < cnt
  · rw [if_pos hc, if_pos hc]
    have h2 := hA.2.1
    exact kX8_loadCharacter_t hI hn hpr hp (hA.2.2.2.2.2.2.1 tk (by omega)) (by omega)
  · rw [if_neg hc, if_neg hc]
    exact kX8_loadCharacter_n hI hn hpr hp
set_option maxHeartbeats 4000000 in
set_option maxRecDepth 100000 in
theorem kX8_printDirective {l : Launch} {D : va_G} {cy : Nat → ClassId} {ad : Nat → Nat} {n : Nat} {A : Nat → Prop} (hI : mI ad n A) {M : Nat → va_E} {ended : Bool} {lim : Nat} {O : List Nat} {xs : Nat → Arg} {cnt tk od : Nat} (hps : isPS cy ad n M ended lim O xs cnt tk od) {fl fp fb fm fz sw sp : Bool} {w b : Nat} {po : Option Nat} {lt en : Int32} (hww : w < 2 ^ 20) (hb64 : b ≤ 64) (hpo : ∀ k, po = some k → k < 2 ^ 20) (hd : M 38 = .inr (2, dF fl fp fb fm fz sw sp (nI w) (pI po) (nI b) lt en)) : mMv l yX8_printDirective (gW yX8_printDirective cX8_printDirective 1 none) { frames := 4, cells := 0, slots := 0, locals := 96 } D cy ad n A [.ref (ad 36)] M (fun M' => isPS cy ad n M' (ended || (dRun xs cnt fl fp fb fm fz sw sp w po b lt tk).2.2.2) lim (O ++ (dRun xs cnt fl fp fb fm fz sw sp w po b lt tk).1) xs cnt (dRun xs cnt fl fp fb fm fz sw sp w po b lt tk).2.1 (od + (dRun xs cnt fl fp fb fm fz sw sp w po b lt tk).2.2.1) ∧ isDir M' ∧ Fr prtS M M') := by
  obtain ⟨hn, hpr, hg, hA, ⟨ds, lg, hf⟩, ⟨ev, ee, he⟩, ⟨P, hp⟩, W, hw⟩ := hps
  refine m_entry (cc := cX8_printDirective) (maxL := 1) (ret := none) (own := RX8) (lv := [(0, .ref (ad 36))]) hI (by decide) rfl rfl (Nat.le_of_ble_eq_true rfl) rfl (fun pX eX sX mX aX bX tX cX C hrt0 hlk0 => ?_)
  refine m_cut (σ := (Nat → va_E)) (fun a => a 38 = .inr (2, dF (w1F fl sw (nextV xs cnt tk)) fp fb fm fz sw sp (nI (w1W sw w (nextV xs cnt tk))) (pI po) (nI b) lt en) ∧ isArgs cy ad n a xs cnt (w1T sw cnt tk) (od + w1O sw xs cnt tk) ∧ Fr (38 :: argS) M a) (fun a => a) 24 (fun a => [(0, .ref (ad 36))]) (fun a => []) ?_ (fun J24 => ?_)
  · rintro Mj hj
    try dsimp only at hj ⊢
    obtain ⟨j1, j2, j3⟩ := hj
    obtain ⟨fl1, hfl1⟩ : ∃ z, z = w1F fl sw (nextV xs cnt tk) := ⟨_, rfl⟩
    obtain ⟨w1, hw1e⟩ : ∃ z, z = w1W sw w (nextV xs cnt tk) := ⟨_, rfl⟩
    obtain ⟨tk1, htk1⟩ : ∃ z, z = w1T sw cnt tk := ⟨_, rfl⟩
    obtain ⟨od1, hod1⟩ : ∃ z, z = od + w1O sw xs cnt tk := ⟨_, rfl⟩
    rw [← hfl1, ← hw1e] at j1
    rw [← htk1, ← hod1] at j2
    have hw1 : w1 < 2 ^ 20 := by rw [hw1e]; unfold w1W; have := cutA_le (nextV xs cnt tk); split <;> omega
    refine m_cut (σ := (Nat → va_E)) (fun a => a 38 = .inr (2, dF fl1 fp fb fm fz sw sp (nI w1) (pI (p1P sp po (nextV xs cnt tk1))) (nI b) lt en) ∧ isArgs cy ad n a xs cnt (w1T sp cnt tk1) (od1 + w1O sp xs cnt tk1) ∧ Fr (38 :: argS) M a) (fun a => a) 48 (fun a => [(0, .ref (ad 36))]) (fun a => []) ?_ (fun J48 => ?_)
    · rintro Mh hj
      try dsimp only at hj ⊢
      obtain ⟨k1, k2, k3⟩ := hj
      obtain ⟨po2, hpo2e⟩ : ∃ z, z = p1P sp po (nextV xs cnt tk1) := ⟨_, rfl⟩
      obtain ⟨tk2, htk2⟩ : ∃ z, z = w1T sp cnt tk1 := ⟨_, rfl⟩
      obtain ⟨od2, hod2⟩ : ∃ z, z = od1 + w1O sp xs cnt tk1 := ⟨_, rfl⟩
      rw [← hpo2e] at k1
      rw [← htk2, ← hod2] at k2
      have hpo2 : ∀ k, po2 = some k → k < 2 ^ 20 := by
        intro k hk
        rw [hpo2e] at hk
        unfold p1P at hk
        split at hk
        · split at hk
          · cases hk
          · have := cutA_le (nextV xs cnt tk1)
            cases hk
            omega
        · exact hpo k hk
      refine m_aload_n (pc' := 49) C dX8_printDirective_48 rfl 0 rfl rfl ?_
      have f36_1 : Mh 36 = .inr (8, [.ref (ad 5), .ref (ad 9), .ref (ad 1), .ref (ad 37), .ref (ad 38), .ref (ad 39), .ref (ad 41), .int (bI ended)]) := (k3 36 (by decide)).trans hpr
      refine m_get (pc' := 52) C 36 (by omega) f36_1 rfl inW_X8 4 (by decide) (gW_of tm_1_208) rfl rfl dX8_printDirective_49 rfl ?_
      refine m_get (pc' := 55) C 38 (by omega) k1 rfl inW_X2 10 (by decide) (gW_of tm_1_174) rfl rfl dX8_printDirective_52 rfl ?_
      refine dite (lt = nI 98) (fun s55_98 => ?_) (fun s55_98 => ?_)
      · have hlast : lastR xs cnt fl1 fp fb fm fz w1 po2 b lt tk2 = (padT fl1 w1 (cutP po2 (unsT (nxA xs cnt tk2))), nextT cnt tk2, 0, unsE (nxA xs cnt tk2)) := by unfold lastR; rw [if_pos s55_98]
        refine m_look (off := 73) (tgt := 128) C dX8_printDirective_55 (by decide) (by rw [s55_98]; decide) (by decide) ?_
        refine m_aload_n (pc' := 129) C dX8_printDirective_128 rfl 0 rfl rfl ?_
        refine m_aload_n (pc' := 130) C dX8_printDirective_129 rfl 0 rfl rfl ?_
        refine m_get (pc' := 133) C 36 (by omega) f36_1 rfl inW_X8 1 (by decide) (gW_of tm_1_205) rfl rfl dX8_printDirective_130 rfl ?_
        refine m_callVq (pc' := 136) (As := []) (rest := [.ref (ad 36)]) C (kX1_takeNext_u hI k2) (cwV 0 C.1.2.2.2.2 (goodV tm_3_31 tm_2_223 tm_2_224 tm_1_4 tm_2_225) rfl rfl rfl (by decide +kernel) ⟨by decide, by decide⟩) k2.lt9 k2.ob9 rfl rfl rfl (Nat.le_of_ble_eq_true rfl) dX8_printDirective_133 rfl ⟨by decide, by decide⟩ (fun x_2 M2 q_2 => ?_)
        obtain ⟨e_2, A_2, F_2⟩ := q_2
        replace e_2 := e_2.symm
        subst e_2
        have f36_4 : M2 36 = .inr (8, [.ref (ad 5), .ref (ad 9), .ref (ad 1), .ref (ad 37), .ref (ad 38), .ref (ad 39), .ref (ad 41), .int (bI ended)]) := (F_2 36 (by decide)).trans f36_1
        have R39_5 := hp.fr k3 (by decide) (by decide)
        have R39_6 := R39_5.fr F_2 (by decide) (by decide)
        have G_7 := hf.fr k3 (by decide) (by decide)
        have G_8 := G_7.fr F_2 (by decide) (by decide)
        refine m_callVv (pc' := 139) (As := [(va_rf (nxR ad cnt tk2))]) (rest := []) C (kX8_loadText_u hI hn f36_4 R39_6 G_8 A_2 tk2) (cwV 1 C.1.2.2.2.2 (goodV tm_3_45 tm_3_47 tp_16 tm_1_7 tm_3_48) rfl rfl rfl (by decide +kernel) ⟨by decide, by decide⟩) (by omega) f36_4 rfl rfl rfl (Nat.le_of_ble_eq_true rfl) dX8_printDirective_136 rfl ⟨by decide, by decide⟩ (fun M3 q_3 => ?_)
        obtain ⟨R_3, ⟨ds_3, lg_3, G_3⟩, F_3⟩ := q_3
        have hlen : (nxA xs cnt tk2).length ≤ 80 := hA.len _
        refine m_aload_n (pc' := 140) C dX8_printDirective_139 rfl 0 rfl rfl ?_
        have f36_10 : M3 36 = .inr (8, [.ref (ad 5), .ref (ad 9), .ref (ad 1), .ref (ad 37), .ref (ad 38), .ref (ad 39), .ref (ad 41), .int (bI ended)]) := (F_3 36 (by decide)).trans f36_4
        have f38_11 : M2 38 = .inr (2, [.int (bI fl1), .int (bI fp), .int (bI fb), .int (bI fm), .int (bI fz), .int (bI sw), .int (bI sp), .int (nI w1), .int (pI po2), .int (nI b), .int (lt), .int (en)]) := (F_2 38 (by decide)).trans k1
        have f38_12 : M3 38 = .inr (2, [.int (bI fl1), .int (bI fp), .int (bI fb), .int (bI fm), .int (bI fz), .int (bI sw), .int (bI sp), .int (nI w1), .int (pI po2), .int (nI b), .int (lt), .int (en)]) := (F_3 38 (by decide)).trans f38_11
        have f37_13 : Mh 37 = .inr (3, [.int (ev), .int (ee)]) := (k3 37 (by decide)).trans he
        have f37_14 : M2 37 = .inr (3, [.int (ev), .int (ee)]) := (F_2 37 (by decide)).trans f37_13
        have f37_15 : M3 37 = .inr (3, [.int (ev), .int (ee)]) := (F_3 37 (by decide)).trans f37_14
        have R41_16 := hw.fr k3 (by decide) (by decide)
        have R41_17 := R41_16.fr F_2 (by decide) (by decide)
        have R41_18 := R41_17.fr F_3 (by decide) (by decide)
        refine m_callVv (pc' := 143) (As := []) (rest := []) C (kX8_unescapePiece hI hn f36_10 R_3 hlen f37_15 R41_18) (cwV 0 C.1.2.2.2.2 (goodV tm_3_88 tm_3_90 tp_20 tm_1_7 tm_3_91) rfl rfl rfl (by decide +kernel) ⟨by decide, by decide⟩) (by omega) f36_10 rfl rfl rfl (Nat.le_of_ble_eq_true rfl) dX8_printDirective_140 rfl ⟨by decide, by decide⟩ (fun M9 q_9 => ?_)
        obtain ⟨R_9, hlu, g_9, ⟨ev9, ee9, he9⟩, ⟨W9, hw9⟩, F_9⟩ := q_9
        refine m_aload_n (pc' := 144) C dX8_printDirective_143 rfl 0 rfl rfl ?_
        have f38_20 : M9 38 = .inr (2, [.int (bI fl1), .int (bI fp), .int (bI fb), .int (bI fm), .int (bI fz), .int (bI sw), .int (bI sp), .int (nI w1), .int (pI po2), .int (nI b), .int (lt), .int (en)]) := (F_9 38 (by decide)).trans f38_12
        refine m_callVv (pc' := 147) (As := []) (rest := []) C (kX8_keepPrecision hI hn g_9 R_9 hlu (fun k hk => Nat.lt_trans (hpo2 k hk) (by decide)) f38_20) (cwV 0 C.1.2.2.2.2 (goodV tm_3_76 tm_3_78 tp_19 tm_1_7 tm_3_79) rfl rfl rfl (by decide +kernel) ⟨by decide, by decide⟩) (by omega) g_9 rfl rfl rfl (Nat.le_of_ble_eq_true rfl) dX8_printDirective_144 rfl ⟨by decide, by decide⟩ (fun M19 q_19 => ?_)
        obtain ⟨R_19, F_19⟩ := q_19
        have hlc := cutP_len po2 _ hlu
        refine m_aload_n (pc' := 148) C dX8_printDirective_147 rfl 0 rfl rfl ?_
        have f36_22 : M19 36 = .inr (8, [.ref (ad 5), .ref (ad 9), .ref (ad 1), .ref (ad 37), .ref (ad 38), .ref (ad 39), .ref (ad 41), .int (bI (ended || unsE (nxA xs cnt tk2)))]) := (F_19 36 (by decide)).trans g_9
        have f38_23 : M19 38 = .inr (2, [.int (bI fl1), .int (bI fp), .int (bI fb), .int (bI fm), .int (bI fz), .int (bI sw), .int (bI sp), .int (nI w1), .int (pI po2), .int (nI b), .int (lt), .int (en)]) := (F_19 38 (by decide)).trans f38_20
        have R5_24 := hg.fr k3 (by decide) (by decide)
        have R5_25 := R5_24.fr F_2 (by decide) (by decide)
        have R5_26 := R5_25.fr F_3 (by decide) (by decide)
        have R5_27 := R5_26.fr F_9 (by decide) (by decide)
        have R5_28 := R5_27.fr F_19 (by decide) (by decide)
        refine m_callVv (pc' := 151) (As := []) (rest := []) C (kX8_printFilled hI hn f36_22 R_19 hlc R5_28 (Nat.lt_trans hw1 (by decide)) f38_23) (cwV 0 C.1.2.2.2.2 (goodV tm_3_36 tm_3_38 tp_15 tm_1_7 tm_3_39) rfl rfl rfl (by decide +kernel) ⟨by decide, by decide⟩) (by omega) f36_22 rfl rfl rfl (Nat.le_of_ble_eq_true rfl) dX8_printDirective_148 rfl ⟨by decide, by decide⟩ (fun M21 q_21 => ?_)
        obtain ⟨R_21, F_21⟩ := q_21
        refine m_goto (tgt := 165) C dX8_printDirective_151 (by decide) ?_
        refine m_vret C hrt0 hlk0 dX8_printDirective_165 ?_
        have f36_29 : M21 36 = .inr (8, [.ref (ad 5), .ref (ad 9), .ref (ad 1), .ref (ad 37), .ref (ad 38), .ref (ad 39), .ref (ad 41), .int (bI (ended || unsE (nxA xs cnt tk2)))]) := (F_21 36 (by decide)).trans f36_22
        have f38_30 : M21 38 = .inr (2, [.int (bI fl1), .int (bI fp), .int (bI fb), .int (bI fm), .int (bI fz), .int (bI sw), .int (bI sp), .int (nI w1), .int (pI po2), .int (nI b), .int (lt), .int (en)]) := (F_21 38 (by decide)).trans f38_23
        have f37_31 : M19 37 = .inr (3, [.int (ev9), .int (ee9)]) := (F_19 37 (by decide)).trans he9
        have f37_32 : M21 37 = .inr (3, [.int (ev9), .int (ee9)]) := (F_21 37 (by decide)).trans f37_31
        have A_33 := A_2.fr F_3 (by decide)
        have A_34 := A_33.fr F_9 (by decide)
        have A_35 := A_34.fr F_19 (by decide)
        have A_36 := A_35.fr F_21 (by decide)
        have G_37 := G_3.fr F_9 (by decide) (by decide)
        have G_38 := G_37.fr F_19 (by decide) (by decide)
        have G_39 := G_38.fr F_21 (by decide) (by decide)
        have R39_40 := R_19.fr F_21 (by decide) (by decide)
        have R41_41 := hw9.fr F_19 (by decide) (by decide)
        have R41_42 := R41_41.fr F_21 (by decide) (by decide)
        have hrun : dRun xs cnt fl fp fb fm fz sw sp w po b lt tk = ((lastR xs cnt fl1 fp fb fm fz w1 po2 b lt tk2).1, (lastR xs cnt fl1 fp fb fm fz w1 po2 b lt tk2).2.1, w1O sw xs cnt tk + w1O sp xs cnt tk1 + (lastR xs cnt fl1 fp fb fm fz w1 po2 b lt tk2).2.2.1, (lastR xs cnt fl1 fp fb fm fz w1 po2 b lt tk2).2.2.2) := by
          unfold dRun
          dsimp only
          rw [← htk1, ← htk2, ← hfl1, ← hw1e, ← hpo2e]
        rw [hrun, hlast]
        dsimp only
        refine ⟨⟨hn, by first | exact f36_29 | (rw [Bool.or_false]; exact f36_29), R_21, by first | (rw [Nat.add_zero, show od + (w1O sw xs cnt tk + w1O sp xs cnt tk1) = od2 by rw [hod2, hod1, Nat.add_assoc]]; exact A_36) | (rw [show od + (w1O sw xs cnt tk + w1O sp xs cnt tk1 + nextO xs cnt tk2) = od2 + nextO xs cnt tk2 by rw [hod2, hod1]; omega]; exact A_36), ⟨_, _, G_39⟩, ⟨_, _, f37_32⟩, ⟨_, R39_40⟩, ⟨_, R41_42⟩⟩, ⟨_, _, _, _, _, _, _, _, _, _, _, _, f38_30⟩, ((((((k3.sub (by decide)).tr (F_2.sub (by decide))).tr (F_3.sub (by decide))).tr (F_9.sub (by decide))).tr (F_19.sub (by decide))).tr (F_21.sub (by decide)))⟩
      refine dite (lt = nI 99) (fun s55_99 => ?_) (fun s55_99 => ?_)
      · have hlast : lastR xs cnt fl1 fp fb fm fz w1 po2 b lt tk2 = (padT fl1 w1 (nxC xs cnt tk2), nextT cnt tk2, 0, false) := by unfold lastR; rw [if_neg s55_98, if_pos s55_99]
        refine m_look (off := 33) (tgt := 88) C dX8_printDirective_55 (by decide) (by rw [s55_99]; decide) (by decide) ?_
        refine m_aload_n (pc' := 89) C dX8_printDirective_88 rfl 0 rfl rfl ?_
        refine m_aload_n (pc' := 90) C dX8_printDirective_89 rfl 0 rfl rfl ?_
        refine m_get (pc' := 93) C 36 (by omega) f36_1 rfl inW_X8 1 (by decide) (gW_of tm_1_205) rfl rfl dX8_printDirective_90 rfl ?_
        refine m_callVq (pc' := 96) (As := []) (rest := [.ref (ad 36)]) C (kX1_takeNext_u hI k2) (cwV 0 C.1.2.2.2.2 (goodV tm_3_31 tm_2_223 tm_2_224 tm_1_4 tm_2_225) rfl rfl rfl (by decide +kernel) ⟨by decide, by decide⟩) k2.lt9 k2.ob9 rfl rfl rfl (Nat.le_of_ble_eq_true rfl) dX8_printDirective_93 rfl ⟨by decide, by decide⟩ (fun x_43 M43 q_43 => ?_)
        obtain ⟨e_43, A_43, F_43⟩ := q_43
        replace e_43 := e_43.symm
        subst e_43
        have f36_45 : M43 36 = .inr (8, [.ref (ad 5), .ref (ad 9), .ref (ad 1), .ref (ad 37), .ref (ad 38), .ref (ad 39), .ref (ad 41), .int (bI ended)]) := (F_43 36 (by decide)).trans f36_1
        have R39_46 := hp.fr k3 (by decide) (by decide)
        have R39_47 := R39_46.fr F_43 (by decide) (by decide)
        refine m_callVv (pc' := 99) (As := [(va_rf (nxR ad cnt tk2))]) (rest := []) C (kX8_loadCharacter_u hI hn f36_45 R39_47 A_43 tk2) (cwV 1 C.1.2.2.2.2 (goodV tm_3_32 tm_3_34 tp_14 tm_1_7 tm_3_35) rfl rfl rfl (by decide +kernel) ⟨by decide, by decide⟩) (by omega) f36_45 rfl rfl rfl (Nat.le_of_ble_eq_true rfl) dX8_printDirective_96 rfl ⟨by decide, by decide⟩ (fun M44 q_44 => ?_)
        obtain ⟨R_44, F_44⟩ := q_44
        have hlen : (nxC xs cnt tk2).length ≤ 80 := nxC_len _ _ _
        refine m_aload_n (pc' := 100) C dX8_printDirective_99 rfl 0 rfl rfl ?_
        have f36_49 : M44 36 = .inr (8, [.ref (ad 5), .ref (ad 9), .ref (ad 1), .ref (ad 37), .ref (ad 38), .ref (ad 39), .ref (ad 41), .int (bI ended)]) := (F_44 36 (by decide)).trans f36_45
        have f38_50 : M43 38 = .inr (2, [.int (bI fl1), .int (bI fp), .int (bI fb), .int (bI fm), .int (bI fz), .int (bI sw), .int (bI sp), .int (nI w1), .int (pI po2), .int (nI b), .int (lt), .int (en)]) := (F_43 38 (by decide)).trans k1
        have f38_51 : M44 38 = .inr (2, [.int (bI fl1), .int (bI fp), .int (bI fb), .int (bI fm), .int (bI fz), .int (bI sw), .int (bI sp), .int (nI w1), .int (pI po2), .int (nI b), .int (lt), .int (en)]) := (F_44 38 (by decide)).trans f38_50
        have R5_52 := hg.fr k3 (by decide) (by decide)
        have R5_53 := R5_52.fr F_43 (by decide) (by decide)
        have R5_54 := R5_53.fr F_44 (by decide) (by decide)
        refine m_callVv (pc' := 103) (As := []) (rest := []) C (kX8_printFilled hI hn f36_49 R_44 hlen R5_54 (Nat.lt_trans hw1 (by decide)) f38_51) (cwV 0 C.1.2.2.2.2 (goodV tm_3_36 tm_3_38 tp_15 tm_1_7 tm_3_39) rfl rfl rfl (by decide +kernel) ⟨by decide, by decide⟩) (by omega) f36_49 rfl rfl rfl (Nat.le_of_ble_eq_true rfl) dX8_printDirective_100 rfl ⟨by decide, by decide⟩ (fun M48 q_48 => ?_)
        obtain ⟨R_48, F_48⟩ := q_48
        refine m_goto (tgt := 165) C dX8_printDirective_103 (by decide) ?_
        refine m_vret C hrt0 hlk0 dX8_printDirective_165 ?_
        have f36_55 : M48 36 = .inr (8, [.ref (ad 5), .ref (ad 9), .ref (ad 1), .ref (ad 37), .ref (ad 38), .ref (ad 39), .ref (ad 41), .int (bI ended)]) := (F_48 36 (by decide)).trans f36_49
        have f38_56 : M48 38 = .inr (2, [.int (bI fl1), .int (bI fp), .int (bI fb), .int (bI fm), .int (bI fz), .int (bI sw), .int (bI sp), .int (nI w1), .int (pI po2), .int (nI b), .int (lt), .int (en)]) := (F_48 38 (by decide)).trans f38_51
        have f37_57 : Mh 37 = .inr (3, [.int (ev), .int (ee)]) := (k3 37 (by decide)).trans he
        have f37_58 : M43 37 = .inr (3, [.int (ev), .int (ee)]) := (F_43 37 (by decide)).trans f37_57
        have f37_59 : M44 37 = .inr (3, [.int (ev), .int (ee)]) := (F_44 37 (by decide)).trans f37_58
        have f37_60 : M48 37 = .inr (3, [.int (ev), .int (ee)]) := (F_48 37 (by decide)).trans f37_59
        have A_61 := A_43.fr F_44 (by decide)
        have A_62 := A_61.fr F_48 (by decide)
        have G_63 := hf.fr k3 (by decide) (by decide)
        have G_64 := G_63.fr F_43 (by decide) (by decide)
        have G_65 := G_64.fr F_44 (by decide) (by decide)
        have G_66 := G_65.fr F_48 (by decide) (by decide)
        have R39_67 := R_44.fr F_48 (by decide) (by decide)
        have R41_68 := hw.fr k3 (by decide) (by decide)
        have R41_69 := R41_68.fr F_43 (by decide) (by decide)
        have R41_70 := R41_69.fr F_44 (by decide) (by decide)
        have R41_71 := R41_70.fr F_48 (by decide) (by decide)
        have hrun : dRun xs cnt fl fp fb fm fz sw sp w po b lt tk = ((lastR xs cnt fl1 fp fb fm fz w1 po2 b lt tk2).1, (lastR xs cnt fl1 fp fb fm fz w1 po2 b lt tk2).2.1, w1O sw xs cnt tk + w1O sp xs cnt tk1 + (lastR xs cnt fl1 fp fb fm fz w1 po2 b lt tk2).2.2.1, (lastR xs cnt fl1 fp fb fm fz w1 po2 b lt tk2).2.2.2) := by
          unfold dRun
          dsimp only
          rw [← htk1, ← htk2, ← hfl1, ← hw1e, ← hpo2e]
        rw [hrun, hlast]
        dsimp only
        refine ⟨⟨hn, by first | exact f36_55 | (rw [Bool.or_false]; exact f36_55), R_48, by first | (rw [Nat.add_zero, show od + (w1O sw xs cnt tk + w1O sp xs cnt tk1) = od2 by rw [hod2, hod1, Nat.add_assoc]]; exact A_62) | (rw [show od + (w1O sw xs cnt tk + w1O sp xs cnt tk1 + nextO xs cnt tk2) = od2 + nextO xs cnt tk2 by rw [hod2, hod1]; omega]; exact A_62), ⟨_, _, G_66⟩, ⟨_, _, f37_60⟩, ⟨_, R39_67⟩, ⟨_, R41_71⟩⟩, ⟨_, _, _, _, _, _, _, _, _, _, _, _, f38_56⟩, ((((k3.sub (by decide)).tr (F_43.sub (by decide))).tr (F_44.sub (by decide))).tr (F_48.sub (by decide)))⟩
      refine dite (lt = nI 115) (fun s55_115 => ?_) (fun s55_115 => ?_)
      · have hlast : lastR xs cnt fl1 fp fb fm fz w1 po2 b lt tk2 = (padT fl1 w1 (cutP po2 (nxA xs cnt tk2)), nextT cnt tk2, 0, false) := by unfold lastR; rw [if_neg s55_98, if_neg s55_99, if_pos s55_115]
        refine m_look (off := 51) (tgt := 106) C dX8_printDirective_55 (by decide) (by rw [s55_115]; decide) (by decide) ?_
        refine m_aload_n (pc' := 107) C dX8_printDirective_106 rfl 0 rfl rfl ?_
        refine m_aload_n (pc' := 108) C dX8_printDirective_107 rfl 0 rfl rfl ?_
        refine m_get (pc' := 111) C 36 (by omega) f36_1 rfl inW_X8 1 (by decide) (gW_of tm_1_205) rfl rfl dX8_printDirective_108 rfl ?_
        refine m_callVq (pc' := 114) (As := []) (rest := [.ref (ad 36)]) C (kX1_takeNext_u hI k2) (cwV 0 C.1.2.2.2.2 (goodV tm_3_31 tm_2_223 tm_2_224 tm_1_4 tm_2_225) rfl rfl rfl (by decide +kernel) ⟨by decide, by decide⟩) k2.lt9 k2.ob9 rfl rfl rfl (Nat.le_of_ble_eq_true rfl) dX8_printDirective_111 rfl ⟨by decide, by decide⟩ (fun x_72 M72 q_72 => ?_)
        obtain ⟨e_72, A_72, F_72⟩ := q_72
        replace e_72 := e_72.symm
        subst e_72
        have f36_74 : M72 36 = .inr (8, [.ref (ad 5), .ref (ad 9), .ref (ad 1), .ref (ad 37), .ref (ad 38), .ref (ad 39), .ref (ad 41), .int (bI ended)]) := (F_72 36 (by decide)).trans f36_1
        have R39_75 := hp.fr k3 (by decide) (by decide)
        have R39_76 := R39_75.fr F_72 (by decide) (by decide)
        have G_77 := hf.fr k3 (by decide) (by decide)
        have G_78 := G_77.fr F_72 (by decide) (by decide)
        refine m_callVv (pc' := 117) (As := [(va_rf (nxR ad cnt tk2))]) (rest := []) C (kX8_loadText_u hI hn f36_74 R39_76 G_78 A_72 tk2) (cwV 1 C.1.2.2.2.2 (goodV tm_3_45 tm_3_47 tp_16 tm_1_7 tm_3_48) rfl rfl rfl (by decide +kernel) ⟨by decide, by decide⟩) (by omega) f36_74 rfl rfl rfl (Nat.le_of_ble_eq_true rfl) dX8_printDirective_114 rfl ⟨by decide, by decide⟩ (fun M73 q_73 => ?_)
        obtain ⟨R_73, ⟨ds_73, lg_73, G_73⟩, F_73⟩ := q_73
        have hlen : (nxA xs cnt tk2).length ≤ 80 := hA.len _
        refine m_aload_n (pc' := 118) C dX8_printDirective_117 rfl 0 rfl rfl ?_
        have f36_80 : M73 36 = .inr (8, [.ref (ad 5), .ref (ad 9), .ref (ad 1), .ref (ad 37), .ref (ad 38), .ref (ad 39), .ref (ad 41), .int (bI ended)]) := (F_73 36 (by decide)).trans f36_74
        have f38_81 : M72 38 = .inr (2, [.int (bI fl1), .int (bI fp), .int (bI fb), .int (bI fm), .int (bI fz), .int (bI sw), .int (bI sp), .int (nI w1), .int (pI po2), .int (nI b), .int (lt), .int (en)]) := (F_72 38 (by decide)).trans k1
        have f38_82 : M73 38 = .inr (2, [.int (bI fl1), .int (bI fp), .int (bI fb), .int (bI fm), .int (bI fz), .int (bI sw), .int (bI sp), .int (nI w1), .int (pI po2), .int (nI b), .int (lt), .int (en)]) := (F_73 38 (by decide)).trans f38_81
        refine m_callVv (pc' := 121) (As := []) (rest := []) C (kX8_keepPrecision hI hn f36_80 R_73 hlen (fun k hk => Nat.lt_trans (hpo2 k hk) (by decide)) f38_82) (cwV 0 C.1.2.2.2.2 (goodV tm_3_76 tm_3_78 tp_19 tm_1_7 tm_3_79) rfl rfl rfl (by decide +kernel) ⟨by decide, by decide⟩) (by omega) f36_80 rfl rfl rfl (Nat.le_of_ble_eq_true rfl) dX8_printDirective_118 rfl ⟨by decide, by decide⟩ (fun M79 q_79 => ?_)
        obtain ⟨R_79, F_79⟩ := q_79
        have hlc := cutP_len po2 _ hlen
        refine m_aload_n (pc' := 122) C dX8_printDirective_121 rfl 0 rfl rfl ?_
        have f36_84 : M79 36 = .inr (8, [.ref (ad 5), .ref (ad 9), .ref (ad 1), .ref (ad 37), .ref (ad 38), .ref (ad 39), .ref (ad 41), .int (bI ended)]) := (F_79 36 (by decide)).trans f36_80
        have f38_85 : M79 38 = .inr (2, [.int (bI fl1), .int (bI fp), .int (bI fb), .int (bI fm), .int (bI fz), .int (bI sw), .int (bI sp), .int (nI w1), .int (pI po2), .int (nI b), .int (lt), .int (en)]) := (F_79 38 (by decide)).trans f38_82
        have R5_86 := hg.fr k3 (by decide) (by decide)
        have R5_87 := R5_86.fr F_72 (by decide) (by decide)
        have R5_88 := R5_87.fr F_73 (by decide) (by decide)
        have R5_89 := R5_88.fr F_79 (by decide) (by decide)
        refine m_callVv (pc' := 125) (As := []) (rest := []) C (kX8_printFilled hI hn f36_84 R_79 hlc R5_89 (Nat.lt_trans hw1 (by decide)) f38_85) (cwV 0 C.1.2.2.2.2 (goodV tm_3_36 tm_3_38 tp_15 tm_1_7 tm_3_39) rfl rfl rfl (by decide +kernel) ⟨by decide, by decide⟩) (by omega) f36_84 rfl rfl rfl (Nat.le_of_ble_eq_true rfl) dX8_printDirective_122 rfl ⟨by decide, by decide⟩ (fun M83 q_83 => ?_)
        obtain ⟨R_83, F_83⟩ := q_83
        refine m_goto (tgt := 165) C dX8_printDirective_125 (by decide) ?_
        refine m_vret C hrt0 hlk0 dX8_printDirective_165 ?_
        have f36_90 : M83 36 = .inr (8, [.ref (ad 5), .ref (ad 9), .ref (ad 1), .ref (ad 37), .ref (ad 38), .ref (ad 39), .ref (ad 41), .int (bI ended)]) := (F_83 36 (by decide)).trans f36_84
        have f38_91 : M83 38 = .inr (2, [.int (bI fl1), .int (bI fp), .int (bI fb), .int (bI fm), .int (bI fz), .int (bI sw), .int (bI sp), .int (nI w1), .int (pI po2), .int (nI b), .int (lt), .int (en)]) := (F_83 38 (by decide)).trans f38_85
        have f37_92 : Mh 37 = .inr (3, [.int (ev), .int (ee)]) := (k3 37 (by decide)).trans he
        have f37_93 : M72 37 = .inr (3, [.int (ev), .int (ee)]) := (F_72 37 (by decide)).trans f37_92
        have f37_94 : M73 37 = .inr (3, [.int (ev), .int (ee)]) := (F_73 37 (by decide)).trans f37_93
        have f37_95 : M79 37 = .inr (3, [.int (ev), .int (ee)]) := (F_79 37 (by decide)).trans f37_94
        have f37_96 : M83 37 = .inr (3, [.int (ev), .int (ee)]) := (F_83 37 (by decide)).trans f37_95
        have A_97 := A_72.fr F_73 (by decide)
        have A_98 := A_97.fr F_79 (by decide)
        have A_99 := A_98.fr F_83 (by decide)
        have G_100 := G_73.fr F_79 (by decide) (by decide)
        have G_101 := G_100.fr F_83 (by decide) (by decide)
        have R39_102 := R_79.fr F_83 (by decide) (by decide)
        have R41_103 := hw.fr k3 (by decide) (by decide)
        have R41_104 := R41_103.fr F_72 (by decide) (by decide)
        have R41_105 := R41_104.fr F_73 (by decide) (by decide)
        have R41_106 := R41_105.fr F_79 (by decide) (by decide)
        have R41_107 := R41_106.fr F_83 (by decide) (by decide)
        have hrun : dRun xs cnt fl fp fb fm fz sw sp w po b lt tk = ((lastR xs cnt fl1 fp fb fm fz w1 po2 b lt tk2).1, (lastR xs cnt fl1 fp fb fm fz w1 po2 b lt tk2).2.1, w1O sw xs cnt tk + w1O sp xs cnt tk1 + (lastR xs cnt fl1 fp fb fm fz w1 po2 b lt tk2).2.2.1, (lastR xs cnt fl1 fp fb fm fz w1 po2 b lt tk2).2.2.2) := by
          unfold dRun
          dsimp only
          rw [← htk1, ← htk2, ← hfl1, ← hw1e, ← hpo2e]
        rw [hrun, hlast]
        dsimp only
        refine ⟨⟨hn, by first | exact f36_90 | (rw [Bool.or_false]; exact f36_90), R_83, by first | (rw [Nat.add_zero, show od + (w1O sw xs cnt tk + w1O sp xs cnt tk1) = od2 by rw [hod2, hod1, Nat.add_assoc]]; exact A_99) | (rw [show od + (w1O sw xs cnt tk + w1O sp xs cnt tk1 + nextO xs cnt tk2) = od2 + nextO xs cnt tk2 by rw [hod2, hod1]; omega]; exact A_99), ⟨_, _, G_101⟩, ⟨_, _, f37_96⟩, ⟨_, R39_102⟩, ⟨_, R41_107⟩⟩, ⟨_, _, _, _, _, _, _, _, _, _, _, _, f38_91⟩, (((((k3.sub (by decide)).tr (F_72.sub (by decide))).tr (F_73.sub (by decide))).tr (F_79.sub (by decide))).tr (F_83.sub (by decide)))⟩
      have hlast : lastR xs cnt fl1 fp fb fm fz w1 po2 b lt tk2 = (fmtN b lt (nextV xs cnt tk2) fl1 fp fb fm fz w1 po2, nextT cnt tk2, nextO xs cnt tk2, false) := by unfold lastR; rw [if_neg s55_98, if_neg s55_99, if_neg s55_115]
      refine m_look (off := 99) (tgt := 154) C dX8_printDirective_55 (by decide) ((lv_osw s55_98 (by decide)).trans ((lv_osw s55_99 (by decide)).trans ((lv_osw s55_115 (by decide)).trans rfl))) (by decide) ?_
      refine m_aload_n (pc' := 155) C dX8_printDirective_154 rfl 0 rfl rfl ?_
      refine m_aload_n (pc' := 156) C dX8_printDirective_155 rfl 0 rfl rfl ?_
      refine m_get (pc' := 159) C 36 (by omega) f36_1 rfl inW_X8 1 (by decide) (gW_of tm_1_205) rfl rfl dX8_printDirective_156 rfl ?_
      refine m_callVl (pc' := 162) (As := []) (rest := [.ref (ad 36)]) C (kX1_takeNumber hI k2) (cwV 0 C.1.2.2.2.2 (goodV tm_2_218 tm_2_219 tm_2_220 tm_1_4 tm_2_221) rfl rfl rfl (by decide +kernel) ⟨by decide, by decide⟩) k2.lt9 k2.ob9 rfl rfl rfl (Nat.le_of_ble_eq_true rfl) dX8_printDirective_159 rfl ⟨by decide, by decide⟩ (fun x_108 M108 q_108 => ?_)
      obtain ⟨e_108, A_108, F_108⟩ := q_108
      replace e_108 := e_108.symm
      subst e_108
      have f36_110 : M108 36 = .inr (8, [.ref (ad 5), .ref (ad 9), .ref (ad 1), .ref (ad 37), .ref (ad 38), .ref (ad 39), .ref (ad 41), .int (bI ended)]) := (F_108 36 (by decide)).trans f36_1
      have R39_111 := hp.fr k3 (by decide) (by decide)
      have R39_112 := R39_111.fr F_108 (by decide) (by decide)
      have f38_113 : M108 38 = .inr (2, [.int (bI fl1), .int (bI fp), .int (bI fb), .int (bI fm), .int (bI fz), .int (bI sw), .int (bI sp), .int (nI w1), .int (pI po2), .int (nI b), .int (lt), .int (en)]) := (F_108 38 (by decide)).trans k1
      have R5_114 := hg.fr k3 (by decide) (by decide)
      have R5_115 := R5_114.fr F_108 (by decide) (by decide)
      have G_116 := hf.fr k3 (by decide) (by decide)
      have G_117 := G_116.fr F_108 (by decide) (by decide)
      refine m_callVv (pc' := 165) (As := [.long (nextV xs cnt tk2)]) (rest := []) C (kX8_printNumber hI hn f36_110 G_117 R5_115 hw1 hb64 hpo2 f38_113 (nextV xs cnt tk2)) (cwV 1 C.1.2.2.2.2 (goodV tm_3_96 tm_3_98 tp_21 tm_1_7 tm_3_99) rfl rfl rfl (by decide +kernel) ⟨by decide, by decide⟩) (by omega) f36_110 rfl rfl rfl (Nat.le_of_ble_eq_true rfl) dX8_printDirective_162 rfl ⟨by decide, by decide⟩ (fun M109 q_109 => ?_)
      obtain ⟨R_109, ⟨ds_109, lg_109, G_109⟩, F_109⟩ := q_109
      refine m_vret C hrt0 hlk0 dX8_printDirective_165 ?_
      have f36_118 : M109 36 = .inr (8, [.ref (ad 5), .ref (ad 9), .ref (ad 1), .ref (ad 37), .ref (ad 38), .ref (ad 39), .ref (ad 41), .int (bI ended)]) := (F_109 36 (by decide)).trans f36_110
      have f38_119 : M109 38 = .inr (2, [.int (bI fl1), .int (bI fp), .int (bI fb), .int (bI fm), .int (bI fz), .int (bI sw), .int (bI sp), .int (nI w1), .int (pI po2), .int (nI b), .int (lt), .int (en)]) := (F_109 38 (by decide)).trans f38_113
      have f37_120 : Mh 37 = .inr (3, [.int (ev), .int (ee)]) := (k3 37 (by decide)).trans he
      have f37_121 : M108 37 = .inr (3, [.int (ev), .int (ee)]) := (F_108 37 (by decide)).trans f37_120
      have f37_122 : M109 37 = .inr (3, [.int (ev), .int (ee)]) := (F_109 37 (by decide)).trans f37_121
      have A_123 := A_108.fr F_109 (by decide)
      have R39_124 := R39_112.fr F_109 (by decide) (by decide)
      have R41_125 := hw.fr k3 (by decide) (by decide)
      have R41_126 := R41_125.fr F_108 (by decide) (by decide)
      have R41_127 := R41_126.fr F_109 (by decide) (by decide)
      have hrun : dRun xs cnt fl fp fb fm fz sw sp w po b lt tk = ((lastR xs cnt fl1 fp fb fm fz w1 po2 b lt tk2).1, (lastR xs cnt fl1 fp fb fm fz w1 po2 b lt tk2).2.1, w1O sw xs cnt tk + w1O sp xs cnt tk1 + (lastR xs cnt fl1 fp fb fm fz w1 po2 b lt tk2).2.2.1, (lastR xs cnt fl1 fp fb fm fz w1 po2 b lt tk2).2.2.2) := by
        unfold dRun
        dsimp only
        rw [← htk1, ← htk2, ← hfl1, ← hw1e, ← hpo2e]
      rw [hrun, hlast]
      dsimp only
      refine ⟨⟨hn, by first | exact f36_118 | (rw [Bool.or_false]; exact f36_118), R_109, by first | (rw [Nat.add_zero, show od + (w1O sw xs cnt tk + w1O sp xs cnt tk1) = od2 by rw [hod2, hod1, Nat.add_assoc]]; exact A_123) | (rw [show od + (w1O sw xs cnt tk + w1O sp xs cnt tk1 + nextO xs cnt tk2) = od2 + nextO xs cnt tk2 by rw [hod2, hod1]; omega]; exact A_123), ⟨_, _, G_109⟩, ⟨_, _, f37_122⟩, ⟨_, R39_124⟩, ⟨_, R41_127⟩⟩, ⟨_, _, _, _, _, _, _, _, _, _, _, _, f38_119⟩, (((k3.sub (by decide)).tr (F_108.sub (by decide))).tr (F_109.sub (by decide)))⟩
    refine m_aload_n (pc' := 25) C dX8_printDirective_24 rfl 0 rfl rfl ?_
    have f36_128 : Mj 36 = .inr (8, [.ref (ad 5), .ref (ad 9), .ref (ad 1), .ref (ad 37), .ref (ad 38), .ref (ad 39), .ref (ad 41), .int (bI ended)]) := (j3 36 (by decide)).trans hpr
    refine m_get (pc' := 28) C 36 (by omega) f36_128 rfl inW_X8 4 (by decide) (gW_of tm_1_208) rfl rfl dX8_printDirective_25 rfl ?_
    refine m_get (pc' := 31) C 38 (by omega) j1 rfl inW_X2 6 (by decide) (gW_of tm_1_165) rfl rfl dX8_printDirective_28 rfl ?_
    refine m_if_eq (pc' := 34) (tgt := 48) C dX8_printDirective_31 (by decide) rfl (fun c_31 => ?_) (fun c_31 => ?_)
    · refine m_lv [0] rfl ?_
      exact J48 Mj (⟨by unfold p1P; first | (rw [(bI_0 _).mp c_31, if_neg (by decide), ← (bI_0 _).mp c_31]; exact j1) | (rw [ts_of c_31, if_pos rfl, ← ts_of c_31]; exact j1), by unfold w1T w1O; first | (rw [(bI_0 _).mp c_31, if_neg (by decide), if_neg (by decide), Nat.add_zero]; exact j2) | (rw [ts_of c_31, if_pos rfl, if_pos rfl]; exact j2), (j3.sub (by decide))⟩)
    · refine m_aload_n (pc' := 35) C dX8_printDirective_34 rfl 0 rfl rfl ?_
      refine m_get (pc' := 38) C 36 (by omega) f36_128 rfl inW_X8 4 (by decide) (gW_of tm_1_208) rfl rfl dX8_printDirective_35 rfl ?_
      refine m_aload_n (pc' := 39) C dX8_printDirective_38 rfl 0 rfl rfl ?_
      refine m_get (pc' := 42) C 36 (by omega) f36_128 rfl inW_X8 1 (by decide) (gW_of tm_1_205) rfl rfl dX8_printDirective_39 rfl ?_
      refine m_callVl (pc' := 45) (As := []) (rest := [.ref (ad 38)]) C (kX1_takeNumber hI j2) (cwV 0 C.1.2.2.2.2 (goodV tm_2_218 tm_2_219 tm_2_220 tm_1_4 tm_2_221) rfl rfl rfl (by decide +kernel) ⟨by decide, by decide⟩) j2.lt9 j2.ob9 rfl rfl rfl (Nat.le_of_ble_eq_true rfl) dX8_printDirective_42 rfl ⟨by decide, by decide⟩ (fun x_129 M129 q_129 => ?_)
      obtain ⟨e_129, A_129, F_129⟩ := q_129
      replace e_129 := e_129.symm
      subst e_129
      have f38_131 : M129 38 = .inr (2, [.int (bI fl1), .int (bI fp), .int (bI fb), .int (bI fm), .int (bI fz), .int (bI sw), .int (bI sp), .int (nI w1), .int (pI po), .int (nI b), .int (lt), .int (en)]) := (F_129 38 (by decide)).trans j1
      refine m_callVv (pc' := 48) (As := [.long (nextV xs cnt tk1)]) (rest := []) C (kX2_takePrecision hI (by omega) f38_131 (nextV xs cnt tk1)) (cwV 1 C.1.2.2.2.2 (goodV tm_3_27 tm_3_28 tm_3_29 tm_1_9 tm_3_30) rfl rfl rfl (by decide +kernel) ⟨by decide, by decide⟩) (by omega) f38_131 rfl rfl rfl (Nat.le_of_ble_eq_true rfl) dX8_printDirective_45 rfl ⟨by decide, by decide⟩ (fun M130 q_130 => ?_)
      obtain ⟨g_130, F_130⟩ := q_130
      rw [cut_p] at g_130
      have A_132 := A_129.fr F_130 (by decide)
      refine m_lv [0] rfl ?_
      exact J48 M130 (⟨by unfold p1P; first | (rw [(bI_0 _).mp c_31, if_neg (by decide), ← (bI_0 _).mp c_31]; exact g_130) | (rw [ts_of c_31, if_pos rfl, ← ts_of c_31]; exact g_130), by unfold w1T w1O; first | (rw [(bI_0 _).mp c_31, if_neg (by decide), if_neg (by decide), Nat.add_zero]; exact A_132) | (rw [ts_of c_31, if_pos rfl, if_pos rfl]; exact A_132), (((j3.sub (by decide)).tr (F_129.sub (by decide))).tr (F_130.sub (by decide)))⟩)
  refine m_aload_n (pc' := 1) C dX8_printDirective_0 rfl 0 rfl rfl ?_
  refine m_get (pc' := 4) C 36 (by omega) hpr rfl inW_X8 4 (by decide) (gW_of tm_1_208) rfl rfl dX8_printDirective_1 rfl ?_
  refine m_get (pc' := 7) C 38 (by omega) hd rfl inW_X2 5 (by decide) (gW_of tm_1_163) rfl rfl dX8_printDirective_4 rfl ?_
  refine m_if_eq (pc' := 10) (tgt := 24) C dX8_printDirective_7 (by decide) rfl (fun c_7 => ?_) (fun c_7 => ?_)
  · refine m_lv [0] rfl ?_
    exact J24 M (⟨by unfold w1F w1W; first | (rw [(bI_0 _).mp c_7, if_neg (by decide), if_neg (by decide), ← (bI_0 _).mp c_7]; exact hd) | (rw [ts_of c_7, if_pos rfl, if_pos rfl, ← ts_of c_7]; exact hd), by unfold w1T w1O; first | (rw [(bI_0 _).mp c_7, if_neg (by decide), if_neg (by decide), Nat.add_zero]; exact hA) | (rw [ts_of c_7, if_pos rfl, if_pos rfl]; exact hA), Fr.rf⟩)
  · refine m_aload_n (pc' := 11) C dX8_printDirective_10 rfl 0 rfl rfl ?_
    refine m_get (pc' := 14) C 36 (by omega) hpr rfl inW_X8 4 (by decide) (gW_of tm_1_208) rfl rfl dX8_printDirective_11 rfl ?_
    refine m_aload_n (pc' := 15) C dX8_printDirective_14 rfl 0 rfl rfl ?_
    refine m_get (pc' := 18) C 36 (by omega) hpr rfl inW_X8 1 (by decide) (gW_of tm_1_205) rfl rfl dX8_printDirective_15 rfl ?_
    refine m_callVl (pc' := 21) (As := []) (rest := [.ref (ad 38)]) C (kX1_takeNumber hI hA) (cwV 0 C.1.2.2.2.2 (goodV tm_2_218 tm_2_219 tm_2_220 tm_1_4 tm_2_221) rfl rfl rfl (by decide +kernel) ⟨by decide, by decide⟩) hA.lt9 hA.ob9 rfl rfl rfl (Nat.le_of_ble_eq_true rfl) dX8_printDirective_18 rfl ⟨by decide, by decide⟩ (fun x_133 M133 q_133 => ?_)
    obtain ⟨e_133, A_133, F_133⟩ := q_133
    replace e_133 := e_133.symm
    subst e_133
    have f38_135 : M133 38 = .inr (2, [.int (bI fl), .int (bI fp), .int (bI fb), .int (bI fm), .int (bI fz), .int (bI sw), .int (bI sp), .int (nI w), .int (pI po), .int (nI b), .int (lt), .int (en)]) := (F_133 38 (by decide)).trans hd
    refine m_callVv (pc' := 24) (As := [.long (nextV xs cnt tk)]) (rest := []) C (kX2_takeWidth hI (by omega) f38_135 (nextV xs cnt tk)) (cwV 1 C.1.2.2.2.2 (goodV tm_3_12 tm_3_13 tm_3_14 tm_1_9 tm_3_15) rfl rfl rfl (by decide +kernel) ⟨by decide, by decide⟩) (by omega) f38_135 rfl rfl rfl (Nat.le_of_ble_eq_true rfl) dX8_printDirective_21 rfl ⟨by decide, by decide⟩ (fun M134 q_134 => ?_)
    obtain ⟨g_134, F_134⟩ := q_134
    rw [cut_w, cut_n] at g_134
    have A_136 := A_133.fr F_134 (by decide)
    refine m_lv [0] rfl ?_
    exact J24 M134 (⟨by unfold w1F w1W; first | (rw [(bI_0 _).mp c_7, if_neg (by decide), if_neg (by decide), ← (bI_0 _).mp c_7]; exact g_134) | (rw [ts_of c_7, if_pos rfl, if_pos rfl, ← ts_of c_7]; exact g_134), by unfold w1T w1O; first | (rw [(bI_0 _).mp c_7, if_neg (by decide), if_neg (by decide), Nat.add_zero]; exact A_136) | (rw [ts_of c_7, if_pos rfl, if_pos rfl]; exact A_136), ((F_133.sub (by decide)).tr (F_134.sub (by decide)))⟩)
