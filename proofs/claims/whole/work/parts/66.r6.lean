set_option maxHeartbeats 4000000 in
set_option maxRecDepth 100000 in
theorem kX12_takeNumber {l : Launch} {D : va_G} {cy : Nat → ClassId} {ad : Nat → Nat} {n : Nat} {A : Nat → Prop} (hI : mI ad n A) {M : Nat → va_E} (hn : 63 ≤ n) (hn2 : n ≤ 100) (hro : rO ad M) {xs : Nat → Arg} {cnt : Nat} (hra : isRA cy M xs cnt) {od tk : Nat} (hod : M 116 = gh (.int (nI od))) (hnx : M 117 = gh (.int (nI tk))) (htk : tk ≤ cnt) : mMl l yX12_takeNumber (gW yX12_takeNumber cX12_takeNumber 2 (some .long)) { frames := 2, cells := 0, slots := 0, locals := 50 } D cy ad n A [.ref (ad 52)] M (fun res M' => res = nextV xs cnt tk ∧ rO ad M' ∧ M' 116 = gh (.int (nI (od + nextO xs cnt tk))) ∧ M' 117 = gh (.int (nI (nextT cnt tk))) ∧ Fr [52, 116, 117] M M') := by
  obtain ⟨a1, a2, b, f, z, g, a3, a4, a5, a6, a7⟩ := id hra
  refine m_entry (cc := cX12_takeNumber) (maxL := 2) (ret := (some .long)) (own := RX12) (lv := [(0, .ref (ad 52))]) hI (by decide) rfl rfl (Nat.le_of_ble_eq_true rfl) rfl (fun pX eX sX mX aX bX tX cX C hrt0 hlk0 => ?_)
  refine m_aload_n (pc' := 1) C dX12_takeNumber_0 rfl 0 rfl rfl ?_
  refine r_get C hn hro inW_X12 17 (by decide) ⟨rfl, rfl, rfl⟩ (gW_of tm_5_67) (r_at 17 rfl hnx) dX12_takeNumber_1 rfl ?_
  refine m_aload_n (pc' := 5) C dX12_takeNumber_4 rfl 0 rfl rfl ?_
  refine r_get C hn hro inW_X12 3 (by decide) ⟨rfl, rfl, rfl⟩ (gW_of tm_5_53) (r_at 3 rfl a2) dX12_takeNumber_5 rfl ?_
  refine m_icmp_ne (pc' := 11) (tgt := 13) C dX12_takeNumber_8 (by decide) rfl (fun c_8 => ?_) (fun c_8 => ?_)
  · have n_8 : ¬ tk = cnt := fun q => c_8 ((nI_eq (by omega) (by omega)).mpr q)
    have hlt : tk < cnt := by omega
    refine m_aload_n (pc' := 14) C dX12_takeNumber_13 rfl 0 rfl rfl ?_
    refine r_get C hn hro inW_X12 17 (by decide) ⟨rfl, rfl, rfl⟩ (gW_of tm_5_67) (r_at 17 rfl hnx) dX12_takeNumber_14 rfl ?_
    refine m_istore_n (pc' := 18) (lv' := [(1, .int (nI tk)), (0, .ref (ad 52))]) C dX12_takeNumber_17 rfl (by decide) rfl rfl ?_
    refine m_aload_n (pc' := 19) C dX12_takeNumber_18 rfl 1 rfl rfl ?_
    refine m_dup (pc' := 20) C dX12_takeNumber_19 rfl rfl ?_
    refine r_get C hn hro inW_X12 17 (by decide) ⟨rfl, rfl, rfl⟩ (gW_of tm_5_67) (r_at 17 rfl hnx) dX12_takeNumber_20 rfl ?_
    refine m_iconst (pc' := 24) (v := nI 1) C dX12_takeNumber_23 (by decide) rfl ?_
    refine m_iadd (pc' := 25) (v := nI (tk + 1)) C dX12_takeNumber_24 (nI_add _ _) rfl ?_
    refine r_put (ty := .int) C hn hn2 hro inW_X12 17 117 (by decide) rfl ⟨rfl, rfl, rfl, rfl⟩ (gW_of tm_5_67) (by decide +kernel) rfl rfl (fun _ => rfl) dX12_takeNumber_25 rfl (fun M1 go_1 g_1 F_1 => ?_)
    refine m_aload_n (pc' := 29) C dX12_takeNumber_28 rfl 1 rfl rfl ?_
    refine r_get C hn go_1 inW_X12 4 (by decide) ⟨rfl, rfl, rfl⟩ (gW_of tm_5_54) rfl dX12_takeNumber_29 rfl ?_
    refine m_iload_n (pc' := 33) C dX12_takeNumber_32 rfl 0 rfl rfl ?_
    have f54_2 : M1 54 = .inl (cy 3, 8, .inl (fun i => bI (b i))) := (F_1 54 (by decide)).trans a3
    refine m_zald (pc' := 34) (v := bI (b tk)) C 54 (by omega) f54_2 (vp_in_nI (by omega) (by decide)) (by rw [nI_clamp (by omega)]) dX12_takeNumber_33 rfl ?_
    refine m_if_eq (pc' := 37) (tgt := 45) C dX12_takeNumber_34 (by decide) rfl (fun c_34 => ?_) (fun c_34 => ?_)
    · have hxa := isRA.num (cy := cy) (M := M) (cnt := cnt) (a7 tk hlt) ((bI_0 _).mp c_34)
      refine m_aload_n (pc' := 46) C dX12_takeNumber_45 rfl 1 rfl rfl ?_
      refine r_get C hn go_1 inW_X12 5 (by decide) ⟨rfl, rfl, rfl⟩ (gW_of tm_5_55) rfl dX12_takeNumber_46 rfl ?_
      refine m_iload_n (pc' := 50) C dX12_takeNumber_49 rfl 0 rfl rfl ?_
      have f55_3 : M1 55 = .inl (cy 2, 8, .inr (.inl f)) := (F_1 55 (by decide)).trans a4
      refine m_lald (pc' := 51) (v := f tk) C 55 (by omega) f55_3 (vp_in_nI (by omega) (by decide)) (by rw [nI_clamp (by omega)]) dX12_takeNumber_50 rfl ?_
      refine m_lret C hrt0 hlk0 dX12_takeNumber_51 ?_
      have ff16_4 : M1 116 = gh (.int (nI od)) := (F_1 116 (by decide)).trans hod
      unfold nextV nextT nextO
      rw [if_pos hlt, if_pos hlt, if_pos hlt, hxa]
      exact ⟨rfl, go_1, ff16_4, g_1, (F_1.sub (by decide))⟩
    · have hbt := ts_of c_34
      obtain ⟨P, hxa, -⟩ := isRA.txt (cy := cy) (M := M) (cnt := cnt) (a7 tk hlt) hbt
      refine m_aload_n (pc' := 38) C dX12_takeNumber_37 rfl 1 rfl rfl ?_
      refine m_iload_n (pc' := 39) C dX12_takeNumber_38 rfl 0 rfl rfl ?_
      have xra_6 := hra.fr F_1 (by decide)
      have ff16_7 : M1 116 = gh (.int (nI od)) := (F_1 116 (by decide)).trans hod
      refine m_callVl (pc' := 42) (As := [.int (nI tk)]) (rest := []) C (kX12_textNumber hI hn hn2 go_1 xra_6 ff16_7 hlt hxa) (cwV 1 C.1.2.2.2.2 (goodV tm_6_11 tm_6_13 tp_60 tm_1_13 tm_6_14) rfl rfl rfl (by decide +kernel) ⟨by decide, by decide⟩) (by omega) go_1 rfl rfl rfl (Nat.le_of_ble_eq_true rfl) dX12_takeNumber_39 rfl ⟨by decide, by decide⟩ (fun x_5 M5 q_5 => ?_)
      obtain ⟨e_5, pro_5, pf16_5, F_5⟩ := q_5
      replace e_5 := e_5.symm
      subst e_5
      refine m_goto (tgt := 51) C dX12_takeNumber_42 (by decide) ?_
      refine m_lret C hrt0 hlk0 dX12_takeNumber_51 ?_
      have ff17_8 : M5 117 = gh (.int (nI (tk + 1))) := (F_5 117 (by decide)).trans g_1
      unfold nextV nextT nextO
      rw [if_pos hlt, if_pos hlt, if_pos hlt, hxa]
      exact ⟨rfl, pro_5, pf16_5, ff17_8, ((F_1.sub (by decide)).tr (F_5.sub (by decide)))⟩
  · have n_8 : tk = cnt := (nI_eq (by omega) (by omega)).mp (Classical.not_not.mp c_8)
    refine m_lconst (pc' := 12) (v := 0) C dX12_takeNumber_11 (by decide) rfl ?_
    refine m_lret C hrt0 hlk0 dX12_takeNumber_12 ?_
    unfold nextV nextT nextO
    rw [if_neg (by omega), if_neg (by omega), if_neg (by omega)]
    exact ⟨rfl, hro, hod, hnx, Fr.rf⟩
set_option maxHeartbeats 4000000 in
set_option maxRecDepth 100000 in
theorem kX12_cutTo {l : Launch} {D : va_G} {cy : Nat → ClassId} {ad : Nat → Nat} {n : Nat} {A : Nat → Prop} (hI : mI ad n A) {M : Nat → va_E} (v : Int64) : mMi l yX12_cutTo (gW yX12_cutTo cX12_cutTo 2 (some .int)) { frames := 0, cells := 0, slots := 0, locals := 0 } D cy ad n A [.long v] M (fun res M' => res = cutI v ∧ M' = M) := by
  refine m_entry (cc := cX12_cutTo) (maxL := 2) (ret := (some .int)) (own := RX12) (lv := [(0, .long (v))]) hI (by decide) rfl rfl (Nat.le_of_ble_eq_true rfl) rfl (fun pX eX sX mX aX bX tX cX C hrt0 hlk0 => ?_)
  refine m_lload_n (pc' := 1) C dX12_cutTo_0 rfl 0 rfl rfl ?_
  refine m_ldc2 (pc' := 4) (v := (-99)) C dX12_cutTo_1 (gW_of tm_6_25) rfl ?_
  refine m_lcmp (pc' := 5) (v := lg_cmp v (-99)) C dX12_cutTo_4 rfl rfl ?_
  refine m_if_ge (pc' := 8) (tgt := 13) C dX12_cutTo_5 (by decide) rfl (fun c_5 => ?_) (fun c_5 => ?_)
  · have q1 := lg_ge.mp c_5
    refine m_lload_n (pc' := 14) C dX12_cutTo_13 rfl 0 rfl rfl ?_
    refine m_ldc2 (pc' := 17) (v := (99)) C dX12_cutTo_14 (gW_of tm_6_26) rfl ?_
    refine m_lcmp (pc' := 18) (v := lg_cmp v (99)) C dX12_cutTo_17 rfl rfl ?_
    refine m_if_le (pc' := 21) (tgt := 26) C dX12_cutTo_18 (by decide) rfl (fun c_18 => ?_) (fun c_18 => ?_)
    · have q2 := lg_le.mp c_18
      refine m_lload_n (pc' := 27) C dX12_cutTo_26 rfl 0 rfl rfl ?_
      refine m_l2i (pc' := 28) (v := (v).toInt32) C dX12_cutTo_27 rfl rfl ?_
      refine m_iret C hrt0 hlk0 rfl dX12_cutTo_28 ?_
      refine ⟨?_, rfl⟩
      first | exact (cutI_lo q1).symm | exact (cutI_hi q2).symm | exact (cutI_in q1 q2).symm
    · have q2 : 99 < v := Classical.not_not.mp (fun q => c_18 (lg_le.mpr q))
      refine m_bipush (pc' := 23) (v := nI 99) C dX12_cutTo_21 (by decide) rfl ?_
      refine m_goto (tgt := 28) C dX12_cutTo_23 (by decide) ?_
      refine m_iret C hrt0 hlk0 rfl dX12_cutTo_28 ?_
      refine ⟨?_, rfl⟩
      first | exact (cutI_lo q1).symm | exact (cutI_hi q2).symm | exact (cutI_in q1 q2).symm
  · have q1 : v < -99 := Classical.not_not.mp (fun q => c_5 (lg_ge.mpr q))
    refine m_bipush (pc' := 10) (v := (-99)) C dX12_cutTo_8 (by decide) rfl ?_
    refine m_goto (tgt := 28) C dX12_cutTo_10 (by decide) ?_
    refine m_iret C hrt0 hlk0 rfl dX12_cutTo_28 ?_
    refine ⟨?_, rfl⟩
    first | exact (cutI_lo q1).symm | exact (cutI_hi q2).symm | exact (cutI_in q1 q2).symm
set_option maxHeartbeats 4000000 in
set_option maxRecDepth 100000 in
theorem kX12_takeText {l : Launch} {D : va_G} {cy : Nat → ClassId} {ad : Nat → Nat} {n : Nat} {A : Nat → Prop} (hI : mI ad n A) {M : Nat → va_E} (hn : 63 ≤ n) (hn2 : n ≤ 100) (hro : rO ad M) {xs : Nat → Arg} {cnt : Nat} (hra : isRA cy M xs cnt) {tk : Nat} (hnx : M 117 = gh (.int (nI tk))) {W : List Nat} (hrw : isRw cy M W) {L : List Nat} (hdg : isDg cy M L) (htk : tk ≤ cnt) : mMv l yX12_takeText (gW yX12_takeText cX12_takeText 5 none) { frames := 2, cells := 0, slots := 0, locals := 49 } D cy ad n A [.ref (ad 52)] M (fun M' => rO ad M' ∧ isRw cy M' (nxA xs cnt tk) ∧ M' 117 = gh (.int (nI (nextT cnt tk))) ∧ (∃ D, isDg cy M' D) ∧ Fr [52, 60, 61, 117, 130, 132] M M') := by
  obtain ⟨a1, a2, b, f, z, g, a3, a4, a5, a6, a7⟩ := id hra
  obtain ⟨w1, w2, w3, w0, w4, w5⟩ := id hrw
  refine m_entry (cc := cX12_takeText) (maxL := 5) (ret := none) (own := RX12) (lv := [(0, .ref (ad 52))]) hI (by decide) rfl rfl (Nat.le_of_ble_eq_true rfl) rfl (fun pX eX sX mX aX bX tX cX C hrt0 hlk0 => ?_)
  refine m_aload_n (pc' := 1) C dX12_takeText_0 rfl 0 rfl rfl ?_
  refine m_iconst (pc' := 2) (v := nI 0) C dX12_takeText_1 (by decide) rfl ?_
  refine r_put (ty := .int) C hn hn2 hro inW_X12 30 130 (by decide) rfl ⟨rfl, rfl, rfl, rfl⟩ (gW_of tm_5_80) (by decide +kernel) rfl rfl (fun _ => rfl) dX12_takeText_2 rfl (fun M1 go_1 g_1 F_1 => ?_)
  refine m_aload_n (pc' := 6) C dX12_takeText_5 rfl 0 rfl rfl ?_
  have ff17_2 : M1 117 = gh (.int (nI tk)) := (F_1 117 (by decide)).trans hnx
  refine r_get C hn go_1 inW_X12 17 (by decide) ⟨rfl, rfl, rfl⟩ (gW_of tm_5_67) (r_at 17 rfl ff17_2) dX12_takeText_6 rfl ?_
  refine m_aload_n (pc' := 10) C dX12_takeText_9 rfl 0 rfl rfl ?_
  have ff3_3 : M1 103 = gh (.int (nI cnt)) := (F_1 103 (by decide)).trans a2
  refine r_get C hn go_1 inW_X12 3 (by decide) ⟨rfl, rfl, rfl⟩ (gW_of tm_5_53) (r_at 3 rfl ff3_3) dX12_takeText_10 rfl ?_
  refine m_icmp_ne (pc' := 16) (tgt := 17) C dX12_takeText_13 (by decide) rfl (fun c_13 => ?_) (fun c_13 => ?_)
  · have n_13 : ¬ tk = cnt := fun q => c_13 ((nI_eq (by omega) (by omega)).mpr q)
    have hlt : tk < cnt := by omega
    refine m_aload_n (pc' := 18) C dX12_takeText_17 rfl 0 rfl rfl ?_
    refine r_get C hn go_1 inW_X12 17 (by decide) ⟨rfl, rfl, rfl⟩ (gW_of tm_5_67) (r_at 17 rfl ff17_2) dX12_takeText_18 rfl ?_
    refine m_istore_n (pc' := 22) (lv' := [(1, .int (nI tk)), (0, .ref (ad 52))]) C dX12_takeText_21 rfl (by decide) rfl rfl ?_
    refine m_aload_n (pc' := 23) C dX12_takeText_22 rfl 1 rfl rfl ?_
    refine m_dup (pc' := 24) C dX12_takeText_23 rfl rfl ?_
    refine r_get C hn go_1 inW_X12 17 (by decide) ⟨rfl, rfl, rfl⟩ (gW_of tm_5_67) (r_at 17 rfl ff17_2) dX12_takeText_24 rfl ?_
    refine m_iconst (pc' := 28) (v := nI 1) C dX12_takeText_27 (by decide) rfl ?_
    refine m_iadd (pc' := 29) (v := nI (tk + 1)) C dX12_takeText_28 (nI_add _ _) rfl ?_
    refine r_put (ty := .int) C hn hn2 go_1 inW_X12 17 117 (by decide) rfl ⟨rfl, rfl, rfl, rfl⟩ (gW_of tm_5_67) (by decide +kernel) rfl rfl (fun _ => rfl) dX12_takeText_29 rfl (fun M4 go_4 g_4 F_4 => ?_)
    refine m_aload_n (pc' := 33) C dX12_takeText_32 rfl 1 rfl rfl ?_
    refine r_get C hn go_4 inW_X12 4 (by decide) ⟨rfl, rfl, rfl⟩ (gW_of tm_5_54) rfl dX12_takeText_33 rfl ?_
    refine m_iload_n (pc' := 37) C dX12_takeText_36 rfl 0 rfl rfl ?_
    have f54_5 : M1 54 = .inl (cy 3, 8, .inl (fun i => bI (b i))) := (F_1 54 (by decide)).trans a3
    have f54_6 : M4 54 = .inl (cy 3, 8, .inl (fun i => bI (b i))) := (F_4 54 (by decide)).trans f54_5
    refine m_zald (pc' := 38) (v := bI (b tk)) C 54 (by omega) f54_6 (vp_in_nI (by omega) (by decide)) (by rw [nI_clamp (by omega)]) dX12_takeText_37 rfl ?_
    refine m_if_eq (pc' := 41) (tgt := 87) C dX12_takeText_38 (by decide) rfl (fun c_38 => ?_) (fun c_38 => ?_)
    · have hxa := isRA.num (cy := cy) (M := M) (cnt := cnt) (a7 tk hlt) ((bI_0 _).mp c_38)
      obtain ⟨v, hv9⟩ : ∃ v, v = f tk := ⟨_, rfl⟩
      rw [← hv9] at hxa
      refine m_aload_n (pc' := 88) C dX12_takeText_87 rfl 1 rfl rfl ?_
      refine r_get C hn go_4 inW_X12 5 (by decide) ⟨rfl, rfl, rfl⟩ (gW_of tm_5_55) rfl dX12_takeText_88 rfl ?_
      refine m_iload_n (pc' := 92) C dX12_takeText_91 rfl 0 rfl rfl ?_
      have f55_7 : M1 55 = .inl (cy 2, 8, .inr (.inl f)) := (F_1 55 (by decide)).trans a4
      have f55_8 : M4 55 = .inl (cy 2, 8, .inr (.inl f)) := (F_4 55 (by decide)).trans f55_7
      refine m_lald (pc' := 93) (v := v) C 55 (by omega) f55_8 (vp_in_nI (by omega) (by decide)) (by rw [nI_clamp (by omega), hv9]) dX12_takeText_92 rfl ?_
      refine m_lstore_n (pc' := 94) (lv' := [(2, .long (v)), (1, .int (nI tk)), (0, .ref (ad 52))]) C dX12_takeText_93 rfl (by decide) rfl rfl ?_
      refine m_aload_n (pc' := 95) C dX12_takeText_94 rfl 2 rfl rfl ?_
      refine m_cut (σ := Int64) (fun a => a = (if v < 0 then -v else v)) (fun a => M4) 107 (fun a => [(2, .long (v)), (1, .int (nI tk)), (0, .ref (ad 52))]) (fun a => [.long (a), .ref (ad 52)]) ?_ (fun J107 => ?_)
      · rintro y9 hj
        try dsimp only at hj ⊢
        subst hj
        refine m_bipush (pc' := 109) (v := nI 10) C dX12_takeText_107 (by decide) rfl ?_
        refine m_iconst (pc' := 110) (v := bI false) C dX12_takeText_109 (by decide) rfl ?_
        have xdg_10 := hdg.fr F_1 (by decide)
        have xdg_11 := xdg_10.fr F_4 (by decide)
        refine m_callVv (pc' := 113) (As := [.long ((if v < 0 then -v else v)), .int (nI 10), .int (bI false)]) (rest := []) C (kX12_reckon hI hn hn2 go_4 xdg_11 (if v < 0 then -v else v) (b := 10) false (by first | decide | omega)) (cwV 3 C.1.2.2.2.2 (goodV tm_6_31 tm_6_33 tp_63 tm_1_13 tm_6_34) rfl rfl rfl (by decide +kernel) ⟨by decide, by decide⟩) (by omega) go_4 rfl rfl rfl (Nat.le_of_ble_eq_true rfl) dX12_takeText_110 rfl ⟨by decide, by decide⟩ (fun M9 q_9 => ?_)
        obtain ⟨pro_9, pdg_9, F_9⟩ := q_9
        refine m_aload_n (pc' := 114) C dX12_takeText_113 rfl 2 rfl rfl ?_
        refine m_iconst (pc' := 115) (v := nI 1) C dX12_takeText_114 (by decide) rfl ?_
        refine m_callVv (pc' := 118) (As := [.int (nI 1)]) (rest := []) C (kX12_fill hI hn hn2 pro_9 pdg_9 (m := 1) (by first | decide | omega)) (cwV 1 C.1.2.2.2.2 (goodV tm_6_39 tm_6_41 tp_64 tm_1_13 tm_6_42) rfl rfl rfl (by decide +kernel) ⟨by decide, by decide⟩) (by omega) pro_9 rfl rfl rfl (Nat.le_of_ble_eq_true rfl) dX12_takeText_115 rfl ⟨by decide, by decide⟩ (fun M12 q_12 => ?_)
        obtain ⟨pro_12, pdg_12, F_12⟩ := q_12
        refine m_cut (σ := (Nat → va_E)) (fun a => rO ad a ∧ isDg cy a ((dg 10 (uL (if v < 0 then -v else v))).map (dch false) ++ List.replicate (1 - ((dg 10 (uL (if v < 0 then -v else v))).map (dch false)).length) 48 ++ (if v < 0 then [45] else [])) ∧ Fr [52, 61, 132] M12 a) (fun a => a) 145 (fun a => [(0, .ref (ad 52))]) (fun a => []) ?_ (fun J145 => ?_)
        · rintro Mj145 hj
          try dsimp only at hj ⊢
          obtain ⟨jro_145, jdg_145, jf_145⟩ := hj
          have hdl : ((dg 10 (uL (if v < 0 then -v else v))).map (dch false) ++ List.replicate (1 - ((dg 10 (uL (if v < 0 then -v else v))).map (dch false)).length) 48 ++ (if v < 0 then [45] else [])).length ≤ 22 := by
            have h9 := dg10_len (if v < 0 then -v else v)
            simp only [List.length_append, List.length_map, List.length_replicate]
            have h8 : (if v < 0 then [45] else [] : List Nat).length ≤ 1 := by split <;> simp
            omega
          obtain ⟨D9, hD9⟩ : ∃ z, z = ((dg 10 (uL (if v < 0 then -v else v))).map (dch false) ++ List.replicate (1 - ((dg 10 (uL (if v < 0 then -v else v))).map (dch false)).length) 48 ++ (if v < 0 then [45] else [])) := ⟨_, rfl⟩
          rw [← hD9] at jdg_145 hdl
          obtain ⟨d1, d2, d3, g9, d4, d5⟩ := id jdg_145
          refine m_aload_n (pc' := 146) C dX12_takeText_145 rfl 0 rfl rfl ?_
          refine r_get C hn jro_145 inW_X12 32 (by decide) ⟨rfl, rfl, rfl⟩ (gW_of tm_5_82) (r_at 32 rfl d2) dX12_takeText_146 rfl ?_
          refine m_iconst (pc' := 150) (v := nI 1) C dX12_takeText_149 (by decide) rfl ?_
          refine m_isub (pc' := 151) (v := (nI D9.length) - (nI 1)) C dX12_takeText_150 rfl rfl ?_
          refine m_istore (pc' := 153) (lv' := [(4, .int ((nI D9.length) - (nI 1))), (0, .ref (ad 52))]) C dX12_takeText_151 (by decide) rfl rfl ?_
          refine m_lv [1, 0] rfl ?_
          have f60_13 : M1 60 = .inl (cy 0, 200, .inl (fun i => nI (w0 i))) := (F_1 60 (by decide)).trans w4
          have f60_14 : M4 60 = .inl (cy 0, 200, .inl (fun i => nI (w0 i))) := (F_4 60 (by decide)).trans f60_13
          have f60_15 : M9 60 = .inl (cy 0, 200, .inl (fun i => nI (w0 i))) := (F_9 60 (by decide)).trans f60_14
          have f60_16 : M12 60 = .inl (cy 0, 200, .inl (fun i => nI (w0 i))) := (F_12 60 (by decide)).trans f60_15
          have f60_17 : Mj145 60 = .inl (cy 0, 200, .inl (fun i => nI (w0 i))) := (jf_145 60 (by decide)).trans f60_16
          have ff30_18 : M4 130 = gh (.int (nI 0)) := (F_4 130 (by decide)).trans g_1
          have ff30_19 : M9 130 = gh (.int (nI 0)) := (F_9 130 (by decide)).trans ff30_18
          have ff30_20 : M12 130 = gh (.int (nI 0)) := (F_12 130 (by decide)).trans ff30_19
          have ff30_21 : Mj145 130 = gh (.int (nI 0)) := (jf_145 130 (by decide)).trans ff30_20
          refine m_loop (σ := Nat × (Nat → Nat) × (Nat → va_E)) (fun a => a.2.2) (fun a => [(0, .ref (ad 52)), (4, .int (nI a.1 - nI 1))]) (fun a => a.1 ≤ D9.length ∧ rO ad a.2.2 ∧ a.2.2 60 = .inl (cy 0, 200, .inl (fun i => nI (a.2.1 i))) ∧ (∀ i, i < D9.length - a.1 → a.2.1 i = D9.reverse.getD i 0) ∧ a.2.2 130 = gh (.int (nI (D9.length - a.1))) ∧ Fr [52, 60, 130] Mj145 a.2.2) (fun a => a.1) (D9.length, w0, Mj145) (⟨Nat.le_refl _, jro_145, f60_17, (fun i hi => by rw [Nat.sub_self] at hi; cases hi), by (try dsimp only); rw [Nat.sub_self]; exact ff30_21, Fr.rf⟩) ?_
          rintro ⟨j, q, Mk⟩ hinv ih
          dsimp only at hinv ih ⊢
          obtain ⟨i1, i4, i5, i6, i7, i9⟩ := hinv
          refine m_iload (pc' := 155) C dX12_takeText_153 1 rfl rfl ?_
          refine m_if_lt (pc' := 158) (tgt := 190) C dX12_takeText_155 (by decide) rfl (fun c_155 => ?_) (fun c_155 => ?_)
          · have hj0 : j = 0 := by
              rcases Nat.lt_or_ge 0 j with z | z
              · exact absurd c_155 (by rw [pk_sub (by omega)]; exact nI_nlt0 (by omega))
              · omega
            refine m_vret C hrt0 hlk0 dX12_takeText_190 ?_
            have xdg_22 := jdg_145.fr i9 (by decide)
            have ff17_23 : M9 117 = gh (.int (nI (tk + 1))) := (F_9 117 (by decide)).trans g_4
            have ff17_24 : M12 117 = gh (.int (nI (tk + 1))) := (F_12 117 (by decide)).trans ff17_23
            have ff17_25 : Mj145 117 = gh (.int (nI (tk + 1))) := (jf_145 117 (by decide)).trans ff17_24
            have hxN : Mk 117 = gh (.int (nI (tk + 1))) := (i9 117 (by decide)).trans ff17_25
            have hN : nxA xs cnt tk = D9.reverse := by
              unfold nxA
              rw [if_pos hlt, hxa]
              show numT v = D9.reverse
              rw [numT_rev, hD9, List.length_map]
            unfold nextT
            rw [if_pos hlt, hN]
            rw [hj0, Nat.sub_zero] at i6
            rw [hj0, Nat.sub_zero] at i7
            exact ⟨i4, ⟨(fun x hx => d1 x (List.mem_reverse.mp hx)), by rw [List.length_reverse]; exact i7, ⟨by rw [List.length_reverse]; omega, q, i5, by rw [List.length_reverse]; exact i6⟩⟩, hxN, ⟨_, xdg_22⟩, ((((((F_1.sub (by decide)).tr (F_4.sub (by decide))).tr (F_9.sub (by decide))).tr (F_12.sub (by decide))).tr (jf_145.sub (by decide)))).tr (i9.sub (by decide))⟩
          · have hj0 : 0 < j := by
              rcases Nat.lt_or_ge 0 j with z | z
              · exact z
              · exact absurd (by rw [show j = 0 by omega]; decide) c_155
            rw [show nI j - nI 1 = nI (j - 1) from pk_sub (by omega)]
            have hst : ∀ i, i < D9.length - (j - 1) → va_up q (D9.length - j) (D9.getD (j - 1) 0) i = D9.reverse.getD i 0 := by
              intro i hi
              by_cases z : i = D9.length - j
              · rw [z, va_up_self, rev_gd (by omega)]; congr 1; omega
              · rw [va_up_ne _ _ z, i6 i (by omega)]
            refine m_aload_n (pc' := 159) C dX12_takeText_158 rfl 0 rfl rfl ?_
            refine r_get C hn i4 inW_X12 29 (by decide) ⟨rfl, rfl, rfl⟩ (gW_of tm_5_79) rfl dX12_takeText_159 rfl ?_
            refine m_aload_n (pc' := 163) C dX12_takeText_162 rfl 0 rfl rfl ?_
            refine r_get C hn i4 inW_X12 30 (by decide) ⟨rfl, rfl, rfl⟩ (gW_of tm_5_80) (r_at 30 rfl i7) dX12_takeText_163 rfl ?_
            refine m_aload_n (pc' := 167) C dX12_takeText_166 rfl 0 rfl rfl ?_
            refine r_get C hn i4 inW_X12 31 (by decide) ⟨rfl, rfl, rfl⟩ (gW_of tm_5_81) rfl dX12_takeText_167 rfl ?_
            refine m_iload (pc' := 172) C dX12_takeText_170 1 rfl rfl ?_
            have f61_26 : Mk 61 = .inl (cy 0, 200, .inl (fun i => nI (g9 i))) := (i9 61 (by decide)).trans d4
            refine m_cald (pc' := 173) (v := nI (D9.getD (j - 1) 0)) C 61 (by omega) f61_26 (vp_in_nI (by omega) (by decide)) (by rw [nI_clamp (by omega), d5 _ (by omega)]) dX12_takeText_172 rfl ?_
            refine m_cast (pc' := 174) (E' := .inl (cy 0, 200, .inl (fun i => nI (va_up q (D9.length - j) (D9.getD (j - 1) 0) i)))) C 60 (by omega) i5 (vp_in_nI (by omega) (by decide)) (by rw [nI_clamp (by omega), nar_cv (by have := gd_lt0 d1 (j - 1); omega), upd_nI]) dX12_takeText_173 rfl (fun M27 g_27 F_27 => ?_)
            refine m_aload_n (pc' := 175) C dX12_takeText_174 rfl 0 rfl rfl ?_
            refine m_dup (pc' := 176) C dX12_takeText_175 rfl rfl ?_
            have ro_28 := i4.fr F_27 (by decide)
            have ff30_29 : M27 130 = gh (.int (nI (D9.length - j))) := (F_27 130 (by decide)).trans i7
            refine r_get C hn ro_28 inW_X12 30 (by decide) ⟨rfl, rfl, rfl⟩ (gW_of tm_5_80) (r_at 30 rfl ff30_29) dX12_takeText_176 rfl ?_
            refine m_iconst (pc' := 180) (v := nI 1) C dX12_takeText_179 (by decide) rfl ?_
            refine m_iadd (pc' := 181) (v := nI ((D9.length - j) + 1)) C dX12_takeText_180 (nI_add _ _) rfl ?_
            refine r_put (ty := .int) C hn hn2 ro_28 inW_X12 30 130 (by decide) rfl ⟨rfl, rfl, rfl, rfl⟩ (gW_of tm_5_80) (by decide +kernel) rfl rfl (fun _ => rfl) dX12_takeText_181 rfl (fun M30 go_30 g_30 F_30 => ?_)
            refine m_iinc (pc' := 187) (v := nI (j - 1) - nI 1) (lv' := [(4, .int (nI (j - 1) - nI 1)), (0, .ref (ad 52))]) C dX12_takeText_184 (k := 1) rfl (by rw [Int32.sub_eq_add_neg]; rfl) (by decide) rfl rfl ?_
            refine m_goto (tgt := 153) C dX12_takeText_187 (by decide) ?_
            have f60_31 : M30 60 = .inl (cy 0, 200, .inl (fun i => nI (va_up q (D9.length - j) (D9.getD (j - 1) 0) i))) := (F_30 60 (by decide)).trans g_27
            refine m_lv [1, 0] rfl ?_
            exact ih (j - 1, va_up q (D9.length - j) (D9.getD (j - 1) 0), M30) (⟨by (try dsimp only); omega, go_30, f60_31, hst, by (try dsimp only); rw [show D9.length - (j - 1) = D9.length - j + 1 by omega]; exact g_30, ((i9.tr (F_27.sub (by decide))).tr (F_30.sub (by decide)))⟩) (by simp only; omega)
        refine m_lload_n (pc' := 119) C dX12_takeText_118 rfl 0 rfl rfl ?_
        refine m_lconst (pc' := 120) (v := 0) C dX12_takeText_119 (by decide) rfl ?_
        refine m_lcmp (pc' := 121) (v := lg_cmp v 0) C dX12_takeText_120 rfl rfl ?_
        refine m_if_ge (pc' := 124) (tgt := 145) C dX12_takeText_121 (by decide) rfl (fun c_121 => ?_) (fun c_121 => ?_)
        · refine m_lv [2] rfl ?_
          exact J145 M12 (⟨pro_12, (by rw [show (if v < 0 then [45] else [] : List Nat) = [] from if_neg (lg_ge.mp c_121), List.append_nil]; exact pdg_12), Fr.rf⟩)
        · have hvn : v < 0 := Classical.not_not.mp (fun q => c_121 (lg_ge.mpr q))
          obtain ⟨e1, e2, e3, g8, e4, e5⟩ := id pdg_12
          have hel : ((dg 10 (uL (if v < 0 then -v else v))).map (dch false) ++ List.replicate (1 - ((dg 10 (uL (if v < 0 then -v else v))).map (dch false)).length) 48).length ≤ 22 := by
            have h9 := dg10_len (if v < 0 then -v else v)
            simp only [List.length_append, List.length_map, List.length_replicate]
            omega
          refine m_aload_n (pc' := 125) C dX12_takeText_124 rfl 2 rfl rfl ?_
          refine r_get C hn pro_12 inW_X12 31 (by decide) ⟨rfl, rfl, rfl⟩ (gW_of tm_5_81) rfl dX12_takeText_125 rfl ?_
          refine m_aload_n (pc' := 129) C dX12_takeText_128 rfl 2 rfl rfl ?_
          refine r_get C hn pro_12 inW_X12 32 (by decide) ⟨rfl, rfl, rfl⟩ (gW_of tm_5_82) (r_at 32 rfl e2) dX12_takeText_129 rfl ?_
          refine m_bipush (pc' := 134) (v := nI 45) C dX12_takeText_132 (by decide) rfl ?_
          refine m_cast (pc' := 135) (E' := .inl (cy 0, 200, .inl (fun i => nI (va_up g8 ((dg 10 (uL (if v < 0 then -v else v))).map (dch false) ++ List.replicate (1 - ((dg 10 (uL (if v < 0 then -v else v))).map (dch false)).length) 48).length 45 i)))) C 61 (by omega) e4 (vp_in_nI (by omega) (by decide)) (by rw [nI_clamp (by omega), nar_cv (by decide), upd_nI]) dX12_takeText_134 rfl (fun M32 g_32 F_32 => ?_)
          refine m_aload_n (pc' := 136) C dX12_takeText_135 rfl 2 rfl rfl ?_
          refine m_dup (pc' := 137) C dX12_takeText_136 rfl rfl ?_
          have ro_33 := pro_12.fr F_32 (by decide)
          have ff32_34 : M32 132 = gh (.int (nI ((dg 10 (uL (if v < 0 then -v else v))).map (dch false) ++ List.replicate (1 - ((dg 10 (uL (if v < 0 then -v else v))).map (dch false)).length) 48).length)) := (F_32 132 (by decide)).trans e2
          refine r_get C hn ro_33 inW_X12 32 (by decide) ⟨rfl, rfl, rfl⟩ (gW_of tm_5_82) (r_at 32 rfl ff32_34) dX12_takeText_137 rfl ?_
          refine m_iconst (pc' := 141) (v := nI 1) C dX12_takeText_140 (by decide) rfl ?_
          refine m_iadd (pc' := 142) (v := nI (((dg 10 (uL (if v < 0 then -v else v))).map (dch false) ++ List.replicate (1 - ((dg 10 (uL (if v < 0 then -v else v))).map (dch false)).length) 48).length + 1)) C dX12_takeText_141 (nI_add _ _) rfl ?_
          refine r_put (ty := .int) C hn hn2 ro_33 inW_X12 32 132 (by decide) rfl ⟨rfl, rfl, rfl, rfl⟩ (gW_of tm_5_82) (by decide +kernel) rfl rfl (fun _ => rfl) dX12_takeText_142 rfl (fun M35 go_35 g_35 F_35 => ?_)
          have f61_36 : M35 61 = .inl (cy 0, 200, .inl (fun i => nI (va_up g8 ((dg 10 (uL (if v < 0 then -v else v))).map (dch false) ++ List.replicate (1 - ((dg 10 (uL (if v < 0 then -v else v))).map (dch false)).length) 48).length 45 i))) := (F_35 61 (by decide)).trans g_32
          refine m_lv [2] rfl ?_
          exact J145 M35 (⟨go_35, (by rw [show (if v < 0 then [45] else [] : List Nat) = [45] from if_pos hvn]; exact isDg.push e1 (by decide) g_35 f61_36 (by omega) e5), ((F_32.sub (by decide)).tr (F_35.sub (by decide)))⟩)
      refine m_lload_n (pc' := 96) C dX12_takeText_95 rfl 0 rfl rfl ?_
      refine m_lconst (pc' := 97) (v := 0) C dX12_takeText_96 (by decide) rfl ?_
      refine m_lcmp (pc' := 98) (v := lg_cmp v 0) C dX12_takeText_97 rfl rfl ?_
      refine m_if_ge (pc' := 101) (tgt := 106) C dX12_takeText_98 (by decide) rfl (fun c_98 => ?_) (fun c_98 => ?_)
      · have hvn := lg_ge.mp c_98
        refine m_lload_n (pc' := 107) C dX12_takeText_106 rfl 0 rfl rfl ?_
        refine m_lv [0, 1, 2] rfl ?_
        exact J107 v (by rw [if_neg hvn])
      · have hvn : v < 0 := Classical.not_not.mp (fun q => c_98 (lg_ge.mpr q))
        refine m_lload_n (pc' := 102) C dX12_takeText_101 rfl 0 rfl rfl ?_
        refine m_lneg (pc' := 103) (v := -v) C dX12_takeText_102 rfl rfl ?_
        refine m_goto (tgt := 107) C dX12_takeText_103 (by decide) ?_
        refine m_lv [0, 1, 2] rfl ?_
        exact J107 (-v) (by rw [if_pos hvn])
    · have hbt := ts_of c_38
      obtain ⟨P, hxa, y2, y3, y4, y5, y6⟩ := isRA.txt (cy := cy) (M := M) (cnt := cnt) (a7 tk hlt) hbt
      refine m_iconst (pc' := 42) (v := nI 0) C dX12_takeText_41 (by decide) rfl ?_
      refine m_istore_n (pc' := 43) (lv' := [(2, .int (nI 0)), (1, .int (nI tk)), (0, .ref (ad 52))]) C dX12_takeText_42 rfl (by decide) rfl rfl ?_
      refine m_lv [2, 1, 0] rfl ?_
      have f60_37 : M1 60 = .inl (cy 0, 200, .inl (fun i => nI (w0 i))) := (F_1 60 (by decide)).trans w4
      have f60_38 : M4 60 = .inl (cy 0, 200, .inl (fun i => nI (w0 i))) := (F_4 60 (by decide)).trans f60_37
      refine m_loop (σ := Nat × (Nat → Nat) × (Nat → va_E)) (fun a => a.2.2) (fun a => [(0, .ref (ad 52)), (1, .int (nI tk)), (2, .int (nI a.1))]) (fun a => a.1 ≤ P.length ∧ rO ad a.2.2 ∧ a.2.2 60 = .inl (cy 0, 200, .inl (fun i => nI (a.2.1 i))) ∧ (∀ i, i < a.1 → a.2.1 i = P.getD i 0) ∧ a.2.2 117 = gh (.int (nI (tk + 1))) ∧ Fr [52, 60, 117, 130] M a.2.2) (fun a => P.length - a.1) (0, w0, M4) (⟨Nat.zero_le _, go_4, f60_38, (fun i hi => by cases hi), g_4, ((F_1.sub (by decide)).tr (F_4.sub (by decide)))⟩) ?_
      rintro ⟨k, q, Mk⟩ hinv ih
      dsimp only at hinv ih ⊢
      obtain ⟨i1, i4, i5, i6, i7, i8⟩ := hinv
      refine m_iload_n (pc' := 44) C dX12_takeText_43 rfl 2 rfl rfl ?_
      refine m_aload_n (pc' := 45) C dX12_takeText_44 rfl 0 rfl rfl ?_
      refine r_get C hn i4 inW_X12 6 (by decide) ⟨rfl, rfl, rfl⟩ (gW_of tm_5_56) rfl dX12_takeText_45 rfl ?_
      refine m_iload_n (pc' := 49) C dX12_takeText_48 rfl 1 rfl rfl ?_
      have f56_39 : Mk 56 = .inl (cy 1, 8, .inl (fun i => nI (z i))) := (i8 56 (by decide)).trans a5
      refine m_iald (pc' := 50) (v := nI P.length) C 56 (by omega) f56_39 (vp_in_nI (by omega) (by decide)) (by rw [nI_clamp (by omega), y2]) dX12_takeText_49 rfl ?_
      refine m_icmp_ge (pc' := 53) (tgt := 76) C dX12_takeText_50 (by decide) rfl (fun c_50 => ?_) (fun c_50 => ?_)
      · have n_50 : P.length ≤ k := (nI_leI (by omega) (by omega)).mp c_50
        refine m_aload_n (pc' := 77) C dX12_takeText_76 rfl 0 rfl rfl ?_
        refine m_aload_n (pc' := 78) C dX12_takeText_77 rfl 0 rfl rfl ?_
        refine r_get C hn i4 inW_X12 6 (by decide) ⟨rfl, rfl, rfl⟩ (gW_of tm_5_56) rfl dX12_takeText_78 rfl ?_
        refine m_iload_n (pc' := 82) C dX12_takeText_81 rfl 1 rfl rfl ?_
        refine m_iald (pc' := 83) (v := nI P.length) C 56 (by omega) f56_39 (vp_in_nI (by omega) (by decide)) (by rw [nI_clamp (by omega), y2]) dX12_takeText_82 rfl ?_
        refine r_put (ty := .int) C hn hn2 i4 inW_X12 30 130 (by decide) rfl ⟨rfl, rfl, rfl, rfl⟩ (gW_of tm_5_80) (by decide +kernel) rfl rfl (fun _ => rfl) dX12_takeText_83 rfl (fun M40 go_40 g_40 F_40 => ?_)
        refine m_vret C hrt0 hlk0 dX12_takeText_86 ?_
        have ff17_41 : M40 117 = gh (.int (nI (tk + 1))) := (F_40 117 (by decide)).trans i7
        have f60_42 : M40 60 = .inl (cy 0, 200, .inl (fun i => nI (q i))) := (F_40 60 (by decide)).trans i5
        have xdg_43 := hdg.fr i8 (by decide)
        have xdg_44 := xdg_43.fr F_40 (by decide)
        have hk9 : k = P.length := by omega
        subst hk9
        unfold nxA nextT
        rw [if_pos hlt, if_pos hlt, hxa]
        exact ⟨go_40, ⟨y4, g_40, ⟨by show P.length ≤ 200; omega, q, f60_42, i6⟩⟩, ff17_41, ⟨_, xdg_44⟩, ((i8.sub (by decide)).tr (F_40.sub (by decide)))⟩
      · have n_50 : k < P.length := Nat.lt_of_not_le (fun q => c_50 ((nI_leI (by omega) (by omega)).mpr q))
        have hst : ∀ i, i < k + 1 → va_up q k (P.getD k 0) i = P.getD i 0 := by
          intro i hi
          by_cases z : i = k
          · rw [z, va_up_self]
          · rw [va_up_ne _ _ z, i6 i (by omega)]
        have h8k := gd_lt0 y4 k
        refine m_aload_n (pc' := 54) C dX12_takeText_53 rfl 0 rfl rfl ?_
        refine r_get C hn i4 inW_X12 29 (by decide) ⟨rfl, rfl, rfl⟩ (gW_of tm_5_79) rfl dX12_takeText_54 rfl ?_
        refine m_iload_n (pc' := 58) C dX12_takeText_57 rfl 2 rfl rfl ?_
        refine m_aload_n (pc' := 59) C dX12_takeText_58 rfl 0 rfl rfl ?_
        refine r_get C hn i4 inW_X12 7 (by decide) ⟨rfl, rfl, rfl⟩ (gW_of tm_5_57) rfl dX12_takeText_59 rfl ?_
        refine m_bipush (pc' := 64) (v := nI 80) C dX12_takeText_62 (by decide) rfl ?_
        refine m_iload_n (pc' := 65) C dX12_takeText_64 rfl 1 rfl rfl ?_
        refine m_imul (pc' := 66) (v := nI (80 * tk)) C dX12_takeText_65 (pk_mul _ _) rfl ?_
        refine m_iload_n (pc' := 67) C dX12_takeText_66 rfl 2 rfl rfl ?_
        refine m_iadd (pc' := 68) (v := nI ((80 * tk) + k)) C dX12_takeText_67 (nI_add _ _) rfl ?_
        have f57_45 : Mk 57 = .inl (cy 0, 640, .inl (fun i => nI (g i))) := (i8 57 (by decide)).trans a6
        refine m_cald (pc' := 69) (v := nI (P.getD k 0)) C 57 (by omega) f57_45 (vp_in_nI (by omega) (by decide)) (by rw [nI_clamp (by omega), y6 _ n_50]) dX12_takeText_68 rfl ?_
        refine m_cast (pc' := 70) (E' := .inl (cy 0, 200, .inl (fun i => nI (va_up q k (P.getD k 0) i)))) C 60 (by omega) i5 (vp_in_nI (by omega) (by decide)) (by rw [nI_clamp (by omega), nar_cv (by omega), upd_nI]) dX12_takeText_69 rfl (fun M46 g_46 F_46 => ?_)
        refine m_iinc (pc' := 73) (v := nI (k + 1)) (lv' := [(2, .int (nI (k + 1))), (0, .ref (ad 52)), (1, .int (nI tk))]) C dX12_takeText_70 (k := 2) rfl (nI_add _ _) (by decide) rfl rfl ?_
        refine m_goto (tgt := 43) C dX12_takeText_73 (by decide) ?_
        have ro_47 := i4.fr F_46 (by decide)
        have ff17_48 : M46 117 = gh (.int (nI (tk + 1))) := (F_46 117 (by decide)).trans i7
        refine m_lv [1, 2, 0] rfl ?_
        exact ih (k + 1, va_up q k (P.getD k 0), M46) (⟨by (try dsimp only); omega, ro_47, g_46, hst, ff17_48, (i8.tr (F_46.sub (by decide)))⟩) (by simp only; omega)
  · have n_13 : tk = cnt := (nI_eq (by omega) (by omega)).mp (Classical.not_not.mp c_13)
    refine m_vret C hrt0 hlk0 dX12_takeText_16 ?_
    have f60_49 : M1 60 = .inl (cy 0, 200, .inl (fun i => nI (w0 i))) := (F_1 60 (by decide)).trans w4
    have xdg_50 := hdg.fr F_1 (by decide)
    unfold nxA nextT
    rw [if_neg (by omega), if_neg (by omega)]
    exact ⟨go_1, ⟨(fun x hx => by cases hx), g_1, ⟨Nat.zero_le _, w0, f60_49, (fun i hi => by cases hi)⟩⟩, ff17_2, ⟨_, xdg_50⟩, (F_1.sub (by decide))⟩
