set_option maxHeartbeats 4000000 in
set_option maxRecDepth 100000 in
theorem kX12_index {l : Launch} {D : va_G} {cy : Nat → ClassId} {ad : Nat → Nat} {n : Nat} {A : Nat → Prop} (hI : mI ad n A) {M : Nat → va_E} {sz : Nat} (hsz : sz < 2 ^ 20) : mMi l yX12_index (gW yX12_index cX12_index 1 (some .int)) { frames := 0, cells := 0, slots := 0, locals := 0 } D cy ad n A [.int (nI sz)] M (fun res M' => res = nI (ixN sz) ∧ M' = M) := by
  refine m_entry (cc := cX12_index) (maxL := 1) (ret := (some .int)) (own := RX12) (lv := [(0, .int (nI sz))]) hI (by decide) rfl rfl (Nat.le_of_ble_eq_true rfl) rfl (fun pX eX sX mX aX bX tX cX C hrt0 hlk0 => ?_)
  refine m_iload_n (pc' := 1) C dX12_index_0 rfl 0 rfl rfl ?_
  refine m_iconst (pc' := 2) (v := nI 1) C dX12_index_1 (by decide) rfl ?_
  refine m_icmp_ne (pc' := 5) (tgt := 9) C dX12_index_2 (by decide) rfl (fun c_2 => ?_) (fun c_2 => ?_)
  · have n_2 : ¬ sz = 1 := fun q => c_2 ((nI_eq (by omega) (by omega)).mpr q)
    refine m_iload_n (pc' := 10) C dX12_index_9 rfl 0 rfl rfl ?_
    refine m_iconst (pc' := 11) (v := nI 2) C dX12_index_10 (by decide) rfl ?_
    refine m_icmp_ne (pc' := 14) (tgt := 18) C dX12_index_11 (by decide) rfl (fun c_11 => ?_) (fun c_11 => ?_)
    · have n_11 : ¬ sz = 2 := fun q => c_11 ((nI_eq (by omega) (by omega)).mpr q)
      refine m_iload_n (pc' := 19) C dX12_index_18 rfl 0 rfl rfl ?_
      refine m_iconst (pc' := 20) (v := nI 4) C dX12_index_19 (by decide) rfl ?_
      refine m_icmp_ne (pc' := 23) (tgt := 27) C dX12_index_20 (by decide) rfl (fun c_20 => ?_) (fun c_20 => ?_)
      · have n_20 : ¬ sz = 4 := fun q => c_20 ((nI_eq (by omega) (by omega)).mpr q)
        refine m_iconst (pc' := 28) (v := nI 3) C dX12_index_27 (by decide) rfl ?_
        refine m_iret C hrt0 hlk0 rfl dX12_index_28 ?_
        refine ⟨?_, rfl⟩
        unfold ixN
        first | (rw [if_pos n_2]; done) | (rw [if_neg n_2, if_pos n_11]; done) | (rw [if_neg n_2, if_neg n_11, if_pos n_20]; done) | (rw [if_neg n_2, if_neg n_11, if_neg n_20]; done)
      · have n_20 : sz = 4 := (nI_eq (by omega) (by omega)).mp (Classical.not_not.mp c_20)
        refine m_iconst (pc' := 24) (v := nI 2) C dX12_index_23 (by decide) rfl ?_
        refine m_goto (tgt := 28) C dX12_index_24 (by decide) ?_
        refine m_iret C hrt0 hlk0 rfl dX12_index_28 ?_
        refine ⟨?_, rfl⟩
        unfold ixN
        first | (rw [if_pos n_2]; done) | (rw [if_neg n_2, if_pos n_11]; done) | (rw [if_neg n_2, if_neg n_11, if_pos n_20]; done) | (rw [if_neg n_2, if_neg n_11, if_neg n_20]; done)
    · have n_11 : sz = 2 := (nI_eq (by omega) (by omega)).mp (Classical.not_not.mp c_11)
      refine m_iconst (pc' := 15) (v := nI 1) C dX12_index_14 (by decide) rfl ?_
      refine m_goto (tgt := 28) C dX12_index_15 (by decide) ?_
      refine m_iret C hrt0 hlk0 rfl dX12_index_28 ?_
      refine ⟨?_, rfl⟩
      unfold ixN
      first | (rw [if_pos n_2]; done) | (rw [if_neg n_2, if_pos n_11]; done) | (rw [if_neg n_2, if_neg n_11, if_pos n_20]; done) | (rw [if_neg n_2, if_neg n_11, if_neg n_20]; done)
  · have n_2 : sz = 1 := (nI_eq (by omega) (by omega)).mp (Classical.not_not.mp c_2)
    refine m_iconst (pc' := 6) (v := nI 0) C dX12_index_5 (by decide) rfl ?_
    refine m_goto (tgt := 28) C dX12_index_6 (by decide) ?_
    refine m_iret C hrt0 hlk0 rfl dX12_index_28 ?_
    refine ⟨?_, rfl⟩
    unfold ixN
    first | (rw [if_pos n_2]; done) | (rw [if_neg n_2, if_pos n_11]; done) | (rw [if_neg n_2, if_neg n_11, if_pos n_20]; done) | (rw [if_neg n_2, if_neg n_11, if_neg n_20]; done)
set_option maxHeartbeats 4000000 in
set_option maxRecDepth 100000 in
theorem kX12_choose {l : Launch} {D : va_G} {cy : Nat → ClassId} {ad : Nat → Nat} {n : Nat} {A : Nat → Prop} (hI : mI ad n A) {M : Nat → va_E} {i c1 c2 c3 c4 : Nat} (hi : i < 2 ^ 20) : mMi l yX12_choose (gW yX12_choose cX12_choose 5 (some .int)) { frames := 0, cells := 0, slots := 0, locals := 0 } D cy ad n A [.int (nI i), .int (nI c1), .int (nI c2), .int (nI c3), .int (nI c4)] M (fun res M' => res = nI (chN i c1 c2 c3 c4) ∧ M' = M) := by
  refine m_entry (cc := cX12_choose) (maxL := 5) (ret := (some .int)) (own := RX12) (lv := [(0, .int (nI i)), (1, .int (nI c1)), (2, .int (nI c2)), (3, .int (nI c3)), (4, .int (nI c4))]) hI (by decide) rfl rfl (Nat.le_of_ble_eq_true rfl) rfl (fun pX eX sX mX aX bX tX cX C hrt0 hlk0 => ?_)
  refine m_iload_n (pc' := 1) C dX12_choose_0 rfl 0 rfl rfl ?_
  refine m_if_ne (pc' := 4) (tgt := 8) C dX12_choose_1 (by decide) rfl (fun c_1 => ?_) (fun c_1 => ?_)
  · have n_1 : ¬ i = 0 := fun q => c_1 (((nI_eq (by omega) (by omega)).mpr q).trans nI_0)
    refine m_iload_n (pc' := 9) C dX12_choose_8 rfl 0 rfl rfl ?_
    refine m_iconst (pc' := 10) (v := nI 1) C dX12_choose_9 (by decide) rfl ?_
    refine m_icmp_ne (pc' := 13) (tgt := 17) C dX12_choose_10 (by decide) rfl (fun c_10 => ?_) (fun c_10 => ?_)
    · have n_10 : ¬ i = 1 := fun q => c_10 ((nI_eq (by omega) (by omega)).mpr q)
      refine m_iload_n (pc' := 18) C dX12_choose_17 rfl 0 rfl rfl ?_
      refine m_iconst (pc' := 19) (v := nI 2) C dX12_choose_18 (by decide) rfl ?_
      refine m_icmp_ne (pc' := 22) (tgt := 26) C dX12_choose_19 (by decide) rfl (fun c_19 => ?_) (fun c_19 => ?_)
      · have n_19 : ¬ i = 2 := fun q => c_19 ((nI_eq (by omega) (by omega)).mpr q)
        refine m_iload (pc' := 28) C dX12_choose_26 4 rfl rfl ?_
        refine m_iret C hrt0 hlk0 rfl dX12_choose_28 ?_
        refine ⟨?_, rfl⟩
        unfold chN
        first | (rw [if_pos n_1]; done) | (rw [if_neg n_1, if_pos n_10]; done) | (rw [if_neg n_1, if_neg n_10, if_pos n_19]; done) | (rw [if_neg n_1, if_neg n_10, if_neg n_19]; done)
      · have n_19 : i = 2 := (nI_eq (by omega) (by omega)).mp (Classical.not_not.mp c_19)
        refine m_iload_n (pc' := 23) C dX12_choose_22 rfl 3 rfl rfl ?_
        refine m_goto (tgt := 28) C dX12_choose_23 (by decide) ?_
        refine m_iret C hrt0 hlk0 rfl dX12_choose_28 ?_
        refine ⟨?_, rfl⟩
        unfold chN
        first | (rw [if_pos n_1]; done) | (rw [if_neg n_1, if_pos n_10]; done) | (rw [if_neg n_1, if_neg n_10, if_pos n_19]; done) | (rw [if_neg n_1, if_neg n_10, if_neg n_19]; done)
    · have n_10 : i = 1 := (nI_eq (by omega) (by omega)).mp (Classical.not_not.mp c_10)
      refine m_iload_n (pc' := 14) C dX12_choose_13 rfl 2 rfl rfl ?_
      refine m_goto (tgt := 28) C dX12_choose_14 (by decide) ?_
      refine m_iret C hrt0 hlk0 rfl dX12_choose_28 ?_
      refine ⟨?_, rfl⟩
      unfold chN
      first | (rw [if_pos n_1]; done) | (rw [if_neg n_1, if_pos n_10]; done) | (rw [if_neg n_1, if_neg n_10, if_pos n_19]; done) | (rw [if_neg n_1, if_neg n_10, if_neg n_19]; done)
  · have n_1 : i = 0 := (nI_eq (by omega) (by omega)).mp ((Classical.not_not.mp c_1).trans nI_0.symm)
    refine m_iload_n (pc' := 5) C dX12_choose_4 rfl 1 rfl rfl ?_
    refine m_goto (tgt := 28) C dX12_choose_5 (by decide) ?_
    refine m_iret C hrt0 hlk0 rfl dX12_choose_28 ?_
    refine ⟨?_, rfl⟩
    unfold chN
    first | (rw [if_pos n_1]; done) | (rw [if_neg n_1, if_pos n_10]; done) | (rw [if_neg n_1, if_neg n_10, if_pos n_19]; done) | (rw [if_neg n_1, if_neg n_10, if_neg n_19]; done)
set_option maxHeartbeats 4000000 in
set_option maxRecDepth 100000 in
theorem kX12_putAddress {l : Launch} {D : va_G} {cy : Nat → ClassId} {ad : Nat → Nat} {n : Nat} {A : Nat → Prop} (hI : mI ad n A) {M : Nat → va_E} (hn : 63 ≤ n) (hn2 : n ≤ 100) (hro : rO ad M) {lim : Nat} {O : List Nat} (hout : isOut cy M lim O) {L : List Nat} (hdg : isDg cy M L) {ab w9 : Nat} (hab : ab = 0 ∨ ab = 8 ∨ ab = 10 ∨ ab = 16) (hw9 : w9 < 2 ^ 20) : mMv l yX12_putAddress (gW yX12_putAddress cX12_putAddress 4 none) { frames := 2, cells := 0, slots := 0, locals := 49 } D cy ad n A [.ref (ad 52), .int (nI ab), .int (nI w9), .int (bI false)] M (fun M' => rO ad M' ∧ isOut cy M' lim (O ++ (if ab = 0 then [] else adrS ab w9)) ∧ (∃ D, isDg cy M' D) ∧ Fr [52, 59, 61, 111, 113, 132] M M') := by
  refine m_entry (cc := cX12_putAddress) (maxL := 4) (ret := none) (own := RX12) (lv := [(0, .ref (ad 52)), (1, .int (nI ab)), (2, .int (nI w9)), (3, .int (bI false))]) hI (by decide) rfl rfl (Nat.le_of_ble_eq_true rfl) rfl (fun pX eX sX mX aX bX tX cX C hrt0 hlk0 => ?_)
  refine m_iload_n (pc' := 1) C dX12_putAddress_0 rfl 1 rfl rfl ?_
  refine m_if_ne (pc' := 4) (tgt := 5) C dX12_putAddress_1 (by decide) rfl (fun c_1 => ?_) (fun c_1 => ?_)
  · have n_1 : ¬ ab = 0 := fun q => c_1 (((nI_eq (by omega) (by omega)).mpr q).trans nI_0)
    refine m_aload_n (pc' := 6) C dX12_putAddress_5 rfl 0 rfl rfl ?_
    refine m_iload_n (pc' := 7) C dX12_putAddress_6 rfl 2 rfl rfl ?_
    refine m_i2l (pc' := 8) (v := lN w9) C dX12_putAddress_7 (nI_l (by omega)) rfl ?_
    refine m_iload_n (pc' := 9) C dX12_putAddress_8 rfl 1 rfl rfl ?_
    refine m_iload_n (pc' := 10) C dX12_putAddress_9 rfl 3 rfl rfl ?_
    refine m_callVv (pc' := 13) (As := [.long (lN w9), .int (nI ab), .int (bI false)]) (rest := []) C (kX12_reckon hI hn hn2 hro hdg (lN w9) (b := ab) false (by omega)) (cwV 3 C.1.2.2.2.2 (goodV tm_6_31 tm_6_33 tp_63 tm_1_13 tm_6_34) rfl rfl rfl (by decide +kernel) ⟨by decide, by decide⟩) (by omega) hro rfl rfl rfl (Nat.le_of_ble_eq_true rfl) dX12_putAddress_10 rfl ⟨by decide, by decide⟩ (fun M1 q_1 => ?_)
    obtain ⟨pro_1, pdg_1, F_1⟩ := q_1
    refine m_aload_n (pc' := 14) C dX12_putAddress_13 rfl 0 rfl rfl ?_
    refine m_cut (σ := Int32) (fun a => a = nI (if ab = 16 then 6 else 7)) (fun a => M1) 27 (fun a => [(0, .ref (ad 52)), (1, .int (nI ab)), (2, .int (nI w9)), (3, .int (bI false))]) (fun a => [.int (a), .ref (ad 52)]) ?_ (fun J27 => ?_)
    · rintro y9 hj
      try dsimp only at hj ⊢
      subst hj
      refine m_callVv (pc' := 30) (As := [.int (nI (if ab = 16 then 6 else 7))]) (rest := []) C (kX12_fill hI hn hn2 pro_1 pdg_1 (m := if ab = 16 then 6 else 7) (by split <;> decide)) (cwV 1 C.1.2.2.2.2 (goodV tm_6_39 tm_6_41 tp_64 tm_1_13 tm_6_42) rfl rfl rfl (by decide +kernel) ⟨by decide, by decide⟩) (by omega) pro_1 rfl rfl rfl (Nat.le_of_ble_eq_true rfl) dX12_putAddress_27 rfl ⟨by decide, by decide⟩ (fun M2 q_2 => ?_)
      obtain ⟨pro_2, pdg_2, F_2⟩ := q_2
      refine m_aload_n (pc' := 31) C dX12_putAddress_30 rfl 0 rfl rfl ?_
      have xout_4 := hout.fr F_1 (by decide)
      have xout_5 := xout_4.fr F_2 (by decide)
      refine m_callVv (pc' := 34) (As := []) (rest := []) C (kX12_putDigits hI hn hn2 pro_2 pdg_2 xout_5 ) (cwV 0 C.1.2.2.2.2 (goodV tm_6_64 tm_6_66 tp_70 tm_1_13 tm_6_67) rfl rfl rfl (by decide +kernel) ⟨by decide, by decide⟩) (by omega) pro_2 rfl rfl rfl (Nat.le_of_ble_eq_true rfl) dX12_putAddress_31 rfl ⟨by decide, by decide⟩ (fun M3 q_3 => ?_)
      obtain ⟨pro_3, pout_3, F_3⟩ := q_3
      refine m_vret C hrt0 hlk0 dX12_putAddress_34 ?_
      have xdg_6 := pdg_2.fr F_3 (by decide)
      rw [uL_lN (by omega), List.length_map] at pout_3
      rw [if_neg n_1]
      unfold adrS
      rw [numS_rev]
      exact ⟨pro_3, pout_3, ⟨_, xdg_6⟩, (((F_1.sub (by decide)).tr (F_2.sub (by decide))).tr (F_3.sub (by decide)))⟩
    refine m_iload_n (pc' := 15) C dX12_putAddress_14 rfl 1 rfl rfl ?_
    refine m_bipush (pc' := 17) (v := nI 16) C dX12_putAddress_15 (by decide) rfl ?_
    refine m_icmp_ne (pc' := 20) (tgt := 25) C dX12_putAddress_17 (by decide) rfl (fun c_17 => ?_) (fun c_17 => ?_)
    · have n_17 : ¬ ab = 16 := fun q => c_17 ((nI_eq (by omega) (by omega)).mpr q)
      refine m_bipush (pc' := 27) (v := nI 7) C dX12_putAddress_25 (by decide) rfl ?_
      refine m_lv [0, 1, 2, 3] rfl ?_
      exact J27 (nI 7) (by rw [if_neg n_17])
    · have n_17 : ab = 16 := (nI_eq (by omega) (by omega)).mp (Classical.not_not.mp c_17)
      refine m_bipush (pc' := 22) (v := nI 6) C dX12_putAddress_20 (by decide) rfl ?_
      refine m_goto (tgt := 27) C dX12_putAddress_22 (by decide) ?_
      refine m_lv [0, 1, 2, 3] rfl ?_
      exact J27 (nI 6) (by rw [if_pos n_17])
  · have n_1 : ab = 0 := (nI_eq (by omega) (by omega)).mp ((Classical.not_not.mp c_1).trans nI_0.symm)
    refine m_vret C hrt0 hlk0 dX12_putAddress_4 ?_
    rw [if_pos (Classical.not_not.mp (fun q => q n_1)), List.append_nil]
    exact ⟨hro, hout, ⟨_, hdg⟩, Fr.rf⟩
set_option maxHeartbeats 4000000 in
set_option maxRecDepth 100000 in
theorem kX12_putShown {l : Launch} {D : va_G} {cy : Nat → ClassId} {ad : Nat → Nat} {n : Nat} {A : Nat → Prop} (hI : mI ad n A) {M : Nat → va_E} (hn : 63 ≤ n) (hn2 : n ≤ 100) (hro : rO ad M) {lim : Nat} {O : List Nat} (hout : isOut cy M lim O) {L : List Nat} (hdg : isDg cy M L) {v : Nat} (hv : v < 256) : mMv l yX12_putShown (gW yX12_putShown cX12_putShown 3 none) { frames := 2, cells := 0, slots := 0, locals := 49 } D cy ad n A [.ref (ad 52), .int (nI v)] M (fun M' => rO ad M' ∧ isOut cy M' lim (O ++ fldS 99 1 v) ∧ (∃ D, isDg cy M' D) ∧ Fr [52, 59, 61, 111, 113, 132] M M') := by
  refine m_entry (cc := cX12_putShown) (maxL := 3) (ret := none) (own := RX12) (lv := [(0, .ref (ad 52)), (1, .int (nI v))]) hI (by decide) rfl rfl (Nat.le_of_ble_eq_true rfl) rfl (fun pX eX sX mX aX bX tX cX C hrt0 hlk0 => ?_)
  refine m_iload_n (pc' := 1) C dX12_putShown_0 rfl 1 rfl rfl ?_
  refine m_bipush (pc' := 3) (v := nI 32) C dX12_putShown_1 (by decide) rfl ?_
  refine m_bipush (pc' := 5) (v := nI 126) C dX12_putShown_3 (by decide) rfl ?_
  refine m_callSi (pc' := 8) (As := [.int (nI v), .int (nI 32), .int (nI 126)]) (rest := []) C (kX12_isIn hI (nI v) (nI 32) (nI 126)) (cwS 3 C.1.2.2.2.2 (goodS tm_5_198 tm_5_199 tm_1_13 tm_5_200) rfl rfl rfl (by decide +kernel) ⟨by decide, by decide⟩) rfl rfl (Nat.le_of_ble_eq_true rfl) dX12_putShown_5 rfl ⟨by decide, by decide⟩ (fun x_1 N_1 q_1 => ?_)
  obtain ⟨e_1, E_1⟩ := q_1
  replace E_1 := E_1.symm
  subst E_1
  replace e_1 := e_1.symm
  subst e_1
  refine m_if_eq (pc' := 11) (tgt := 24) C dX12_putShown_8 (by decide) rfl (fun c_8 => ?_) (fun c_8 => ?_)
  · have hq : ¬ (32 ≤ v ∧ v ≤ 126) := fun q => of_decide_eq_false ((bI_0 _).mp c_8) ⟨(nI_leI (by decide) (by omega)).mpr q.1, (nI_leI (by omega) (by decide)).mpr q.2⟩
    refine m_cut (σ := Int32) (fun a => a = nI (cN v)) (fun a => M) 111 (fun a => [(0, .ref (ad 52)), (1, .int (nI v))]) (fun a => [.int (a)]) ?_ (fun J111 => ?_)
    · rintro y9 hj
      try dsimp only at hj ⊢
      subst hj
      have hcN := cN_lt v
      refine m_istore_n (pc' := 112) (lv' := [(2, .int (nI (cN v))), (0, .ref (ad 52)), (1, .int (nI v))]) C dX12_putShown_111 rfl (by decide) rfl rfl ?_
      refine m_iload_n (pc' := 113) C dX12_putShown_112 rfl 0 rfl rfl ?_
      refine m_if_eq (pc' := 116) (tgt := 136) C dX12_putShown_113 (by decide) rfl (fun c_113 => ?_) (fun c_113 => ?_)
      · have n_113 : (cN v) = 0 := (nI_eq (by omega) (by omega)).mp (c_113.trans nI_0.symm)
        refine m_aload_n (pc' := 137) C dX12_putShown_136 rfl 1 rfl rfl ?_
        refine m_iload_n (pc' := 138) C dX12_putShown_137 rfl 2 rfl rfl ?_
        refine m_i2l (pc' := 139) (v := lN v) C dX12_putShown_138 (nI_l (by omega)) rfl ?_
        refine m_bipush (pc' := 141) (v := nI 8) C dX12_putShown_139 (by decide) rfl ?_
        refine m_iconst (pc' := 142) (v := bI false) C dX12_putShown_141 (by decide) rfl ?_
        refine m_callVv (pc' := 145) (As := [.long (lN v), .int (nI 8), .int (bI false)]) (rest := []) C (kX12_reckon hI hn hn2 hro hdg (lN v) (b := 8) false (by decide)) (cwV 3 C.1.2.2.2.2 (goodV tm_6_31 tm_6_33 tp_63 tm_1_13 tm_6_34) rfl rfl rfl (by decide +kernel) ⟨by decide, by decide⟩) (by omega) hro rfl rfl rfl (Nat.le_of_ble_eq_true rfl) dX12_putShown_142 rfl ⟨by decide, by decide⟩ (fun M2 q_2 => ?_)
        obtain ⟨pro_2, pdg_2, F_2⟩ := q_2
        refine m_aload_n (pc' := 146) C dX12_putShown_145 rfl 1 rfl rfl ?_
        refine m_iconst (pc' := 147) (v := nI 3) C dX12_putShown_146 (by decide) rfl ?_
        refine m_callVv (pc' := 150) (As := [.int (nI 3)]) (rest := []) C (kX12_fill hI hn hn2 pro_2 pdg_2 (m := 3) (by first | decide | omega)) (cwV 1 C.1.2.2.2.2 (goodV tm_6_39 tm_6_41 tp_64 tm_1_13 tm_6_42) rfl rfl rfl (by decide +kernel) ⟨by decide, by decide⟩) (by omega) pro_2 rfl rfl rfl (Nat.le_of_ble_eq_true rfl) dX12_putShown_147 rfl ⟨by decide, by decide⟩ (fun M3 q_3 => ?_)
        obtain ⟨pro_3, pdg_3, F_3⟩ := q_3
        refine m_aload_n (pc' := 151) C dX12_putShown_150 rfl 1 rfl rfl ?_
        have xout_5 := hout.fr F_2 (by decide)
        have xout_6 := xout_5.fr F_3 (by decide)
        refine m_callVv (pc' := 154) (As := []) (rest := []) C (kX12_putDigits hI hn hn2 pro_3 pdg_3 xout_6 ) (cwV 0 C.1.2.2.2.2 (goodV tm_6_64 tm_6_66 tp_70 tm_1_13 tm_6_67) rfl rfl rfl (by decide +kernel) ⟨by decide, by decide⟩) (by omega) pro_3 rfl rfl rfl (Nat.le_of_ble_eq_true rfl) dX12_putShown_151 rfl ⟨by decide, by decide⟩ (fun M4 q_4 => ?_)
        obtain ⟨pro_4, pout_4, F_4⟩ := q_4
        refine m_vret C hrt0 hlk0 dX12_putShown_154 ?_
        have xdg_7 := pdg_3.fr F_4 (by decide)
        rw [uL_lN (by omega), List.length_map] at pout_4
        rw [shown_n hv hq n_113, numS_rev]
        exact ⟨pro_4, pout_4, ⟨_, xdg_7⟩, (((F_2.sub (by decide)).tr (F_3.sub (by decide))).tr (F_4.sub (by decide)))⟩
      · have n_113 : ¬ (cN v) = 0 := fun q => c_113 (((nI_eq (by omega) (by omega)).mpr q).trans nI_0)
        refine m_aload_n (pc' := 117) C dX12_putShown_116 rfl 1 rfl rfl ?_
        refine m_bipush (pc' := 119) (v := nI 32) C dX12_putShown_117 (by decide) rfl ?_
        refine m_callVv (pc' := 122) (As := [.int (nI 32)]) (rest := []) C (kX12_put hI hn hn2 hro hout (x := 32) (by first | decide | omega)) (cwV 1 C.1.2.2.2.2 (goodV tm_5_239 tm_6_1 tp_57 tm_1_13 tm_6_2) rfl rfl rfl (by decide +kernel) ⟨by decide, by decide⟩) (by omega) hro rfl rfl rfl (Nat.le_of_ble_eq_true rfl) dX12_putShown_119 rfl ⟨by decide, by decide⟩ (fun M8 q_8 => ?_)
        obtain ⟨pro_8, pout_8, F_8⟩ := q_8
        refine m_aload_n (pc' := 123) C dX12_putShown_122 rfl 1 rfl rfl ?_
        refine m_bipush (pc' := 125) (v := nI 92) C dX12_putShown_123 (by decide) rfl ?_
        refine m_callVv (pc' := 128) (As := [.int (nI 92)]) (rest := []) C (kX12_put hI hn hn2 pro_8 pout_8 (x := 92) (by first | decide | omega)) (cwV 1 C.1.2.2.2.2 (goodV tm_5_239 tm_6_1 tp_57 tm_1_13 tm_6_2) rfl rfl rfl (by decide +kernel) ⟨by decide, by decide⟩) (by omega) pro_8 rfl rfl rfl (Nat.le_of_ble_eq_true rfl) dX12_putShown_125 rfl ⟨by decide, by decide⟩ (fun M9 q_9 => ?_)
        obtain ⟨pro_9, pout_9, F_9⟩ := q_9
        refine m_aload_n (pc' := 129) C dX12_putShown_128 rfl 1 rfl rfl ?_
        refine m_iload_n (pc' := 130) C dX12_putShown_129 rfl 0 rfl rfl ?_
        refine m_callVv (pc' := 133) (As := [.int (nI (cN v))]) (rest := []) C (kX12_put hI hn hn2 pro_9 pout_9 (x := cN v) hcN) (cwV 1 C.1.2.2.2.2 (goodV tm_5_239 tm_6_1 tp_57 tm_1_13 tm_6_2) rfl rfl rfl (by decide +kernel) ⟨by decide, by decide⟩) (by omega) pro_9 rfl rfl rfl (Nat.le_of_ble_eq_true rfl) dX12_putShown_130 rfl ⟨by decide, by decide⟩ (fun M10 q_10 => ?_)
        obtain ⟨pro_10, pout_10, F_10⟩ := q_10
        refine m_goto (tgt := 154) C dX12_putShown_133 (by decide) ?_
        refine m_vret C hrt0 hlk0 dX12_putShown_154 ?_
        have xdg_11 := hdg.fr F_8 (by decide)
        have xdg_12 := xdg_11.fr F_9 (by decide)
        have xdg_13 := xdg_12.fr F_10 (by decide)
        rw [shown_e hv hq n_113]
        rw [List.append_assoc, List.append_assoc] at pout_10
        exact ⟨pro_10, pout_10, ⟨_, xdg_13⟩, (((F_8.sub (by decide)).tr (F_9.sub (by decide))).tr (F_10.sub (by decide)))⟩
    refine m_iload_n (pc' := 25) C dX12_putShown_24 rfl 1 rfl rfl ?_
    refine m_if_ne (pc' := 28) (tgt := 33) C dX12_putShown_25 (by decide) rfl (fun c_25 => ?_) (fun c_25 => ?_)
    · have n_25 : ¬ v = 0 := fun q => c_25 (((nI_eq (by omega) (by omega)).mpr q).trans nI_0)
      refine m_iload_n (pc' := 34) C dX12_putShown_33 rfl 1 rfl rfl ?_
      refine m_bipush (pc' := 36) (v := nI 7) C dX12_putShown_34 (by decide) rfl ?_
      refine m_icmp_ne (pc' := 39) (tgt := 44) C dX12_putShown_36 (by decide) rfl (fun c_36 => ?_) (fun c_36 => ?_)
      · have n_36 : ¬ v = 7 := fun q => c_36 ((nI_eq (by omega) (by omega)).mpr q)
        refine m_iload_n (pc' := 45) C dX12_putShown_44 rfl 1 rfl rfl ?_
        refine m_bipush (pc' := 47) (v := nI 8) C dX12_putShown_45 (by decide) rfl ?_
        refine m_icmp_ne (pc' := 50) (tgt := 55) C dX12_putShown_47 (by decide) rfl (fun c_47 => ?_) (fun c_47 => ?_)
        · have n_47 : ¬ v = 8 := fun q => c_47 ((nI_eq (by omega) (by omega)).mpr q)
          refine m_iload_n (pc' := 56) C dX12_putShown_55 rfl 1 rfl rfl ?_
          refine m_bipush (pc' := 58) (v := nI 9) C dX12_putShown_56 (by decide) rfl ?_
          refine m_icmp_ne (pc' := 61) (tgt := 66) C dX12_putShown_58 (by decide) rfl (fun c_58 => ?_) (fun c_58 => ?_)
          · have n_58 : ¬ v = 9 := fun q => c_58 ((nI_eq (by omega) (by omega)).mpr q)
            refine m_iload_n (pc' := 67) C dX12_putShown_66 rfl 1 rfl rfl ?_
            refine m_bipush (pc' := 69) (v := nI 10) C dX12_putShown_67 (by decide) rfl ?_
            refine m_icmp_ne (pc' := 72) (tgt := 77) C dX12_putShown_69 (by decide) rfl (fun c_69 => ?_) (fun c_69 => ?_)
            · have n_69 : ¬ v = 10 := fun q => c_69 ((nI_eq (by omega) (by omega)).mpr q)
              refine m_iload_n (pc' := 78) C dX12_putShown_77 rfl 1 rfl rfl ?_
              refine m_bipush (pc' := 80) (v := nI 11) C dX12_putShown_78 (by decide) rfl ?_
              refine m_icmp_ne (pc' := 83) (tgt := 88) C dX12_putShown_80 (by decide) rfl (fun c_80 => ?_) (fun c_80 => ?_)
              · have n_80 : ¬ v = 11 := fun q => c_80 ((nI_eq (by omega) (by omega)).mpr q)
                refine m_iload_n (pc' := 89) C dX12_putShown_88 rfl 1 rfl rfl ?_
                refine m_bipush (pc' := 91) (v := nI 12) C dX12_putShown_89 (by decide) rfl ?_
                refine m_icmp_ne (pc' := 94) (tgt := 99) C dX12_putShown_91 (by decide) rfl (fun c_91 => ?_) (fun c_91 => ?_)
                · have n_91 : ¬ v = 12 := fun q => c_91 ((nI_eq (by omega) (by omega)).mpr q)
                  refine m_iload_n (pc' := 100) C dX12_putShown_99 rfl 1 rfl rfl ?_
                  refine m_bipush (pc' := 102) (v := nI 13) C dX12_putShown_100 (by decide) rfl ?_
                  refine m_icmp_ne (pc' := 105) (tgt := 110) C dX12_putShown_102 (by decide) rfl (fun c_102 => ?_) (fun c_102 => ?_)
                  · have n_102 : ¬ v = 13 := fun q => c_102 ((nI_eq (by omega) (by omega)).mpr q)
                    refine m_iconst (pc' := 111) (v := nI 0) C dX12_putShown_110 (by decide) rfl ?_
                    refine m_lv [0, 1] rfl ?_
                    exact J111 (nI 0) (by unfold cN nmW; rw [if_neg (show ¬ nI v = nI 0 from c_25), if_neg c_36, if_neg c_47, if_neg c_58, if_neg c_69, if_neg c_80, if_neg c_91, if_neg c_102]; rfl)
                  · have n_102 : v = 13 := (nI_eq (by omega) (by omega)).mp (Classical.not_not.mp c_102)
                    refine m_bipush (pc' := 107) (v := nI 114) C dX12_putShown_105 (by decide) rfl ?_
                    refine m_goto (tgt := 111) C dX12_putShown_107 (by decide) ?_
                    refine m_lv [0, 1] rfl ?_
                    exact J111 (nI 114) (by rw [n_102]; decide)
                · have n_91 : v = 12 := (nI_eq (by omega) (by omega)).mp (Classical.not_not.mp c_91)
                  refine m_bipush (pc' := 96) (v := nI 102) C dX12_putShown_94 (by decide) rfl ?_
                  refine m_goto (tgt := 111) C dX12_putShown_96 (by decide) ?_
                  refine m_lv [0, 1] rfl ?_
                  exact J111 (nI 102) (by rw [n_91]; decide)
              · have n_80 : v = 11 := (nI_eq (by omega) (by omega)).mp (Classical.not_not.mp c_80)
                refine m_bipush (pc' := 85) (v := nI 118) C dX12_putShown_83 (by decide) rfl ?_
                refine m_goto (tgt := 111) C dX12_putShown_85 (by decide) ?_
                refine m_lv [0, 1] rfl ?_
                exact J111 (nI 118) (by rw [n_80]; decide)
            · have n_69 : v = 10 := (nI_eq (by omega) (by omega)).mp (Classical.not_not.mp c_69)
              refine m_bipush (pc' := 74) (v := nI 110) C dX12_putShown_72 (by decide) rfl ?_
              refine m_goto (tgt := 111) C dX12_putShown_74 (by decide) ?_
              refine m_lv [0, 1] rfl ?_
              exact J111 (nI 110) (by rw [n_69]; decide)
          · have n_58 : v = 9 := (nI_eq (by omega) (by omega)).mp (Classical.not_not.mp c_58)
            refine m_bipush (pc' := 63) (v := nI 116) C dX12_putShown_61 (by decide) rfl ?_
            refine m_goto (tgt := 111) C dX12_putShown_63 (by decide) ?_
            refine m_lv [0, 1] rfl ?_
            exact J111 (nI 116) (by rw [n_58]; decide)
        · have n_47 : v = 8 := (nI_eq (by omega) (by omega)).mp (Classical.not_not.mp c_47)
          refine m_bipush (pc' := 52) (v := nI 98) C dX12_putShown_50 (by decide) rfl ?_
          refine m_goto (tgt := 111) C dX12_putShown_52 (by decide) ?_
          refine m_lv [0, 1] rfl ?_
          exact J111 (nI 98) (by rw [n_47]; decide)
      · have n_36 : v = 7 := (nI_eq (by omega) (by omega)).mp (Classical.not_not.mp c_36)
        refine m_bipush (pc' := 41) (v := nI 97) C dX12_putShown_39 (by decide) rfl ?_
        refine m_goto (tgt := 111) C dX12_putShown_41 (by decide) ?_
        refine m_lv [0, 1] rfl ?_
        exact J111 (nI 97) (by rw [n_36]; decide)
    · have n_25 : v = 0 := (nI_eq (by omega) (by omega)).mp ((Classical.not_not.mp c_25).trans nI_0.symm)
      refine m_bipush (pc' := 30) (v := nI 48) C dX12_putShown_28 (by decide) rfl ?_
      refine m_goto (tgt := 111) C dX12_putShown_30 (by decide) ?_
      refine m_lv [0, 1] rfl ?_
      exact J111 (nI 48) (by rw [n_25]; decide)
  · have hq : 32 ≤ v ∧ v ≤ 126 := by have h9 := of_decide_eq_true (ts_of c_8); exact ⟨(nI_leI (by decide) (by omega)).mp h9.1, (nI_leI (by omega) (by decide)).mp h9.2⟩
    refine m_aload_n (pc' := 12) C dX12_putShown_11 rfl 0 rfl rfl ?_
    refine m_bipush (pc' := 14) (v := nI 32) C dX12_putShown_12 (by decide) rfl ?_
    refine m_iconst (pc' := 15) (v := nI 2) C dX12_putShown_14 (by decide) rfl ?_
    refine m_callVv (pc' := 18) (As := [.int (nI 32), .int (nI 2)]) (rest := []) C (kX12_putMany hI hn hn2 hro hout (x := 32) (by decide) (nI 2)) (cwV 2 C.1.2.2.2.2 (goodV tm_6_52 tm_6_54 tp_67 tm_1_13 tm_6_55) rfl rfl rfl (by decide +kernel) ⟨by decide, by decide⟩) (by omega) hro rfl rfl rfl (Nat.le_of_ble_eq_true rfl) dX12_putShown_15 rfl ⟨by decide, by decide⟩ (fun M14 q_14 => ?_)
    obtain ⟨pro_14, pout_14, F_14⟩ := q_14
    rw [show cl (nI 2) = 2 from rfl] at pout_14
    refine m_aload_n (pc' := 19) C dX12_putShown_18 rfl 0 rfl rfl ?_
    refine m_iload_n (pc' := 20) C dX12_putShown_19 rfl 1 rfl rfl ?_
    refine m_callVv (pc' := 23) (As := [.int (nI v)]) (rest := []) C (kX12_put hI hn hn2 pro_14 pout_14 (x := v) hv) (cwV 1 C.1.2.2.2.2 (goodV tm_5_239 tm_6_1 tp_57 tm_1_13 tm_6_2) rfl rfl rfl (by decide +kernel) ⟨by decide, by decide⟩) (by omega) pro_14 rfl rfl rfl (Nat.le_of_ble_eq_true rfl) dX12_putShown_20 rfl ⟨by decide, by decide⟩ (fun M15 q_15 => ?_)
    obtain ⟨pro_15, pout_15, F_15⟩ := q_15
    refine m_vret C hrt0 hlk0 dX12_putShown_23 ?_
    have xdg_16 := hdg.fr F_14 (by decide)
    have xdg_17 := xdg_16.fr F_15 (by decide)
    rw [shown_s hv hq]
    rw [List.append_assoc] at pout_15
    exact ⟨pro_15, pout_15, ⟨_, xdg_17⟩, ((F_14.sub (by decide)).tr (F_15.sub (by decide)))⟩
set_option maxHeartbeats 4000000 in
set_option maxRecDepth 100000 in
theorem kX12_putField {l : Launch} {D : va_G} {cy : Nat → ClassId} {ad : Nat → Nat} {n : Nat} {A : Nat → Prop} (hI : mI ad n A) {M : Nat → va_E} (hn : 63 ≤ n) (hn2 : n ≤ 100) (hro : rO ad M) {B : List Nat} (hby : isBy cy M B) {lim : Nat} {O : List Nat} (hout : isOut cy M lim O) {L : List Nat} (hdg : isDg cy M L) {s lt sz : Nat} (hs : s ≤ 300) (hlt5 : lt = 111 ∨ lt = 120 ∨ lt = 117 ∨ lt = 100 ∨ lt = 99) (hsz : sz = 1 ∨ sz = 2 ∨ sz = 4 ∨ sz = 8) (h99 : lt = 99 → sz = 1) : mMv l yX12_putField (gW yX12_putField cX12_putField 11 none) { frames := 3, cells := 0, slots := 0, locals := 71 } D cy ad n A [.ref (ad 52), .int (nI s), .int (nI lt), .int (nI sz)] M (fun M' => rO ad M' ∧ isOut cy M' lim (O ++ (32 :: fldS lt sz (wdv B s sz))) ∧ (∃ D, isDg cy M' D) ∧ Fr [52, 59, 61, 111, 113, 132] M M') := by
  obtain ⟨y1, y2, y3, yg, y4, y5⟩ := id hby
  refine m_entry (cc := cX12_putField) (maxL := 11) (ret := none) (own := RX12) (lv := [(0, .ref (ad 52)), (1, .int (nI s)), (2, .int (nI lt)), (3, .int (nI sz))]) hI (by decide) rfl rfl (Nat.le_of_ble_eq_true rfl) rfl (fun pX eX sX mX aX bX tX cX C hrt0 hlk0 => ?_)
  refine m_lconst (pc' := 1) (v := 0) C dX12_putField_0 (by decide) rfl ?_
  refine m_lstore (pc' := 3) (lv' := [(4, .long (0)), (0, .ref (ad 52)), (1, .int (nI s)), (2, .int (nI lt)), (3, .int (nI sz))]) C dX12_putField_1 (by decide) rfl rfl ?_
  refine m_iload_n (pc' := 4) C dX12_putField_3 rfl 4 rfl rfl ?_
  refine m_iconst (pc' := 5) (v := nI 1) C dX12_putField_4 (by decide) rfl ?_
  refine m_isub (pc' := 6) (v := (nI sz) - (nI 1)) C dX12_putField_5 rfl rfl ?_
  refine m_istore (pc' := 8) (lv' := [(6, .int ((nI sz) - (nI 1))), (4, .long (0)), (0, .ref (ad 52)), (1, .int (nI s)), (2, .int (nI lt)), (3, .int (nI sz))]) C dX12_putField_6 (by decide) rfl rfl ?_
  refine m_lvx (lv' := [(6, .int ((nI sz) - (nI 1))), (4, .long (lN (wdv B (s + sz) (sz - sz)))), (0, .ref (ad 52)), (1, .int (nI s)), (2, .int (nI lt)), (3, .int (nI sz))]) (by rw [Nat.sub_self]; rfl) ?_
  refine m_lv [2, 3, 4, 5, 1, 0] rfl ?_
  refine m_loop (σ := Nat × (Nat → va_E)) (fun a => a.2) (fun a => [(0, .ref (ad 52)), (1, .int (nI s)), (2, .int (nI lt)), (3, .int (nI sz)), (4, .long (lN (wdv B (s + a.1) (sz - a.1)))), (6, .int (nI a.1 - nI 1))]) (fun a => a.1 ≤ sz ∧ rO ad a.2 ∧ Fr [] M a.2) (fun a => a.1) (sz, M) (⟨Nat.le_refl _, hro, Fr.rf⟩) ?_
  rintro ⟨j, Mk⟩ hinv ih
  dsimp only at hinv ih ⊢
  obtain ⟨i1, i4, i5⟩ := hinv
  refine m_iload (pc' := 10) C dX12_putField_8 5 rfl rfl ?_
  refine m_if_lt (pc' := 13) (tgt := 52) C dX12_putField_10 (by decide) rfl (fun c_10 => ?_) (fun c_10 => ?_)
  · have hj0 : j = 0 := by
      rcases Nat.lt_or_ge 0 j with z | z
      · exact absurd c_10 (by rw [pk_sub (by omega)]; exact nI_nlt0 (by omega))
      · omega
    subst hj0
    rw [Nat.add_zero, Nat.sub_zero]
    refine m_aload_n (pc' := 53) C dX12_putField_52 rfl 0 rfl rfl ?_
    refine m_bipush (pc' := 55) (v := nI 32) C dX12_putField_53 (by decide) rfl ?_
    have xout_2 := hout.fr i5 (by decide)
    refine m_callVv (pc' := 58) (As := [.int (nI 32)]) (rest := []) C (kX12_put hI hn hn2 i4 xout_2 (x := 32) (by first | decide | omega)) (cwV 1 C.1.2.2.2.2 (goodV tm_5_239 tm_6_1 tp_57 tm_1_13 tm_6_2) rfl rfl rfl (by decide +kernel) ⟨by decide, by decide⟩) (by omega) i4 rfl rfl rfl (Nat.le_of_ble_eq_true rfl) dX12_putField_55 rfl ⟨by decide, by decide⟩ (fun M1 q_1 => ?_)
    obtain ⟨pro_1, pout_1, F_1⟩ := q_1
    refine m_iload_n (pc' := 59) C dX12_putField_58 rfl 3 rfl rfl ?_
    refine m_callSi (pc' := 62) (As := [.int (nI sz)]) (rest := []) C (kX12_index hI (sz := sz) (by omega)) (cwS 1 C.1.2.2.2.2 (goodS tm_6_100 tm_6_101 tm_1_13 tm_6_102) rfl rfl rfl (by decide +kernel) ⟨by decide, by decide⟩) rfl rfl (Nat.le_of_ble_eq_true rfl) dX12_putField_59 rfl ⟨by decide, by decide⟩ (fun x_3 N_3 q_3 => ?_)
    obtain ⟨e_3, E_3⟩ := q_3
    replace E_3 := E_3.symm
    subst E_3
    replace e_3 := e_3.symm
    subst e_3
    have hW8 : (wdv B s sz) < 2 ^ (8 * sz) := wdv_s8 y1 s
    have hW64 : (wdv B s sz) < 2 ^ 64 := wdv_lt8 y1 (by omega) s
    have hfB := fB_or lt
    have hlD := lD_le lt (show sz ≤ 8 by omega)
    have hix : ixN sz ≤ 3 := by unfold ixN; (repeat' split) <;> omega
    have hfW := fW_le lt sz
    refine m_istore (pc' := 64) (lv' := [(6, .int (nI (ixN sz))), (0, .ref (ad 52)), (1, .int (nI s)), (2, .int (nI lt)), (3, .int (nI sz)), (4, .long (lN (wdv B s sz)))]) C dX12_putField_62 (by decide) rfl rfl ?_
    refine m_iload_n (pc' := 65) C dX12_putField_64 rfl 3 rfl rfl ?_
    refine m_bipush (pc' := 67) (v := nI 111) C dX12_putField_65 (by decide) rfl ?_
    refine m_icmp_eq (pc' := 70) (tgt := 76) C dX12_putField_67 (by decide) rfl (fun c_67 => ?_) (fun c_67 => ?_)
    · have n_67 : lt = 111 := (nI_eq (by omega) (by omega)).mp c_67
      refine m_aload_n (pc' := 77) C dX12_putField_76 rfl 1 rfl rfl ?_
      refine m_lload (pc' := 79) C dX12_putField_77 5 rfl rfl ?_
      refine m_cut (σ := Int32) (fun a => a = nI (fB lt)) (fun a => M1) 92 (fun a => [(6, .int (nI (ixN sz))), (0, .ref (ad 52)), (1, .int (nI s)), (2, .int (nI lt)), (3, .int (nI sz)), (4, .long (lN (wdv B s sz)))]) (fun a => [.int (a), .long (lN (wdv B s sz)), .ref (ad 52)]) ?_ (fun J92 => ?_)
      · rintro y9 hj
        try dsimp only at hj ⊢
        subst hj
        refine m_iconst (pc' := 93) (v := bI false) C dX12_putField_92 (by decide) rfl ?_
        have xdg_5 := hdg.fr i5 (by decide)
        have xdg_6 := xdg_5.fr F_1 (by decide)
        refine m_callVv (pc' := 96) (As := [.long (lN (wdv B s sz)), .int (nI (fB lt)), .int (bI false)]) (rest := []) C (kX12_reckon hI hn hn2 pro_1 xdg_6 (lN (wdv B s sz)) (b := fB lt) false (by omega)) (cwV 3 C.1.2.2.2.2 (goodV tm_6_31 tm_6_33 tp_63 tm_1_13 tm_6_34) rfl rfl rfl (by decide +kernel) ⟨by decide, by decide⟩) (by omega) pro_1 rfl rfl rfl (Nat.le_of_ble_eq_true rfl) dX12_putField_93 rfl ⟨by decide, by decide⟩ (fun M4 q_4 => ?_)
        obtain ⟨pro_4, pdg_4, F_4⟩ := q_4
        refine m_aload_n (pc' := 97) C dX12_putField_96 rfl 1 rfl rfl ?_
        refine m_cut (σ := Int32) (fun a => a = nI (lD lt sz)) (fun a => M4) 129 (fun a => [(6, .int (nI (ixN sz))), (0, .ref (ad 52)), (1, .int (nI s)), (2, .int (nI lt)), (3, .int (nI sz)), (4, .long (lN (wdv B s sz)))]) (fun a => [.int (a), .ref (ad 52)]) ?_ (fun J129 => ?_)
        · rintro y9 hj
          try dsimp only at hj ⊢
          subst hj
          refine m_callVv (pc' := 132) (As := [.int (nI (lD lt sz))]) (rest := []) C (kX12_fill hI hn hn2 pro_4 pdg_4 (m := lD lt sz) (by omega)) (cwV 1 C.1.2.2.2.2 (goodV tm_6_39 tm_6_41 tp_64 tm_1_13 tm_6_42) rfl rfl rfl (by decide +kernel) ⟨by decide, by decide⟩) (by omega) pro_4 rfl rfl rfl (Nat.le_of_ble_eq_true rfl) dX12_putField_129 rfl ⟨by decide, by decide⟩ (fun M7 q_7 => ?_)
          obtain ⟨pro_7, pdg_7, F_7⟩ := q_7
          refine m_aload_n (pc' := 133) C dX12_putField_132 rfl 1 rfl rfl ?_
          have xout_9 := pout_1.fr F_4 (by decide)
          have xout_10 := xout_9.fr F_7 (by decide)
          refine m_callVv (pc' := 136) (As := []) (rest := []) C (kX12_putDigits hI hn hn2 pro_7 pdg_7 xout_10 ) (cwV 0 C.1.2.2.2.2 (goodV tm_6_64 tm_6_66 tp_70 tm_1_13 tm_6_67) rfl rfl rfl (by decide +kernel) ⟨by decide, by decide⟩) (by omega) pro_7 rfl rfl rfl (Nat.le_of_ble_eq_true rfl) dX12_putField_133 rfl ⟨by decide, by decide⟩ (fun M8 q_8 => ?_)
          obtain ⟨pro_8, pout_8, F_8⟩ := q_8
          refine m_goto (tgt := 310) C dX12_putField_136 (by decide) ?_
          refine m_vret C hrt0 hlk0 dX12_putField_310 ?_
          have xdg_11 := pdg_7.fr F_8 (by decide)
          rw [uL_lN hW64, List.length_map] at pout_8
          rw [show O ++ (32 :: fldS lt sz (wdv B s sz)) = (O ++ [32]) ++ fldS lt sz (wdv B s sz) from app1, fld_ox (by omega) hW64]
          exact ⟨pro_8, pout_8, ⟨_, xdg_11⟩, (((((i5.sub (by decide)).tr (F_1.sub (by decide))).tr (F_4.sub (by decide))).tr (F_7.sub (by decide))).tr (F_8.sub (by decide)))⟩
        refine m_iload_n (pc' := 98) C dX12_putField_97 rfl 3 rfl rfl ?_
        refine m_bipush (pc' := 100) (v := nI 111) C dX12_putField_98 (by decide) rfl ?_
        refine m_icmp_ne (pc' := 103) (tgt := 118) C dX12_putField_100 (by decide) rfl (fun c_100 => ?_) (fun c_100 => ?_)
        · have n_100 : ¬ lt = 111 := fun q => c_100 ((nI_eq (by omega) (by omega)).mpr q)
          refine m_iload (pc' := 120) C dX12_putField_118 0 rfl rfl ?_
          refine m_iconst (pc' := 121) (v := nI 2) C dX12_putField_120 (by decide) rfl ?_
          refine m_iconst (pc' := 122) (v := nI 4) C dX12_putField_121 (by decide) rfl ?_
          refine m_bipush (pc' := 124) (v := nI 8) C dX12_putField_122 (by decide) rfl ?_
          refine m_bipush (pc' := 126) (v := nI 16) C dX12_putField_124 (by decide) rfl ?_
          refine m_callSi (pc' := 129) (As := [.int (nI (ixN sz)), .int (nI 2), .int (nI 4), .int (nI 8), .int (nI 16)]) (rest := [.ref (ad 52)]) C (kX12_choose hI (i := ixN sz) (c1 := 2) (c2 := 4) (c3 := 8) (c4 := 16) (by omega)) (cwS 5 C.1.2.2.2.2 (goodS tm_6_103 tm_6_104 tm_1_13 tm_6_105) rfl rfl rfl (by decide +kernel) ⟨by decide, by decide⟩) rfl rfl (Nat.le_of_ble_eq_true rfl) dX12_putField_126 rfl ⟨by decide, by decide⟩ (fun x_12 N_12 q_12 => ?_)
          obtain ⟨e_12, E_12⟩ := q_12
          replace E_12 := E_12.symm
          subst E_12
          replace e_12 := e_12.symm
          subst e_12
          refine m_lv [0, 1, 2, 3, 4, 5] rfl ?_
          exact J129 (nI (chN (ixN sz) 2 4 8 16)) (by rw [ch_x hsz, show lt = 120 by omega])
        · have n_100 : lt = 111 := (nI_eq (by omega) (by omega)).mp (Classical.not_not.mp c_100)
          refine m_iload (pc' := 105) C dX12_putField_103 0 rfl rfl ?_
          refine m_iconst (pc' := 106) (v := nI 3) C dX12_putField_105 (by decide) rfl ?_
          refine m_bipush (pc' := 108) (v := nI 6) C dX12_putField_106 (by decide) rfl ?_
          refine m_bipush (pc' := 110) (v := nI 11) C dX12_putField_108 (by decide) rfl ?_
          refine m_bipush (pc' := 112) (v := nI 22) C dX12_putField_110 (by decide) rfl ?_
          refine m_callSi (pc' := 115) (As := [.int (nI (ixN sz)), .int (nI 3), .int (nI 6), .int (nI 11), .int (nI 22)]) (rest := [.ref (ad 52)]) C (kX12_choose hI (i := ixN sz) (c1 := 3) (c2 := 6) (c3 := 11) (c4 := 22) (by omega)) (cwS 5 C.1.2.2.2.2 (goodS tm_6_103 tm_6_104 tm_1_13 tm_6_105) rfl rfl rfl (by decide +kernel) ⟨by decide, by decide⟩) rfl rfl (Nat.le_of_ble_eq_true rfl) dX12_putField_112 rfl ⟨by decide, by decide⟩ (fun x_13 N_13 q_13 => ?_)
          obtain ⟨e_13, E_13⟩ := q_13
          replace E_13 := E_13.symm
          subst E_13
          replace e_13 := e_13.symm
          subst e_13
          refine m_goto (tgt := 129) C dX12_putField_115 (by decide) ?_
          refine m_lv [0, 1, 2, 3, 4, 5] rfl ?_
          exact J129 (nI (chN (ixN sz) 3 6 11 22)) (by rw [ch_o hsz, n_100])
      refine m_iload_n (pc' := 80) C dX12_putField_79 rfl 3 rfl rfl ?_
      refine m_bipush (pc' := 82) (v := nI 111) C dX12_putField_80 (by decide) rfl ?_
      refine m_icmp_ne (pc' := 85) (tgt := 90) C dX12_putField_82 (by decide) rfl (fun c_82 => ?_) (fun c_82 => ?_)
      · have n_82 : ¬ lt = 111 := fun q => c_82 ((nI_eq (by omega) (by omega)).mpr q)
        refine m_bipush (pc' := 92) (v := nI 16) C dX12_putField_90 (by decide) rfl ?_
        refine m_lv [0, 1, 2, 3, 4, 5] rfl ?_
        exact J92 (nI 16) (by rw [show lt = 120 by omega]; rfl)
      · have n_82 : lt = 111 := (nI_eq (by omega) (by omega)).mp (Classical.not_not.mp c_82)
        refine m_bipush (pc' := 87) (v := nI 8) C dX12_putField_85 (by decide) rfl ?_
        refine m_goto (tgt := 92) C dX12_putField_87 (by decide) ?_
        refine m_lv [0, 1, 2, 3, 4, 5] rfl ?_
        exact J92 (nI 8) (by rw [n_82]; rfl)
    · have n_67 : ¬ lt = 111 := fun q => c_67 ((nI_eq (by omega) (by omega)).mpr q)
      refine m_iload_n (pc' := 71) C dX12_putField_70 rfl 3 rfl rfl ?_
      refine m_bipush (pc' := 73) (v := nI 120) C dX12_putField_71 (by decide) rfl ?_
      refine m_icmp_ne (pc' := 76) (tgt := 139) C dX12_putField_73 (by decide) rfl (fun c_73 => ?_) (fun c_73 => ?_)
      · have n_73 : ¬ lt = 120 := fun q => c_73 ((nI_eq (by omega) (by omega)).mpr q)
        refine m_iload_n (pc' := 140) C dX12_putField_139 rfl 3 rfl rfl ?_
        refine m_bipush (pc' := 142) (v := nI 99) C dX12_putField_140 (by decide) rfl ?_
        refine m_icmp_ne (pc' := 145) (tgt := 155) C dX12_putField_142 (by decide) rfl (fun c_142 => ?_) (fun c_142 => ?_)
        · have n_142 : ¬ lt = 99 := fun q => c_142 ((nI_eq (by omega) (by omega)).mpr q)
          refine m_cut (σ := Int64) (fun a => a = fdV lt sz (wdv B s sz)) (fun a => M1) 190 (fun a => [(6, .int (nI (ixN sz))), (0, .ref (ad 52)), (1, .int (nI s)), (2, .int (nI lt)), (3, .int (nI sz)), (4, .long (lN (wdv B s sz)))]) (fun a => [.long (a)]) ?_ (fun J190 => ?_)
          · rintro y9 hj
            try dsimp only at hj ⊢
            subst hj
            refine m_lstore (pc' := 192) (lv' := [(7, .long (fdV lt sz (wdv B s sz))), (6, .int (nI (ixN sz))), (0, .ref (ad 52)), (1, .int (nI s)), (2, .int (nI lt)), (3, .int (nI sz)), (4, .long (lN (wdv B s sz)))]) C dX12_putField_190 (by decide) rfl rfl ?_
            refine m_cut (σ := Int32) (fun a => a = bI (fdNg lt sz (wdv B s sz))) (fun a => M1) 210 (fun a => [(7, .long (fdV lt sz (wdv B s sz))), (6, .int (nI (ixN sz))), (0, .ref (ad 52)), (1, .int (nI s)), (2, .int (nI lt)), (3, .int (nI sz)), (4, .long (lN (wdv B s sz)))]) (fun a => [.int (a)]) ?_ (fun J210 => ?_)
            · rintro y9 hj
              try dsimp only at hj ⊢
              subst hj
              refine m_istore (pc' := 212) (lv' := [(9, .int (bI (fdNg lt sz (wdv B s sz)))), (7, .long (fdV lt sz (wdv B s sz))), (6, .int (nI (ixN sz))), (0, .ref (ad 52)), (1, .int (nI s)), (2, .int (nI lt)), (3, .int (nI sz)), (4, .long (lN (wdv B s sz)))]) C dX12_putField_210 (by decide) rfl rfl ?_
              refine m_aload_n (pc' := 213) C dX12_putField_212 rfl 3 rfl rfl ?_
              refine m_cut (σ := Int64) (fun a => a = (if fdNg lt sz (wdv B s sz) then -(fdV lt sz (wdv B s sz)) else fdV lt sz (wdv B s sz))) (fun a => M1) 226 (fun a => [(9, .int (bI (fdNg lt sz (wdv B s sz)))), (7, .long (fdV lt sz (wdv B s sz))), (6, .int (nI (ixN sz))), (0, .ref (ad 52)), (1, .int (nI s)), (2, .int (nI lt)), (3, .int (nI sz)), (4, .long (lN (wdv B s sz)))]) (fun a => [.long (a), .ref (ad 52)]) ?_ (fun J226 => ?_)
              · rintro y9 hj
                try dsimp only at hj ⊢
                subst hj
                refine m_bipush (pc' := 228) (v := nI 10) C dX12_putField_226 (by decide) rfl ?_
                refine m_iconst (pc' := 229) (v := bI false) C dX12_putField_228 (by decide) rfl ?_
                have xdg_15 := hdg.fr i5 (by decide)
                have xdg_16 := xdg_15.fr F_1 (by decide)
                refine m_callVv (pc' := 232) (As := [.long ((if fdNg lt sz (wdv B s sz) then -(fdV lt sz (wdv B s sz)) else fdV lt sz (wdv B s sz))), .int (nI 10), .int (bI false)]) (rest := []) C (kX12_reckon hI hn hn2 pro_1 xdg_16 (if fdNg lt sz (wdv B s sz) then -(fdV lt sz (wdv B s sz)) else fdV lt sz (wdv B s sz)) (b := 10) false (by decide)) (cwV 3 C.1.2.2.2.2 (goodV tm_6_31 tm_6_33 tp_63 tm_1_13 tm_6_34) rfl rfl rfl (by decide +kernel) ⟨by decide, by decide⟩) (by omega) pro_1 rfl rfl rfl (Nat.le_of_ble_eq_true rfl) dX12_putField_229 rfl ⟨by decide, by decide⟩ (fun M14 q_14 => ?_)
                obtain ⟨pro_14, pdg_14, F_14⟩ := q_14
                have hd20 := dg10_len (if fdNg lt sz (wdv B s sz) then -(fdV lt sz (wdv B s sz)) else fdV lt sz (wdv B s sz))
                refine m_aload_n (pc' := 233) C dX12_putField_232 rfl 3 rfl rfl ?_
                refine m_iconst (pc' := 234) (v := nI 1) C dX12_putField_233 (by decide) rfl ?_
                refine m_callVv (pc' := 237) (As := [.int (nI 1)]) (rest := []) C (kX12_fill hI hn hn2 pro_14 pdg_14 (m := 1) (by first | decide | omega)) (cwV 1 C.1.2.2.2.2 (goodV tm_6_39 tm_6_41 tp_64 tm_1_13 tm_6_42) rfl rfl rfl (by decide +kernel) ⟨by decide, by decide⟩) (by omega) pro_14 rfl rfl rfl (Nat.le_of_ble_eq_true rfl) dX12_putField_234 rfl ⟨by decide, by decide⟩ (fun M17 q_17 => ?_)
                obtain ⟨pro_17, pdg_17, F_17⟩ := q_17
                rw [List.length_map] at pdg_17
                change isDg cy M17 (fillD (dg 10 (uL (if fdNg lt sz (wdv B s sz) then -(fdV lt sz (wdv B s sz)) else fdV lt sz (wdv B s sz)))) false 1) at pdg_17
                have hfl1 := fillD_len (dg 10 (uL (if fdNg lt sz (wdv B s sz) then -(fdV lt sz (wdv B s sz)) else fdV lt sz (wdv B s sz)))) false 1
                refine m_cut (σ := Int32) (fun a => a = nI (fW lt sz)) (fun a => M17) 269 (fun a => [(9, .int (bI (fdNg lt sz (wdv B s sz)))), (7, .long (fdV lt sz (wdv B s sz))), (6, .int (nI (ixN sz))), (0, .ref (ad 52)), (1, .int (nI s)), (2, .int (nI lt)), (3, .int (nI sz)), (4, .long (lN (wdv B s sz)))]) (fun a => [.int (a)]) ?_ (fun J269 => ?_)
                · rintro y9 hj
                  try dsimp only at hj ⊢
                  subst hj
                  refine m_istore (pc' := 271) (lv' := [(10, .int (nI (fW lt sz))), (9, .int (bI (fdNg lt sz (wdv B s sz)))), (7, .long (fdV lt sz (wdv B s sz))), (6, .int (nI (ixN sz))), (0, .ref (ad 52)), (1, .int (nI s)), (2, .int (nI lt)), (3, .int (nI sz)), (4, .long (lN (wdv B s sz)))]) C dX12_putField_269 (by decide) rfl rfl ?_
                  refine m_aload_n (pc' := 272) C dX12_putField_271 rfl 4 rfl rfl ?_
                  refine m_bipush (pc' := 274) (v := nI 32) C dX12_putField_272 (by decide) rfl ?_
                  refine m_iload (pc' := 276) C dX12_putField_274 0 rfl rfl ?_
                  refine m_aload_n (pc' := 277) C dX12_putField_276 rfl 4 rfl rfl ?_
                  refine r_get C hn pro_17 inW_X12 32 (by decide) ⟨rfl, rfl, rfl⟩ (gW_of tm_5_82) (r_at 32 rfl pdg_17.2.1) dX12_putField_277 rfl ?_
                  refine m_isub (pc' := 281) (v := (nI (fW lt sz)) - (nI (fillD (dg 10 (uL (if fdNg lt sz (wdv B s sz) then -(fdV lt sz (wdv B s sz)) else fdV lt sz (wdv B s sz)))) false 1).length)) C dX12_putField_280 rfl rfl ?_
                  refine m_cut (σ := Int32) (fun a => a = nI (if fdNg lt sz (wdv B s sz) then 1 else 0)) (fun a => M17) 291 (fun a => [(10, .int (nI (fW lt sz))), (9, .int (bI (fdNg lt sz (wdv B s sz)))), (7, .long (fdV lt sz (wdv B s sz))), (6, .int (nI (ixN sz))), (0, .ref (ad 52)), (1, .int (nI s)), (2, .int (nI lt)), (3, .int (nI sz)), (4, .long (lN (wdv B s sz)))]) (fun a => [.int (a), .int ((nI (fW lt sz)) - (nI (fillD (dg 10 (uL (if fdNg lt sz (wdv B s sz) then -(fdV lt sz (wdv B s sz)) else fdV lt sz (wdv B s sz)))) false 1).length)), .int (nI 32), .ref (ad 52)]) ?_ (fun J291 => ?_)
                  · rintro y9 hj
                    try dsimp only at hj ⊢
                    subst hj
                    refine m_isub (pc' := 292) (v := ((nI (fW lt sz)) - (nI (fillD (dg 10 (uL (if fdNg lt sz (wdv B s sz) then -(fdV lt sz (wdv B s sz)) else fdV lt sz (wdv B s sz)))) false 1).length)) - (nI (if fdNg lt sz (wdv B s sz) then 1 else 0))) C dX12_putField_291 rfl rfl ?_
                    have xout_19 := pout_1.fr F_14 (by decide)
                    have xout_20 := xout_19.fr F_17 (by decide)
                    refine m_callVv (pc' := 295) (As := [.int (nI 32), .int (((nI (fW lt sz)) - (nI (fillD (dg 10 (uL (if fdNg lt sz (wdv B s sz) then -(fdV lt sz (wdv B s sz)) else fdV lt sz (wdv B s sz)))) false 1).length)) - (nI (if fdNg lt sz (wdv B s sz) then 1 else 0)))]) (rest := []) C (kX12_putMany hI hn hn2 pro_17 xout_20 (x := 32) (by decide) (((nI (fW lt sz)) - (nI (fillD (dg 10 (uL (if fdNg lt sz (wdv B s sz) then -(fdV lt sz (wdv B s sz)) else fdV lt sz (wdv B s sz)))) false 1).length)) - (nI (if fdNg lt sz (wdv B s sz) then 1 else 0)))) (cwV 2 C.1.2.2.2.2 (goodV tm_6_52 tm_6_54 tp_67 tm_1_13 tm_6_55) rfl rfl rfl (by decide +kernel) ⟨by decide, by decide⟩) (by omega) pro_17 rfl rfl rfl (Nat.le_of_ble_eq_true rfl) dX12_putField_292 rfl ⟨by decide, by decide⟩ (fun M18 q_18 => ?_)
                    obtain ⟨pro_18, pout_18, F_18⟩ := q_18
                    rw [show cl (nI (fW lt sz) - nI (fillD (dg 10 (uL (if fdNg lt sz (wdv B s sz) then -(fdV lt sz (wdv B s sz)) else fdV lt sz (wdv B s sz)))) false 1).length - nI (if fdNg lt sz (wdv B s sz) then 1 else 0)) = (fW lt sz - max 1 (dg 10 (uL (if fdNg lt sz (wdv B s sz) then -(fdV lt sz (wdv B s sz)) else fdV lt sz (wdv B s sz)))).length - (if fdNg lt sz (wdv B s sz) then 1 else 0)) by rw [show cl (nI (fW lt sz) - nI (fillD (dg 10 (uL (if fdNg lt sz (wdv B s sz) then -(fdV lt sz (wdv B s sz)) else fdV lt sz (wdv B s sz)))) false 1).length - nI (if fdNg lt sz (wdv B s sz) then 1 else 0)) = fW lt sz - (fillD (dg 10 (uL (if fdNg lt sz (wdv B s sz) then -(fdV lt sz (wdv B s sz)) else fdV lt sz (wdv B s sz)))) false 1).length - (if fdNg lt sz (wdv B s sz) then 1 else 0) from sub2_clamp (by omega) (by omega) (by split <;> decide), hfl1]] at pout_18
                    refine m_cut (σ := (Nat → va_E)) (fun a => rO ad a ∧ isOut cy a lim (((O ++ [32]) ++ List.replicate (fW lt sz - max 1 (dg 10 (uL (if fdNg lt sz (wdv B s sz) then -(fdV lt sz (wdv B s sz)) else fdV lt sz (wdv B s sz)))).length - (if fdNg lt sz (wdv B s sz) then 1 else 0)) 32) ++ (if fdNg lt sz (wdv B s sz) then [45] else [])) ∧ Fr [52, 59, 111, 113] M18 a) (fun a => a) 306 (fun a => [(10, .int (nI (fW lt sz))), (9, .int (bI (fdNg lt sz (wdv B s sz)))), (7, .long (fdV lt sz (wdv B s sz))), (6, .int (nI (ixN sz))), (0, .ref (ad 52)), (1, .int (nI s)), (2, .int (nI lt)), (3, .int (nI sz)), (4, .long (lN (wdv B s sz)))]) (fun a => []) ?_ (fun J306 => ?_)
                    · rintro Mj306 hj
                      try dsimp only at hj ⊢
                      obtain ⟨jro_306, jout_306, jf_306⟩ := hj
                      refine m_aload_n (pc' := 307) C dX12_putField_306 rfl 4 rfl rfl ?_
                      have xdg_22 := pdg_17.fr F_18 (by decide)
                      have xdg_23 := xdg_22.fr jf_306 (by decide)
                      refine m_callVv (pc' := 310) (As := []) (rest := []) C (kX12_putDigits hI hn hn2 jro_306 xdg_23 jout_306 ) (cwV 0 C.1.2.2.2.2 (goodV tm_6_64 tm_6_66 tp_70 tm_1_13 tm_6_67) rfl rfl rfl (by decide +kernel) ⟨by decide, by decide⟩) (by omega) jro_306 rfl rfl rfl (Nat.le_of_ble_eq_true rfl) dX12_putField_307 rfl ⟨by decide, by decide⟩ (fun M21 q_21 => ?_)
                      obtain ⟨pro_21, pout_21, F_21⟩ := q_21
                      refine m_vret C hrt0 hlk0 dX12_putField_310 ?_
                      have xdg_24 := xdg_23.fr F_21 (by decide)
                      rw [show O ++ (32 :: fldS lt sz (wdv B s sz)) = (O ++ [32]) ++ fldS lt sz (wdv B s sz) from app1, fld_ud (by omega) hsz hW8]
                      rw [← List.append_assoc, ← List.append_assoc]
                      exact ⟨pro_21, pout_21, ⟨_, xdg_24⟩, (((((((i5.sub (by decide)).tr (F_1.sub (by decide))).tr (F_14.sub (by decide))).tr (F_17.sub (by decide))).tr (F_18.sub (by decide))).tr (jf_306.sub (by decide))).tr (F_21.sub (by decide)))⟩
                    refine m_iload (pc' := 297) C dX12_putField_295 1 rfl rfl ?_
                    refine m_if_eq (pc' := 300) (tgt := 306) C dX12_putField_297 (by decide) rfl (fun c_297 => ?_) (fun c_297 => ?_)
                    · have hnn := (bI_0 _).mp c_297
                      refine m_lv [0, 1, 2, 3, 4, 5, 6, 7, 8] rfl ?_
                      exact J306 M18 (⟨pro_18, by rw [show (if fdNg lt sz (wdv B s sz) then [45] else [] : List Nat) = [] from if_neg (by rw [hnn]; decide), List.append_nil]; exact pout_18, Fr.rf⟩)
                    · have hnn := ts_of c_297
                      refine m_aload_n (pc' := 301) C dX12_putField_300 rfl 4 rfl rfl ?_
                      refine m_bipush (pc' := 303) (v := nI 45) C dX12_putField_301 (by decide) rfl ?_
                      refine m_callVv (pc' := 306) (As := [.int (nI 45)]) (rest := []) C (kX12_put hI hn hn2 pro_18 pout_18 (x := 45) (by first | decide | omega)) (cwV 1 C.1.2.2.2.2 (goodV tm_5_239 tm_6_1 tp_57 tm_1_13 tm_6_2) rfl rfl rfl (by decide +kernel) ⟨by decide, by decide⟩) (by omega) pro_18 rfl rfl rfl (Nat.le_of_ble_eq_true rfl) dX12_putField_303 rfl ⟨by decide, by decide⟩ (fun M25 q_25 => ?_)
                      obtain ⟨pro_25, pout_25, F_25⟩ := q_25
                      refine m_lv [0, 1, 2, 3, 4, 5, 6, 7, 8] rfl ?_
                      exact J306 M25 (⟨pro_25, by rw [show (if fdNg lt sz (wdv B s sz) then [45] else [] : List Nat) = [45] from if_pos hnn]; exact pout_25, (F_25.sub (by decide))⟩)
                  refine m_iload (pc' := 283) C dX12_putField_281 1 rfl rfl ?_
                  refine m_if_eq (pc' := 286) (tgt := 290) C dX12_putField_283 (by decide) rfl (fun c_283 => ?_) (fun c_283 => ?_)
                  · refine m_iconst (pc' := 291) (v := nI 0) C dX12_putField_290 (by decide) rfl ?_
                    refine m_lv [0, 1, 2, 3, 4, 5, 6, 7, 8] rfl ?_
                    exact J291 (nI 0) (by rw [if_neg (by rw [(bI_0 _).mp c_283]; decide)])
                  · refine m_iconst (pc' := 287) (v := nI 1) C dX12_putField_286 (by decide) rfl ?_
                    refine m_goto (tgt := 291) C dX12_putField_287 (by decide) ?_
                    refine m_lv [0, 1, 2, 3, 4, 5, 6, 7, 8] rfl ?_
                    exact J291 (nI 1) (by rw [if_pos (ts_of c_283)])
                refine m_iload_n (pc' := 238) C dX12_putField_237 rfl 5 rfl rfl ?_
                refine m_bipush (pc' := 240) (v := nI 100) C dX12_putField_238 (by decide) rfl ?_
                refine m_icmp_ne (pc' := 243) (tgt := 258) C dX12_putField_240 (by decide) rfl (fun c_240 => ?_) (fun c_240 => ?_)
                · have n_240 : ¬ lt = 100 := fun q => c_240 ((nI_eq (by omega) (by omega)).mpr q)
                  refine m_iload (pc' := 260) C dX12_putField_258 2 rfl rfl ?_
                  refine m_iconst (pc' := 261) (v := nI 3) C dX12_putField_260 (by decide) rfl ?_
                  refine m_iconst (pc' := 262) (v := nI 5) C dX12_putField_261 (by decide) rfl ?_
                  refine m_bipush (pc' := 264) (v := nI 10) C dX12_putField_262 (by decide) rfl ?_
                  refine m_bipush (pc' := 266) (v := nI 20) C dX12_putField_264 (by decide) rfl ?_
                  refine m_callSi (pc' := 269) (As := [.int (nI (ixN sz)), .int (nI 3), .int (nI 5), .int (nI 10), .int (nI 20)]) (rest := []) C (kX12_choose hI (i := ixN sz) (c1 := 3) (c2 := 5) (c3 := 10) (c4 := 20) (by omega)) (cwS 5 C.1.2.2.2.2 (goodS tm_6_103 tm_6_104 tm_1_13 tm_6_105) rfl rfl rfl (by decide +kernel) ⟨by decide, by decide⟩) rfl rfl (Nat.le_of_ble_eq_true rfl) dX12_putField_266 rfl ⟨by decide, by decide⟩ (fun x_26 N_26 q_26 => ?_)
                  obtain ⟨e_26, E_26⟩ := q_26
                  replace E_26 := E_26.symm
                  subst E_26
                  replace e_26 := e_26.symm
                  subst e_26
                  refine m_lv [0, 1, 2, 3, 4, 5, 6, 7] rfl ?_
                  exact J269 (nI (chN (ixN sz) 3 5 10 20)) (by rw [ch_u hsz, show lt = 117 by omega])
                · have n_240 : lt = 100 := (nI_eq (by omega) (by omega)).mp (Classical.not_not.mp c_240)
                  refine m_iload (pc' := 245) C dX12_putField_243 2 rfl rfl ?_
                  refine m_iconst (pc' := 246) (v := nI 4) C dX12_putField_245 (by decide) rfl ?_
                  refine m_bipush (pc' := 248) (v := nI 6) C dX12_putField_246 (by decide) rfl ?_
                  refine m_bipush (pc' := 250) (v := nI 11) C dX12_putField_248 (by decide) rfl ?_
                  refine m_bipush (pc' := 252) (v := nI 20) C dX12_putField_250 (by decide) rfl ?_
                  refine m_callSi (pc' := 255) (As := [.int (nI (ixN sz)), .int (nI 4), .int (nI 6), .int (nI 11), .int (nI 20)]) (rest := []) C (kX12_choose hI (i := ixN sz) (c1 := 4) (c2 := 6) (c3 := 11) (c4 := 20) (by omega)) (cwS 5 C.1.2.2.2.2 (goodS tm_6_103 tm_6_104 tm_1_13 tm_6_105) rfl rfl rfl (by decide +kernel) ⟨by decide, by decide⟩) rfl rfl (Nat.le_of_ble_eq_true rfl) dX12_putField_252 rfl ⟨by decide, by decide⟩ (fun x_27 N_27 q_27 => ?_)
                  obtain ⟨e_27, E_27⟩ := q_27
                  replace E_27 := E_27.symm
                  subst E_27
                  replace e_27 := e_27.symm
                  subst e_27
                  refine m_goto (tgt := 269) C dX12_putField_255 (by decide) ?_
                  refine m_lv [0, 1, 2, 3, 4, 5, 6, 7] rfl ?_
                  exact J269 (nI (chN (ixN sz) 4 6 11 20)) (by rw [ch_d hsz, n_240])
              refine m_iload (pc' := 215) C dX12_putField_213 0 rfl rfl ?_
              refine m_if_eq (pc' := 218) (tgt := 224) C dX12_putField_215 (by decide) rfl (fun c_215 => ?_) (fun c_215 => ?_)
              · refine m_lload (pc' := 226) C dX12_putField_224 1 rfl rfl ?_
                refine m_lv [0, 1, 2, 3, 4, 5, 6, 7] rfl ?_
                exact J226 (fdV lt sz (wdv B s sz)) (by rw [if_neg (by rw [(bI_0 _).mp c_215]; decide)])
              · refine m_lload (pc' := 220) C dX12_putField_218 1 rfl rfl ?_
                refine m_lneg (pc' := 221) (v := -(fdV lt sz (wdv B s sz))) C dX12_putField_220 rfl rfl ?_
                refine m_goto (tgt := 226) C dX12_putField_221 (by decide) ?_
                refine m_lv [0, 1, 2, 3, 4, 5, 6, 7] rfl ?_
                exact J226 (-(fdV lt sz (wdv B s sz))) (by rw [if_pos (ts_of c_215)])
            refine m_iload_n (pc' := 193) C dX12_putField_192 rfl 4 rfl rfl ?_
            refine m_bipush (pc' := 195) (v := nI 100) C dX12_putField_193 (by decide) rfl ?_
            refine m_icmp_ne (pc' := 198) (tgt := 209) C dX12_putField_195 (by decide) rfl (fun c_195 => ?_) (fun c_195 => ?_)
            · have n_195 : ¬ lt = 100 := fun q => c_195 ((nI_eq (by omega) (by omega)).mpr q)
              have hz : fdNg lt sz (wdv B s sz) = false := decide_eq_false (fun q => n_195 q.1)
              refine m_iconst (pc' := 210) (v := nI 0) C dX12_putField_209 (by decide) rfl ?_
              refine m_lv [0, 1, 2, 3, 4, 5, 6] rfl ?_
              exact J210 (nI 0) (by rw [hz]; rfl)
            · have n_195 : lt = 100 := (nI_eq (by omega) (by omega)).mp (Classical.not_not.mp c_195)
              refine m_lload (pc' := 200) C dX12_putField_198 0 rfl rfl ?_
              refine m_lconst (pc' := 201) (v := 0) C dX12_putField_200 (by decide) rfl ?_
              refine m_lcmp (pc' := 202) (v := lg_cmp (fdV lt sz (wdv B s sz)) 0) C dX12_putField_201 rfl rfl ?_
              refine m_if_ge (pc' := 205) (tgt := 209) C dX12_putField_202 (by decide) rfl (fun c_202 => ?_) (fun c_202 => ?_)
              · have hz : fdNg lt sz (wdv B s sz) = false := decide_eq_false (fun q => lg_ge.mp c_202 q.2)
                refine m_iconst (pc' := 210) (v := nI 0) C dX12_putField_209 (by decide) rfl ?_
                refine m_lv [0, 1, 2, 3, 4, 5, 6] rfl ?_
                exact J210 (nI 0) (by rw [hz]; rfl)
              · have hz : fdNg lt sz (wdv B s sz) = true := decide_eq_true ⟨n_195, Classical.not_not.mp (fun q => c_202 (lg_ge.mpr q))⟩
                refine m_iconst (pc' := 206) (v := nI 1) C dX12_putField_205 (by decide) rfl ?_
                refine m_goto (tgt := 210) C dX12_putField_206 (by decide) ?_
                refine m_lv [0, 1, 2, 3, 4, 5, 6] rfl ?_
                exact J210 (nI 1) (by rw [hz]; rfl)
          refine m_iload_n (pc' := 156) C dX12_putField_155 rfl 3 rfl rfl ?_
          refine m_bipush (pc' := 158) (v := nI 100) C dX12_putField_156 (by decide) rfl ?_
          refine m_icmp_ne (pc' := 161) (tgt := 188) C dX12_putField_158 (by decide) rfl (fun c_158 => ?_) (fun c_158 => ?_)
          · have n_158 : ¬ lt = 100 := fun q => c_158 ((nI_eq (by omega) (by omega)).mpr q)
            refine m_lload (pc' := 190) C dX12_putField_188 5 rfl rfl ?_
            refine m_lv [0, 1, 2, 3, 4, 5] rfl ?_
            exact J190 (lN (wdv B s sz)) (by unfold fdV; rw [if_neg n_158])
          · have n_158 : lt = 100 := (nI_eq (by omega) (by omega)).mp (Classical.not_not.mp c_158)
            refine m_iload_n (pc' := 162) C dX12_putField_161 rfl 4 rfl rfl ?_
            refine m_bipush (pc' := 164) (v := nI 8) C dX12_putField_162 (by decide) rfl ?_
            refine m_icmp_ge (pc' := 167) (tgt := 188) C dX12_putField_164 (by decide) rfl (fun c_164 => ?_) (fun c_164 => ?_)
            · have n_164 : 8 ≤ sz := (nI_leI (by omega) (by omega)).mp c_164
              refine m_lload (pc' := 190) C dX12_putField_188 5 rfl rfl ?_
              refine m_lv [0, 1, 2, 3, 4, 5] rfl ?_
              exact J190 (lN (wdv B s sz)) (by unfold fdV; rw [if_pos n_158, show sz = 8 by omega, wSar_8])
            · have n_164 : sz < 8 := Nat.lt_of_not_le (fun q => c_164 ((nI_leI (by omega) (by omega)).mpr q))
              refine m_lload (pc' := 169) C dX12_putField_167 5 rfl rfl ?_
              refine m_bipush (pc' := 171) (v := nI 64) C dX12_putField_169 (by decide) rfl ?_
              refine m_bipush (pc' := 173) (v := nI 8) C dX12_putField_171 (by decide) rfl ?_
              refine m_iload_n (pc' := 174) C dX12_putField_173 rfl 4 rfl rfl ?_
              refine m_imul (pc' := 175) (v := nI (8 * sz)) C dX12_putField_174 (pk_mul _ _) rfl ?_
              refine m_isub (pc' := 176) (v := nI (64 - 8 * sz)) C dX12_putField_175 (pk_sub (by omega)) rfl ?_
              refine m_lshl (pc' := 177) (v := (lN (wdv B s sz)) <<< (((nI (64 - 8 * sz))).toInt64 &&& 63)) C dX12_putField_176 rfl rfl ?_
              refine m_bipush (pc' := 179) (v := nI 64) C dX12_putField_177 (by decide) rfl ?_
              refine m_bipush (pc' := 181) (v := nI 8) C dX12_putField_179 (by decide) rfl ?_
              refine m_iload_n (pc' := 182) C dX12_putField_181 rfl 4 rfl rfl ?_
              refine m_imul (pc' := 183) (v := nI (8 * sz)) C dX12_putField_182 (pk_mul _ _) rfl ?_
              refine m_isub (pc' := 184) (v := nI (64 - 8 * sz)) C dX12_putField_183 (pk_sub (by omega)) rfl ?_
              refine m_lshr (pc' := 185) (v := ((lN (wdv B s sz)) <<< (((nI (64 - 8 * sz))).toInt64 &&& 63)) >>> (((nI (64 - 8 * sz))).toInt64 &&& 63)) C dX12_putField_184 rfl rfl ?_
              refine m_goto (tgt := 190) C dX12_putField_185 (by decide) ?_
              refine m_lv [0, 1, 2, 3, 4, 5] rfl ?_
              exact J190 (((lN (wdv B s sz)) <<< (((nI (64 - 8 * sz))).toInt64 &&& 63)) >>> (((nI (64 - 8 * sz))).toInt64 &&& 63)) (by unfold fdV; rw [if_pos n_158]; rfl)
        · have n_142 : lt = 99 := (nI_eq (by omega) (by omega)).mp (Classical.not_not.mp c_142)
          refine m_aload_n (pc' := 146) C dX12_putField_145 rfl 1 rfl rfl ?_
          refine m_lload (pc' := 148) C dX12_putField_146 5 rfl rfl ?_
          refine m_l2i (pc' := 149) (v := nI (wdv B s sz)) C dX12_putField_148 (lN_i _) rfl ?_
          have xdg_29 := hdg.fr i5 (by decide)
          have xdg_30 := xdg_29.fr F_1 (by decide)
          refine m_callVv (pc' := 152) (As := [.int (nI (wdv B s sz))]) (rest := []) C (kX12_putShown hI hn hn2 pro_1 pout_1 xdg_30 (v := (wdv B s sz)) (by have h9 := hW8; rw [h99 n_142] at h9; rw [h99 n_142]; omega)) (cwV 1 C.1.2.2.2.2 (goodV tm_6_106 tm_6_108 tp_75 tm_1_13 tm_6_109) rfl rfl rfl (by decide +kernel) ⟨by decide, by decide⟩) (by omega) pro_1 rfl rfl rfl (Nat.le_of_ble_eq_true rfl) dX12_putField_149 rfl ⟨by decide, by decide⟩ (fun M28 q_28 => ?_)
          obtain ⟨pro_28, pout_28, ⟨D_28, pdg_28⟩, F_28⟩ := q_28
          refine m_goto (tgt := 310) C dX12_putField_152 (by decide) ?_
          refine m_vret C hrt0 hlk0 dX12_putField_310 ?_
          rw [show O ++ (32 :: fldS lt sz (wdv B s sz)) = (O ++ [32]) ++ fldS 99 1 (wdv B s sz) by rw [app1, n_142]; rw [show ∀ z : Nat, fldS 99 sz z = fldS 99 1 z from fun z => by rw [h99 n_142]]]
          exact ⟨pro_28, pout_28, ⟨_, pdg_28⟩, (((i5.sub (by decide)).tr (F_1.sub (by decide))).tr (F_28.sub (by decide)))⟩
      · have n_73 : lt = 120 := (nI_eq (by omega) (by omega)).mp (Classical.not_not.mp c_73)
        refine m_aload_n (pc' := 77) C dX12_putField_76 rfl 1 rfl rfl ?_
        refine m_lload (pc' := 79) C dX12_putField_77 5 rfl rfl ?_
        refine m_cut (σ := Int32) (fun a => a = nI (fB lt)) (fun a => M1) 92 (fun a => [(6, .int (nI (ixN sz))), (0, .ref (ad 52)), (1, .int (nI s)), (2, .int (nI lt)), (3, .int (nI sz)), (4, .long (lN (wdv B s sz)))]) (fun a => [.int (a), .long (lN (wdv B s sz)), .ref (ad 52)]) ?_ (fun J92 => ?_)
        · rintro y9 hj
          try dsimp only at hj ⊢
          subst hj
          refine m_iconst (pc' := 93) (v := bI false) C dX12_putField_92 (by decide) rfl ?_
          have xdg_32 := hdg.fr i5 (by decide)
          have xdg_33 := xdg_32.fr F_1 (by decide)
          refine m_callVv (pc' := 96) (As := [.long (lN (wdv B s sz)), .int (nI (fB lt)), .int (bI false)]) (rest := []) C (kX12_reckon hI hn hn2 pro_1 xdg_33 (lN (wdv B s sz)) (b := fB lt) false (by omega)) (cwV 3 C.1.2.2.2.2 (goodV tm_6_31 tm_6_33 tp_63 tm_1_13 tm_6_34) rfl rfl rfl (by decide +kernel) ⟨by decide, by decide⟩) (by omega) pro_1 rfl rfl rfl (Nat.le_of_ble_eq_true rfl) dX12_putField_93 rfl ⟨by decide, by decide⟩ (fun M31 q_31 => ?_)
          obtain ⟨pro_31, pdg_31, F_31⟩ := q_31
          refine m_aload_n (pc' := 97) C dX12_putField_96 rfl 1 rfl rfl ?_
          refine m_cut (σ := Int32) (fun a => a = nI (lD lt sz)) (fun a => M31) 129 (fun a => [(6, .int (nI (ixN sz))), (0, .ref (ad 52)), (1, .int (nI s)), (2, .int (nI lt)), (3, .int (nI sz)), (4, .long (lN (wdv B s sz)))]) (fun a => [.int (a), .ref (ad 52)]) ?_ (fun J129 => ?_)
          · rintro y9 hj
            try dsimp only at hj ⊢
            subst hj
            refine m_callVv (pc' := 132) (As := [.int (nI (lD lt sz))]) (rest := []) C (kX12_fill hI hn hn2 pro_31 pdg_31 (m := lD lt sz) (by omega)) (cwV 1 C.1.2.2.2.2 (goodV tm_6_39 tm_6_41 tp_64 tm_1_13 tm_6_42) rfl rfl rfl (by decide +kernel) ⟨by decide, by decide⟩) (by omega) pro_31 rfl rfl rfl (Nat.le_of_ble_eq_true rfl) dX12_putField_129 rfl ⟨by decide, by decide⟩ (fun M34 q_34 => ?_)
            obtain ⟨pro_34, pdg_34, F_34⟩ := q_34
            refine m_aload_n (pc' := 133) C dX12_putField_132 rfl 1 rfl rfl ?_
            have xout_36 := pout_1.fr F_31 (by decide)
            have xout_37 := xout_36.fr F_34 (by decide)
            refine m_callVv (pc' := 136) (As := []) (rest := []) C (kX12_putDigits hI hn hn2 pro_34 pdg_34 xout_37 ) (cwV 0 C.1.2.2.2.2 (goodV tm_6_64 tm_6_66 tp_70 tm_1_13 tm_6_67) rfl rfl rfl (by decide +kernel) ⟨by decide, by decide⟩) (by omega) pro_34 rfl rfl rfl (Nat.le_of_ble_eq_true rfl) dX12_putField_133 rfl ⟨by decide, by decide⟩ (fun M35 q_35 => ?_)
            obtain ⟨pro_35, pout_35, F_35⟩ := q_35
            refine m_goto (tgt := 310) C dX12_putField_136 (by decide) ?_
            refine m_vret C hrt0 hlk0 dX12_putField_310 ?_
            have xdg_38 := pdg_34.fr F_35 (by decide)
            rw [uL_lN hW64, List.length_map] at pout_35
            rw [show O ++ (32 :: fldS lt sz (wdv B s sz)) = (O ++ [32]) ++ fldS lt sz (wdv B s sz) from app1, fld_ox (by omega) hW64]
            exact ⟨pro_35, pout_35, ⟨_, xdg_38⟩, (((((i5.sub (by decide)).tr (F_1.sub (by decide))).tr (F_31.sub (by decide))).tr (F_34.sub (by decide))).tr (F_35.sub (by decide)))⟩
          refine m_iload_n (pc' := 98) C dX12_putField_97 rfl 3 rfl rfl ?_
          refine m_bipush (pc' := 100) (v := nI 111) C dX12_putField_98 (by decide) rfl ?_
          refine m_icmp_ne (pc' := 103) (tgt := 118) C dX12_putField_100 (by decide) rfl (fun c_100 => ?_) (fun c_100 => ?_)
          · have n_100 : ¬ lt = 111 := fun q => c_100 ((nI_eq (by omega) (by omega)).mpr q)
            refine m_iload (pc' := 120) C dX12_putField_118 0 rfl rfl ?_
            refine m_iconst (pc' := 121) (v := nI 2) C dX12_putField_120 (by decide) rfl ?_
            refine m_iconst (pc' := 122) (v := nI 4) C dX12_putField_121 (by decide) rfl ?_
            refine m_bipush (pc' := 124) (v := nI 8) C dX12_putField_122 (by decide) rfl ?_
            refine m_bipush (pc' := 126) (v := nI 16) C dX12_putField_124 (by decide) rfl ?_
            refine m_callSi (pc' := 129) (As := [.int (nI (ixN sz)), .int (nI 2), .int (nI 4), .int (nI 8), .int (nI 16)]) (rest := [.ref (ad 52)]) C (kX12_choose hI (i := ixN sz) (c1 := 2) (c2 := 4) (c3 := 8) (c4 := 16) (by omega)) (cwS 5 C.1.2.2.2.2 (goodS tm_6_103 tm_6_104 tm_1_13 tm_6_105) rfl rfl rfl (by decide +kernel) ⟨by decide, by decide⟩) rfl rfl (Nat.le_of_ble_eq_true rfl) dX12_putField_126 rfl ⟨by decide, by decide⟩ (fun x_39 N_39 q_39 => ?_)
            obtain ⟨e_39, E_39⟩ := q_39
            replace E_39 := E_39.symm
            subst E_39
            replace e_39 := e_39.symm
            subst e_39
            refine m_lv [0, 1, 2, 3, 4, 5] rfl ?_
            exact J129 (nI (chN (ixN sz) 2 4 8 16)) (by rw [ch_x hsz, show lt = 120 by omega])
          · have n_100 : lt = 111 := (nI_eq (by omega) (by omega)).mp (Classical.not_not.mp c_100)
            refine m_iload (pc' := 105) C dX12_putField_103 0 rfl rfl ?_
            refine m_iconst (pc' := 106) (v := nI 3) C dX12_putField_105 (by decide) rfl ?_
            refine m_bipush (pc' := 108) (v := nI 6) C dX12_putField_106 (by decide) rfl ?_
            refine m_bipush (pc' := 110) (v := nI 11) C dX12_putField_108 (by decide) rfl ?_
            refine m_bipush (pc' := 112) (v := nI 22) C dX12_putField_110 (by decide) rfl ?_
            refine m_callSi (pc' := 115) (As := [.int (nI (ixN sz)), .int (nI 3), .int (nI 6), .int (nI 11), .int (nI 22)]) (rest := [.ref (ad 52)]) C (kX12_choose hI (i := ixN sz) (c1 := 3) (c2 := 6) (c3 := 11) (c4 := 22) (by omega)) (cwS 5 C.1.2.2.2.2 (goodS tm_6_103 tm_6_104 tm_1_13 tm_6_105) rfl rfl rfl (by decide +kernel) ⟨by decide, by decide⟩) rfl rfl (Nat.le_of_ble_eq_true rfl) dX12_putField_112 rfl ⟨by decide, by decide⟩ (fun x_40 N_40 q_40 => ?_)
            obtain ⟨e_40, E_40⟩ := q_40
            replace E_40 := E_40.symm
            subst E_40
            replace e_40 := e_40.symm
            subst e_40
            refine m_goto (tgt := 129) C dX12_putField_115 (by decide) ?_
            refine m_lv [0, 1, 2, 3, 4, 5] rfl ?_
            exact J129 (nI (chN (ixN sz) 3 6 11 22)) (by rw [ch_o hsz, n_100])
        refine m_iload_n (pc' := 80) C dX12_putField_79 rfl 3 rfl rfl ?_
        refine m_bipush (pc' := 82) (v := nI 111) C dX12_putField_80 (by decide) rfl ?_
        refine m_icmp_ne (pc' := 85) (tgt := 90) C dX12_putField_82 (by decide) rfl (fun c_82 => ?_) (fun c_82 => ?_)
        · have n_82 : ¬ lt = 111 := fun q => c_82 ((nI_eq (by omega) (by omega)).mpr q)
          refine m_bipush (pc' := 92) (v := nI 16) C dX12_putField_90 (by decide) rfl ?_
          refine m_lv [0, 1, 2, 3, 4, 5] rfl ?_
          exact J92 (nI 16) (by rw [show lt = 120 by omega]; rfl)
        · have n_82 : lt = 111 := (nI_eq (by omega) (by omega)).mp (Classical.not_not.mp c_82)
          refine m_bipush (pc' := 87) (v := nI 8) C dX12_putField_85 (by decide) rfl ?_
          refine m_goto (tgt := 92) C dX12_putField_87 (by decide) ?_
          refine m_lv [0, 1, 2, 3, 4, 5] rfl ?_
          exact J92 (nI 8) (by rw [n_82]; rfl)
  · have hj0 : 0 < j := by
      rcases Nat.lt_or_ge 0 j with z | z
      · exact z
      · exact absurd (by rw [show j = 0 by omega]; decide) c_10
    rw [show nI j - nI 1 = nI (j - 1) from pk_sub (by omega)]
    have hb8 := gd_lt0 y1 (s + (j - 1))
    have hV7 : wdv B (s + j) (sz - j) < 256 ^ 7 := Nat.lt_of_lt_of_le (wdv_lt y1 (sz - j) (s + j)) (Nat.pow_le_pow_right (by decide) (by omega))
    have hws : wdv B (s + (j - 1)) (sz - (j - 1)) = B.getD (s + (j - 1)) 0 + 256 * wdv B (s + j) (sz - j) := by rw [show sz - (j - 1) = (sz - j) + 1 by omega, wdv, show s + (j - 1) + 1 = s + j by omega]
    refine m_lload (pc' := 15) C dX12_putField_13 4 rfl rfl ?_
    refine m_bipush (pc' := 17) (v := nI 8) C dX12_putField_15 (by decide) rfl ?_
    refine m_lshl (pc' := 18) (v := (lN (wdv B (s + j) (sz - j))) <<< (((nI 8)).toInt64 &&& 63)) C dX12_putField_17 rfl rfl ?_
    refine m_iload_n (pc' := 19) C dX12_putField_18 rfl 1 rfl rfl ?_
    refine m_iload (pc' := 21) C dX12_putField_19 5 rfl rfl ?_
    refine m_iadd (pc' := 22) (v := nI (s + (j - 1))) C dX12_putField_21 (nI_add _ _) rfl ?_
    refine m_aload_n (pc' := 23) C dX12_putField_22 rfl 0 rfl rfl ?_
    have ff8_41 : Mk 108 = gh (.int (nI B.length)) := (i5 108 (by decide)).trans y2
    refine r_get C hn i4 inW_X12 8 (by decide) ⟨rfl, rfl, rfl⟩ (gW_of tm_5_58) (r_at 8 rfl ff8_41) dX12_putField_23 rfl ?_
    refine m_icmp_ge (pc' := 29) (tgt := 41) C dX12_putField_26 (by decide) rfl (fun c_26 => ?_) (fun c_26 => ?_)
    · have n_26 : B.length ≤ (s + (j - 1)) := (nI_leI (by omega) (by omega)).mp c_26
      refine m_iconst (pc' := 42) (v := nI (B.getD (s + (j - 1)) 0)) C dX12_putField_41 (by rw [gd_out n_26]; rfl) rfl ?_
      refine m_i2l (pc' := 43) (v := lN (B.getD (s + (j - 1)) 0)) C dX12_putField_42 (nI_l (by omega)) rfl ?_
      refine m_lor (pc' := 44) (v := lN (wdv B (s + (j - 1)) (sz - (j - 1)))) C dX12_putField_43 (by rw [hws]; exact shl_or hV7 hb8) rfl ?_
      refine m_lstore (pc' := 46) (lv' := [(4, .long (lN (wdv B (s + (j - 1)) (sz - (j - 1))))), (0, .ref (ad 52)), (1, .int (nI s)), (2, .int (nI lt)), (3, .int (nI sz)), (6, .int (nI (j - 1)))]) C dX12_putField_44 (by decide) rfl rfl ?_
      refine m_iinc (pc' := 49) (v := nI (j - 1) - nI 1) (lv' := [(6, .int (nI (j - 1) - nI 1)), (4, .long (lN (wdv B (s + (j - 1)) (sz - (j - 1))))), (0, .ref (ad 52)), (1, .int (nI s)), (2, .int (nI lt)), (3, .int (nI sz))]) C dX12_putField_46 (k := 5) rfl (by rw [Int32.sub_eq_add_neg]; rfl) (by decide) rfl rfl ?_
      refine m_goto (tgt := 8) C dX12_putField_49 (by decide) ?_
      refine m_lv [2, 3, 4, 5, 1, 0] rfl ?_
      exact ih (j - 1, Mk) (⟨by (try dsimp only); omega, i4, i5⟩) (by simp only; omega)
    · have n_26 : (s + (j - 1)) < B.length := Nat.lt_of_not_le (fun q => c_26 ((nI_leI (by omega) (by omega)).mpr q))
      refine m_aload_n (pc' := 30) C dX12_putField_29 rfl 0 rfl rfl ?_
      refine r_get C hn i4 inW_X12 9 (by decide) ⟨rfl, rfl, rfl⟩ (gW_of tm_5_59) rfl dX12_putField_30 rfl ?_
      refine m_iload_n (pc' := 34) C dX12_putField_33 rfl 1 rfl rfl ?_
      refine m_iload (pc' := 36) C dX12_putField_34 5 rfl rfl ?_
      refine m_iadd (pc' := 37) (v := nI (s + (j - 1))) C dX12_putField_36 (nI_add _ _) rfl ?_
      have f58_42 : Mk 58 = .inl (cy 1, 256, .inl (fun i => nI (yg i))) := (i5 58 (by decide)).trans y4
      refine m_iald (pc' := 38) (v := nI (B.getD (s + (j - 1)) 0)) C 58 (by omega) f58_42 (vp_in_nI (by omega) (by decide)) (by rw [nI_clamp (by omega), y5 _ n_26]) dX12_putField_37 rfl ?_
      refine m_goto (tgt := 42) C dX12_putField_38 (by decide) ?_
      refine m_i2l (pc' := 43) (v := lN (B.getD (s + (j - 1)) 0)) C dX12_putField_42 (nI_l (by omega)) rfl ?_
      refine m_lor (pc' := 44) (v := lN (wdv B (s + (j - 1)) (sz - (j - 1)))) C dX12_putField_43 (by rw [hws]; exact shl_or hV7 hb8) rfl ?_
      refine m_lstore (pc' := 46) (lv' := [(4, .long (lN (wdv B (s + (j - 1)) (sz - (j - 1))))), (0, .ref (ad 52)), (1, .int (nI s)), (2, .int (nI lt)), (3, .int (nI sz)), (6, .int (nI (j - 1)))]) C dX12_putField_44 (by decide) rfl rfl ?_
      refine m_iinc (pc' := 49) (v := nI (j - 1) - nI 1) (lv' := [(6, .int (nI (j - 1) - nI 1)), (4, .long (lN (wdv B (s + (j - 1)) (sz - (j - 1))))), (0, .ref (ad 52)), (1, .int (nI s)), (2, .int (nI lt)), (3, .int (nI sz))]) C dX12_putField_46 (k := 5) rfl (by rw [Int32.sub_eq_add_neg]; rfl) (by decide) rfl rfl ?_
      refine m_goto (tgt := 8) C dX12_putField_49 (by decide) ?_
      refine m_lv [2, 3, 4, 5, 1, 0] rfl ?_
      exact ih (j - 1, Mk) (⟨by (try dsimp only); omega, i4, i5⟩) (by simp only; omega)
