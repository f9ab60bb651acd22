set_option maxHeartbeats 4000000 in
set_option maxRecDepth 100000 in
theorem kX11_digitOf {l : Launch} {D : va_G} {cy : Nat → ClassId} {ad : Nat → Nat} {n : Nat} {A : Nat → Prop} (hI : mI ad n A) {M : Nat → va_E} (x b : Int32) : mMi l yX11_digitOf (gW yX11_digitOf cX11_digitOf 3 (some .int)) { frames := 0, cells := 0, slots := 0, locals := 0 } D cy ad n A [.int (x), .int (b)] M (fun res M' => res = digI x b ∧ M' = M) := by
  refine m_entry (cc := cX11_digitOf) (maxL := 3) (ret := (some .int)) (own := RX11) (lv := [(0, .int (x)), (1, .int (b))]) hI (by decide) rfl rfl (Nat.le_of_ble_eq_true rfl) rfl (fun pX eX sX mX aX bX tX cX C hrt0 hlk0 => ?_)
  refine m_iconst (pc' := 1) (v := (-1)) C dX11_digitOf_0 (by decide) rfl ?_
  refine m_istore_n (pc' := 2) (lv' := [(2, .int ((-1))), (0, .int (x)), (1, .int (b))]) C dX11_digitOf_1 rfl (by decide) rfl rfl ?_
  refine m_cut (σ := Int32) (fun a => a = digV x) (fun a => M) 65 (fun a => [(0, .int (x)), (1, .int (b)), (2, .int (a))]) (fun a => []) ?_ (fun J65 => ?_)
  · rintro v hj
    try dsimp only at hj ⊢
    refine m_iload_n (pc' := 66) C dX11_digitOf_65 rfl 2 rfl rfl ?_
    refine m_iload_n (pc' := 67) C dX11_digitOf_66 rfl 1 rfl rfl ?_
    refine m_icmp_ge (pc' := 70) (tgt := 74) C dX11_digitOf_67 (by decide) rfl (fun c_67 => ?_) (fun c_67 => ?_)
    · refine m_iconst (pc' := 75) (v := (-1)) C dX11_digitOf_74 (by decide) rfl ?_
      refine m_iret C hrt0 hlk0 rfl dX11_digitOf_75 ?_
      subst hj
      exact ⟨by unfold digI; first | rw [if_pos c_67] | rw [if_neg c_67], rfl⟩
    · refine m_iload_n (pc' := 71) C dX11_digitOf_70 rfl 2 rfl rfl ?_
      refine m_goto (tgt := 75) C dX11_digitOf_71 (by decide) ?_
      refine m_iret C hrt0 hlk0 rfl dX11_digitOf_75 ?_
      subst hj
      exact ⟨by unfold digI; first | rw [if_pos c_67] | rw [if_neg c_67], rfl⟩
  refine m_iload_n (pc' := 3) C dX11_digitOf_2 rfl 1 rfl rfl ?_
  refine m_bipush (pc' := 5) (v := nI 48) C dX11_digitOf_3 (by decide) rfl ?_
  refine m_icmp_lt (pc' := 8) (tgt := 22) C dX11_digitOf_5 (by decide) rfl (fun c_5 => ?_) (fun c_5 => ?_)
  · refine m_iload_n (pc' := 23) C dX11_digitOf_22 rfl 1 rfl rfl ?_
    refine m_bipush (pc' := 25) (v := nI 97) C dX11_digitOf_23 (by decide) rfl ?_
    refine m_icmp_lt (pc' := 28) (tgt := 45) C dX11_digitOf_25 (by decide) rfl (fun c_25 => ?_) (fun c_25 => ?_)
    · refine m_iload_n (pc' := 46) C dX11_digitOf_45 rfl 1 rfl rfl ?_
      refine m_bipush (pc' := 48) (v := nI 65) C dX11_digitOf_46 (by decide) rfl ?_
      refine m_icmp_lt (pc' := 51) (tgt := 65) C dX11_digitOf_48 (by decide) rfl (fun c_48 => ?_) (fun c_48 => ?_)
      · refine m_lv [1, 2, 0] rfl ?_
        exact J65 (-1) (by simp [digV, *])
      · refine m_iload_n (pc' := 52) C dX11_digitOf_51 rfl 1 rfl rfl ?_
        refine m_bipush (pc' := 54) (v := nI 70) C dX11_digitOf_52 (by decide) rfl ?_
        refine m_icmp_gt (pc' := 57) (tgt := 65) C dX11_digitOf_54 (by decide) rfl (fun c_54 => ?_) (fun c_54 => ?_)
        · refine m_lv [1, 2, 0] rfl ?_
          exact J65 (-1) (by simp [digV, *])
        · refine m_iload_n (pc' := 58) C dX11_digitOf_57 rfl 1 rfl rfl ?_
          refine m_bipush (pc' := 60) (v := nI 65) C dX11_digitOf_58 (by decide) rfl ?_
          refine m_isub (pc' := 61) (v := x - (nI 65)) C dX11_digitOf_60 rfl rfl ?_
          refine m_bipush (pc' := 63) (v := nI 10) C dX11_digitOf_61 (by decide) rfl ?_
          refine m_iadd (pc' := 64) (v := (x - (nI 65)) + (nI 10)) C dX11_digitOf_63 rfl rfl ?_
          refine m_istore_n (pc' := 65) (lv' := [(2, .int ((x - (nI 65)) + (nI 10))), (0, .int (x)), (1, .int (b))]) C dX11_digitOf_64 rfl (by decide) rfl rfl ?_
          refine m_lv [1, 2, 0] rfl ?_
          exact J65 ((x - (nI 65)) + (nI 10)) (by simp [digV, *])
    · refine m_iload_n (pc' := 29) C dX11_digitOf_28 rfl 1 rfl rfl ?_
      refine m_bipush (pc' := 31) (v := nI 102) C dX11_digitOf_29 (by decide) rfl ?_
      refine m_icmp_gt (pc' := 34) (tgt := 45) C dX11_digitOf_31 (by decide) rfl (fun c_31 => ?_) (fun c_31 => ?_)
      · refine m_iload_n (pc' := 46) C dX11_digitOf_45 rfl 1 rfl rfl ?_
        refine m_bipush (pc' := 48) (v := nI 65) C dX11_digitOf_46 (by decide) rfl ?_
        refine m_icmp_lt (pc' := 51) (tgt := 65) C dX11_digitOf_48 (by decide) rfl (fun c_48 => ?_) (fun c_48 => ?_)
        · refine m_lv [1, 2, 0] rfl ?_
          exact J65 (-1) (by simp [digV, *])
        · refine m_iload_n (pc' := 52) C dX11_digitOf_51 rfl 1 rfl rfl ?_
          refine m_bipush (pc' := 54) (v := nI 70) C dX11_digitOf_52 (by decide) rfl ?_
          refine m_icmp_gt (pc' := 57) (tgt := 65) C dX11_digitOf_54 (by decide) rfl (fun c_54 => ?_) (fun c_54 => ?_)
          · refine m_lv [1, 2, 0] rfl ?_
            exact J65 (-1) (by simp [digV, *])
          · refine m_iload_n (pc' := 58) C dX11_digitOf_57 rfl 1 rfl rfl ?_
            refine m_bipush (pc' := 60) (v := nI 65) C dX11_digitOf_58 (by decide) rfl ?_
            refine m_isub (pc' := 61) (v := x - (nI 65)) C dX11_digitOf_60 rfl rfl ?_
            refine m_bipush (pc' := 63) (v := nI 10) C dX11_digitOf_61 (by decide) rfl ?_
            refine m_iadd (pc' := 64) (v := (x - (nI 65)) + (nI 10)) C dX11_digitOf_63 rfl rfl ?_
            refine m_istore_n (pc' := 65) (lv' := [(2, .int ((x - (nI 65)) + (nI 10))), (0, .int (x)), (1, .int (b))]) C dX11_digitOf_64 rfl (by decide) rfl rfl ?_
            refine m_lv [1, 2, 0] rfl ?_
            exact J65 ((x - (nI 65)) + (nI 10)) (by simp [digV, *])
      · refine m_iload_n (pc' := 35) C dX11_digitOf_34 rfl 1 rfl rfl ?_
        refine m_bipush (pc' := 37) (v := nI 97) C dX11_digitOf_35 (by decide) rfl ?_
        refine m_isub (pc' := 38) (v := x - (nI 97)) C dX11_digitOf_37 rfl rfl ?_
        refine m_bipush (pc' := 40) (v := nI 10) C dX11_digitOf_38 (by decide) rfl ?_
        refine m_iadd (pc' := 41) (v := (x - (nI 97)) + (nI 10)) C dX11_digitOf_40 rfl rfl ?_
        refine m_istore_n (pc' := 42) (lv' := [(2, .int ((x - (nI 97)) + (nI 10))), (0, .int (x)), (1, .int (b))]) C dX11_digitOf_41 rfl (by decide) rfl rfl ?_
        refine m_goto (tgt := 65) C dX11_digitOf_42 (by decide) ?_
        refine m_lv [1, 2, 0] rfl ?_
        exact J65 ((x - (nI 97)) + (nI 10)) (by simp [digV, *])
  · refine m_iload_n (pc' := 9) C dX11_digitOf_8 rfl 1 rfl rfl ?_
    refine m_bipush (pc' := 11) (v := nI 57) C dX11_digitOf_9 (by decide) rfl ?_
    refine m_icmp_gt (pc' := 14) (tgt := 22) C dX11_digitOf_11 (by decide) rfl (fun c_11 => ?_) (fun c_11 => ?_)
    · refine m_iload_n (pc' := 23) C dX11_digitOf_22 rfl 1 rfl rfl ?_
      refine m_bipush (pc' := 25) (v := nI 97) C dX11_digitOf_23 (by decide) rfl ?_
      refine m_icmp_lt (pc' := 28) (tgt := 45) C dX11_digitOf_25 (by decide) rfl (fun c_25 => ?_) (fun c_25 => ?_)
      · refine m_iload_n (pc' := 46) C dX11_digitOf_45 rfl 1 rfl rfl ?_
        refine m_bipush (pc' := 48) (v := nI 65) C dX11_digitOf_46 (by decide) rfl ?_
        refine m_icmp_lt (pc' := 51) (tgt := 65) C dX11_digitOf_48 (by decide) rfl (fun c_48 => ?_) (fun c_48 => ?_)
        · refine m_lv [1, 2, 0] rfl ?_
          exact J65 (-1) (by simp [digV, *])
        · refine m_iload_n (pc' := 52) C dX11_digitOf_51 rfl 1 rfl rfl ?_
          refine m_bipush (pc' := 54) (v := nI 70) C dX11_digitOf_52 (by decide) rfl ?_
          refine m_icmp_gt (pc' := 57) (tgt := 65) C dX11_digitOf_54 (by decide) rfl (fun c_54 => ?_) (fun c_54 => ?_)
          · refine m_lv [1, 2, 0] rfl ?_
            exact J65 (-1) (by simp [digV, *])
          · refine m_iload_n (pc' := 58) C dX11_digitOf_57 rfl 1 rfl rfl ?_
            refine m_bipush (pc' := 60) (v := nI 65) C dX11_digitOf_58 (by decide) rfl ?_
            refine m_isub (pc' := 61) (v := x - (nI 65)) C dX11_digitOf_60 rfl rfl ?_
            refine m_bipush (pc' := 63) (v := nI 10) C dX11_digitOf_61 (by decide) rfl ?_
            refine m_iadd (pc' := 64) (v := (x - (nI 65)) + (nI 10)) C dX11_digitOf_63 rfl rfl ?_
            refine m_istore_n (pc' := 65) (lv' := [(2, .int ((x - (nI 65)) + (nI 10))), (0, .int (x)), (1, .int (b))]) C dX11_digitOf_64 rfl (by decide) rfl rfl ?_
            refine m_lv [1, 2, 0] rfl ?_
            exact J65 ((x - (nI 65)) + (nI 10)) (by simp [digV, *])
      · refine m_iload_n (pc' := 29) C dX11_digitOf_28 rfl 1 rfl rfl ?_
        refine m_bipush (pc' := 31) (v := nI 102) C dX11_digitOf_29 (by decide) rfl ?_
        refine m_icmp_gt (pc' := 34) (tgt := 45) C dX11_digitOf_31 (by decide) rfl (fun c_31 => ?_) (fun c_31 => ?_)
        · refine m_iload_n (pc' := 46) C dX11_digitOf_45 rfl 1 rfl rfl ?_
          refine m_bipush (pc' := 48) (v := nI 65) C dX11_digitOf_46 (by decide) rfl ?_
          refine m_icmp_lt (pc' := 51) (tgt := 65) C dX11_digitOf_48 (by decide) rfl (fun c_48 => ?_) (fun c_48 => ?_)
          · refine m_lv [1, 2, 0] rfl ?_
            exact J65 (-1) (by simp [digV, *])
          · refine m_iload_n (pc' := 52) C dX11_digitOf_51 rfl 1 rfl rfl ?_
            refine m_bipush (pc' := 54) (v := nI 70) C dX11_digitOf_52 (by decide) rfl ?_
            refine m_icmp_gt (pc' := 57) (tgt := 65) C dX11_digitOf_54 (by decide) rfl (fun c_54 => ?_) (fun c_54 => ?_)
            · refine m_lv [1, 2, 0] rfl ?_
              exact J65 (-1) (by simp [digV, *])
            · refine m_iload_n (pc' := 58) C dX11_digitOf_57 rfl 1 rfl rfl ?_
              refine m_bipush (pc' := 60) (v := nI 65) C dX11_digitOf_58 (by decide) rfl ?_
              refine m_isub (pc' := 61) (v := x - (nI 65)) C dX11_digitOf_60 rfl rfl ?_
              refine m_bipush (pc' := 63) (v := nI 10) C dX11_digitOf_61 (by decide) rfl ?_
              refine m_iadd (pc' := 64) (v := (x - (nI 65)) + (nI 10)) C dX11_digitOf_63 rfl rfl ?_
              refine m_istore_n (pc' := 65) (lv' := [(2, .int ((x - (nI 65)) + (nI 10))), (0, .int (x)), (1, .int (b))]) C dX11_digitOf_64 rfl (by decide) rfl rfl ?_
              refine m_lv [1, 2, 0] rfl ?_
              exact J65 ((x - (nI 65)) + (nI 10)) (by simp [digV, *])
        · refine m_iload_n (pc' := 35) C dX11_digitOf_34 rfl 1 rfl rfl ?_
          refine m_bipush (pc' := 37) (v := nI 97) C dX11_digitOf_35 (by decide) rfl ?_
          refine m_isub (pc' := 38) (v := x - (nI 97)) C dX11_digitOf_37 rfl rfl ?_
          refine m_bipush (pc' := 40) (v := nI 10) C dX11_digitOf_38 (by decide) rfl ?_
          refine m_iadd (pc' := 41) (v := (x - (nI 97)) + (nI 10)) C dX11_digitOf_40 rfl rfl ?_
          refine m_istore_n (pc' := 42) (lv' := [(2, .int ((x - (nI 97)) + (nI 10))), (0, .int (x)), (1, .int (b))]) C dX11_digitOf_41 rfl (by decide) rfl rfl ?_
          refine m_goto (tgt := 65) C dX11_digitOf_42 (by decide) ?_
          refine m_lv [1, 2, 0] rfl ?_
          exact J65 ((x - (nI 97)) + (nI 10)) (by simp [digV, *])
    · refine m_iload_n (pc' := 15) C dX11_digitOf_14 rfl 1 rfl rfl ?_
      refine m_bipush (pc' := 17) (v := nI 48) C dX11_digitOf_15 (by decide) rfl ?_
      refine m_isub (pc' := 18) (v := x - (nI 48)) C dX11_digitOf_17 rfl rfl ?_
      refine m_istore_n (pc' := 19) (lv' := [(2, .int (x - (nI 48))), (0, .int (x)), (1, .int (b))]) C dX11_digitOf_18 rfl (by decide) rfl rfl ?_
      refine m_goto (tgt := 65) C dX11_digitOf_19 (by decide) ?_
      refine m_lv [1, 2, 0] rfl ?_
      exact J65 (x - (nI 48)) (by simp [digV, *])
set_option maxHeartbeats 4000000 in
set_option maxRecDepth 100000 in
theorem kX11_canBeSeen {l : Launch} {D : va_G} {cy : Nat → ClassId} {ad : Nat → Nat} {n : Nat} {A : Nat → Prop} (hI : mI ad n A) {M : Nat → va_E} (x : Int32) : mMi l yX11_canBeSeen (gW yX11_canBeSeen cX11_canBeSeen 1 (some .boolean)) { frames := 0, cells := 0, slots := 0, locals := 0 } D cy ad n A [.int (x)] M (fun res M' => res = bI (seen x) ∧ M' = M) := by
  refine m_entry (cc := cX11_canBeSeen) (maxL := 1) (ret := (some .boolean)) (own := RX11) (lv := [(0, .int (x))]) hI (by decide) rfl rfl (Nat.le_of_ble_eq_true rfl) rfl (fun pX eX sX mX aX bX tX cX C hrt0 hlk0 => ?_)
  refine m_iload_n (pc' := 1) C dX11_canBeSeen_0 rfl 0 rfl rfl ?_
  refine m_bipush (pc' := 3) (v := nI 32) C dX11_canBeSeen_1 (by decide) rfl ?_
  refine m_icmp_lt (pc' := 6) (tgt := 16) C dX11_canBeSeen_3 (by decide) rfl (fun c_3 => ?_) (fun c_3 => ?_)
  · refine m_iconst (pc' := 17) (v := bI false) C dX11_canBeSeen_16 (by decide) rfl ?_
    refine m_iret C hrt0 hlk0 (nar_z _) dX11_canBeSeen_17 ?_
    exact ⟨by first | (simp [seen, *]; done) | (unfold seen; simp_all; done), rfl⟩
  · refine m_iload_n (pc' := 7) C dX11_canBeSeen_6 rfl 0 rfl rfl ?_
    refine m_bipush (pc' := 9) (v := nI 126) C dX11_canBeSeen_7 (by decide) rfl ?_
    refine m_icmp_gt (pc' := 12) (tgt := 16) C dX11_canBeSeen_9 (by decide) rfl (fun c_9 => ?_) (fun c_9 => ?_)
    · refine m_iconst (pc' := 17) (v := bI false) C dX11_canBeSeen_16 (by decide) rfl ?_
      refine m_iret C hrt0 hlk0 (nar_z _) dX11_canBeSeen_17 ?_
      exact ⟨by first | (simp [seen, *]; done) | (unfold seen; simp_all; done), rfl⟩
    · refine m_iconst (pc' := 13) (v := bI true) C dX11_canBeSeen_12 (by decide) rfl ?_
      refine m_goto (tgt := 17) C dX11_canBeSeen_13 (by decide) ?_
      refine m_iret C hrt0 hlk0 (nar_z _) dX11_canBeSeen_17 ?_
      exact ⟨by first | (simp [seen, *]; done) | (unfold seen; simp_all; done), rfl⟩
set_option maxHeartbeats 4000000 in
set_option maxRecDepth 100000 in
theorem kX11_seenAs {l : Launch} {D : va_G} {cy : Nat → ClassId} {ad : Nat → Nat} {n : Nat} {A : Nat → Prop} (hI : mI ad n A) {M : Nat → va_E} (x : Int32) : mMi l yX11_seenAs (gW yX11_seenAs cX11_seenAs 1 (some .int)) { frames := 1, cells := 0, slots := 0, locals := 20 } D cy ad n A [.int (x)] M (fun res M' => res = (if seen x then x else nI 46) ∧ M' = M) := by
  refine m_entry (cc := cX11_seenAs) (maxL := 1) (ret := (some .int)) (own := RX11) (lv := [(0, .int (x))]) hI (by decide) rfl rfl (Nat.le_of_ble_eq_true rfl) rfl (fun pX eX sX mX aX bX tX cX C hrt0 hlk0 => ?_)
  refine m_iload_n (pc' := 1) C dX11_seenAs_0 rfl 0 rfl rfl ?_
  refine m_callSi (pc' := 4) (As := [.int (x)]) (rest := []) C (kX11_canBeSeen hI x) (cwS 1 C.1.2.2.2.2 (goodS tm_4_193 tm_4_131 tm_1_1 tm_4_132) rfl rfl rfl (by decide +kernel) ⟨by decide, by decide⟩) rfl rfl (Nat.le_of_ble_eq_true rfl) dX11_seenAs_1 rfl ⟨by decide, by decide⟩ (fun x_1 N_1 q_1 => ?_)
  obtain ⟨e_1, E_1⟩ := q_1
  replace E_1 := E_1.symm
  subst E_1
  replace e_1 := e_1.symm
  subst e_1
  refine m_if_eq (pc' := 7) (tgt := 11) C dX11_seenAs_4 (by decide) rfl (fun c_4 => ?_) (fun c_4 => ?_)
  · refine m_bipush (pc' := 13) (v := nI 46) C dX11_seenAs_11 (by decide) rfl ?_
    refine m_iret C hrt0 hlk0 rfl dX11_seenAs_13 ?_
    rw [bI_0] at c_4
    exact ⟨by simp [*], rfl⟩
  · refine m_iload_n (pc' := 8) C dX11_seenAs_7 rfl 0 rfl rfl ?_
    refine m_goto (tgt := 13) C dX11_seenAs_8 (by decide) ?_
    refine m_iret C hrt0 hlk0 rfl dX11_seenAs_13 ?_
    rw [bI_0] at c_4
    exact ⟨by simp [*], rfl⟩
set_option maxHeartbeats 4000000 in
set_option maxRecDepth 100000 in
theorem kX11_groupOf {l : Launch} {D : va_G} {cy : Nat → ClassId} {ad : Nat → Nat} {n : Nat} {A : Nat → Prop} (hI : mI ad n A) {M : Nat → va_E} (x g : Int32) : mMi l yX11_groupOf (gW yX11_groupOf cX11_groupOf 2 (some .int)) { frames := 0, cells := 0, slots := 0, locals := 0 } D cy ad n A [.int (x), .int (g)] M (fun res M' => res = (if g = 0 then x else g) ∧ M' = M) := by
  refine m_entry (cc := cX11_groupOf) (maxL := 2) (ret := (some .int)) (own := RX11) (lv := [(0, .int (x)), (1, .int (g))]) hI (by decide) rfl rfl (Nat.le_of_ble_eq_true rfl) rfl (fun pX eX sX mX aX bX tX cX C hrt0 hlk0 => ?_)
  refine m_iload_n (pc' := 1) C dX11_groupOf_0 rfl 1 rfl rfl ?_
  refine m_if_ne (pc' := 4) (tgt := 8) C dX11_groupOf_1 (by decide) rfl (fun c_1 => ?_) (fun c_1 => ?_)
  · refine m_iload_n (pc' := 9) C dX11_groupOf_8 rfl 1 rfl rfl ?_
    refine m_iret C hrt0 hlk0 rfl dX11_groupOf_9 ?_
    exact ⟨by first | (simp [*]; done) | (simp_all; done), rfl⟩
  · refine m_iload_n (pc' := 5) C dX11_groupOf_4 rfl 0 rfl rfl ?_
    refine m_goto (tgt := 9) C dX11_groupOf_5 (by decide) ?_
    refine m_iret C hrt0 hlk0 rfl dX11_groupOf_9 ?_
    exact ⟨by first | (simp [*]; done) | (simp_all; done), rfl⟩
set_option maxHeartbeats 4000000 in
set_option maxRecDepth 100000 in
theorem kX11_isAddressBase {l : Launch} {D : va_G} {cy : Nat → ClassId} {ad : Nat → Nat} {n : Nat} {A : Nat → Prop} (hI : mI ad n A) {M : Nat → va_E} (x : Int32) : mMi l yX11_isAddressBase (gW yX11_isAddressBase cX11_isAddressBase 1 (some .boolean)) { frames := 0, cells := 0, slots := 0, locals := 0 } D cy ad n A [.int (x)] M (fun res M' => res = bI (decide (x = 0 ∨ x = nI 8 ∨ x = nI 10 ∨ x = nI 16)) ∧ M' = M) := by
  refine m_entry (cc := cX11_isAddressBase) (maxL := 1) (ret := (some .boolean)) (own := RX11) (lv := [(0, .int (x))]) hI (by decide) rfl rfl (Nat.le_of_ble_eq_true rfl) rfl (fun pX eX sX mX aX bX tX cX C hrt0 hlk0 => ?_)
  refine m_iload_n (pc' := 1) C dX11_isAddressBase_0 rfl 0 rfl rfl ?_
  refine m_if_eq (pc' := 4) (tgt := 22) C dX11_isAddressBase_1 (by decide) rfl (fun c_1 => ?_) (fun c_1 => ?_)
  · refine m_iconst (pc' := 23) (v := bI true) C dX11_isAddressBase_22 (by decide) rfl ?_
    refine m_goto (tgt := 27) C dX11_isAddressBase_23 (by decide) ?_
    refine m_iret C hrt0 hlk0 (nar_z _) dX11_isAddressBase_27 ?_
    exact ⟨by first | (simp [*]; done) | (simp_all; done), rfl⟩
  · refine m_iload_n (pc' := 5) C dX11_isAddressBase_4 rfl 0 rfl rfl ?_
    refine m_bipush (pc' := 7) (v := nI 8) C dX11_isAddressBase_5 (by decide) rfl ?_
    refine m_icmp_eq (pc' := 10) (tgt := 22) C dX11_isAddressBase_7 (by decide) rfl (fun c_7 => ?_) (fun c_7 => ?_)
    · refine m_iconst (pc' := 23) (v := bI true) C dX11_isAddressBase_22 (by decide) rfl ?_
      refine m_goto (tgt := 27) C dX11_isAddressBase_23 (by decide) ?_
      refine m_iret C hrt0 hlk0 (nar_z _) dX11_isAddressBase_27 ?_
      exact ⟨by first | (simp [*]; done) | (simp_all; done), rfl⟩
    · refine m_iload_n (pc' := 11) C dX11_isAddressBase_10 rfl 0 rfl rfl ?_
      refine m_bipush (pc' := 13) (v := nI 10) C dX11_isAddressBase_11 (by decide) rfl ?_
      refine m_icmp_eq (pc' := 16) (tgt := 22) C dX11_isAddressBase_13 (by decide) rfl (fun c_13 => ?_) (fun c_13 => ?_)
      · refine m_iconst (pc' := 23) (v := bI true) C dX11_isAddressBase_22 (by decide) rfl ?_
        refine m_goto (tgt := 27) C dX11_isAddressBase_23 (by decide) ?_
        refine m_iret C hrt0 hlk0 (nar_z _) dX11_isAddressBase_27 ?_
        exact ⟨by first | (simp [*]; done) | (simp_all; done), rfl⟩
      · refine m_iload_n (pc' := 17) C dX11_isAddressBase_16 rfl 0 rfl rfl ?_
        refine m_bipush (pc' := 19) (v := nI 16) C dX11_isAddressBase_17 (by decide) rfl ?_
        refine m_icmp_ne (pc' := 22) (tgt := 26) C dX11_isAddressBase_19 (by decide) rfl (fun c_19 => ?_) (fun c_19 => ?_)
        · refine m_iconst (pc' := 27) (v := bI false) C dX11_isAddressBase_26 (by decide) rfl ?_
          refine m_iret C hrt0 hlk0 (nar_z _) dX11_isAddressBase_27 ?_
          exact ⟨by first | (simp [*]; done) | (simp_all; done), rfl⟩
        · refine m_iconst (pc' := 23) (v := bI true) C dX11_isAddressBase_22 (by decide) rfl ?_
          refine m_goto (tgt := 27) C dX11_isAddressBase_23 (by decide) ?_
          refine m_iret C hrt0 hlk0 (nar_z _) dX11_isAddressBase_27 ?_
          exact ⟨by first | (simp [*]; done) | (simp_all; done), rfl⟩
set_option maxHeartbeats 4000000 in
set_option maxRecDepth 100000 in
theorem kX11_isShape {l : Launch} {D : va_G} {cy : Nat → ClassId} {ad : Nat → Nat} {n : Nat} {A : Nat → Prop} (hI : mI ad n A) {M : Nat → va_E} (x g : Int32) : mMi l yX11_isShape (gW yX11_isShape cX11_isShape 2 (some .boolean)) { frames := 0, cells := 0, slots := 0, locals := 0 } D cy ad n A [.int (x), .int (g)] M (fun res M' => res = bI (decide (nI 1 ≤ x ∧ x ≤ nI 32 ∧ 0 ≤ g ∧ g ≤ x)) ∧ M' = M) := by
  refine m_entry (cc := cX11_isShape) (maxL := 2) (ret := (some .boolean)) (own := RX11) (lv := [(0, .int (x)), (1, .int (g))]) hI (by decide) rfl rfl (Nat.le_of_ble_eq_true rfl) rfl (fun pX eX sX mX aX bX tX cX C hrt0 hlk0 => ?_)
  refine m_iload_n (pc' := 1) C dX11_isShape_0 rfl 0 rfl rfl ?_
  refine m_iconst (pc' := 2) (v := nI 1) C dX11_isShape_1 (by decide) rfl ?_
  refine m_icmp_lt (pc' := 5) (tgt := 24) C dX11_isShape_2 (by decide) rfl (fun c_2 => ?_) (fun c_2 => ?_)
  · refine m_iconst (pc' := 25) (v := bI false) C dX11_isShape_24 (by decide) rfl ?_
    refine m_iret C hrt0 hlk0 (nar_z _) dX11_isShape_25 ?_
    refine ⟨?_, rfl⟩
    first | (rw [decide_eq_true ⟨Int32.not_lt.mp c_2, Int32.not_lt.mp c_8, Int32.not_lt.mp c_12, Int32.not_lt.mp c_17⟩]; done) | (rw [decide_eq_false (fun q => absurd q.1 (Int32.not_le.mpr c_2))]; done) | (rw [decide_eq_false (fun q => absurd q.2.1 (Int32.not_le.mpr c_8))]; done) | (rw [decide_eq_false (fun q => absurd q.2.2.1 (Int32.not_le.mpr c_12))]; done) | (rw [decide_eq_false (fun q => absurd q.2.2.2 (Int32.not_le.mpr c_17))]; done)
  · refine m_iload_n (pc' := 6) C dX11_isShape_5 rfl 0 rfl rfl ?_
    refine m_bipush (pc' := 8) (v := nI 32) C dX11_isShape_6 (by decide) rfl ?_
    refine m_icmp_gt (pc' := 11) (tgt := 24) C dX11_isShape_8 (by decide) rfl (fun c_8 => ?_) (fun c_8 => ?_)
    · refine m_iconst (pc' := 25) (v := bI false) C dX11_isShape_24 (by decide) rfl ?_
      refine m_iret C hrt0 hlk0 (nar_z _) dX11_isShape_25 ?_
      refine ⟨?_, rfl⟩
      first | (rw [decide_eq_true ⟨Int32.not_lt.mp c_2, Int32.not_lt.mp c_8, Int32.not_lt.mp c_12, Int32.not_lt.mp c_17⟩]; done) | (rw [decide_eq_false (fun q => absurd q.1 (Int32.not_le.mpr c_2))]; done) | (rw [decide_eq_false (fun q => absurd q.2.1 (Int32.not_le.mpr c_8))]; done) | (rw [decide_eq_false (fun q => absurd q.2.2.1 (Int32.not_le.mpr c_12))]; done) | (rw [decide_eq_false (fun q => absurd q.2.2.2 (Int32.not_le.mpr c_17))]; done)
    · refine m_iload_n (pc' := 12) C dX11_isShape_11 rfl 1 rfl rfl ?_
      refine m_if_lt (pc' := 15) (tgt := 24) C dX11_isShape_12 (by decide) rfl (fun c_12 => ?_) (fun c_12 => ?_)
      · refine m_iconst (pc' := 25) (v := bI false) C dX11_isShape_24 (by decide) rfl ?_
        refine m_iret C hrt0 hlk0 (nar_z _) dX11_isShape_25 ?_
        refine ⟨?_, rfl⟩
        first | (rw [decide_eq_true ⟨Int32.not_lt.mp c_2, Int32.not_lt.mp c_8, Int32.not_lt.mp c_12, Int32.not_lt.mp c_17⟩]; done) | (rw [decide_eq_false (fun q => absurd q.1 (Int32.not_le.mpr c_2))]; done) | (rw [decide_eq_false (fun q => absurd q.2.1 (Int32.not_le.mpr c_8))]; done) | (rw [decide_eq_false (fun q => absurd q.2.2.1 (Int32.not_le.mpr c_12))]; done) | (rw [decide_eq_false (fun q => absurd q.2.2.2 (Int32.not_le.mpr c_17))]; done)
      · refine m_iload_n (pc' := 16) C dX11_isShape_15 rfl 1 rfl rfl ?_
        refine m_iload_n (pc' := 17) C dX11_isShape_16 rfl 0 rfl rfl ?_
        refine m_icmp_gt (pc' := 20) (tgt := 24) C dX11_isShape_17 (by decide) rfl (fun c_17 => ?_) (fun c_17 => ?_)
        · refine m_iconst (pc' := 25) (v := bI false) C dX11_isShape_24 (by decide) rfl ?_
          refine m_iret C hrt0 hlk0 (nar_z _) dX11_isShape_25 ?_
          refine ⟨?_, rfl⟩
          first | (rw [decide_eq_true ⟨Int32.not_lt.mp c_2, Int32.not_lt.mp c_8, Int32.not_lt.mp c_12, Int32.not_lt.mp c_17⟩]; done) | (rw [decide_eq_false (fun q => absurd q.1 (Int32.not_le.mpr c_2))]; done) | (rw [decide_eq_false (fun q => absurd q.2.1 (Int32.not_le.mpr c_8))]; done) | (rw [decide_eq_false (fun q => absurd q.2.2.1 (Int32.not_le.mpr c_12))]; done) | (rw [decide_eq_false (fun q => absurd q.2.2.2 (Int32.not_le.mpr c_17))]; done)
        · refine m_iconst (pc' := 21) (v := bI true) C dX11_isShape_20 (by decide) rfl ?_
          refine m_goto (tgt := 25) C dX11_isShape_21 (by decide) ?_
          refine m_iret C hrt0 hlk0 (nar_z _) dX11_isShape_25 ?_
          refine ⟨?_, rfl⟩
          first | (rw [decide_eq_true ⟨Int32.not_lt.mp c_2, Int32.not_lt.mp c_8, Int32.not_lt.mp c_12, Int32.not_lt.mp c_17⟩]; done) | (rw [decide_eq_false (fun q => absurd q.1 (Int32.not_le.mpr c_2))]; done) | (rw [decide_eq_false (fun q => absurd q.2.1 (Int32.not_le.mpr c_8))]; done) | (rw [decide_eq_false (fun q => absurd q.2.2.1 (Int32.not_le.mpr c_12))]; done) | (rw [decide_eq_false (fun q => absurd q.2.2.2 (Int32.not_le.mpr c_17))]; done)
set_option maxHeartbeats 4000000 in
set_option maxRecDepth 100000 in
theorem kX11_byteOf {l : Launch} {D : va_G} {cy : Nat → ClassId} {ad : Nat → Nat} {n : Nat} {A : Nat → Prop} (hI : mI ad n A) {M : Nat → va_E} (x : Int32) {k : Nat} (hk4 : k < 4) : mMi l yX11_byteOf (gW yX11_byteOf cX11_byteOf 2 (some .int)) { frames := 0, cells := 0, slots := 0, locals := 0 } D cy ad n A [.int (x), .int (nI k)] M (fun res M' => res = nI (wby x k) ∧ M' = M) := by
  refine m_entry (cc := cX11_byteOf) (maxL := 2) (ret := (some .int)) (own := RX11) (lv := [(0, .int (x)), (1, .int (nI k))]) hI (by decide) rfl rfl (Nat.le_of_ble_eq_true rfl) rfl (fun pX eX sX mX aX bX tX cX C hrt0 hlk0 => ?_)
  refine m_iload_n (pc' := 1) C dX11_byteOf_0 rfl 0 rfl rfl ?_
  refine m_bipush (pc' := 3) (v := nI 24) C dX11_byteOf_1 (by decide) rfl ?_
  refine m_bipush (pc' := 5) (v := nI 8) C dX11_byteOf_3 (by decide) rfl ?_
  refine m_iload_n (pc' := 6) C dX11_byteOf_5 rfl 1 rfl rfl ?_
  refine m_imul (pc' := 7) (v := nI (8 * k)) C dX11_byteOf_6 (pk_mul _ _) rfl ?_
  refine m_isub (pc' := 8) (v := nI (24 - 8 * k)) C dX11_byteOf_7 (pk_sub (by omega)) rfl ?_
  refine m_iushr (pc' := 9) (v := ushI x (24 - 8 * k)) C dX11_byteOf_8 (ushI_eq x (by omega)) rfl ?_
  refine m_sipush (pc' := 12) (v := nI 255) C dX11_byteOf_9 (by decide) rfl ?_
  refine m_iand (pc' := 13) (v := nI (wby x k)) C dX11_byteOf_12 (ushI_and x (by omega)) rfl ?_
  exact m_iret C hrt0 hlk0 rfl dX11_byteOf_13 ⟨rfl, rfl⟩
set_option maxHeartbeats 4000000 in
set_option maxRecDepth 100000 in
theorem kX11_charactersIn {l : Launch} {D : va_G} {cy : Nat → ClassId} {ad : Nat → Nat} {n : Nat} {A : Nat → Prop} (hI : mI ad n A) {M : Nat → va_E} (x : Int32) : mMi l yX11_charactersIn (gW yX11_charactersIn cX11_charactersIn 3 (some .int)) { frames := 1, cells := 0, slots := 0, locals := 21 } D cy ad n A [.int (x)] M (fun res M' => res = nI (nzb x 4) ∧ M' = M) := by
  refine m_entry (cc := cX11_charactersIn) (maxL := 3) (ret := (some .int)) (own := RX11) (lv := [(0, .int (x))]) hI (by decide) rfl rfl (Nat.le_of_ble_eq_true rfl) rfl (fun pX eX sX mX aX bX tX cX C hrt0 hlk0 => ?_)
  refine m_iconst (pc' := 1) (v := nI 0) C dX11_charactersIn_0 (by decide) rfl ?_
  refine m_istore_n (pc' := 2) (lv' := [(1, .int (nI 0)), (0, .int (x))]) C dX11_charactersIn_1 rfl (by decide) rfl rfl ?_
  refine m_iconst (pc' := 3) (v := nI 0) C dX11_charactersIn_2 (by decide) rfl ?_
  refine m_istore_n (pc' := 4) (lv' := [(2, .int (nI 0)), (1, .int (nI 0)), (0, .int (x))]) C dX11_charactersIn_3 rfl (by decide) rfl rfl ?_
  refine m_lv [2, 1, 0] rfl ?_
  refine m_loop (σ := Nat × (Nat → va_E)) (fun a => a.2) (fun a => [(0, .int (x)), (1, .int (nI (nzb x a.1))), (2, .int (nI a.1))]) (fun a => a.1 ≤ 4 ∧ M = a.2) (fun a => 4 - a.1) (0, M) (⟨by omega, rfl⟩) ?_
  rintro ⟨k, Mk⟩ hinv ih
  dsimp only at hinv ih ⊢
  obtain ⟨hk4, rfl⟩ := hinv
  refine m_iload_n (pc' := 5) C dX11_charactersIn_4 rfl 2 rfl rfl ?_
  refine m_iconst (pc' := 6) (v := nI 4) C dX11_charactersIn_5 (by decide) rfl ?_
  refine m_icmp_ge (pc' := 9) (tgt := 26) C dX11_charactersIn_6 (by decide) rfl (fun c_6 => ?_) (fun c_6 => ?_)
  · have hk : k = 4 := by
      rcases Nat.lt_or_ge k 4 with q | q
      · exact absurd c_6 (nI_ge q (by omega))
      · omega
    refine m_iload_n (pc' := 27) C dX11_charactersIn_26 rfl 1 rfl rfl ?_
    refine m_iret C hrt0 hlk0 rfl dX11_charactersIn_27 ?_
    subst hk
    exact ⟨rfl, rfl⟩
  · have hlt : k < 4 := by
      rcases Nat.lt_or_ge k 4 with q | q
      · exact q
      · exact absurd (nI_le q (by omega)) c_6
    refine m_iload_n (pc' := 10) C dX11_charactersIn_9 rfl 0 rfl rfl ?_
    refine m_iload_n (pc' := 11) C dX11_charactersIn_10 rfl 2 rfl rfl ?_
    refine m_callSi (pc' := 14) (As := [.int (x), .int (nI k)]) (rest := []) C (kX11_byteOf hI x hlt) (cwS 2 C.1.2.2.2.2 (goodS tm_3_178 tm_3_179 tm_1_1 tm_3_180) rfl rfl rfl (by decide +kernel) ⟨by decide, by decide⟩) rfl rfl (Nat.le_of_ble_eq_true rfl) dX11_charactersIn_11 rfl ⟨by decide, by decide⟩ (fun x_1 N_1 q_1 => ?_)
    obtain ⟨e_1, E_1⟩ := q_1
    replace E_1 := E_1.symm
    subst E_1
    replace e_1 := e_1.symm
    subst e_1
    refine m_if_eq (pc' := 17) (tgt := 20) C dX11_charactersIn_14 (by decide) rfl (fun c_14 => ?_) (fun c_14 => ?_)
    · have hz : wby x k = 0 := by have h9 := nI_inj (by have := wby_lt x k; omega) (by omega) (c_14.trans nI_0.symm); exact h9
      refine m_iinc (pc' := 23) (v := nI (k + 1)) (lv' := [(2, .int (nI (k + 1))), (0, .int (x)), (1, .int (nI (nzb x k)))]) C dX11_charactersIn_20 (k := 2) rfl (nI_add _ _) (by decide) rfl rfl ?_
      refine m_goto (tgt := 4) C dX11_charactersIn_23 (by decide) ?_
      have e9 : nI (nzb x k) = nI (nzb x (k + 1)) := by rw [nzb_succ]; simp [hz]
      rw [e9]
      refine m_lv [1, 2, 0] rfl ?_
      exact ih (k + 1, M) (⟨by omega, rfl⟩) (by simp only; omega)
    · have hz : ¬ wby x k = 0 := fun q => c_14 (by rw [q]; rfl)
      refine m_iinc (pc' := 20) (v := nI ((nzb x k) + 1)) (lv' := [(1, .int (nI ((nzb x k) + 1))), (0, .int (x)), (2, .int (nI k))]) C dX11_charactersIn_17 (k := 1) rfl (nI_add _ _) (by decide) rfl rfl ?_
      refine m_iinc (pc' := 23) (v := nI (k + 1)) (lv' := [(2, .int (nI (k + 1))), (1, .int (nI ((nzb x k) + 1))), (0, .int (x))]) C dX11_charactersIn_20 (k := 2) rfl (nI_add _ _) (by decide) rfl rfl ?_
      refine m_goto (tgt := 4) C dX11_charactersIn_23 (by decide) ?_
      have e9 : nI ((nzb x k) + 1) = nI (nzb x (k + 1)) := by rw [nzb_succ]; simp [hz]
      rw [e9]
      refine m_lv [2, 1, 0] rfl ?_
      exact ih (k + 1, M) (⟨by omega, rfl⟩) (by simp only; omega)
set_option maxHeartbeats 4000000 in
set_option maxRecDepth 100000 in
theorem kX11_endsGroup {l : Launch} {D : va_G} {cy : Nat → ClassId} {ad : Nat → Nat} {n : Nat} {A : Nat → Prop} (hI : mI ad n A) {M : Nat → va_E} {k many g : Nat} (hk3 : k < 2 ^ 30) (hm3 : many < 2 ^ 30) (hg3 : g < 2 ^ 30) (hg : 0 < g) : mMi l yX11_endsGroup (gW yX11_endsGroup cX11_endsGroup 3 (some .boolean)) { frames := 0, cells := 0, slots := 0, locals := 0 } D cy ad n A [.int (nI k), .int (nI many), .int (nI g)] M (fun res M' => res = bI (egB k many g) ∧ M' = M) := by
  refine m_entry (cc := cX11_endsGroup) (maxL := 3) (ret := (some .boolean)) (own := RX11) (lv := [(0, .int (nI k)), (1, .int (nI many)), (2, .int (nI g))]) hI (by decide) rfl rfl (Nat.le_of_ble_eq_true rfl) rfl (fun pX eX sX mX aX bX tX cX C hrt0 hlk0 => ?_)
  refine m_iload_n (pc' := 1) C dX11_endsGroup_0 rfl 0 rfl rfl ?_
  refine m_iconst (pc' := 2) (v := nI 1) C dX11_endsGroup_1 (by decide) rfl ?_
  refine m_iadd (pc' := 3) (v := nI (k + 1)) C dX11_endsGroup_2 (nI_add _ _) rfl ?_
  refine m_iload_n (pc' := 4) C dX11_endsGroup_3 rfl 1 rfl rfl ?_
  refine m_icmp_eq (pc' := 7) (tgt := 19) C dX11_endsGroup_4 (by decide) rfl (fun c_4 => ?_) (fun c_4 => ?_)
  · have h1 : k + 1 = many := nI_inj (by omega) (by omega) c_4
    refine m_iconst (pc' := 20) (v := bI true) C dX11_endsGroup_19 (by decide) rfl ?_
    refine m_goto (tgt := 24) C dX11_endsGroup_20 (by decide) ?_
    refine m_iret C hrt0 hlk0 (nar_z _) dX11_endsGroup_24 ?_
    exact ⟨by first | rw [egB_t1 h1] | rw [egB_t2 h2] | rw [egB_f h1 h2], rfl⟩
  · have h1 : ¬ k + 1 = many := fun q => c_4 (by rw [q])
    refine m_iload_n (pc' := 8) C dX11_endsGroup_7 rfl 2 rfl rfl ?_
    refine m_if_le (pc' := 11) (tgt := 23) C dX11_endsGroup_8 (by decide) rfl (fun c_8 => ?_) (fun c_8 => ?_)
    · exact absurd c_8 (nI_nle hg (by omega))
    · refine m_iload_n (pc' := 12) C dX11_endsGroup_11 rfl 0 rfl rfl ?_
      refine m_iconst (pc' := 13) (v := nI 1) C dX11_endsGroup_12 (by decide) rfl ?_
      refine m_iadd (pc' := 14) (v := nI (k + 1)) C dX11_endsGroup_13 (nI_add _ _) rfl ?_
      refine m_iload_n (pc' := 15) C dX11_endsGroup_14 rfl 2 rfl rfl ?_
      refine m_irem (pc' := 16) (v := nI ((k + 1) % g)) C dX11_endsGroup_15 (nI_ne0 hg (by omega)) (pk_rem (by omega) hg (by omega)) rfl ?_
      refine m_if_ne (pc' := 19) (tgt := 23) C dX11_endsGroup_16 (by decide) rfl (fun c_16 => ?_) (fun c_16 => ?_)
      · have h2 : ¬ (k + 1) % g = 0 := fun q => c_16 (by rw [q]; rfl)
        refine m_iconst (pc' := 24) (v := bI false) C dX11_endsGroup_23 (by decide) rfl ?_
        refine m_iret C hrt0 hlk0 (nar_z _) dX11_endsGroup_24 ?_
        exact ⟨by first | rw [egB_t1 h1] | rw [egB_t2 h2] | rw [egB_f h1 h2], rfl⟩
      · have h2 : (k + 1) % g = 0 := by
          have h3 := Nat.mod_lt (k + 1) hg
          have h4 := Classical.not_not.mp c_16
          exact nI_inj (by omega) (by omega) (h4.trans nI_0.symm)
        refine m_iconst (pc' := 20) (v := bI true) C dX11_endsGroup_19 (by decide) rfl ?_
        refine m_goto (tgt := 24) C dX11_endsGroup_20 (by decide) ?_
        refine m_iret C hrt0 hlk0 (nar_z _) dX11_endsGroup_24 ?_
        exact ⟨by first | rw [egB_t1 h1] | rw [egB_t2 h2] | rw [egB_f h1 h2], rfl⟩
set_option maxHeartbeats 4000000 in
set_option maxRecDepth 100000 in
theorem kX11_pairsWidth {l : Launch} {D : va_G} {cy : Nat → ClassId} {ad : Nat → Nat} {n : Nat} {A : Nat → Prop} (hI : mI ad n A) {M : Nat → va_E} {q g : Nat} (hq3 : q < 2 ^ 29) (hg3 : g < 2 ^ 30) (hg : 0 < g) : mMi l yX11_pairsWidth (gW yX11_pairsWidth cX11_pairsWidth 4 (some .int)) { frames := 1, cells := 0, slots := 0, locals := 22 } D cy ad n A [.int (nI q), .int (nI g)] M (fun res M' => res = nI (pwN q g) ∧ M' = M) := by
  refine m_entry (cc := cX11_pairsWidth) (maxL := 4) (ret := (some .int)) (own := RX11) (lv := [(0, .int (nI q)), (1, .int (nI g))]) hI (by decide) rfl rfl (Nat.le_of_ble_eq_true rfl) rfl (fun pX eX sX mX aX bX tX cX C hrt0 hlk0 => ?_)
  refine m_iconst (pc' := 1) (v := nI 0) C dX11_pairsWidth_0 (by decide) rfl ?_
  refine m_istore_n (pc' := 2) (lv' := [(2, .int (nI 0)), (0, .int (nI q)), (1, .int (nI g))]) C dX11_pairsWidth_1 rfl (by decide) rfl rfl ?_
  refine m_iconst (pc' := 3) (v := nI 0) C dX11_pairsWidth_2 (by decide) rfl ?_
  refine m_istore_n (pc' := 4) (lv' := [(3, .int (nI 0)), (2, .int (nI 0)), (0, .int (nI q)), (1, .int (nI g))]) C dX11_pairsWidth_3 rfl (by decide) rfl rfl ?_
  refine m_lv [2, 3, 1, 0] rfl ?_
  refine m_loop (σ := Nat × (Nat → va_E)) (fun a => a.2) (fun a => [(0, .int (nI q)), (1, .int (nI g)), (2, .int (nI (egN q g a.1))), (3, .int (nI a.1))]) (fun a => a.1 ≤ q ∧ M = a.2) (fun a => q - a.1) (0, M) (⟨Nat.zero_le _, rfl⟩) ?_
  rintro ⟨k, Mk⟩ hinv ih
  dsimp only at hinv ih ⊢
  obtain ⟨hkq, rfl⟩ := hinv
  have hle := egN_le q g k
  refine m_iload_n (pc' := 5) C dX11_pairsWidth_4 rfl 3 rfl rfl ?_
  refine m_iload_n (pc' := 6) C dX11_pairsWidth_5 rfl 0 rfl rfl ?_
  refine m_icmp_ge (pc' := 9) (tgt := 27) C dX11_pairsWidth_6 (by decide) rfl (fun c_6 => ?_) (fun c_6 => ?_)
  · have hk : k = q := by
      rcases Nat.lt_or_ge k q with z | z
      · exact absurd c_6 (nI_ge z (by omega))
      · omega
    refine m_iconst (pc' := 28) (v := nI 2) C dX11_pairsWidth_27 (by decide) rfl ?_
    refine m_iload_n (pc' := 29) C dX11_pairsWidth_28 rfl 0 rfl rfl ?_
    refine m_imul (pc' := 30) (v := nI (2 * q)) C dX11_pairsWidth_29 (pk_mul _ _) rfl ?_
    refine m_iload_n (pc' := 31) C dX11_pairsWidth_30 rfl 2 rfl rfl ?_
    refine m_iadd (pc' := 32) (v := nI (2 * q + egN q g k)) C dX11_pairsWidth_31 (nI_add _ _) rfl ?_
    refine m_iret C hrt0 hlk0 rfl dX11_pairsWidth_32 ?_
    subst hk
    exact ⟨rfl, rfl⟩
  · have hlt : k < q := by
      rcases Nat.lt_or_ge k q with z | z
      · exact z
      · exact absurd (nI_le z (by omega)) c_6
    refine m_iload_n (pc' := 10) C dX11_pairsWidth_9 rfl 3 rfl rfl ?_
    refine m_iload_n (pc' := 11) C dX11_pairsWidth_10 rfl 0 rfl rfl ?_
    refine m_iload_n (pc' := 12) C dX11_pairsWidth_11 rfl 1 rfl rfl ?_
    refine m_callSi (pc' := 15) (As := [.int (nI k), .int (nI q), .int (nI g)]) (rest := []) C (kX11_endsGroup hI (by omega) (by omega) (by omega) hg) (cwS 3 C.1.2.2.2.2 (goodS tm_4_174 tm_4_175 tm_1_1 tm_4_176) rfl rfl rfl (by decide +kernel) ⟨by decide, by decide⟩) rfl rfl (Nat.le_of_ble_eq_true rfl) dX11_pairsWidth_12 rfl ⟨by decide, by decide⟩ (fun x_1 N_1 q_1 => ?_)
    obtain ⟨e_1, E_1⟩ := q_1
    replace E_1 := E_1.symm
    subst E_1
    replace e_1 := e_1.symm
    subst e_1
    refine m_if_eq (pc' := 18) (tgt := 21) C dX11_pairsWidth_15 (by decide) rfl (fun c_15 => ?_) (fun c_15 => ?_)
    · have hz : egB k q g = false := (bI_0 _).mp c_15
      refine m_iinc (pc' := 24) (v := nI (k + 1)) (lv' := [(3, .int (nI (k + 1))), (0, .int (nI q)), (1, .int (nI g)), (2, .int (nI (egN q g k)))]) C dX11_pairsWidth_21 (k := 3) rfl (nI_add _ _) (by decide) rfl rfl ?_
      refine m_goto (tgt := 4) C dX11_pairsWidth_24 (by decide) ?_
      have e9 : nI (egN q g k) = nI (egN q g (k + 1)) := by rw [egN_succ]; simp [hz]
      rw [e9]
      refine m_lv [1, 2, 3, 0] rfl ?_
      exact ih (k + 1, M) (⟨hlt, rfl⟩) (by simp only; omega)
    · have hz : egB k q g = true := by cases h : egB k q g; exact absurd ((bI_0 _).mpr h) c_15; rfl
      refine m_iinc (pc' := 21) (v := nI ((egN q g k) + 1)) (lv' := [(2, .int (nI ((egN q g k) + 1))), (0, .int (nI q)), (1, .int (nI g)), (3, .int (nI k))]) C dX11_pairsWidth_18 (k := 2) rfl (nI_add _ _) (by decide) rfl rfl ?_
      refine m_iinc (pc' := 24) (v := nI (k + 1)) (lv' := [(3, .int (nI (k + 1))), (2, .int (nI ((egN q g k) + 1))), (0, .int (nI q)), (1, .int (nI g))]) C dX11_pairsWidth_21 (k := 3) rfl (nI_add _ _) (by decide) rfl rfl ?_
      refine m_goto (tgt := 4) C dX11_pairsWidth_24 (by decide) ?_
      have e9 : nI ((egN q g k) + 1) = nI (egN q g (k + 1)) := by rw [egN_succ]; simp [hz]
      rw [e9]
      refine m_lv [2, 3, 1, 0] rfl ?_
      exact ih (k + 1, M) (⟨hlt, rfl⟩) (by simp only; omega)
