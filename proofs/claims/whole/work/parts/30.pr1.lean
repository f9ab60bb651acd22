theorem kX4_takeX {l : Launch} {D : va_G} {cy : Nat → ClassId} {ad : Nat → Nat} {n : Nat} {A : Nat → Prop} (hI : mI ad n A) {M : Nat → va_E} {fo fa : Nat} {ds : List Nat} {lg : Bool} (h : isFig cy ad n M fo fa ds lg) (x : Int64) {b : Nat} (lg2 : Bool) (hb : b = 8 ∨ b = 10 ∨ b = 16) : mMv l yX4_take (gW yX4_take cX4_take 11 none) { frames := 1, cells := 0, slots := 0, locals := 23 } D cy ad n A [.ref (ad fo), .long x, .int (nI b), .int (bI lg2)] M (fun M' => isFig cy ad n M' fo fa (dg b (uL x)) lg2 ∧ Fr [fo, fa] M M') := by
  have h9 := kX4_take (l := l) (D := D) hI h (v := uL x) (b := b) lg2 (uL_lt x) hb
  rw [lN_uL] at h9
  exact h9
set_option maxHeartbeats 4000000 in
set_option maxRecDepth 100000 in
theorem kX8_hasEnded {l : Launch} {D : va_G} {cy : Nat → ClassId} {ad : Nat → Nat} {n : Nat} {A : Nat → Prop} (hI : mI ad n A) {M : Nat → va_E} (hn : 52 ≤ n) {ended : Bool} (hpr : M 36 = prO ad ended) : mMi l yX8_hasEnded (gW yX8_hasEnded cX8_hasEnded 1 (some .boolean)) { frames := 0, cells := 0, slots := 0, locals := 0 } D cy ad n A [.ref (ad 36)] M (fun res M' => res = bI ended ∧ M' = M) := by
  refine m_entry (cc := cX8_hasEnded) (maxL := 1) (ret := (some .boolean)) (own := RX8) (lv := [(0, .ref (ad 36))]) hI (by decide) rfl rfl (Nat.le_of_ble_eq_true rfl) rfl (fun pX eX sX mX aX bX tX cX C hrt0 hlk0 => ?_)
  refine m_aload_n (pc' := 1) C dX8_hasEnded_0 rfl 0 rfl rfl ?_
  refine m_get (pc' := 4) C 36 (by omega) hpr rfl inW_X8 7 (by decide) (gW_of tm_1_211) rfl rfl dX8_hasEnded_1 rfl ?_
  exact m_iret C hrt0 hlk0 (nar_z _) dX8_hasEnded_4 ⟨rfl, rfl⟩
set_option maxHeartbeats 4000000 in
set_option maxRecDepth 100000 in
theorem kX8_loadNumber {l : Launch} {D : va_G} {cy : Nat → ClassId} {ad : Nat → Nat} {n : Nat} {A : Nat → Prop} (hI : mI ad n A) {M : Nat → va_E} (hn : 52 ≤ n) {ended : Bool} (hpr : M 36 = prO ad ended) {P : List Nat} (hp : isRow cy ad n M 39 40 80 80 P) {ds : List Nat} {lg : Bool} (hf : isFig cy ad n M 1 2 ds lg) (x : Int64) : mMv l yX8_loadNumber (gW yX8_loadNumber cX8_loadNumber 3 none) { frames := 2, cells := 0, slots := 0, locals := 53 } D cy ad n A [.ref (ad 36), .long x] M (fun M' => isRow cy ad n M' 39 40 80 80 (P ++ numT x) ∧ Fr [1, 2, 39, 40] M M') := by
  refine m_entry (cc := cX8_loadNumber) (maxL := 3) (ret := none) (own := RX8) (lv := [(0, .ref (ad 36)), (1, .long (x))]) hI (by decide) rfl rfl (Nat.le_of_ble_eq_true rfl) rfl (fun pX eX sX mX aX bX tX cX C hrt0 hlk0 => ?_)
  refine m_cut (σ := (Nat → va_E)) (fun a => isRow cy ad n a 39 40 80 80 (P ++ (if x < 0 then [45] else [])) ∧ Fr [39, 40] M a) (fun a => a) 15 (fun a => [(0, .ref (ad 36)), (1, .long (x))]) (fun a => []) ?_ (fun J15 => ?_)
  · rintro Mj hj
    try dsimp only at hj ⊢
    obtain ⟨j1, j2⟩ := hj
    refine m_aload_n (pc' := 16) C dX8_loadNumber_15 rfl 0 rfl rfl ?_
    refine m_cut (σ := Int64) (fun a => a = (if x < 0 then -x else x)) (fun a => Mj) 31 (fun a => [(0, .ref (ad 36))]) (fun a => [.long (a), .ref (ad 1)]) ?_ (fun J31 => ?_)
    · rintro z hj
      try dsimp only at hj ⊢
      refine m_bipush (pc' := 33) (v := nI 10) C dX8_loadNumber_31 (by decide) rfl ?_
      refine m_iconst (pc' := 34) (v := bI false) C dX8_loadNumber_33 (by decide) rfl ?_
      have G_2 := hf.fr j2 (by decide) (by decide)
      refine m_callVv (pc' := 37) (As := [.long (z), .int (nI 10), .int (bI false)]) (rest := []) C (kX4_takeX hI G_2 z (b := 10) false (by decide)) (cwV 3 C.1.2.2.2.2 (goodV tm_3_60 tm_3_61 tm_3_62 tm_1_2 tm_3_63) rfl rfl rfl (by decide +kernel) ⟨by decide, by decide⟩) G_2.1 G_2.ob rfl rfl rfl (Nat.le_of_ble_eq_true rfl) dX8_loadNumber_34 rfl ⟨by decide, by decide⟩ (fun M1 q_1 => ?_)
      obtain ⟨G_1, F_1⟩ := q_1
      refine m_aload_n (pc' := 38) C dX8_loadNumber_37 rfl 0 rfl rfl ?_
      have f36_3 : Mj 36 = .inr (8, [.ref (ad 5), .ref (ad 9), .ref (ad 1), .ref (ad 37), .ref (ad 38), .ref (ad 39), .ref (ad 41), .int (bI ended)]) := (j2 36 (by decide)).trans hpr
      have f36_4 : M1 36 = .inr (8, [.ref (ad 5), .ref (ad 9), .ref (ad 1), .ref (ad 37), .ref (ad 38), .ref (ad 39), .ref (ad 41), .int (bI ended)]) := (F_1 36 (by decide)).trans f36_3
      refine m_get (pc' := 41) C 36 (by omega) f36_4 rfl inW_X8 2 (by decide) (gW_of tm_1_206) rfl rfl dX8_loadNumber_38 rfl ?_
      refine m_aload_n (pc' := 42) C dX8_loadNumber_41 rfl 0 rfl rfl ?_
      refine m_get (pc' := 45) C 36 (by omega) f36_4 rfl inW_X8 5 (by decide) (gW_of tm_1_209) rfl rfl dX8_loadNumber_42 rfl ?_
      refine m_iconst (pc' := 46) (v := nI 1) C dX8_loadNumber_45 (by decide) rfl ?_
      have R39_6 := j1.fr F_1 (by decide) (by decide)
      refine m_callVv (pc' := 49) (As := [.ref (ad 39), .int (nI 1)]) (rest := []) C (kX4_writeTo hI G_1 R39_6 (by decide) (m := 1) (by decide)) (cwV 2 C.1.2.2.2.2 (goodV tm_3_67 tm_3_68 tm_3_69 tm_1_2 tm_3_70) rfl rfl rfl (by decide +kernel) ⟨by decide, by decide⟩) G_1.1 G_1.ob rfl rfl rfl (Nat.le_of_ble_eq_true rfl) dX8_loadNumber_46 rfl ⟨by decide, by decide⟩ (fun M5 q_5 => ?_)
      obtain ⟨R_5, F_5⟩ := q_5
      refine m_vret C hrt0 hlk0 dX8_loadNumber_49 ?_
      refine ⟨?_, (((j2.sub (by decide)).tr (F_1.sub (by decide))).tr (F_5.sub (by decide)))⟩
      unfold numT
      rw [← List.append_assoc, ← hj]
      exact R_5
    have f36_7 : Mj 36 = .inr (8, [.ref (ad 5), .ref (ad 9), .ref (ad 1), .ref (ad 37), .ref (ad 38), .ref (ad 39), .ref (ad 41), .int (bI ended)]) := (j2 36 (by decide)).trans hpr
    refine m_get (pc' := 19) C 36 (by omega) f36_7 rfl inW_X8 2 (by decide) (gW_of tm_1_206) rfl rfl dX8_loadNumber_16 rfl ?_
    refine m_lload_n (pc' := 20) C dX8_loadNumber_19 rfl 1 rfl rfl ?_
    refine m_lconst (pc' := 21) (v := 0) C dX8_loadNumber_20 (by decide) rfl ?_
    refine m_lcmp (pc' := 22) (v := lg_cmp x 0) C dX8_loadNumber_21 rfl rfl ?_
    refine m_if_ge (pc' := 25) (tgt := 30) C dX8_loadNumber_22 (by decide) rfl (fun c_22 => ?_) (fun c_22 => ?_)
    · refine m_lload_n (pc' := 31) C dX8_loadNumber_30 rfl 1 rfl rfl ?_
      refine m_lv [0] rfl ?_
      exact J31 x (by first | rw [if_neg ((lcmp_ge x).mp c_22)] | rw [if_pos (Classical.not_not.mp (fun q => c_22 ((lcmp_ge x).mpr q)))])
    · refine m_lload_n (pc' := 26) C dX8_loadNumber_25 rfl 1 rfl rfl ?_
      refine m_lneg (pc' := 27) (v := -x) C dX8_loadNumber_26 rfl rfl ?_
      refine m_goto (tgt := 31) C dX8_loadNumber_27 (by decide) ?_
      refine m_lv [0] rfl ?_
      exact J31 (-x) (by first | rw [if_neg ((lcmp_ge x).mp c_22)] | rw [if_pos (Classical.not_not.mp (fun q => c_22 ((lcmp_ge x).mpr q)))])
  refine m_lload_n (pc' := 1) C dX8_loadNumber_0 rfl 1 rfl rfl ?_
  refine m_lconst (pc' := 2) (v := 0) C dX8_loadNumber_1 (by decide) rfl ?_
  refine m_lcmp (pc' := 3) (v := lg_cmp x 0) C dX8_loadNumber_2 rfl rfl ?_
  refine m_if_ge (pc' := 6) (tgt := 15) C dX8_loadNumber_3 (by decide) rfl (fun c_3 => ?_) (fun c_3 => ?_)
  · refine m_lv [0, 1] rfl ?_
    exact J15 M (⟨by first | (rw [if_neg ((lcmp_ge x).mp c_3), List.append_nil]; exact hp) | (rw [if_pos (Classical.not_not.mp (fun q => c_3 ((lcmp_ge x).mpr q)))]; exact hp), Fr.rf⟩)
  · refine m_aload_n (pc' := 7) C dX8_loadNumber_6 rfl 0 rfl rfl ?_
    refine m_get (pc' := 10) C 36 (by omega) hpr rfl inW_X8 5 (by decide) (gW_of tm_1_209) rfl rfl dX8_loadNumber_7 rfl ?_
    refine m_bipush (pc' := 12) (v := nI 45) C dX8_loadNumber_10 (by decide) rfl ?_
    refine m_callVv (pc' := 15) (As := [.int (nI 45)]) (rest := []) C (kX9_add hI hp (nI 45)) (cwV 1 C.1.2.2.2.2 (goodV tm_2_210 tm_2_211 tm_2_212 tm_1_3 tm_2_213) rfl rfl rfl (by decide +kernel) ⟨by decide, by decide⟩) hp.1 hp.ob rfl rfl rfl (Nat.le_of_ble_eq_true rfl) dX8_loadNumber_12 rfl ⟨by decide, by decide⟩ (fun M8 q_8 => ?_)
    obtain ⟨R_8, F_8⟩ := q_8
    rw [show lowb (nI 45) = 45 by decide] at R_8
    refine m_lv [0, 1] rfl ?_
    exact J15 M8 (⟨by first | (rw [if_neg ((lcmp_ge x).mp c_3), List.append_nil]; exact R_8) | (rw [if_pos (Classical.not_not.mp (fun q => c_3 ((lcmp_ge x).mpr q)))]; exact R_8), (F_8.sub (by simp))⟩)
