theorem kX4_takeX {l : Launch} {D : va_G} {cy : Nat → ClassId} {ad : Nat → Nat} {n : Nat} {A : Nat → Prop} (hI : mI ad n A) {M : Nat → va_E} {fo fa : Nat} {ds : List Nat} {lg : Bool} (h : isFig cy ad n M fo fa ds lg) (x : Int64) {b : Nat} (lg2 : Bool) (hb : b = 8 ∨ b = 10 ∨ b = 16) : mMv l yX4_take (gW yX4_take cX4_take 11 none) { frames := 1, cells := 0, slots := 0, locals := 23 } D cy ad n A [.ref (ad fo), .long x, .int (nI b), .int (bI lg2)] M (fun M' => isFig cy ad n M' fo fa (dg b (uL x)) lg2 ∧ Fr [fo, fa] M M') := by
  have h9 := kX4_take (l := l) (D := D) hI h (v := uL x) (b := b) lg2 (uL_lt x) hb
  rw [lN_uL] at h9
  exact h9
set_option maxHeartbeats 4000000 in
set_option maxRecDepth 100000 in
theorem kX8_hasEnded {l : Launch} {D : va_G} {cy : Nat → ClassId} {ad : Nat → Nat} {n : Nat} {A : Nat → Prop} (hI : mI ad n A) {M : Nat → va_E} (hn : 52 ≤ n) {ended : Bool} (hpr : M 36 = prO ad ended) : mMi l yX8_hasEnded (gW yX8_hasEnded cX8_hasEnded 1 (some .boolean)) { frames := 0, cells := 0, slots := 0, locals := 0 } D cy ad n A [.ref (ad 36)] M (fun res M' => res = bI ended ∧ M' = M) := by
  refine m_entry (cc := cX8_hasEnded) (maxL := 1) (ret := (some .boolean)) (own := RX8) (lv := [(0, .ref (ad 36))]) hI (by decide) rfl rfl (Nat.le_of_ble_eq_true rfl) rfl (fun pX eX sX mX aX bX tX cX C hrt0 hlk0 => ?_)
  refine m_aload_n (pc' := 1) C dX8_hasEnded_0 rfl 0 rfl rfl ?_
  refine m_get (pc' := 4) C 36 (by omega) hpr rfl inW_X8 7 (by decide) (gW_of tm_1_211) rfl rfl dX8_hasEnded_1 rfl ?_
  exact m_iret C hrt0 hlk0 (nar_z _) dX8_hasEnded_4 ⟨rfl, rfl⟩
set_option maxHeartbeats 4000000 in
set_option maxRecDepth 100000 in
theorem kX8_loadNumber {l : Launch} {D : va_G} {cy : Nat → ClassId} {ad : Nat → Nat} {n : Nat} {A : Nat → Prop} (hI : mI ad n A) {M : Nat → va_E} (hn : 52 ≤ n) {ended : Bool} (hpr : M 36 = prO ad ended) {P : List Nat} (hp : isRow cy ad n M 39 40 80 80 P) {ds : List Nat} {lg : Bool} (hf : isFig cy ad n M 1 2 ds lg) (x : Int64) : mMv l yX8_loadNumber (gW yX8_loadNumber cX8_loadNumber 3 none) { frames := 2, cells := 0, slots := 0, locals := 53 } D cy ad n A [.ref (ad 36), .long x] M (fun M' => isRow cy ad n M' 39 40 80 80 (P ++ numT x) ∧ (∃ (ds2 : List Nat) (lg2 : Bool), isFig cy ad n M' 1 2 ds2 lg2) ∧ Fr [1, 2, 39, 40] M M') := by
  refine m_entry (cc := cX8_loadNumber) (maxL := 3) (ret := none) (own := RX8) (lv := [(0, .ref (ad 36)), (1, .long (x))]) hI (by decide) rfl rfl (Nat.le_of_ble_eq_true rfl) rfl (fun pX eX sX mX aX bX tX cX C hrt0 hlk0 => ?_)
  refine m_cut (σ := (Nat → va_E)) (fun a => isRow cy ad n a 39 40 80 80 (P ++ (if x < 0 then [45] else [])) ∧ Fr [39, 40] M a) (fun a => a) 15 (fun a => [(0, .ref (ad 36)), (1, .long (x))]) (fun a => []) ?_ (fun J15 => ?_)
  · rintro Mj hj
    try dsimp only at hj ⊢
    obtain ⟨j1, j2⟩ := hj
    refine m_aload_n (pc' := 16) C dX8_loadNumber_15 rfl 0 rfl rfl ?_
    refine m_cut (σ := Int64) (fun a => a = (if x < 0 then -x else x)) (fun a => Mj) 31 (fun a => [(0, .ref (ad 36))]) (fun a => [.long (a), .ref (ad 1)]) ?_ (fun J31 => ?_)
    · rintro z hj
      try dsimp only at hj ⊢
      refine m_bipush (pc' := 33) (v := nI 10) C dX8_loadNumber_31 (by decide) rfl ?_
      refine m_iconst (pc' := 34) (v := bI false) C dX8_loadNumber_33 (by decide) rfl ?_
      have G_2 := hf.fr j2 (by decide) (by decide)
      refine m_callVv (pc' := 37) (As := [.long (z), .int (nI 10), .int (bI false)]) (rest := []) C (kX4_takeX hI G_2 z (b := 10) false (by decide)) (cwV 3 C.1.2.2.2.2 (goodV tm_3_60 tm_3_61 tm_3_62 tm_1_2 tm_3_63) rfl rfl rfl (by decide +kernel) ⟨by decide, by decide⟩) G_2.1 G_2.ob rfl rfl rfl (Nat.le_of_ble_eq_true rfl) dX8_loadNumber_34 rfl ⟨by decide, by decide⟩ (fun M1 q_1 => ?_)
      obtain ⟨G_1, F_1⟩ := q_1
      refine m_aload_n (pc' := 38) C dX8_loadNumber_37 rfl 0 rfl rfl ?_
      have f36_3 : Mj 36 = .inr (8, [.ref (ad 5), .ref (ad 9), .ref (ad 1), .ref (ad 37), .ref (ad 38), .ref (ad 39), .ref (ad 41), .int (bI ended)]) := (j2 36 (by decide)).trans hpr
      have f36_4 : M1 36 = .inr (8, [.ref (ad 5), .ref (ad 9), .ref (ad 1), .ref (ad 37), .ref (ad 38), .ref (ad 39), .ref (ad 41), .int (bI ended)]) := (F_1 36 (by decide)).trans f36_3
      refine m_get (pc' := 41) C 36 (by omega) f36_4 rfl inW_X8 2 (by decide) (gW_of tm_1_206) rfl rfl dX8_loadNumber_38 rfl ?_
      refine m_aload_n (pc' := 42) C dX8_loadNumber_41 rfl 0 rfl rfl ?_
      refine m_get (pc' := 45) C 36 (by omega) f36_4 rfl inW_X8 5 (by decide) (gW_of tm_1_209) rfl rfl dX8_loadNumber_42 rfl ?_
      refine m_iconst (pc' := 46) (v := nI 1) C dX8_loadNumber_45 (by decide) rfl ?_
      have R39_6 := j1.fr F_1 (by decide) (by decide)
      refine m_callVv (pc' := 49) (As := [.ref (ad 39), .int (nI 1)]) (rest := []) C (kX4_writeTo hI G_1 R39_6 (by decide) (m := 1) (by decide)) (cwV 2 C.1.2.2.2.2 (goodV tm_3_67 tm_3_68 tm_3_69 tm_1_2 tm_3_70) rfl rfl rfl (by decide +kernel) ⟨by decide, by decide⟩) G_1.1 G_1.ob rfl rfl rfl (Nat.le_of_ble_eq_true rfl) dX8_loadNumber_46 rfl ⟨by decide, by decide⟩ (fun M5 q_5 => ?_)
      obtain ⟨R_5, F_5⟩ := q_5
      refine m_vret C hrt0 hlk0 dX8_loadNumber_49 ?_
      have G_7 := G_1.fr F_5 (by decide) (by decide)
      refine ⟨?_, ⟨_, _, G_7⟩, (((j2.sub (by decide)).tr (F_1.sub (by decide))).tr (F_5.sub (by decide)))⟩
      unfold numT
      rw [← List.append_assoc, ← hj]
      exact R_5
    have f36_8 : Mj 36 = .inr (8, [.ref (ad 5), .ref (ad 9), .ref (ad 1), .ref (ad 37), .ref (ad 38), .ref (ad 39), .ref (ad 41), .int (bI ended)]) := (j2 36 (by decide)).trans hpr
    refine m_get (pc' := 19) C 36 (by omega) f36_8 rfl inW_X8 2 (by decide) (gW_of tm_1_206) rfl rfl dX8_loadNumber_16 rfl ?_
    refine m_lload_n (pc' := 20) C dX8_loadNumber_19 rfl 1 rfl rfl ?_
    refine m_lconst (pc' := 21) (v := 0) C dX8_loadNumber_20 (by decide) rfl ?_
    refine m_lcmp (pc' := 22) (v := lg_cmp x 0) C dX8_loadNumber_21 rfl rfl ?_
    refine m_if_ge (pc' := 25) (tgt := 30) C dX8_loadNumber_22 (by decide) rfl (fun c_22 => ?_) (fun c_22 => ?_)
    · refine m_lload_n (pc' := 31) C dX8_loadNumber_30 rfl 1 rfl rfl ?_
      refine m_lv [0] rfl ?_
      exact J31 x (by first | rw [if_neg ((lcmp_ge x).mp c_22)] | rw [if_pos (Classical.not_not.mp (fun q => c_22 ((lcmp_ge x).mpr q)))])
    · refine m_lload_n (pc' := 26) C dX8_loadNumber_25 rfl 1 rfl rfl ?_
      refine m_lneg (pc' := 27) (v := -x) C dX8_loadNumber_26 rfl rfl ?_
      refine m_goto (tgt := 31) C dX8_loadNumber_27 (by decide) ?_
      refine m_lv [0] rfl ?_
      exact J31 (-x) (by first | rw [if_neg ((lcmp_ge x).mp c_22)] | rw [if_pos (Classical.not_not.mp (fun q => c_22 ((lcmp_ge x).mpr q)))])
  refine m_lload_n (pc' := 1) C dX8_loadNumber_0 rfl 1 rfl rfl ?_
  refine m_lconst (pc' := 2) (v := 0) C dX8_loadNumber_1 (by decide) rfl ?_
  refine m_lcmp (pc' := 3) (v := lg_cmp x 0) C dX8_loadNumber_2 rfl rfl ?_
  refine m_if_ge (pc' := 6) (tgt := 15) C dX8_loadNumber_3 (by decide) rfl (fun c_3 => ?_) (fun c_3 => ?_)
  · refine m_lv [0, 1] rfl ?_
    exact J15 M (⟨by first | (rw [if_neg ((lcmp_ge x).mp c_3), List.append_nil]; exact hp) | (rw [if_pos (Classical.not_not.mp (fun q => c_3 ((lcmp_ge x).mpr q)))]; exact hp), Fr.rf⟩)
  · refine m_aload_n (pc' := 7) C dX8_loadNumber_6 rfl 0 rfl rfl ?_
    refine m_get (pc' := 10) C 36 (by omega) hpr rfl inW_X8 5 (by decide) (gW_of tm_1_209) rfl rfl dX8_loadNumber_7 rfl ?_
    refine m_bipush (pc' := 12) (v := nI 45) C dX8_loadNumber_10 (by decide) rfl ?_
    refine m_callVv (pc' := 15) (As := [.int (nI 45)]) (rest := []) C (kX9_add hI hp (nI 45)) (cwV 1 C.1.2.2.2.2 (goodV tm_2_210 tm_2_211 tm_2_212 tm_1_3 tm_2_213) rfl rfl rfl (by decide +kernel) ⟨by decide, by decide⟩) hp.1 hp.ob rfl rfl rfl (Nat.le_of_ble_eq_true rfl) dX8_loadNumber_12 rfl ⟨by decide, by decide⟩ (fun M9 q_9 => ?_)
    obtain ⟨R_9, F_9⟩ := q_9
    rw [show lowb (nI 45) = 45 by decide] at R_9
    refine m_lv [0, 1] rfl ?_
    exact J15 M9 (⟨by first | (rw [if_neg ((lcmp_ge x).mp c_3), List.append_nil]; exact R_9) | (rw [if_pos (Classical.not_not.mp (fun q => c_3 ((lcmp_ge x).mpr q)))]; exact R_9), (F_9.sub (by simp))⟩)
set_option maxHeartbeats 4000000 in
set_option maxRecDepth 100000 in
theorem kX8_loadText_n {l : Launch} {D : va_G} {cy : Nat → ClassId} {ad : Nat → Nat} {n : Nat} {A : Nat → Prop} (hI : mI ad n A) {M : Nat → va_E} (hn : 52 ≤ n) {ended : Bool} (hpr : M 36 = prO ad ended) {P : List Nat} (hp : isRow cy ad n M 39 40 80 80 P) {ds : List Nat} {lg : Bool} (hf : isFig cy ad n M 1 2 ds lg) : mMv l yX8_loadText (gW yX8_loadText cX8_loadText 2 none) { frames := 3, cells := 0, slots := 0, locals := 75 } D cy ad n A [.ref (ad 36), .null] M (fun M' => isRow cy ad n M' 39 40 80 80 [] ∧ (∃ (ds2 : List Nat) (lg2 : Bool), isFig cy ad n M' 1 2 ds2 lg2) ∧ Fr [1, 2, 39, 40] M M') := by
  refine m_entry (cc := cX8_loadText) (maxL := 2) (ret := none) (own := RX8) (lv := [(0, .ref (ad 36)), (1, .null)]) hI (by decide) rfl rfl (Nat.le_of_ble_eq_true rfl) rfl (fun pX eX sX mX aX bX tX cX C hrt0 hlk0 => ?_)
  refine m_aload_n (pc' := 1) C dX8_loadText_0 rfl 0 rfl rfl ?_
  refine m_get (pc' := 4) C 36 (by omega) hpr rfl inW_X8 5 (by decide) (gW_of tm_1_209) rfl rfl dX8_loadText_1 rfl ?_
  refine m_callVv (pc' := 7) (As := []) (rest := []) C (kX9_clear hI hp.pre) (cwV 0 C.1.2.2.2.2 (goodV tm_2_193 tm_2_99 tm_2_100 tm_1_3 tm_2_101) rfl rfl rfl (by decide +kernel) ⟨by decide, by decide⟩) hp.1 hp.ob rfl rfl rfl (Nat.le_of_ble_eq_true rfl) dX8_loadText_4 rfl ⟨by decide, by decide⟩ (fun M1 q_1 => ?_)
  obtain ⟨R_1, F_1⟩ := q_1
  refine m_aload_nN (pc' := 8) C dX8_loadText_7 rfl 1 rfl rfl ?_
  refine m_ifnonnullN (pc' := 11) C dX8_loadText_8 rfl ?_
  refine m_vret C hrt0 hlk0 dX8_loadText_11 ?_
  have G_2 := hf.fr F_1 (by simp <;> omega) (by simp <;> omega)
  exact ⟨R_1, ⟨_, _, G_2⟩, (F_1.sub (by simp))⟩
set_option maxHeartbeats 4000000 in
set_option maxRecDepth 100000 in
theorem kX8_loadText_v {l : Launch} {D : va_G} {cy : Nat → ClassId} {ad : Nat → Nat} {n : Nat} {A : Nat → Prop} (hI : mI ad n A) {M : Nat → va_E} (hn : 52 ≤ n) {ended : Bool} (hpr : M 36 = prO ad ended) {P : List Nat} (hp : isRow cy ad n M 39 40 80 80 P) {ds : List Nat} {lg : Bool} (hf : isFig cy ad n M 1 2 ds lg) {o : Nat} {x : Arg} (ha : isArg cy ad n M o x) (hdo : 11 ≤ o ∧ o ≤ 32) {y : Int64} (hx : x = .inl y) : mMv l yX8_loadText (gW yX8_loadText cX8_loadText 2 none) { frames := 3, cells := 0, slots := 0, locals := 75 } D cy ad n A [.ref (ad 36), .ref (ad o)] M (fun M' => isRow cy ad n M' 39 40 80 80 (numT y) ∧ (∃ (ds2 : List Nat) (lg2 : Bool), isFig cy ad n M' 1 2 ds2 lg2) ∧ Fr [1, 2, 39, 40] M M') := by
  subst hx
  obtain ⟨a0, t, v, T, a1, a2, a3, a4⟩ := ha
  obtain ⟨rfl, rfl⟩ := a4
  refine m_entry (cc := cX8_loadText) (maxL := 2) (ret := none) (own := RX8) (lv := [(0, .ref (ad 36)), (1, .ref (ad o))]) hI (by decide) rfl rfl (Nat.le_of_ble_eq_true rfl) rfl (fun pX eX sX mX aX bX tX cX C hrt0 hlk0 => ?_)
  refine m_aload_n (pc' := 1) C dX8_loadText_0 rfl 0 rfl rfl ?_
  refine m_get (pc' := 4) C 36 (by omega) hpr rfl inW_X8 5 (by decide) (gW_of tm_1_209) rfl rfl dX8_loadText_1 rfl ?_
  refine m_callVv (pc' := 7) (As := []) (rest := []) C (kX9_clear hI hp.pre) (cwV 0 C.1.2.2.2.2 (goodV tm_2_193 tm_2_99 tm_2_100 tm_1_3 tm_2_101) rfl rfl rfl (by decide +kernel) ⟨by decide, by decide⟩) hp.1 hp.ob rfl rfl rfl (Nat.le_of_ble_eq_true rfl) dX8_loadText_4 rfl ⟨by decide, by decide⟩ (fun M1 q_1 => ?_)
  obtain ⟨R_1, F_1⟩ := q_1
  refine m_aload_n (pc' := 8) C dX8_loadText_7 rfl 1 rfl rfl ?_
  refine m_ifnonnull (tgt := 12) C dX8_loadText_8 (by decide) ?_
  refine m_aload_n (pc' := 13) C dX8_loadText_12 rfl 1 rfl rfl ?_
  have fo_2 : M1 o = .inr (0, [.ref (ad (o + 1)), .int (bI false), .long (v)]) := (F_1 o (by simp <;> omega)).trans a1
  refine m_get (pc' := 16) C o a0 fo_2 rfl inW_X0 1 (by decide) (gW_of tm_1_85) rfl rfl dX8_loadText_13 rfl ?_
  refine m_if_eq (pc' := 19) (tgt := 33) C dX8_loadText_16 (by decide) rfl (fun c_16 => ?_) (fun c_16 => ?_)
  · refine m_aload_n (pc' := 34) C dX8_loadText_33 rfl 0 rfl rfl ?_
    refine m_aload_n (pc' := 35) C dX8_loadText_34 rfl 1 rfl rfl ?_
    refine m_get (pc' := 38) C o a0 fo_2 rfl inW_X0 2 (by decide) (gW_of tm_1_88) rfl rfl dX8_loadText_35 rfl ?_
    have f36_4 : M1 36 = .inr (8, [.ref (ad 5), .ref (ad 9), .ref (ad 1), .ref (ad 37), .ref (ad 38), .ref (ad 39), .ref (ad 41), .int (bI ended)]) := (F_1 36 (by simp <;> omega)).trans hpr
    have G_5 := hf.fr F_1 (by simp <;> omega) (by simp <;> omega)
    refine m_callVv (pc' := 41) (As := [.long (v)]) (rest := []) C (kX8_loadNumber hI hn f36_4 R_1 G_5 v) (cwV 1 C.1.2.2.2.2 (goodV tm_3_56 tm_3_58 tp_17 tm_1_7 tm_3_59) rfl rfl rfl (by decide +kernel) ⟨by decide, by decide⟩) (by omega) f36_4 rfl rfl rfl (Nat.le_of_ble_eq_true rfl) dX8_loadText_38 rfl ⟨by decide, by decide⟩ (fun M3 q_3 => ?_)
    obtain ⟨R_3, ⟨ds_3, lg_3, G_3⟩, F_3⟩ := q_3
    rw [List.nil_append] at R_3
    refine m_vret C hrt0 hlk0 dX8_loadText_41 ?_
    exact ⟨R_3, ⟨_, _, G_3⟩, ((F_1.sub (by simp)).tr (F_3.sub (by simp)))⟩
  · exact absurd rfl c_16
set_option maxHeartbeats 4000000 in
set_option maxRecDepth 100000 in
theorem kX8_loadText_x {l : Launch} {D : va_G} {cy : Nat → ClassId} {ad : Nat → Nat} {n : Nat} {A : Nat → Prop} (hI : mI ad n A) {M : Nat → va_E} (hn : 52 ≤ n) {ended : Bool} (hpr : M 36 = prO ad ended) {P : List Nat} (hp : isRow cy ad n M 39 40 80 80 P) {ds : List Nat} {lg : Bool} (hf : isFig cy ad n M 1 2 ds lg) {o : Nat} {x : Arg} (ha : isArg cy ad n M o x) (hdo : 11 ≤ o ∧ o ≤ 32) {y : List Nat} (hx : x = .inr y) : mMv l yX8_loadText (gW yX8_loadText cX8_loadText 2 none) { frames := 3, cells := 0, slots := 0, locals := 75 } D cy ad n A [.ref (ad 36), .ref (ad o)] M (fun M' => isRow cy ad n M' 39 40 80 80 y ∧ (∃ (ds2 : List Nat) (lg2 : Bool), isFig cy ad n M' 1 2 ds2 lg2) ∧ Fr [1, 2, 39, 40] M M') := by
  subst hx
  obtain ⟨a0, t, v, T, a1, a2, a3, a4⟩ := ha
  obtain ⟨rfl, rfl⟩ := a4
  refine m_entry (cc := cX8_loadText) (maxL := 2) (ret := none) (own := RX8) (lv := [(0, .ref (ad 36)), (1, .ref (ad o))]) hI (by decide) rfl rfl (Nat.le_of_ble_eq_true rfl) rfl (fun pX eX sX mX aX bX tX cX C hrt0 hlk0 => ?_)
  refine m_aload_n (pc' := 1) C dX8_loadText_0 rfl 0 rfl rfl ?_
  refine m_get (pc' := 4) C 36 (by omega) hpr rfl inW_X8 5 (by decide) (gW_of tm_1_209) rfl rfl dX8_loadText_1 rfl ?_
  refine m_callVv (pc' := 7) (As := []) (rest := []) C (kX9_clear hI hp.pre) (cwV 0 C.1.2.2.2.2 (goodV tm_2_193 tm_2_99 tm_2_100 tm_1_3 tm_2_101) rfl rfl rfl (by decide +kernel) ⟨by decide, by decide⟩) hp.1 hp.ob rfl rfl rfl (Nat.le_of_ble_eq_true rfl) dX8_loadText_4 rfl ⟨by decide, by decide⟩ (fun M1 q_1 => ?_)
  obtain ⟨R_1, F_1⟩ := q_1
  refine m_aload_n (pc' := 8) C dX8_loadText_7 rfl 1 rfl rfl ?_
  refine m_ifnonnull (tgt := 12) C dX8_loadText_8 (by decide) ?_
  refine m_aload_n (pc' := 13) C dX8_loadText_12 rfl 1 rfl rfl ?_
  have fo_2 : M1 o = .inr (0, [.ref (ad (o + 1)), .int (bI true), .long (v)]) := (F_1 o (by simp <;> omega)).trans a1
  refine m_get (pc' := 16) C o a0 fo_2 rfl inW_X0 1 (by decide) (gW_of tm_1_85) rfl rfl dX8_loadText_13 rfl ?_
  refine m_if_eq (pc' := 19) (tgt := 33) C dX8_loadText_16 (by decide) rfl (fun c_16 => ?_) (fun c_16 => ?_)
  · exact absurd c_16 (by decide)
  · refine m_aload_n (pc' := 20) C dX8_loadText_19 rfl 0 rfl rfl ?_
    have f36_3 : M1 36 = .inr (8, [.ref (ad 5), .ref (ad 9), .ref (ad 1), .ref (ad 37), .ref (ad 38), .ref (ad 39), .ref (ad 41), .int (bI ended)]) := (F_1 36 (by simp <;> omega)).trans hpr
    refine m_get (pc' := 23) C 36 (by omega) f36_3 rfl inW_X8 5 (by decide) (gW_of tm_1_209) rfl rfl dX8_loadText_20 rfl ?_
    refine m_aload_n (pc' := 24) C dX8_loadText_23 rfl 1 rfl rfl ?_
    refine m_get (pc' := 27) C o a0 fo_2 rfl inW_X0 0 (by decide) (gW_of tm_1_82) rfl rfl dX8_loadText_24 rfl ?_
    have Ro1_5 := a2.fr F_1 (by simp <;> omega) (by simp <;> omega)
    refine m_callVv (pc' := 30) (As := [.ref (ad (o + 1))]) (rest := []) C (kX9_copyOf hI R_1 Ro1_5 (by omega)) (cwV 1 C.1.2.2.2.2 (goodV tm_3_49 tm_3_50 tm_3_51 tm_1_3 tm_3_52) rfl rfl rfl (by decide +kernel) ⟨by decide, by decide⟩) R_1.1 R_1.ob rfl rfl rfl (Nat.le_of_ble_eq_true rfl) dX8_loadText_27 rfl ⟨by decide, by decide⟩ (fun M4 q_4 => ?_)
    obtain ⟨R_4, F_4⟩ := q_4
    rw [List.take_of_length_le a3] at R_4
    refine m_goto (tgt := 41) C dX8_loadText_30 (by decide) ?_
    refine m_vret C hrt0 hlk0 dX8_loadText_41 ?_
    have G_6 := hf.fr F_1 (by simp <;> omega) (by simp <;> omega)
    have G_7 := G_6.fr F_4 (by simp <;> omega) (by simp <;> omega)
    exact ⟨R_4, ⟨_, _, G_7⟩, ((F_1.sub (by simp)).tr (F_4.sub (by simp)))⟩
theorem kX8_loadText_t {l : Launch} {D : va_G} {cy : Nat → ClassId} {ad : Nat → Nat} {n : Nat} {A : Nat → Prop} (hI : mI ad n A) {M : Nat → va_E} (hn : 52 ≤ n) {ended : Bool} (hpr : M 36 = prO ad ended) {P : List Nat} (hp : isRow cy ad n M 39 40 80 80 P) {ds : List Nat} {lg : Bool} (hf : isFig cy ad n M 1 2 ds lg) {o : Nat} {x : Arg} (ha : isArg cy ad n M o x) (hdo : 11 ≤ o ∧ o ≤ 32) : mMv l yX8_loadText (gW yX8_loadText cX8_loadText 2 none) { frames := 3, cells := 0, slots := 0, locals := 75 } D cy ad n A [.ref (ad 36), .ref (ad o)] M (fun M' => isRow cy ad n M' 39 40 80 80 (argT x) ∧ (∃ (ds2 : List Nat) (lg2 : Bool), isFig cy ad n M' 1 2 ds2 lg2) ∧ Fr [1, 2, 39, 40] M M') := by
  cases hx : x with
  | inl y => exact kX8_loadText_v hI hn hpr hp hf (hx ▸ ha) hdo rfl
  | inr y => exact kX8_loadText_x hI hn hpr hp hf (hx ▸ ha) hdo rfl
set_option maxHeartbeats 4000000 in
set_option maxRecDepth 100000 in
theorem kX8_loadCharacter_n {l : Launch} {D : va_G} {cy : Nat → ClassId} {ad : Nat → Nat} {n : Nat} {A : Nat → Prop} (hI : mI ad n A) {M : Nat → va_E} (hn : 52 ≤ n) {ended : Bool} (hpr : M 36 = prO ad ended) {P : List Nat} (hp : isRow cy ad n M 39 40 80 80 P) : mMv l yX8_loadCharacter (gW yX8_loadCharacter cX8_loadCharacter 2 none) { frames := 1, cells := 0, slots := 0, locals := 21 } D cy ad n A [.ref (ad 36), .null] M (fun M' => isRow cy ad n M' 39 40 80 80 [] ∧ Fr [39, 40] M M') := by
  refine m_entry (cc := cX8_loadCharacter) (maxL := 2) (ret := none) (own := RX8) (lv := [(0, .ref (ad 36)), (1, .null)]) hI (by decide) rfl rfl (Nat.le_of_ble_eq_true rfl) rfl (fun pX eX sX mX aX bX tX cX C hrt0 hlk0 => ?_)
  refine m_aload_n (pc' := 1) C dX8_loadCharacter_0 rfl 0 rfl rfl ?_
  refine m_get (pc' := 4) C 36 (by omega) hpr rfl inW_X8 5 (by decide) (gW_of tm_1_209) rfl rfl dX8_loadCharacter_1 rfl ?_
  refine m_callVv (pc' := 7) (As := []) (rest := []) C (kX9_clear hI hp.pre) (cwV 0 C.1.2.2.2.2 (goodV tm_2_193 tm_2_99 tm_2_100 tm_1_3 tm_2_101) rfl rfl rfl (by decide +kernel) ⟨by decide, by decide⟩) hp.1 hp.ob rfl rfl rfl (Nat.le_of_ble_eq_true rfl) dX8_loadCharacter_4 rfl ⟨by decide, by decide⟩ (fun M1 q_1 => ?_)
  obtain ⟨R_1, F_1⟩ := q_1
  refine m_aload_nN (pc' := 8) C dX8_loadCharacter_7 rfl 1 rfl rfl ?_
  refine m_ifnonnullN (pc' := 11) C dX8_loadCharacter_8 rfl ?_
  refine m_vret C hrt0 hlk0 dX8_loadCharacter_11 ?_
  exact ⟨R_1, (F_1.sub (by simp))⟩
set_option maxHeartbeats 4000000 in
set_option maxRecDepth 100000 in
theorem kX8_loadCharacter_v {l : Launch} {D : va_G} {cy : Nat → ClassId} {ad : Nat → Nat} {n : Nat} {A : Nat → Prop} (hI : mI ad n A) {M : Nat → va_E} (hn : 52 ≤ n) {ended : Bool} (hpr : M 36 = prO ad ended) {P : List Nat} (hp : isRow cy ad n M 39 40 80 80 P) {o : Nat} {x : Arg} (ha : isArg cy ad n M o x) (hdo : 11 ≤ o ∧ o ≤ 32) {y : Int64} (hx : x = .inl y) : mMv l yX8_loadCharacter (gW yX8_loadCharacter cX8_loadCharacter 2 none) { frames := 1, cells := 0, slots := 0, locals := 21 } D cy ad n A [.ref (ad 36), .ref (ad o)] M (fun M' => isRow cy ad n M' 39 40 80 80 [lowb y.toInt32] ∧ Fr [39, 40] M M') := by
  subst hx
  obtain ⟨a0, t, v, T, a1, a2, a3, a4⟩ := ha
  obtain ⟨rfl, rfl⟩ := a4
  refine m_entry (cc := cX8_loadCharacter) (maxL := 2) (ret := none) (own := RX8) (lv := [(0, .ref (ad 36)), (1, .ref (ad o))]) hI (by decide) rfl rfl (Nat.le_of_ble_eq_true rfl) rfl (fun pX eX sX mX aX bX tX cX C hrt0 hlk0 => ?_)
  refine m_aload_n (pc' := 1) C dX8_loadCharacter_0 rfl 0 rfl rfl ?_
  refine m_get (pc' := 4) C 36 (by omega) hpr rfl inW_X8 5 (by decide) (gW_of tm_1_209) rfl rfl dX8_loadCharacter_1 rfl ?_
  refine m_callVv (pc' := 7) (As := []) (rest := []) C (kX9_clear hI hp.pre) (cwV 0 C.1.2.2.2.2 (goodV tm_2_193 tm_2_99 tm_2_100 tm_1_3 tm_2_101) rfl rfl rfl (by decide +kernel) ⟨by decide, by decide⟩) hp.1 hp.ob rfl rfl rfl (Nat.le_of_ble_eq_true rfl) dX8_loadCharacter_4 rfl ⟨by decide, by decide⟩ (fun M1 q_1 => ?_)
  obtain ⟨R_1, F_1⟩ := q_1
  refine m_aload_n (pc' := 8) C dX8_loadCharacter_7 rfl 1 rfl rfl ?_
  refine m_ifnonnull (tgt := 12) C dX8_loadCharacter_8 (by decide) ?_
  refine m_aload_n (pc' := 13) C dX8_loadCharacter_12 rfl 1 rfl rfl ?_
  have fo_2 : M1 o = .inr (0, [.ref (ad (o + 1)), .int (bI false), .long (v)]) := (F_1 o (by simp <;> omega)).trans a1
  refine m_get (pc' := 16) C o a0 fo_2 rfl inW_X0 1 (by decide) (gW_of tm_1_85) rfl rfl dX8_loadCharacter_13 rfl ?_
  refine m_if_ne (pc' := 19) (tgt := 34) C dX8_loadCharacter_16 (by decide) rfl (fun c_16 => ?_) (fun c_16 => ?_)
  · exact absurd rfl c_16
  · refine m_aload_n (pc' := 20) C dX8_loadCharacter_19 rfl 0 rfl rfl ?_
    have f36_3 : M1 36 = .inr (8, [.ref (ad 5), .ref (ad 9), .ref (ad 1), .ref (ad 37), .ref (ad 38), .ref (ad 39), .ref (ad 41), .int (bI ended)]) := (F_1 36 (by simp <;> omega)).trans hpr
    refine m_get (pc' := 23) C 36 (by omega) f36_3 rfl inW_X8 5 (by decide) (gW_of tm_1_209) rfl rfl dX8_loadCharacter_20 rfl ?_
    refine m_aload_n (pc' := 24) C dX8_loadCharacter_23 rfl 1 rfl rfl ?_
    refine m_get (pc' := 27) C o a0 fo_2 rfl inW_X0 2 (by decide) (gW_of tm_1_88) rfl rfl dX8_loadCharacter_24 rfl ?_
    refine m_l2i (pc' := 28) (v := (v).toInt32) C dX8_loadCharacter_27 rfl rfl ?_
    refine m_callVv (pc' := 31) (As := [.int ((v).toInt32)]) (rest := []) C (kX9_add hI R_1 ((v).toInt32)) (cwV 1 C.1.2.2.2.2 (goodV tm_2_210 tm_2_211 tm_2_212 tm_1_3 tm_2_213) rfl rfl rfl (by decide +kernel) ⟨by decide, by decide⟩) R_1.1 R_1.ob rfl rfl rfl (Nat.le_of_ble_eq_true rfl) dX8_loadCharacter_28 rfl ⟨by decide, by decide⟩ (fun M4 q_4 => ?_)
    obtain ⟨R_4, F_4⟩ := q_4
    refine m_goto (tgt := 59) C dX8_loadCharacter_31 (by decide) ?_
    refine m_vret C hrt0 hlk0 dX8_loadCharacter_59 ?_
    exact ⟨R_4, ((F_1.sub (by simp)).tr (F_4.sub (by simp)))⟩
set_option maxHeartbeats 4000000 in
set_option maxRecDepth 100000 in
theorem kX8_loadCharacter_x {l : Launch} {D : va_G} {cy : Nat → ClassId} {ad : Nat → Nat} {n : Nat} {A : Nat → Prop} (hI : mI ad n A) {M : Nat → va_E} (hn : 52 ≤ n) {ended : Bool} (hpr : M 36 = prO ad ended) {P : List Nat} (hp : isRow cy ad n M 39 40 80 80 P) {o : Nat} {x : Arg} (ha : isArg cy ad n M o x) (hdo : 11 ≤ o ∧ o ≤ 32) {y : List Nat} (hx : x = .inr y) : mMv l yX8_loadCharacter (gW yX8_loadCharacter cX8_loadCharacter 2 none) { frames := 1, cells := 0, slots := 0, locals := 21 } D cy ad n A [.ref (ad 36), .ref (ad o)] M (fun M' => isRow cy ad n M' 39 40 80 80 (y.take 1) ∧ Fr [39, 40] M M') := by
  subst hx
  obtain ⟨a0, t, v, T, a1, a2, a3, a4⟩ := ha
  obtain ⟨rfl, rfl⟩ := a4
  refine m_entry (cc := cX8_loadCharacter) (maxL := 2) (ret := none) (own := RX8) (lv := [(0, .ref (ad 36)), (1, .ref (ad o))]) hI (by decide) rfl rfl (Nat.le_of_ble_eq_true rfl) rfl (fun pX eX sX mX aX bX tX cX C hrt0 hlk0 => ?_)
  refine m_aload_n (pc' := 1) C dX8_loadCharacter_0 rfl 0 rfl rfl ?_
  refine m_get (pc' := 4) C 36 (by omega) hpr rfl inW_X8 5 (by decide) (gW_of tm_1_209) rfl rfl dX8_loadCharacter_1 rfl ?_
  refine m_callVv (pc' := 7) (As := []) (rest := []) C (kX9_clear hI hp.pre) (cwV 0 C.1.2.2.2.2 (goodV tm_2_193 tm_2_99 tm_2_100 tm_1_3 tm_2_101) rfl rfl rfl (by decide +kernel) ⟨by decide, by decide⟩) hp.1 hp.ob rfl rfl rfl (Nat.le_of_ble_eq_true rfl) dX8_loadCharacter_4 rfl ⟨by decide, by decide⟩ (fun M1 q_1 => ?_)
  obtain ⟨R_1, F_1⟩ := q_1
  refine m_aload_n (pc' := 8) C dX8_loadCharacter_7 rfl 1 rfl rfl ?_
  refine m_ifnonnull (tgt := 12) C dX8_loadCharacter_8 (by decide) ?_
  refine m_aload_n (pc' := 13) C dX8_loadCharacter_12 rfl 1 rfl rfl ?_
  have fo_2 : M1 o = .inr (0, [.ref (ad (o + 1)), .int (bI true), .long (v)]) := (F_1 o (by simp <;> omega)).trans a1
  refine m_get (pc' := 16) C o a0 fo_2 rfl inW_X0 1 (by decide) (gW_of tm_1_85) rfl rfl dX8_loadCharacter_13 rfl ?_
  refine m_if_ne (pc' := 19) (tgt := 34) C dX8_loadCharacter_16 (by decide) rfl (fun c_16 => ?_) (fun c_16 => ?_)
  · refine m_aload_n (pc' := 35) C dX8_loadCharacter_34 rfl 1 rfl rfl ?_
    refine m_get (pc' := 38) C o a0 fo_2 rfl inW_X0 0 (by decide) (gW_of tm_1_82) rfl rfl dX8_loadCharacter_35 rfl ?_
    have Ro1_3 := a2.fr F_1 (by simp <;> omega) (by simp <;> omega)
    refine m_callVi (pc' := 41) (As := []) (rest := []) C (kX9_size hI Ro1_3) (cwV 0 C.1.2.2.2.2 (goodV tm_2_122 tm_2_95 tm_2_96 tm_1_3 tm_2_97) rfl rfl rfl (by decide +kernel) ⟨by decide, by decide⟩) Ro1_3.1 Ro1_3.ob rfl rfl rfl (Nat.le_of_ble_eq_true rfl) dX8_loadCharacter_38 rfl ⟨by decide, by decide⟩ (fun x_4 N_4 q_4 => ?_)
    obtain ⟨e_4, E_4⟩ := q_4
    replace E_4 := E_4.symm
    subst E_4
    replace e_4 : x_4 = nI T.length := e_4.trans (by rw [Nat.min_eq_left a3])
    replace e_4 := e_4.symm
    subst e_4
    refine m_if_le (pc' := 44) (tgt := 59) C dX8_loadCharacter_41 (by decide) rfl (fun c_41 => ?_) (fun c_41 => ?_)
    · have hT0 : T = [] := by
        rcases Nat.eq_zero_or_pos T.length with q | q
        · exact List.length_eq_zero_iff.mp q
        · exact absurd c_41 (nI_nle q (by omega))
      refine m_vret C hrt0 hlk0 dX8_loadCharacter_59 ?_
      refine ⟨?_, (F_1.sub (by simp))⟩
      first | (rw [hT0]; exact R_1) | (rw [show T.take 1 = [lowb (chAt T 0)] from take1 hT0 (a2.2.2.2.2.1)]; exact R_1)
    · have hT0 : ¬ T = [] := fun q => c_41 (by rw [q]; decide)
      refine m_aload_n (pc' := 45) C dX8_loadCharacter_44 rfl 0 rfl rfl ?_
      have f36_5 : M1 36 = .inr (8, [.ref (ad 5), .ref (ad 9), .ref (ad 1), .ref (ad 37), .ref (ad 38), .ref (ad 39), .ref (ad 41), .int (bI ended)]) := (F_1 36 (by simp <;> omega)).trans hpr
      refine m_get (pc' := 48) C 36 (by omega) f36_5 rfl inW_X8 5 (by decide) (gW_of tm_1_209) rfl rfl dX8_loadCharacter_45 rfl ?_
      refine m_aload_n (pc' := 49) C dX8_loadCharacter_48 rfl 1 rfl rfl ?_
      refine m_get (pc' := 52) C o a0 fo_2 rfl inW_X0 0 (by decide) (gW_of tm_1_82) rfl rfl dX8_loadCharacter_49 rfl ?_
      refine m_iconst (pc' := 53) (v := nI 0) C dX8_loadCharacter_52 (by decide) rfl ?_
      refine m_callVi (pc' := 56) (As := [.int (nI 0)]) (rest := [.ref (ad 39)]) C (kX9_at hI Ro1_3 (nI 0)) (cwV 1 C.1.2.2.2.2 (goodV tm_2_127 tm_2_128 tm_2_129 tm_1_3 tm_2_130) rfl rfl rfl (by decide +kernel) ⟨by decide, by decide⟩) Ro1_3.1 Ro1_3.ob rfl rfl rfl (Nat.le_of_ble_eq_true rfl) dX8_loadCharacter_53 rfl ⟨by decide, by decide⟩ (fun x_6 N_6 q_6 => ?_)
      obtain ⟨e_6, E_6⟩ := q_6
      replace E_6 := E_6.symm
      subst E_6
      replace e_6 : x_6 = chAt T 0 := e_6.trans (rowAt_full a3 (by omega) (by omega))
      replace e_6 := e_6.symm
      subst e_6
      refine m_callVv (pc' := 59) (As := [.int (chAt T 0)]) (rest := []) C (kX9_add hI R_1 (chAt T 0)) (cwV 1 C.1.2.2.2.2 (goodV tm_2_210 tm_2_211 tm_2_212 tm_1_3 tm_2_213) rfl rfl rfl (by decide +kernel) ⟨by decide, by decide⟩) R_1.1 R_1.ob rfl rfl rfl (Nat.le_of_ble_eq_true rfl) dX8_loadCharacter_56 rfl ⟨by decide, by decide⟩ (fun M7 q_7 => ?_)
      obtain ⟨R_7, F_7⟩ := q_7
      refine m_vret C hrt0 hlk0 dX8_loadCharacter_59 ?_
      refine ⟨?_, ((F_1.sub (by simp)).tr (F_7.sub (by simp)))⟩
      first | (rw [hT0]; exact R_7) | (rw [show T.take 1 = [lowb (chAt T 0)] from take1 hT0 (a2.2.2.2.2.1)]; exact R_7)
  · exact absurd (by decide) c_16
theorem kX8_loadCharacter_t {l : Launch} {D : va_G} {cy : Nat → ClassId} {ad : Nat → Nat} {n : Nat} {A : Nat → Prop} (hI : mI ad n A) {M : Nat → va_E} (hn : 52 ≤ n) {ended : Bool} (hpr : M 36 = prO ad ended) {P : List Nat} (hp : isRow cy ad n M 39 40 80 80 P) {o : Nat} {x : Arg} (ha : isArg cy ad n M o x) (hdo : 11 ≤ o ∧ o ≤ 32) : mMv l yX8_loadCharacter (gW yX8_loadCharacter cX8_loadCharacter 2 none) { frames := 1, cells := 0, slots := 0, locals := 21 } D cy ad n A [.ref (ad 36), .ref (ad o)] M (fun M' => isRow cy ad n M' 39 40 80 80 (argC x) ∧ Fr [39, 40] M M') := by
  cases hx : x with
  | inl y => exact kX8_loadCharacter_v hI hn hpr hp (hx ▸ ha) hdo rfl
  | inr y => exact kX8_loadCharacter_x hI hn hpr hp (hx ▸ ha) hdo rfl
set_option maxHeartbeats 4000000 in
set_option maxRecDepth 100000 in
theorem kX8_keepPrecision_n {l : Launch} {D : va_G} {cy : Nat → ClassId} {ad : Nat → Nat} {n : Nat} {A : Nat → Prop} (hI : mI ad n A) {M : Nat → va_E} (hn : 52 ≤ n) {ended : Bool} (hpr : M 36 = prO ad ended) {P : List Nat} (hp : isRow cy ad n M 39 40 80 80 P) {fl fp fb fm fz sw sp : Bool} {wd bt lt en : Int32} (hd : M 38 = .inr (2, dF fl fp fb fm fz sw sp wd (-1) bt lt en)) : mMv l yX8_keepPrecision (gW yX8_keepPrecision cX8_keepPrecision 1 none) { frames := 2, cells := 0, slots := 0, locals := 46 } D cy ad n A [.ref (ad 36)] M (fun M' => isRow cy ad n M' 39 40 80 80 P ∧ Fr [39] M M') := by
  refine m_entry (cc := cX8_keepPrecision) (maxL := 1) (ret := none) (own := RX8) (lv := [(0, .ref (ad 36))]) hI (by decide) rfl rfl (Nat.le_of_ble_eq_true rfl) rfl (fun pX eX sX mX aX bX tX cX C hrt0 hlk0 => ?_)
  refine m_aload_n (pc' := 1) C dX8_keepPrecision_0 rfl 0 rfl rfl ?_
  refine m_get (pc' := 4) C 36 (by omega) hpr rfl inW_X8 4 (by decide) (gW_of tm_1_208) rfl rfl dX8_keepPrecision_1 rfl ?_
  refine m_get (pc' := 7) C 38 (by omega) hd rfl inW_X2 8 (by decide) (gW_of tm_1_170) rfl rfl dX8_keepPrecision_4 rfl ?_
  refine m_iconst (pc' := 8) (v := (-1)) C dX8_keepPrecision_7 (by decide) rfl ?_
  refine m_icmp_eq (pc' := 11) (tgt := 26) C dX8_keepPrecision_8 (by decide) rfl (fun c_8 => ?_) (fun c_8 => ?_)
  · refine m_vret C hrt0 hlk0 dX8_keepPrecision_26 ?_
    exact ⟨hp, Fr.rf⟩
  · exact absurd rfl c_8
set_option maxHeartbeats 4000000 in
set_option maxRecDepth 100000 in
theorem kX8_keepPrecision_s {l : Launch} {D : va_G} {cy : Nat → ClassId} {ad : Nat → Nat} {n : Nat} {A : Nat → Prop} (hI : mI ad n A) {M : Nat → va_E} (hn : 52 ≤ n) {ended : Bool} (hpr : M 36 = prO ad ended) {P : List Nat} (hp : isRow cy ad n M 39 40 80 80 P) (hP8 : P.length ≤ 80) {k : Nat} (hk : k < 2 ^ 30) {fl fp fb fm fz sw sp : Bool} {wd bt lt en : Int32} (hd : M 38 = .inr (2, dF fl fp fb fm fz sw sp wd (nI k) bt lt en)) : mMv l yX8_keepPrecision (gW yX8_keepPrecision cX8_keepPrecision 1 none) { frames := 2, cells := 0, slots := 0, locals := 46 } D cy ad n A [.ref (ad 36)] M (fun M' => isRow cy ad n M' 39 40 80 80 (P.take k) ∧ Fr [39] M M') := by
  refine m_entry (cc := cX8_keepPrecision) (maxL := 1) (ret := none) (own := RX8) (lv := [(0, .ref (ad 36))]) hI (by decide) rfl rfl (Nat.le_of_ble_eq_true rfl) rfl (fun pX eX sX mX aX bX tX cX C hrt0 hlk0 => ?_)
  refine m_aload_n (pc' := 1) C dX8_keepPrecision_0 rfl 0 rfl rfl ?_
  refine m_get (pc' := 4) C 36 (by omega) hpr rfl inW_X8 4 (by decide) (gW_of tm_1_208) rfl rfl dX8_keepPrecision_1 rfl ?_
  refine m_get (pc' := 7) C 38 (by omega) hd rfl inW_X2 8 (by decide) (gW_of tm_1_170) rfl rfl dX8_keepPrecision_4 rfl ?_
  refine m_iconst (pc' := 8) (v := (-1)) C dX8_keepPrecision_7 (by decide) rfl ?_
  refine m_icmp_eq (pc' := 11) (tgt := 26) C dX8_keepPrecision_8 (by decide) rfl (fun c_8 => ?_) (fun c_8 => ?_)
  · exact absurd c_8.symm (neg1_nI (by omega))
  · refine m_aload_n (pc' := 12) C dX8_keepPrecision_11 rfl 0 rfl rfl ?_
    refine m_get (pc' := 15) C 36 (by omega) hpr rfl inW_X8 5 (by decide) (gW_of tm_1_209) rfl rfl dX8_keepPrecision_12 rfl ?_
    refine m_aload_n (pc' := 16) C dX8_keepPrecision_15 rfl 0 rfl rfl ?_
    refine m_get (pc' := 19) C 36 (by omega) hpr rfl inW_X8 4 (by decide) (gW_of tm_1_208) rfl rfl dX8_keepPrecision_16 rfl ?_
    refine m_get (pc' := 22) C 38 (by omega) hd rfl inW_X2 8 (by decide) (gW_of tm_1_170) rfl rfl dX8_keepPrecision_19 rfl ?_
    refine m_callVi (pc' := 25) (As := [.int (nI k)]) (rest := []) C (kX9_keepFirst hI hp hP8 (k := k) (by omega)) (cwV 1 C.1.2.2.2.2 (goodV tm_3_80 tm_3_81 tm_3_82 tm_1_3 tm_3_83) rfl rfl rfl (by decide +kernel) ⟨by decide, by decide⟩) hp.1 hp.ob rfl rfl rfl (Nat.le_of_ble_eq_true rfl) dX8_keepPrecision_22 rfl ⟨by decide, by decide⟩ (fun x_1 M1 q_1 => ?_)
    obtain ⟨e_1, R_1, F_1⟩ := q_1
    refine m_pop (pc' := 26) C dX8_keepPrecision_25 rfl rfl ?_
    refine m_vret C hrt0 hlk0 dX8_keepPrecision_26 ?_
    exact ⟨R_1, (F_1.sub (by simp))⟩
theorem kX8_keepPrecision {l : Launch} {D : va_G} {cy : Nat → ClassId} {ad : Nat → Nat} {n : Nat} {A : Nat → Prop} (hI : mI ad n A) {M : Nat → va_E} (hn : 52 ≤ n) {ended : Bool} (hpr : M 36 = prO ad ended) {P : List Nat} (hp : isRow cy ad n M 39 40 80 80 P) (hP8 : P.length ≤ 80) {po : Option Nat} (hpo : ∀ k, po = some k → k < 2 ^ 30) {fl fp fb fm fz sw sp : Bool} {wd bt lt en : Int32} (hd : M 38 = .inr (2, dF fl fp fb fm fz sw sp wd (pI po) bt lt en)) : mMv l yX8_keepPrecision (gW yX8_keepPrecision cX8_keepPrecision 1 none) { frames := 2, cells := 0, slots := 0, locals := 46 } D cy ad n A [.ref (ad 36)] M (fun M' => isRow cy ad n M' 39 40 80 80 (cutP po P) ∧ Fr [39] M M') := by
  cases po with
  | none => exact kX8_keepPrecision_n hI hn hpr hp hd
  | some k => exact kX8_keepPrecision_s hI hn hpr hp hP8 (hpo k rfl) hd
