set_option maxHeartbeats 4000000 in
set_option maxRecDepth 100000 in
theorem kX8_begin {l : Launch} {D : va_G} {cy : Nat → ClassId} {ad : Nat → Nat} {n : Nat} {A : Nat → Prop} (hI : mI ad n A) {M : Nat → va_E} {ended : Bool} {lim : Nat} {O : List Nat} {xs : Nat → Arg} {cnt tk od : Nat} (hps : isPS cy ad n M ended lim O xs cnt tk od) : mMv l yX8_begin (gW yX8_begin cX8_begin 1 none) { frames := 1, cells := 0, slots := 0, locals := 20 } D cy ad n A [.ref (ad 36)] M (fun M' => isPS cy ad n M' false lim [] xs cnt 0 0 ∧ Fr [5, 9, 36] M M') := by
  obtain ⟨hn, hpr, hg, hA, ⟨ds, lg, hf⟩, he, ⟨P, hp⟩, W, hw⟩ := hps
  refine m_entry (cc := cX8_begin) (maxL := 1) (ret := none) (own := RX8) (lv := [(0, .ref (ad 36))]) hI (by decide) rfl rfl (Nat.le_of_ble_eq_true rfl) rfl (fun pX eX sX mX aX bX tX cX C hrt0 hlk0 => ?_)
  refine m_aload_n (pc' := 1) C dX8_begin_0 rfl 0 rfl rfl ?_
  refine m_get (pc' := 4) C 36 (by omega) hpr rfl inW_X8 0 (by decide) (gW_of tm_1_204) rfl rfl dX8_begin_1 rfl ?_
  refine m_callVv (pc' := 7) (As := []) (rest := []) C (kX9_clear hI hg.pre) (cwV 0 C.1.2.2.2.2 (goodV tm_2_193 tm_2_99 tm_2_100 tm_1_3 tm_2_101) rfl rfl rfl (by decide +kernel) ⟨by decide, by decide⟩) hg.1 hg.ob rfl rfl rfl (Nat.le_of_ble_eq_true rfl) dX8_begin_4 rfl ⟨by decide, by decide⟩ (fun M1 q_1 => ?_)
  obtain ⟨R_1, F_1⟩ := q_1
  refine m_aload_n (pc' := 8) C dX8_begin_7 rfl 0 rfl rfl ?_
  have f36_2 : M1 36 = .inr (8, [.ref (ad 5), .ref (ad 9), .ref (ad 1), .ref (ad 37), .ref (ad 38), .ref (ad 39), .ref (ad 41), .int (bI ended)]) := (F_1 36 (by decide)).trans hpr
  refine m_get (pc' := 11) C 36 (by omega) f36_2 rfl inW_X8 1 (by decide) (gW_of tm_1_205) rfl rfl dX8_begin_8 rfl ?_
  have A_4 := hA.fr F_1 (by decide)
  refine m_callVv (pc' := 14) (As := []) (rest := []) C (kX1_takeFromFront hI A_4) (cwV 0 C.1.2.2.2.2 (goodV tm_2_194 tm_2_195 tm_2_196 tm_1_4 tm_2_197) rfl rfl rfl (by decide +kernel) ⟨by decide, by decide⟩) A_4.lt9 A_4.ob9 rfl rfl rfl (Nat.le_of_ble_eq_true rfl) dX8_begin_11 rfl ⟨by decide, by decide⟩ (fun M3 q_3 => ?_)
  obtain ⟨A_3, F_3⟩ := q_3
  refine m_aload_n (pc' := 15) C dX8_begin_14 rfl 0 rfl rfl ?_
  refine m_iconst (pc' := 16) (v := bI false) C dX8_begin_15 (by decide) rfl ?_
  have f36_5 : M3 36 = .inr (8, [.ref (ad 5), .ref (ad 9), .ref (ad 1), .ref (ad 37), .ref (ad 38), .ref (ad 39), .ref (ad 41), .int (bI ended)]) := (F_3 36 (by decide)).trans f36_2
  refine m_put (pc' := 19) (ty := .boolean) (fs' := [.ref (ad 5), .ref (ad 9), .ref (ad 1), .ref (ad 37), .ref (ad 38), .ref (ad 39), .ref (ad 41), .int (bI false)]) C 36 (by omega) f36_5 rfl inW_X8 tyX8 tyX8_ok nmX8 7 (by decide) (gW_of tm_1_211) rfl rfl (by decide +kernel) (nar_z _) (fit_z _) (by simp) rfl dX8_begin_16 rfl (fun M6 g_6 F_6 => ?_)
  refine m_vret C hrt0 hlk0 dX8_begin_19 ?_
  have R5_7 := R_1.fr F_3 (by decide) (by decide)
  have R5_8 := R5_7.fr F_6 (by decide) (by decide)
  have A_9 := A_3.fr F_6 (by decide)
  have G_10 := hf.fr F_1 (by decide) (by decide)
  have G_11 := G_10.fr F_3 (by decide) (by decide)
  have G_12 := G_11.fr F_6 (by decide) (by decide)
  have esf13 := he.fr F_1 (by decide)
  have esf14 := esf13.fr F_3 (by decide)
  have esf15 := esf14.fr F_6 (by decide)
  have R39_16 := hp.fr F_1 (by decide) (by decide)
  have R39_17 := R39_16.fr F_3 (by decide) (by decide)
  have R39_18 := R39_17.fr F_6 (by decide) (by decide)
  have R41_19 := hw.fr F_1 (by decide) (by decide)
  have R41_20 := R41_19.fr F_3 (by decide) (by decide)
  have R41_21 := R41_20.fr F_6 (by decide) (by decide)
  exact ⟨⟨hn, g_6, R5_8, A_9, ⟨_, _, G_12⟩, esf15, ⟨_, R39_18⟩, ⟨_, R41_21⟩⟩, (((F_1.sub (by decide)).tr (F_3.sub (by decide))).tr (F_6.sub (by decide)))⟩
set_option maxHeartbeats 4000000 in
set_option maxRecDepth 100000 in
theorem kX11_typeWord {l : Launch} {D : va_G} {cy : Nat → ClassId} {ad : Nat → Nat} {n : Nat} {A : Nat → Prop} (hI : mI ad n A) {M : Nat → va_E} (hn : 52 ≤ n) {fp ot : Int32} (h0 : M 0 = fdO ad fp ot) {T : List Nat} (ht : isRow cy ad n M 3 4 80 80 T) (x : Int32) : mMv l yX11_typeWord (gW yX11_typeWord cX11_typeWord 4 none) { frames := 1, cells := 0, slots := 0, locals := 21 } D cy ad n A [.ref (ad 0), .int x] M (fun M' => isRow cy ad n M' 3 4 80 80 (T ++ wchs x 4) ∧ Fr [3, 4] M M') := by
  refine m_entry (cc := cX11_typeWord) (maxL := 4) (ret := none) (own := RX11) (lv := [(0, .ref (ad 0)), (1, .int (x))]) hI (by decide) rfl rfl (Nat.le_of_ble_eq_true rfl) rfl (fun pX eX sX mX aX bX tX cX C hrt0 hlk0 => ?_)
  refine m_iconst (pc' := 1) (v := nI 0) C dX11_typeWord_0 (by decide) rfl ?_
  refine m_istore_n (pc' := 2) (lv' := [(2, .int (nI 0)), (0, .ref (ad 0)), (1, .int (x))]) C dX11_typeWord_1 rfl (by decide) rfl rfl ?_
  refine m_lv [1, 2, 0] rfl ?_
  refine m_loop (σ := Nat × (Nat → va_E)) (fun a => a.2) (fun a => [(0, .ref (ad 0)), (1, .int (x)), (2, .int (nI a.1))]) (fun a => a.1 ≤ 4 ∧ isRow cy ad n a.2 3 4 80 80 (T ++ wchs x a.1) ∧ Fr [3, 4] M a.2) (fun a => 4 - a.1) (0, M) (⟨Nat.zero_le _, by show isRow cy ad n M 3 4 80 80 (T ++ []); rw [List.append_nil]; exact ht, Fr.rf⟩) ?_
  rintro ⟨k, Mk⟩ hinv ih
  dsimp only at hinv ih ⊢
  obtain ⟨i1, i2, i3⟩ := hinv
  have hb8 := wby_lt x k
  refine m_iload_n (pc' := 3) C dX11_typeWord_2 rfl 2 rfl rfl ?_
  refine m_iconst (pc' := 4) (v := nI 4) C dX11_typeWord_3 (by decide) rfl ?_
  refine m_icmp_ge (pc' := 7) (tgt := 31) C dX11_typeWord_4 (by decide) rfl (fun c_4 => ?_) (fun c_4 => ?_)
  · have n_4 : 4 ≤ k := (nI_leI (by omega) (by omega)).mp c_4
    refine m_vret C hrt0 hlk0 dX11_typeWord_31 ?_
    have hk4 : k = 4 := by omega
    subst hk4
    exact ⟨i2, i3⟩
  · have n_4 : k < 4 := Nat.lt_of_not_le (fun q => c_4 ((nI_leI (by omega) (by omega)).mpr q))
    refine m_iload_n (pc' := 8) C dX11_typeWord_7 rfl 1 rfl rfl ?_
    refine m_iload_n (pc' := 9) C dX11_typeWord_8 rfl 2 rfl rfl ?_
    refine m_callSi (pc' := 12) (As := [.int (x), .int (nI k)]) (rest := []) C (kX11_byteOf hI x n_4) (cwS 2 C.1.2.2.2.2 (goodS tm_3_178 tm_3_179 tm_1_1 tm_3_180) rfl rfl rfl (by decide +kernel) ⟨by decide, by decide⟩) rfl rfl (Nat.le_of_ble_eq_true rfl) dX11_typeWord_9 rfl ⟨by decide, by decide⟩ (fun x_1 N_1 q_1 => ?_)
    obtain ⟨e_1, E_1⟩ := q_1
    replace E_1 := E_1.symm
    subst E_1
    replace e_1 := e_1.symm
    subst e_1
    refine m_istore_n (pc' := 13) (lv' := [(3, .int (nI (wby x k))), (0, .ref (ad 0)), (1, .int (x)), (2, .int (nI k))]) C dX11_typeWord_12 rfl (by decide) rfl rfl ?_
    refine m_iload_n (pc' := 14) C dX11_typeWord_13 rfl 0 rfl rfl ?_
    refine m_if_eq (pc' := 17) (tgt := 25) C dX11_typeWord_14 (by decide) rfl (fun c_14 => ?_) (fun c_14 => ?_)
    · have n_14 : (wby x k) = 0 := (nI_eq (by omega) (by omega)).mp (c_14.trans nI_0.symm)
      refine m_iinc (pc' := 28) (v := nI (k + 1)) (lv' := [(2, .int (nI (k + 1))), (3, .int (nI (wby x k))), (0, .ref (ad 0)), (1, .int (x))]) C dX11_typeWord_25 (k := 3) rfl (nI_add _ _) (by decide) rfl rfl ?_
      refine m_goto (tgt := 2) C dX11_typeWord_28 (by decide) ?_
      refine m_lv [2, 3, 0] rfl ?_
      exact ih (k + 1, Mk) (⟨by (try dsimp only); omega, by dsimp only; rw [wchs_succ]; first | (rw [if_pos n_14, List.append_nil]; exact i2) | (rw [if_neg n_14, ← List.append_assoc]; exact i2), (i3.sub (by decide))⟩) (by simp only; omega)
    · have n_14 : ¬ (wby x k) = 0 := fun q => c_14 (((nI_eq (by omega) (by omega)).mpr q).trans nI_0)
      refine m_aload_n (pc' := 18) C dX11_typeWord_17 rfl 1 rfl rfl ?_
      have f0_2 : Mk 0 = .inr (11, [.ref (ad 3), .ref (ad 5), .ref (ad 7), .ref (ad 9), .ref (ad 36), .ref (ad 43), .ref (ad 46), .ref (ad 47), .int (fp), .int (ot)]) := (i3 0 (by decide)).trans h0
      refine m_get (pc' := 21) C 0 (by omega) f0_2 rfl inW_X11 0 (by decide) (gW_of tm_2_59) rfl rfl dX11_typeWord_18 rfl ?_
      refine m_iload_n (pc' := 22) C dX11_typeWord_21 rfl 0 rfl rfl ?_
      refine m_callVv (pc' := 25) (As := [.int (nI (wby x k))]) (rest := []) C (kX9_add hI i2 (nI (wby x k))) (cwV 1 C.1.2.2.2.2 (goodV tm_4_8 tm_2_211 tm_2_212 tm_1_3 tm_2_213) rfl rfl rfl (by decide +kernel) ⟨by decide, by decide⟩) i2.1 i2.ob rfl rfl rfl (Nat.le_of_ble_eq_true rfl) dX11_typeWord_22 rfl ⟨by decide, by decide⟩ (fun M3 q_3 => ?_)
      obtain ⟨R_3, F_3⟩ := q_3
      rw [lowb_nI hb8] at R_3
      refine m_iinc (pc' := 28) (v := nI (k + 1)) (lv' := [(2, .int (nI (k + 1))), (3, .int (nI (wby x k))), (0, .ref (ad 0)), (1, .int (x))]) C dX11_typeWord_25 (k := 3) rfl (nI_add _ _) (by decide) rfl rfl ?_
      refine m_goto (tgt := 2) C dX11_typeWord_28 (by decide) ?_
      refine m_lv [2, 3, 0] rfl ?_
      exact ih (k + 1, M3) (⟨by (try dsimp only); omega, by dsimp only; rw [wchs_succ]; first | (rw [if_pos n_14, List.append_nil]; exact R_3) | (rw [if_neg n_14, ← List.append_assoc]; exact R_3), ((i3.sub (by decide)).tr (F_3.sub (by decide)))⟩) (by simp only; omega)
set_option maxHeartbeats 4000000 in
set_option maxRecDepth 100000 in
theorem kX11_feedWord {l : Launch} {D : va_G} {cy : Nat → ClassId} {ad : Nat → Nat} {n : Nat} {A : Nat → Prop} (hI : mI ad n A) {M : Nat → va_E} (hn : 52 ≤ n) {fp ot : Int32} (h0 : M 0 = fdO ad fp ot) {B : List Nat} (hb : isRow cy ad n M 7 8 256 256 B) (x q : Int32) : mMv l yX11_feedWord (gW yX11_feedWord cX11_feedWord 4 none) { frames := 1, cells := 0, slots := 0, locals := 21 } D cy ad n A [.ref (ad 0), .int x, .int q] M (fun M' => isRow cy ad n M' 7 8 256 256 (B ++ wbs x (min 4 q.toNatClampNeg)) ∧ Fr [7, 8] M M') := by
  refine m_entry (cc := cX11_feedWord) (maxL := 4) (ret := none) (own := RX11) (lv := [(0, .ref (ad 0)), (1, .int (x)), (2, .int (q))]) hI (by decide) rfl rfl (Nat.le_of_ble_eq_true rfl) rfl (fun pX eX sX mX aX bX tX cX C hrt0 hlk0 => ?_)
  refine m_iconst (pc' := 1) (v := nI 0) C dX11_feedWord_0 (by decide) rfl ?_
  refine m_istore_n (pc' := 2) (lv' := [(3, .int (nI 0)), (0, .ref (ad 0)), (1, .int (x)), (2, .int (q))]) C dX11_feedWord_1 rfl (by decide) rfl rfl ?_
  refine m_lv [1, 2, 3, 0] rfl ?_
  refine m_loop (σ := Nat × (Nat → va_E)) (fun a => a.2) (fun a => [(0, .ref (ad 0)), (1, .int (x)), (2, .int (q)), (3, .int (nI a.1))]) (fun a => (a.1 ≤ 4 ∧ a.1 ≤ q.toNatClampNeg) ∧ isRow cy ad n a.2 7 8 256 256 (B ++ wbs x a.1) ∧ Fr [7, 8] M a.2) (fun a => 4 - a.1) (0, M) (⟨⟨Nat.zero_le _, Nat.zero_le _⟩, by show isRow cy ad n M 7 8 256 256 (B ++ []); rw [List.append_nil]; exact hb, Fr.rf⟩) ?_
  rintro ⟨k, Mk⟩ hinv ih
  dsimp only at hinv ih ⊢
  obtain ⟨⟨i1, i4⟩, i2, i3⟩ := hinv
  have hb8 := wby_lt x k
  refine m_iload_n (pc' := 3) C dX11_feedWord_2 rfl 3 rfl rfl ?_
  refine m_iconst (pc' := 4) (v := nI 4) C dX11_feedWord_3 (by decide) rfl ?_
  refine m_icmp_ge (pc' := 7) (tgt := 30) C dX11_feedWord_4 (by decide) rfl (fun c_4 => ?_) (fun c_4 => ?_)
  · have n_4 : 4 ≤ k := (nI_leI (by omega) (by omega)).mp c_4
    refine m_vret C hrt0 hlk0 dX11_feedWord_30 ?_
    have hk4 : k = min 4 q.toNatClampNeg := by omega
    rw [← hk4]
    exact ⟨i2, i3⟩
  · have n_4 : k < 4 := Nat.lt_of_not_le (fun q => c_4 ((nI_leI (by omega) (by omega)).mpr q))
    refine m_iload_n (pc' := 8) C dX11_feedWord_7 rfl 3 rfl rfl ?_
    refine m_iload_n (pc' := 9) C dX11_feedWord_8 rfl 2 rfl rfl ?_
    refine m_icmp_ge (pc' := 12) (tgt := 30) C dX11_feedWord_9 (by decide) rfl (fun c_9 => ?_) (fun c_9 => ?_)
    · have n_9 : q.toNatClampNeg ≤ k := (le_clamp (by omega)).mp c_9
      refine m_vret C hrt0 hlk0 dX11_feedWord_30 ?_
      have hk4 : k = min 4 q.toNatClampNeg := by omega
      rw [← hk4]
      exact ⟨i2, i3⟩
    · have n_9 : k < q.toNatClampNeg := Nat.lt_of_not_le (fun z => c_9 ((le_clamp (by omega)).mpr z))
      refine m_aload_n (pc' := 13) C dX11_feedWord_12 rfl 0 rfl rfl ?_
      have f0_1 : Mk 0 = .inr (11, [.ref (ad 3), .ref (ad 5), .ref (ad 7), .ref (ad 9), .ref (ad 36), .ref (ad 43), .ref (ad 46), .ref (ad 47), .int (fp), .int (ot)]) := (i3 0 (by decide)).trans h0
      refine m_get (pc' := 16) C 0 (by omega) f0_1 rfl inW_X11 2 (by decide) (gW_of tm_2_61) rfl rfl dX11_feedWord_13 rfl ?_
      refine m_iload_n (pc' := 17) C dX11_feedWord_16 rfl 1 rfl rfl ?_
      refine m_iload_n (pc' := 18) C dX11_feedWord_17 rfl 3 rfl rfl ?_
      refine m_callSi (pc' := 21) (As := [.int (x), .int (nI k)]) (rest := [.ref (ad 7)]) C (kX11_byteOf hI x n_4) (cwS 2 C.1.2.2.2.2 (goodS tm_3_178 tm_3_179 tm_1_1 tm_3_180) rfl rfl rfl (by decide +kernel) ⟨by decide, by decide⟩) rfl rfl (Nat.le_of_ble_eq_true rfl) dX11_feedWord_18 rfl ⟨by decide, by decide⟩ (fun x_2 N_2 q_2 => ?_)
      obtain ⟨e_2, E_2⟩ := q_2
      replace E_2 := E_2.symm
      subst E_2
      replace e_2 := e_2.symm
      subst e_2
      refine m_callVv (pc' := 24) (As := [.int (nI (wby x k))]) (rest := []) C (kX9_add hI i2 (nI (wby x k))) (cwV 1 C.1.2.2.2.2 (goodV tm_4_8 tm_2_211 tm_2_212 tm_1_3 tm_2_213) rfl rfl rfl (by decide +kernel) ⟨by decide, by decide⟩) i2.1 i2.ob rfl rfl rfl (Nat.le_of_ble_eq_true rfl) dX11_feedWord_21 rfl ⟨by decide, by decide⟩ (fun M3 q_3 => ?_)
      obtain ⟨R_3, F_3⟩ := q_3
      rw [lowb_nI hb8] at R_3
      refine m_iinc (pc' := 27) (v := nI (k + 1)) (lv' := [(3, .int (nI (k + 1))), (0, .ref (ad 0)), (1, .int (x)), (2, .int (q))]) C dX11_feedWord_24 (k := 3) rfl (nI_add _ _) (by decide) rfl rfl ?_
      refine m_goto (tgt := 2) C dX11_feedWord_27 (by decide) ?_
      refine m_lv [1, 2, 3, 0] rfl ?_
      exact ih (k + 1, M3) (⟨by (try dsimp only); omega, by dsimp only; rw [wbs_succ, ← List.append_assoc]; exact R_3, ((i3.sub (by decide)).tr (F_3.sub (by decide)))⟩) (by simp only; omega)
set_option maxHeartbeats 4000000 in
set_option maxRecDepth 100000 in
theorem kX11_answerOfPage {l : Launch} {D : va_G} {cy : Nat → ClassId} {ad : Nat → Nat} {n : Nat} {A : Nat → Prop} (hI : mI ad n A) {M : Nat → va_E} (hn : 52 ≤ n) {fp ot : Int32} (h0 : M 0 = fdO ad fp ot) {lim : Nat} {O : List Nat} (hg : isRow cy ad n M 5 6 2000 lim O) : mMi l yX11_answerOfPage (gW yX11_answerOfPage cX11_answerOfPage 1 (some .int)) { frames := 1, cells := 0, slots := 0, locals := 20 } D cy ad n A [.ref (ad 0)] M (fun res M' => res = pgI lim O ∧ isRow cy ad n M' 5 6 2000 lim (pgO lim O) ∧ Fr [5] M M') := by
  refine m_entry (cc := cX11_answerOfPage) (maxL := 1) (ret := (some .int)) (own := RX11) (lv := [(0, .ref (ad 0))]) hI (by decide) rfl rfl (Nat.le_of_ble_eq_true rfl) rfl (fun pX eX sX mX aX bX tX cX C hrt0 hlk0 => ?_)
  refine m_aload_n (pc' := 1) C dX11_answerOfPage_0 rfl 0 rfl rfl ?_
  refine m_get (pc' := 4) C 0 (by omega) h0 rfl inW_X11 1 (by decide) (gW_of tm_2_60) rfl rfl dX11_answerOfPage_1 rfl ?_
  refine m_callVi (pc' := 7) (As := []) (rest := []) C (kX9_isOver hI hg) (cwV 0 C.1.2.2.2.2 (goodV tm_3_142 tm_3_143 tm_3_144 tm_1_3 tm_3_145) rfl rfl rfl (by decide +kernel) ⟨by decide, by decide⟩) hg.1 hg.ob rfl rfl rfl (Nat.le_of_ble_eq_true rfl) dX11_answerOfPage_4 rfl ⟨by decide, by decide⟩ (fun x_1 N_1 q_1 => ?_)
  obtain ⟨e_1, E_1⟩ := q_1
  replace E_1 := E_1.symm
  subst E_1
  replace e_1 := e_1.symm
  subst e_1
  refine m_if_eq (pc' := 10) (tgt := 20) C dX11_answerOfPage_7 (by decide) rfl (fun c_7 => ?_) (fun c_7 => ?_)
  · refine m_aload_n (pc' := 21) C dX11_answerOfPage_20 rfl 0 rfl rfl ?_
    refine m_get (pc' := 24) C 0 (by omega) h0 rfl inW_X11 1 (by decide) (gW_of tm_2_60) rfl rfl dX11_answerOfPage_21 rfl ?_
    refine m_callVi (pc' := 27) (As := []) (rest := []) C (kX9_size hI hg) (cwV 0 C.1.2.2.2.2 (goodV tm_2_94 tm_2_95 tm_2_96 tm_1_3 tm_2_97) rfl rfl rfl (by decide +kernel) ⟨by decide, by decide⟩) hg.1 hg.ob rfl rfl rfl (Nat.le_of_ble_eq_true rfl) dX11_answerOfPage_24 rfl ⟨by decide, by decide⟩ (fun x_2 N_2 q_2 => ?_)
    obtain ⟨e_2, E_2⟩ := q_2
    replace E_2 := E_2.symm
    subst E_2
    replace e_2 := e_2.symm
    subst e_2
    refine m_iret C hrt0 hlk0 rfl dX11_answerOfPage_27 ?_
    have hle : O.length ≤ lim := Nat.le_of_not_lt (of_decide_eq_false ((bI_0 _).mp c_7))
    unfold pgI pgO
    rw [if_neg (by omega), if_neg (by omega), Nat.min_eq_left hle]
    exact ⟨rfl, hg, Fr.rf⟩
  · refine m_aload_n (pc' := 11) C dX11_answerOfPage_10 rfl 0 rfl rfl ?_
    refine m_get (pc' := 14) C 0 (by omega) h0 rfl inW_X11 1 (by decide) (gW_of tm_2_60) rfl rfl dX11_answerOfPage_11 rfl ?_
    refine m_callVv (pc' := 17) (As := []) (rest := []) C (kX9_clear hI hg.pre) (cwV 0 C.1.2.2.2.2 (goodV tm_2_98 tm_2_99 tm_2_100 tm_1_3 tm_2_101) rfl rfl rfl (by decide +kernel) ⟨by decide, by decide⟩) hg.1 hg.ob rfl rfl rfl (Nat.le_of_ble_eq_true rfl) dX11_answerOfPage_14 rfl ⟨by decide, by decide⟩ (fun M3 q_3 => ?_)
    obtain ⟨R_3, F_3⟩ := q_3
    refine m_bipush (pc' := 19) (v := (-3)) C dX11_answerOfPage_17 (by decide) rfl ?_
    refine m_iret C hrt0 hlk0 rfl dX11_answerOfPage_19 ?_
    unfold pgI pgO
    rw [if_pos (of_decide_eq_true (ts_of c_7)), if_pos (of_decide_eq_true (ts_of c_7))]
    exact ⟨rfl, R_3, (F_3.sub (by decide))⟩
set_option maxHeartbeats 4000000 in
set_option maxRecDepth 100000 in
theorem kX11_isWord {l : Launch} {D : va_G} {cy : Nat → ClassId} {ad : Nat → Nat} {n : Nat} {A : Nat → Prop} (hI : mI ad n A) {M : Nat → va_E} (x y : Int32) : mMi l yX11_isWord (gW yX11_isWord cX11_isWord 3 (some .boolean)) { frames := 0, cells := 0, slots := 0, locals := 0 } D cy ad n A [.int (x), .int (y)] M (fun res M' => res = bI (wdOk x y) ∧ M' = M) := by
  refine m_entry (cc := cX11_isWord) (maxL := 3) (ret := (some .boolean)) (own := RX11) (lv := [(0, .int (x)), (1, .int (y))]) hI (by decide) rfl rfl (Nat.le_of_ble_eq_true rfl) rfl (fun pX eX sX mX aX bX tX cX C hrt0 hlk0 => ?_)
  refine m_iload_n (pc' := 1) C dX11_isWord_0 rfl 0 rfl rfl ?_
  refine m_bipush (pc' := 3) (v := nI 99) C dX11_isWord_1 (by decide) rfl ?_
  refine m_icmp_ne (pc' := 6) (tgt := 17) C dX11_isWord_3 (by decide) rfl (fun c_3 => ?_) (fun c_3 => ?_)
  · refine m_cut (σ := Bool) (fun a => a = decide (x = nI 111 ∨ x = nI 120 ∨ x = nI 117 ∨ x = nI 100)) (fun a => M) 47 (fun a => [(1, .int (y)), (2, .int (bI a))]) (fun a => []) ?_ (fun J47 => ?_)
    · rintro z hj
      try dsimp only at hj ⊢
      refine m_iload_n (pc' := 48) C dX11_isWord_47 rfl 1 rfl rfl ?_
      refine m_if_eq (pc' := 51) (tgt := 76) C dX11_isWord_48 (by decide) rfl (fun c_48 => ?_) (fun c_48 => ?_)
      · refine m_iconst (pc' := 77) (v := bI false) C dX11_isWord_76 (by decide) rfl ?_
        refine m_iret C hrt0 hlk0 (nar_z _) dX11_isWord_77 ?_
        refine ⟨?_, rfl⟩
        unfold wdOk
        rw [if_neg c_3]
        first | (rw [bI_0] at c_48; rw [hj] at c_48; rw [decide_eq_false (fun q => absurd q.1 (of_decide_eq_false c_48))]; done) | (have hz := ts_of c_48; rw [hj] at hz; have hz2 := of_decide_eq_true hz; first | (rw [decide_eq_true ⟨hz2, by simp [*]⟩]; done) | (rw [decide_eq_false (fun q => by simp_all)]; done))
      · refine m_iload_n (pc' := 52) C dX11_isWord_51 rfl 0 rfl rfl ?_
        refine m_iconst (pc' := 53) (v := nI 1) C dX11_isWord_52 (by decide) rfl ?_
        refine m_icmp_eq (pc' := 56) (tgt := 72) C dX11_isWord_53 (by decide) rfl (fun c_53 => ?_) (fun c_53 => ?_)
        · refine m_iconst (pc' := 73) (v := bI true) C dX11_isWord_72 (by decide) rfl ?_
          refine m_goto (tgt := 77) C dX11_isWord_73 (by decide) ?_
          refine m_iret C hrt0 hlk0 (nar_z _) dX11_isWord_77 ?_
          refine ⟨?_, rfl⟩
          unfold wdOk
          rw [if_neg c_3]
          first | (rw [bI_0] at c_48; rw [hj] at c_48; rw [decide_eq_false (fun q => absurd q.1 (of_decide_eq_false c_48))]; done) | (have hz := ts_of c_48; rw [hj] at hz; have hz2 := of_decide_eq_true hz; first | (rw [decide_eq_true ⟨hz2, by simp [*]⟩]; done) | (rw [decide_eq_false (fun q => by simp_all)]; done))
        · refine m_iload_n (pc' := 57) C dX11_isWord_56 rfl 0 rfl rfl ?_
          refine m_iconst (pc' := 58) (v := nI 2) C dX11_isWord_57 (by decide) rfl ?_
          refine m_icmp_eq (pc' := 61) (tgt := 72) C dX11_isWord_58 (by decide) rfl (fun c_58 => ?_) (fun c_58 => ?_)
          · refine m_iconst (pc' := 73) (v := bI true) C dX11_isWord_72 (by decide) rfl ?_
            refine m_goto (tgt := 77) C dX11_isWord_73 (by decide) ?_
            refine m_iret C hrt0 hlk0 (nar_z _) dX11_isWord_77 ?_
            refine ⟨?_, rfl⟩
            unfold wdOk
            rw [if_neg c_3]
            first | (rw [bI_0] at c_48; rw [hj] at c_48; rw [decide_eq_false (fun q => absurd q.1 (of_decide_eq_false c_48))]; done) | (have hz := ts_of c_48; rw [hj] at hz; have hz2 := of_decide_eq_true hz; first | (rw [decide_eq_true ⟨hz2, by simp [*]⟩]; done) | (rw [decide_eq_false (fun q => by simp_all)]; done))
          · refine m_iload_n (pc' := 62) C dX11_isWord_61 rfl 0 rfl rfl ?_
            refine m_iconst (pc' := 63) (v := nI 4) C dX11_isWord_62 (by decide) rfl ?_
            refine m_icmp_eq (pc' := 66) (tgt := 72) C dX11_isWord_63 (by decide) rfl (fun c_63 => ?_) (fun c_63 => ?_)
            · refine m_iconst (pc' := 73) (v := bI true) C dX11_isWord_72 (by decide) rfl ?_
              refine m_goto (tgt := 77) C dX11_isWord_73 (by decide) ?_
              refine m_iret C hrt0 hlk0 (nar_z _) dX11_isWord_77 ?_
              refine ⟨?_, rfl⟩
              unfold wdOk
              rw [if_neg c_3]
              first | (rw [bI_0] at c_48; rw [hj] at c_48; rw [decide_eq_false (fun q => absurd q.1 (of_decide_eq_false c_48))]; done) | (have hz := ts_of c_48; rw [hj] at hz; have hz2 := of_decide_eq_true hz; first | (rw [decide_eq_true ⟨hz2, by simp [*]⟩]; done) | (rw [decide_eq_false (fun q => by simp_all)]; done))
            · refine m_iload_n (pc' := 67) C dX11_isWord_66 rfl 0 rfl rfl ?_
              refine m_bipush (pc' := 69) (v := nI 8) C dX11_isWord_67 (by decide) rfl ?_
              refine m_icmp_ne (pc' := 72) (tgt := 76) C dX11_isWord_69 (by decide) rfl (fun c_69 => ?_) (fun c_69 => ?_)
              · refine m_iconst (pc' := 77) (v := bI false) C dX11_isWord_76 (by decide) rfl ?_
                refine m_iret C hrt0 hlk0 (nar_z _) dX11_isWord_77 ?_
                refine ⟨?_, rfl⟩
                unfold wdOk
                rw [if_neg c_3]
                first | (rw [bI_0] at c_48; rw [hj] at c_48; rw [decide_eq_false (fun q => absurd q.1 (of_decide_eq_false c_48))]; done) | (have hz := ts_of c_48; rw [hj] at hz; have hz2 := of_decide_eq_true hz; first | (rw [decide_eq_true ⟨hz2, by simp [*]⟩]; done) | (rw [decide_eq_false (fun q => by simp_all)]; done))
              · replace c_69 := Classical.not_not.mp c_69
                refine m_iconst (pc' := 73) (v := bI true) C dX11_isWord_72 (by decide) rfl ?_
                refine m_goto (tgt := 77) C dX11_isWord_73 (by decide) ?_
                refine m_iret C hrt0 hlk0 (nar_z _) dX11_isWord_77 ?_
                refine ⟨?_, rfl⟩
                unfold wdOk
                rw [if_neg c_3]
                first | (rw [bI_0] at c_48; rw [hj] at c_48; rw [decide_eq_false (fun q => absurd q.1 (of_decide_eq_false c_48))]; done) | (have hz := ts_of c_48; rw [hj] at hz; have hz2 := of_decide_eq_true hz; first | (rw [decide_eq_true ⟨hz2, by simp [*]⟩]; done) | (rw [decide_eq_false (fun q => by simp_all)]; done))
    refine m_iload_n (pc' := 18) C dX11_isWord_17 rfl 0 rfl rfl ?_
    refine m_bipush (pc' := 20) (v := nI 111) C dX11_isWord_18 (by decide) rfl ?_
    refine m_icmp_eq (pc' := 23) (tgt := 41) C dX11_isWord_20 (by decide) rfl (fun c_20 => ?_) (fun c_20 => ?_)
    · refine m_iconst (pc' := 42) (v := bI true) C dX11_isWord_41 (by decide) rfl ?_
      refine m_goto (tgt := 46) C dX11_isWord_42 (by decide) ?_
      refine m_istore_n (pc' := 47) (lv' := [(2, .int (bI true)), (0, .int (x)), (1, .int (y))]) C dX11_isWord_46 rfl (by decide) rfl rfl ?_
      refine m_lv [2, 0] rfl ?_
      exact J47 true (by simp [*])
    · refine m_iload_n (pc' := 24) C dX11_isWord_23 rfl 0 rfl rfl ?_
      refine m_bipush (pc' := 26) (v := nI 120) C dX11_isWord_24 (by decide) rfl ?_
      refine m_icmp_eq (pc' := 29) (tgt := 41) C dX11_isWord_26 (by decide) rfl (fun c_26 => ?_) (fun c_26 => ?_)
      · refine m_iconst (pc' := 42) (v := bI true) C dX11_isWord_41 (by decide) rfl ?_
        refine m_goto (tgt := 46) C dX11_isWord_42 (by decide) ?_
        refine m_istore_n (pc' := 47) (lv' := [(2, .int (bI true)), (0, .int (x)), (1, .int (y))]) C dX11_isWord_46 rfl (by decide) rfl rfl ?_
        refine m_lv [2, 0] rfl ?_
        exact J47 true (by simp [*])
      · refine m_iload_n (pc' := 30) C dX11_isWord_29 rfl 0 rfl rfl ?_
        refine m_bipush (pc' := 32) (v := nI 117) C dX11_isWord_30 (by decide) rfl ?_
        refine m_icmp_eq (pc' := 35) (tgt := 41) C dX11_isWord_32 (by decide) rfl (fun c_32 => ?_) (fun c_32 => ?_)
        · refine m_iconst (pc' := 42) (v := bI true) C dX11_isWord_41 (by decide) rfl ?_
          refine m_goto (tgt := 46) C dX11_isWord_42 (by decide) ?_
          refine m_istore_n (pc' := 47) (lv' := [(2, .int (bI true)), (0, .int (x)), (1, .int (y))]) C dX11_isWord_46 rfl (by decide) rfl rfl ?_
          refine m_lv [2, 0] rfl ?_
          exact J47 true (by simp [*])
        · refine m_iload_n (pc' := 36) C dX11_isWord_35 rfl 0 rfl rfl ?_
          refine m_bipush (pc' := 38) (v := nI 100) C dX11_isWord_36 (by decide) rfl ?_
          refine m_icmp_ne (pc' := 41) (tgt := 45) C dX11_isWord_38 (by decide) rfl (fun c_38 => ?_) (fun c_38 => ?_)
          · refine m_iconst (pc' := 46) (v := bI false) C dX11_isWord_45 (by decide) rfl ?_
            refine m_istore_n (pc' := 47) (lv' := [(2, .int (bI false)), (0, .int (x)), (1, .int (y))]) C dX11_isWord_46 rfl (by decide) rfl rfl ?_
            refine m_lv [2, 0] rfl ?_
            exact J47 false (by simp [*])
          · replace c_38 := Classical.not_not.mp c_38
            refine m_iconst (pc' := 42) (v := bI true) C dX11_isWord_41 (by decide) rfl ?_
            refine m_goto (tgt := 46) C dX11_isWord_42 (by decide) ?_
            refine m_istore_n (pc' := 47) (lv' := [(2, .int (bI true)), (0, .int (x)), (1, .int (y))]) C dX11_isWord_46 rfl (by decide) rfl rfl ?_
            refine m_lv [2, 0] rfl ?_
            exact J47 true (by simp [*])
  · refine m_iload_n (pc' := 7) C dX11_isWord_6 rfl 1 rfl rfl ?_
    refine m_iconst (pc' := 8) (v := nI 1) C dX11_isWord_7 (by decide) rfl ?_
    refine m_icmp_ne (pc' := 11) (tgt := 15) C dX11_isWord_8 (by decide) rfl (fun c_8 => ?_) (fun c_8 => ?_)
    · refine m_iconst (pc' := 16) (v := bI false) C dX11_isWord_15 (by decide) rfl ?_
      refine m_iret C hrt0 hlk0 (nar_z _) dX11_isWord_16 ?_
      refine ⟨?_, rfl⟩
      unfold wdOk
      rw [if_pos (Classical.not_not.mp c_3)]
      first | (rw [decide_eq_true (Classical.not_not.mp c_8)]; done) | (rw [decide_eq_false c_8]; done)
    · refine m_iconst (pc' := 12) (v := bI true) C dX11_isWord_11 (by decide) rfl ?_
      refine m_goto (tgt := 16) C dX11_isWord_12 (by decide) ?_
      refine m_iret C hrt0 hlk0 (nar_z _) dX11_isWord_16 ?_
      refine ⟨?_, rfl⟩
      unfold wdOk
      rw [if_pos (Classical.not_not.mp c_3)]
      first | (rw [decide_eq_true (Classical.not_not.mp c_8)]; done) | (rw [decide_eq_false c_8]; done)
set_option maxHeartbeats 4000000 in
set_option maxRecDepth 100000 in
theorem kX11_odd {l : Launch} {D : va_G} {cy : Nat → ClassId} {ad : Nat → Nat} {n : Nat} {A : Nat → Prop} (hI : mI ad n A) {M : Nat → va_E} (hn : 52 ≤ n) {fp ot : Int32} (h0 : M 0 = fdO ad fp ot) : mMi l yX11_odd (gW yX11_odd cX11_odd 1 (some .int)) { frames := 0, cells := 0, slots := 0, locals := 0 } D cy ad n A [.ref (ad 0)] M (fun res M' => res = ot ∧ M' = M) := by
  refine m_entry (cc := cX11_odd) (maxL := 1) (ret := (some .int)) (own := RX11) (lv := [(0, .ref (ad 0))]) hI (by decide) rfl rfl (Nat.le_of_ble_eq_true rfl) rfl (fun pX eX sX mX aX bX tX cX C hrt0 hlk0 => ?_)
  refine m_aload_n (pc' := 1) C dX11_odd_0 rfl 0 rfl rfl ?_
  refine m_get (pc' := 4) C 0 (by omega) h0 rfl inW_X11 9 (by decide) (gW_of tm_2_68) rfl rfl dX11_odd_1 rfl ?_
  exact m_iret C hrt0 hlk0 rfl dX11_odd_4 ⟨rfl, rfl⟩
set_option maxHeartbeats 4000000 in
set_option maxRecDepth 100000 in
theorem kX11_place {l : Launch} {D : va_G} {cy : Nat → ClassId} {ad : Nat → Nat} {n : Nat} {A : Nat → Prop} (hI : mI ad n A) {M : Nat → va_E} (hn : 52 ≤ n) {fp ot : Int32} (h0 : M 0 = fdO ad fp ot) : mMi l yX11_place (gW yX11_place cX11_place 1 (some .int)) { frames := 0, cells := 0, slots := 0, locals := 0 } D cy ad n A [.ref (ad 0)] M (fun res M' => res = fp ∧ M' = M) := by
  refine m_entry (cc := cX11_place) (maxL := 1) (ret := (some .int)) (own := RX11) (lv := [(0, .ref (ad 0))]) hI (by decide) rfl rfl (Nat.le_of_ble_eq_true rfl) rfl (fun pX eX sX mX aX bX tX cX C hrt0 hlk0 => ?_)
  refine m_aload_n (pc' := 1) C dX11_place_0 rfl 0 rfl rfl ?_
  refine m_get (pc' := 4) C 0 (by omega) h0 rfl inW_X11 8 (by decide) (gW_of tm_2_67) rfl rfl dX11_place_1 rfl ?_
  exact m_iret C hrt0 hlk0 rfl dX11_place_4 ⟨rfl, rfl⟩
set_option maxHeartbeats 4000000 in
set_option maxRecDepth 100000 in
theorem kX11_output {l : Launch} {D : va_G} {cy : Nat → ClassId} {ad : Nat → Nat} {n : Nat} {A : Nat → Prop} (hI : mI ad n A) {M : Nat → va_E} (hn : 52 ≤ n) {fp ot : Int32} (h0 : M 0 = fdO ad fp ot) {lim : Nat} {O : List Nat} (hg : isRow cy ad n M 5 6 2000 lim O) (k : Int32) : mMi l yX11_output (gW yX11_output cX11_output 2 (some .int)) { frames := 1, cells := 0, slots := 0, locals := 21 } D cy ad n A [.ref (ad 0), .int k] M (fun res M' => res = rowAt (O.take lim) k ∧ M' = M) := by
  refine m_entry (cc := cX11_output) (maxL := 2) (ret := (some .int)) (own := RX11) (lv := [(0, .ref (ad 0)), (1, .int (k))]) hI (by decide) rfl rfl (Nat.le_of_ble_eq_true rfl) rfl (fun pX eX sX mX aX bX tX cX C hrt0 hlk0 => ?_)
  refine m_aload_n (pc' := 1) C dX11_output_0 rfl 0 rfl rfl ?_
  refine m_get (pc' := 4) C 0 (by omega) h0 rfl inW_X11 1 (by decide) (gW_of tm_2_60) rfl rfl dX11_output_1 rfl ?_
  refine m_iload_n (pc' := 5) C dX11_output_4 rfl 1 rfl rfl ?_
  refine m_callVi (pc' := 8) (As := [.int (k)]) (rest := []) C (kX9_at hI hg k) (cwV 1 C.1.2.2.2.2 (goodV tm_3_162 tm_2_128 tm_2_129 tm_1_3 tm_2_130) rfl rfl rfl (by decide +kernel) ⟨by decide, by decide⟩) hg.1 hg.ob rfl rfl rfl (Nat.le_of_ble_eq_true rfl) dX11_output_5 rfl ⟨by decide, by decide⟩ (fun x_1 N_1 q_1 => ?_)
  obtain ⟨e_1, E_1⟩ := q_1
  replace E_1 := E_1.symm
  subst E_1
  replace e_1 := e_1.symm
  subst e_1
  exact m_iret C hrt0 hlk0 rfl dX11_output_8 ⟨rfl, rfl⟩
set_option maxHeartbeats 4000000 in
set_option maxRecDepth 100000 in
theorem kX11_data {l : Launch} {D : va_G} {cy : Nat → ClassId} {ad : Nat → Nat} {n : Nat} {A : Nat → Prop} (hI : mI ad n A) {M : Nat → va_E} (hn : 52 ≤ n) {fp ot : Int32} (h0 : M 0 = fdO ad fp ot) {B : List Nat} (hb : isRow cy ad n M 7 8 256 256 B) (k : Int32) : mMi l yX11_data (gW yX11_data cX11_data 2 (some .int)) { frames := 1, cells := 0, slots := 0, locals := 21 } D cy ad n A [.ref (ad 0), .int k] M (fun res M' => res = rowAt (B.take 256) k ∧ M' = M) := by
  refine m_entry (cc := cX11_data) (maxL := 2) (ret := (some .int)) (own := RX11) (lv := [(0, .ref (ad 0)), (1, .int (k))]) hI (by decide) rfl rfl (Nat.le_of_ble_eq_true rfl) rfl (fun pX eX sX mX aX bX tX cX C hrt0 hlk0 => ?_)
  refine m_aload_n (pc' := 1) C dX11_data_0 rfl 0 rfl rfl ?_
  refine m_get (pc' := 4) C 0 (by omega) h0 rfl inW_X11 2 (by decide) (gW_of tm_2_61) rfl rfl dX11_data_1 rfl ?_
  refine m_iload_n (pc' := 5) C dX11_data_4 rfl 1 rfl rfl ?_
  refine m_callVi (pc' := 8) (As := [.int (k)]) (rest := []) C (kX9_at hI hb k) (cwV 1 C.1.2.2.2.2 (goodV tm_3_162 tm_2_128 tm_2_129 tm_1_3 tm_2_130) rfl rfl rfl (by decide +kernel) ⟨by decide, by decide⟩) hb.1 hb.ob rfl rfl rfl (Nat.le_of_ble_eq_true rfl) dX11_data_5 rfl ⟨by decide, by decide⟩ (fun x_1 N_1 q_1 => ?_)
  obtain ⟨e_1, E_1⟩ := q_1
  replace E_1 := E_1.symm
  subst E_1
  replace e_1 := e_1.symm
  subst e_1
  exact m_iret C hrt0 hlk0 rfl dX11_data_8 ⟨rfl, rfl⟩
set_option maxHeartbeats 4000000 in
set_option maxRecDepth 100000 in
theorem kX11_erase {l : Launch} {D : va_G} {cy : Nat → ClassId} {ad : Nat → Nat} {n : Nat} {A : Nat → Prop} (hI : mI ad n A) {M : Nat → va_E} (hn : 52 ≤ n) {fp ot : Int32} (h0 : M 0 = fdO ad fp ot) {T : List Nat} (ht : isRow cy ad n M 3 4 80 80 T) (hT : T.length ≤ 80) : mMi l yX11_erase (gW yX11_erase cX11_erase 2 (some .int)) { frames := 1, cells := 0, slots := 0, locals := 20 } D cy ad n A [.ref (ad 0)] M (fun res M' => res = nI T.length ∧ isRow cy ad n M' 3 4 80 80 [] ∧ Fr [3] M M') := by
  refine m_entry (cc := cX11_erase) (maxL := 2) (ret := (some .int)) (own := RX11) (lv := [(0, .ref (ad 0))]) hI (by decide) rfl rfl (Nat.le_of_ble_eq_true rfl) rfl (fun pX eX sX mX aX bX tX cX C hrt0 hlk0 => ?_)
  refine m_aload_n (pc' := 1) C dX11_erase_0 rfl 0 rfl rfl ?_
  refine m_get (pc' := 4) C 0 (by omega) h0 rfl inW_X11 0 (by decide) (gW_of tm_2_59) rfl rfl dX11_erase_1 rfl ?_
  refine m_callVi (pc' := 7) (As := []) (rest := []) C (kX9_size hI ht) (cwV 0 C.1.2.2.2.2 (goodV tm_2_94 tm_2_95 tm_2_96 tm_1_3 tm_2_97) rfl rfl rfl (by decide +kernel) ⟨by decide, by decide⟩) ht.1 ht.ob rfl rfl rfl (Nat.le_of_ble_eq_true rfl) dX11_erase_4 rfl ⟨by decide, by decide⟩ (fun x_1 N_1 q_1 => ?_)
  obtain ⟨e_1, E_1⟩ := q_1
  replace E_1 := E_1.symm
  subst E_1
  replace e_1 := e_1.symm
  subst e_1
  refine m_istore_n (pc' := 8) (lv' := [(1, .int (nI (min T.length 80))), (0, .ref (ad 0))]) C dX11_erase_7 rfl (by decide) rfl rfl ?_
  refine m_aload_n (pc' := 9) C dX11_erase_8 rfl 1 rfl rfl ?_
  refine m_get (pc' := 12) C 0 (by omega) h0 rfl inW_X11 0 (by decide) (gW_of tm_2_59) rfl rfl dX11_erase_9 rfl ?_
  refine m_callVv (pc' := 15) (As := []) (rest := []) C (kX9_clear hI ht.pre) (cwV 0 C.1.2.2.2.2 (goodV tm_2_98 tm_2_99 tm_2_100 tm_1_3 tm_2_101) rfl rfl rfl (by decide +kernel) ⟨by decide, by decide⟩) ht.1 ht.ob rfl rfl rfl (Nat.le_of_ble_eq_true rfl) dX11_erase_12 rfl ⟨by decide, by decide⟩ (fun M2 q_2 => ?_)
  obtain ⟨R_2, F_2⟩ := q_2
  refine m_iload_n (pc' := 16) C dX11_erase_15 rfl 0 rfl rfl ?_
  refine m_iret C hrt0 hlk0 rfl dX11_erase_16 ?_
  exact ⟨by rw [Nat.min_eq_left hT], R_2, (F_2.sub (by decide))⟩
set_option maxHeartbeats 4000000 in
set_option maxRecDepth 100000 in
theorem kX11_none {l : Launch} {D : va_G} {cy : Nat → ClassId} {ad : Nat → Nat} {n : Nat} {A : Nat → Prop} (hI : mI ad n A) {M : Nat → va_E} (hn : 52 ≤ n) {fp ot : Int32} (h0 : M 0 = fdO ad fp ot) {xs : Nat → Arg} {cnt tk od : Nat} (hA : isArgs cy ad n M xs cnt tk od) : mMi l yX11_none (gW yX11_none cX11_none 2 (some .int)) { frames := 1, cells := 0, slots := 0, locals := 20 } D cy ad n A [.ref (ad 0)] M (fun res M' => res = nI cnt ∧ isArgs cy ad n M' xs 0 tk od ∧ Fr [9] M M') := by
  refine m_entry (cc := cX11_none) (maxL := 2) (ret := (some .int)) (own := RX11) (lv := [(0, .ref (ad 0))]) hI (by decide) rfl rfl (Nat.le_of_ble_eq_true rfl) rfl (fun pX eX sX mX aX bX tX cX C hrt0 hlk0 => ?_)
  refine m_aload_n (pc' := 1) C dX11_none_0 rfl 0 rfl rfl ?_
  refine m_get (pc' := 4) C 0 (by omega) h0 rfl inW_X11 3 (by decide) (gW_of tm_2_62) rfl rfl dX11_none_1 rfl ?_
  refine m_callVi (pc' := 7) (As := []) (rest := []) C (kX1_count hI hA) (cwV 0 C.1.2.2.2.2 (goodV tm_2_106 tm_2_107 tm_2_108 tm_1_4 tm_2_109) rfl rfl rfl (by decide +kernel) ⟨by decide, by decide⟩) hA.lt9 hA.ob9 rfl rfl rfl (Nat.le_of_ble_eq_true rfl) dX11_none_4 rfl ⟨by decide, by decide⟩ (fun x_1 N_1 q_1 => ?_)
  obtain ⟨e_1, E_1⟩ := q_1
  replace E_1 := E_1.symm
  subst E_1
  replace e_1 := e_1.symm
  subst e_1
  refine m_istore_n (pc' := 8) (lv' := [(1, .int (nI cnt)), (0, .ref (ad 0))]) C dX11_none_7 rfl (by decide) rfl rfl ?_
  refine m_aload_n (pc' := 9) C dX11_none_8 rfl 1 rfl rfl ?_
  refine m_get (pc' := 12) C 0 (by omega) h0 rfl inW_X11 3 (by decide) (gW_of tm_2_62) rfl rfl dX11_none_9 rfl ?_
  refine m_callVv (pc' := 15) (As := []) (rest := []) C (kX1_clear hI hA) (cwV 0 C.1.2.2.2.2 (goodV tm_2_110 tm_2_111 tm_2_112 tm_1_4 tm_2_113) rfl rfl rfl (by decide +kernel) ⟨by decide, by decide⟩) hA.lt9 hA.ob9 rfl rfl rfl (Nat.le_of_ble_eq_true rfl) dX11_none_12 rfl ⟨by decide, by decide⟩ (fun M2 q_2 => ?_)
  obtain ⟨A_2, F_2⟩ := q_2
  refine m_iload_n (pc' := 16) C dX11_none_15 rfl 0 rfl rfl ?_
  refine m_iret C hrt0 hlk0 rfl dX11_none_16 ?_
  exact ⟨rfl, A_2, (F_2.sub (by decide))⟩
set_option maxHeartbeats 4000000 in
set_option maxRecDepth 100000 in
theorem kX11_print {l : Launch} {D : va_G} {cy : Nat → ClassId} {ad : Nat → Nat} {n : Nat} {A : Nat → Prop} (hI : mI ad n A) {M : Nat → va_E} (hn : 52 ≤ n) {fp ot : Int32} (h0 : M 0 = fdO ad fp ot) {T : List Nat} (ht : isRow cy ad n M 3 4 80 80 T) (hT : T.length ≤ 80) {ended : Bool} {lim : Nat} {O : List Nat} {xs : Nat → Arg} {cnt tk od : Nat} (hps : isPS cy ad n M ended lim O xs cnt tk od) (hdi : isDir M) : mMi l yX11_print (gW yX11_print cX11_print 5 (some .int)) { frames := 6, cells := 0, slots := 0, locals := 141 } D cy ad n A [.ref (ad 0)] M (fun res M' => res = ptI T xs cnt lim ∧ M' 0 = fdO ad (fltI (fltF T 80 0)) (ptN T xs cnt lim ot) ∧ (∃ (e2 : Bool) (tk2 od2 : Nat), isPS cy ad n M' e2 lim (ptO T xs cnt lim O) xs cnt tk2 od2) ∧ isDir M' ∧ Fr (0 :: prtS) M M') := by
  obtain ⟨pn_0, pa_0, pb_0, pc_0, ⟨ds_0, lg_0, pd_0⟩, pe_0, ⟨P_0, pf_0⟩, W_0, pg_0⟩ := hps
  refine m_entry (cc := cX11_print) (maxL := 5) (ret := (some .int)) (own := RX11) (lv := [(0, .ref (ad 0))]) hI (by decide) rfl rfl (Nat.le_of_ble_eq_true rfl) rfl (fun pX eX sX mX aX bX tX cX C hrt0 hlk0 => ?_)
  refine m_aload_n (pc' := 1) C dX11_print_0 rfl 0 rfl rfl ?_
  refine m_aload_n (pc' := 2) C dX11_print_1 rfl 0 rfl rfl ?_
  refine m_get (pc' := 5) C 0 (by omega) h0 rfl inW_X11 4 (by decide) (gW_of tm_2_63) rfl rfl dX11_print_2 rfl ?_
  refine m_aload_n (pc' := 6) C dX11_print_5 rfl 0 rfl rfl ?_
  refine m_get (pc' := 9) C 0 (by omega) h0 rfl inW_X11 0 (by decide) (gW_of tm_2_59) rfl rfl dX11_print_6 rfl ?_
  refine m_callVi (pc' := 12) (As := [.ref (ad 3)]) (rest := [.ref (ad 0)]) C (kX8_faultIn hI hn pa_0 ht hT pe_0 hdi) (cwV 1 C.1.2.2.2.2 (goodV tm_2_118 tm_2_119 tm_2_120 tm_1_7 tm_2_121) rfl rfl rfl (by decide +kernel) ⟨by decide, by decide⟩) (by omega) pa_0 rfl rfl rfl (Nat.le_of_ble_eq_true rfl) dX11_print_9 rfl ⟨by decide, by decide⟩ (fun x_1 M1 q_1 => ?_)
  obtain ⟨e_1, es_1, di_1, F_1⟩ := q_1
  replace e_1 := e_1.symm
  subst e_1
  have f0_2 : M1 0 = .inr (11, [.ref (ad 3), .ref (ad 5), .ref (ad 7), .ref (ad 9), .ref (ad 36), .ref (ad 43), .ref (ad 46), .ref (ad 47), .int (fp), .int (ot)]) := (F_1 0 (by decide)).trans h0
  refine m_put (pc' := 15) (ty := .int) (fs' := [.ref (ad 3), .ref (ad 5), .ref (ad 7), .ref (ad 9), .ref (ad 36), .ref (ad 43), .ref (ad 46), .ref (ad 47), .int (fltI (fltF T 80 0)), .int (ot)]) C 0 (by omega) f0_2 rfl inW_X11 tyX11 tyX11_ok nmX11 8 (by decide) (gW_of tm_2_67) rfl rfl (by decide +kernel) rfl rfl (by simp) rfl dX11_print_12 rfl (fun M3 g_3 F_3 => ?_)
  refine m_aload_n (pc' := 16) C dX11_print_15 rfl 0 rfl rfl ?_
  refine m_get (pc' := 19) C 0 (by omega) g_3 rfl inW_X11 8 (by decide) (gW_of tm_2_67) rfl rfl dX11_print_16 rfl ?_
  refine m_iconst (pc' := 20) (v := (-1)) C dX11_print_19 (by decide) rfl ?_
  refine m_icmp_eq (pc' := 23) (tgt := 26) C dX11_print_20 (by decide) rfl (fun c_20 => ?_) (fun c_20 => ?_)
  · have hnone : fltF T 80 0 = none := (fltI_none hT).mp c_20
    refine m_cut (σ := (Nat → va_E)) (fun a => (∃ (e : Bool), isPS cy ad n a e lim (pRun T xs cnt 9 0).1 xs cnt (pRun T xs cnt 9 0).2.2 (pRun T xs cnt 9 0).2.1) ∧ isDir a ∧ isRow cy ad n a 3 4 80 80 T ∧ a 0 = fdO ad (fltI (fltF T 80 0)) ot ∧ Fr (0 :: prtS) M a) (fun a => a) 128 (fun a => [(0, .ref (ad 0))]) (fun a => []) ?_ (fun J128 => ?_)
    · rintro Mj hj
      try dsimp only at hj ⊢
      obtain ⟨⟨e1, j1⟩, j2, j3, j4, j5⟩ := hj
      obtain ⟨pn_1, pa_1, pb_1, pc_1, ⟨ds_1, lg_1, pd_1⟩, pe_1, ⟨P_1, pf_1⟩, W_1, pg_1⟩ := j1
      have hl2 : lim ≤ 2000 := pb_1.2.2.1
      refine m_aload_n (pc' := 129) C dX11_print_128 rfl 0 rfl rfl ?_
      refine m_callVi (pc' := 132) (As := []) (rest := []) C (kX11_answerOfPage hI hn j4 pb_1) (cwV 0 C.1.2.2.2.2 (goodV tm_3_138 tm_3_140 tp_25 tm_1_1 tm_3_141) rfl rfl rfl (by decide +kernel) ⟨by decide, by decide⟩) (by omega) j4 rfl rfl rfl (Nat.le_of_ble_eq_true rfl) dX11_print_129 rfl ⟨by decide, by decide⟩ (fun x_4 M4 q_4 => ?_)
      obtain ⟨e_4, R_4, F_4⟩ := q_4
      replace e_4 := e_4.symm
      subst e_4
      refine m_istore_n (pc' := 133) (lv' := [(2, .int (pgI lim ((pRun T xs cnt 9 0).1))), (0, .ref (ad 0))]) C dX11_print_132 rfl (by decide) rfl rfl ?_
      refine m_cut (σ := (Nat → va_E)) (fun a => (∃ (e : Bool), isPS cy ad n a e lim (pgO lim (pRun T xs cnt 9 0).1) xs cnt (pRun T xs cnt 9 0).2.2 (pRun T xs cnt 9 0).2.1) ∧ isDir a ∧ a 0 = fdO ad (fltI (fltF T 80 0)) (if lim < (pRun T xs cnt 9 0).1.length then ot else nI (pRun T xs cnt 9 0).2.1) ∧ Fr (0 :: prtS) M a) (fun a => a) 150 (fun a => [(0, .ref (ad 0)), (2, .int (pgI lim (pRun T xs cnt 9 0).1))]) (fun a => []) ?_ (fun J150 => ?_)
      · rintro Mh hj
        try dsimp only at hj ⊢
        obtain ⟨k1, k2, k3, k4⟩ := hj
        refine m_iload_n (pc' := 151) C dX11_print_150 rfl 1 rfl rfl ?_
        refine m_iret C hrt0 hlk0 rfl dX11_print_151 ?_
        obtain ⟨e2, k1⟩ := k1
        have hN : ptN T xs cnt lim ot = (if lim < (pRun T xs cnt 9 0).1.length then ot else nI (pRun T xs cnt 9 0).2.1) := by
          unfold ptN
          by_cases q : lim < (pRun T xs cnt 9 0).1.length
          · rw [if_pos q, if_neg (fun z => z.2 q)]
          · rw [if_neg q, if_pos ⟨hnone, q⟩]
        rw [hN]
        unfold ptI ptO
        rw [if_pos hnone, if_pos hnone]
        exact ⟨rfl, k3, ⟨_, _, _, k1⟩, k2, k4⟩
      refine m_iload_n (pc' := 134) C dX11_print_133 rfl 0 rfl rfl ?_
      refine m_bipush (pc' := 136) (v := (-3)) C dX11_print_134 (by decide) rfl ?_
      refine m_icmp_eq (pc' := 139) (tgt := 150) C dX11_print_136 (by decide) rfl (fun c_136 => ?_) (fun c_136 => ?_)
      · have hov : lim < (pRun T xs cnt 9 0).1.length := (pgI_3 hl2).mp c_136
        have dif5 := j2.fr F_4 (by decide)
        have f0_6 : M4 0 = .inr (11, [.ref (ad 3), .ref (ad 5), .ref (ad 7), .ref (ad 9), .ref (ad 36), .ref (ad 43), .ref (ad 46), .ref (ad 47), .int (fltI (fltF T 80 0)), .int (ot)]) := (F_4 0 (by decide)).trans j4
        have f36_7 : M4 36 = .inr (8, [.ref (ad 5), .ref (ad 9), .ref (ad 1), .ref (ad 37), .ref (ad 38), .ref (ad 39), .ref (ad 41), .int (bI e1)]) := (F_4 36 (by decide)).trans pa_1
        have A_8 := pc_1.fr F_4 (by decide)
        have G_9 := pd_1.fr F_4 (by decide) (by decide)
        have esf10 := pe_1.fr F_4 (by decide)
        have R39_11 := pf_1.fr F_4 (by decide) (by decide)
        have R41_12 := pg_1.fr F_4 (by decide) (by decide)
        refine m_lv [1, 0] rfl ?_
        exact J150 M4 (⟨⟨_, ⟨hn, f36_7, R_4, A_8, ⟨_, _, G_9⟩, esf10, ⟨_, R39_11⟩, ⟨_, R41_12⟩⟩⟩, dif5, by rw [if_pos hov]; exact f0_6, (j5.tr (F_4.sub (by decide)))⟩)
      · have hov : ¬ lim < (pRun T xs cnt 9 0).1.length := fun q => c_136 ((pgI_3 hl2).mpr q)
        refine m_aload_n (pc' := 140) C dX11_print_139 rfl 1 rfl rfl ?_
        refine m_aload_n (pc' := 141) C dX11_print_140 rfl 1 rfl rfl ?_
        have f0_13 : M4 0 = .inr (11, [.ref (ad 3), .ref (ad 5), .ref (ad 7), .ref (ad 9), .ref (ad 36), .ref (ad 43), .ref (ad 46), .ref (ad 47), .int (fltI (fltF T 80 0)), .int (ot)]) := (F_4 0 (by decide)).trans j4
        refine m_get (pc' := 144) C 0 (by omega) f0_13 rfl inW_X11 3 (by decide) (gW_of tm_2_62) rfl rfl dX11_print_141 rfl ?_
        have A_15 := pc_1.fr F_4 (by decide)
        refine m_callVi (pc' := 147) (As := []) (rest := [.ref (ad 0)]) C (kX1_oddTexts hI A_15) (cwV 0 C.1.2.2.2.2 (goodV tm_3_146 tm_3_147 tm_3_148 tm_1_4 tm_3_149) rfl rfl rfl (by decide +kernel) ⟨by decide, by decide⟩) A_15.lt9 A_15.ob9 rfl rfl rfl (Nat.le_of_ble_eq_true rfl) dX11_print_144 rfl ⟨by decide, by decide⟩ (fun x_14 N_14 q_14 => ?_)
        obtain ⟨e_14, E_14⟩ := q_14
        replace E_14 := E_14.symm
        subst E_14
        replace e_14 := e_14.symm
        subst e_14
        refine m_put (pc' := 150) (ty := .int) (fs' := [.ref (ad 3), .ref (ad 5), .ref (ad 7), .ref (ad 9), .ref (ad 36), .ref (ad 43), .ref (ad 46), .ref (ad 47), .int (fltI (fltF T 80 0)), .int (nI ((pRun T xs cnt 9 0).2.1))]) C 0 (by omega) f0_13 rfl inW_X11 tyX11 tyX11_ok nmX11 9 (by decide) (gW_of tm_2_68) rfl rfl (by decide +kernel) rfl rfl (by simp) rfl dX11_print_147 rfl (fun M16 g_16 F_16 => ?_)
        have dif17 := j2.fr F_4 (by decide)
        have dif18 := dif17.fr F_16 (by decide)
        have f36_19 : M4 36 = .inr (8, [.ref (ad 5), .ref (ad 9), .ref (ad 1), .ref (ad 37), .ref (ad 38), .ref (ad 39), .ref (ad 41), .int (bI e1)]) := (F_4 36 (by decide)).trans pa_1
        have f36_20 : M16 36 = .inr (8, [.ref (ad 5), .ref (ad 9), .ref (ad 1), .ref (ad 37), .ref (ad 38), .ref (ad 39), .ref (ad 41), .int (bI e1)]) := (F_16 36 (by decide)).trans f36_19
        have R5_21 := R_4.fr F_16 (by decide) (by decide)
        have A_22 := A_15.fr F_16 (by decide)
        have G_23 := pd_1.fr F_4 (by decide) (by decide)
        have G_24 := G_23.fr F_16 (by decide) (by decide)
        have esf25 := pe_1.fr F_4 (by decide)
        have esf26 := esf25.fr F_16 (by decide)
        have R39_27 := pf_1.fr F_4 (by decide) (by decide)
        have R39_28 := R39_27.fr F_16 (by decide) (by decide)
        have R41_29 := pg_1.fr F_4 (by decide) (by decide)
        have R41_30 := R41_29.fr F_16 (by decide) (by decide)
        refine m_lv [1, 0] rfl ?_
        exact J150 M16 (⟨⟨_, ⟨hn, f36_20, R5_21, A_22, ⟨_, _, G_24⟩, esf26, ⟨_, R39_28⟩, ⟨_, R41_30⟩⟩⟩, dif18, by rw [if_neg hov]; exact g_16, ((j5.tr (F_4.sub (by decide))).tr (F_16.sub (by decide)))⟩)
    refine m_aload_n (pc' := 27) C dX11_print_26 rfl 0 rfl rfl ?_
    refine m_get (pc' := 30) C 0 (by omega) g_3 rfl inW_X11 4 (by decide) (gW_of tm_2_63) rfl rfl dX11_print_27 rfl ?_
    have f36_32 : M1 36 = .inr (8, [.ref (ad 5), .ref (ad 9), .ref (ad 1), .ref (ad 37), .ref (ad 38), .ref (ad 39), .ref (ad 41), .int (bI ended)]) := (F_1 36 (by decide)).trans pa_0
    have f36_33 : M3 36 = .inr (8, [.ref (ad 5), .ref (ad 9), .ref (ad 1), .ref (ad 37), .ref (ad 38), .ref (ad 39), .ref (ad 41), .int (bI ended)]) := (F_3 36 (by decide)).trans f36_32
    have R5_34 := pb_0.fr F_1 (by decide) (by decide)
    have R5_35 := R5_34.fr F_3 (by decide) (by decide)
    have A_36 := pc_0.fr F_1 (by decide)
    have A_37 := A_36.fr F_3 (by decide)
    have G_38 := pd_0.fr F_1 (by decide) (by decide)
    have G_39 := G_38.fr F_3 (by decide) (by decide)
    have esf40 := es_1.fr F_3 (by decide)
    have R39_41 := pf_0.fr F_1 (by decide) (by decide)
    have R39_42 := R39_41.fr F_3 (by decide) (by decide)
    have R41_43 := pg_0.fr F_1 (by decide) (by decide)
    have R41_44 := R41_43.fr F_3 (by decide) (by decide)
    refine m_callVv (pc' := 33) (As := []) (rest := []) C (kX8_begin hI ⟨hn, f36_33, R5_35, A_37, ⟨_, _, G_39⟩, esf40, ⟨_, R39_42⟩, ⟨_, R41_44⟩⟩) (cwV 0 C.1.2.2.2.2 (goodV tm_2_189 tm_2_190 tm_2_191 tm_1_7 tm_2_192) rfl rfl rfl (by decide +kernel) ⟨by decide, by decide⟩) (by omega) f36_33 rfl rfl rfl (Nat.le_of_ble_eq_true rfl) dX11_print_30 rfl ⟨by decide, by decide⟩ (fun M31 q_31 => ?_)
    obtain ⟨PS_31, F_31⟩ := q_31
    have PB_31 := PS_31
    obtain ⟨pn_31, pa_31, pb_31, pc_31, ⟨ds_31, lg_31, pd_31⟩, pe_31, ⟨P_31, pf_31⟩, W_31, pg_31⟩ := PS_31
    refine m_iconst (pc' := 34) (v := bI true) C dX11_print_33 (by decide) rfl ?_
    refine m_istore_n (pc' := 35) (lv' := [(1, .int (bI true)), (0, .ref (ad 0))]) C dX11_print_34 rfl (by decide) rfl rfl ?_
    refine m_iconst (pc' := 36) (v := nI 0) C dX11_print_35 (by decide) rfl ?_
    refine m_istore_n (pc' := 37) (lv' := [(2, .int (nI 0)), (1, .int (bI true)), (0, .ref (ad 0))]) C dX11_print_36 rfl (by decide) rfl rfl ?_
    refine m_lv [2, 1, 0] rfl ?_
    have dif45 := di_1.fr F_3 (by decide)
    have dif46 := dif45.fr F_31 (by decide)
    have R3_47 := ht.fr F_1 (by decide) (by decide)
    have R3_48 := R3_47.fr F_3 (by decide) (by decide)
    have R3_49 := R3_48.fr F_31 (by decide) (by decide)
    have f0_50 : M31 0 = .inr (11, [.ref (ad 3), .ref (ad 5), .ref (ad 7), .ref (ad 9), .ref (ad 36), .ref (ad 43), .ref (ad 46), .ref (ad 47), .int (fltI (fltF T 80 0)), .int (ot)]) := (F_31 0 (by decide)).trans g_3
    refine m_loop (σ := Nat × Bool × Nat × Nat × Bool × List Nat × (Nat → va_E)) (fun a => a.2.2.2.2.2.2) (fun a => [(0, .ref (ad 0)), (1, .int (bI a.2.1)), (2, .int (nI a.1))]) (fun a => (pRun T xs cnt 9 0) = (if a.2.1 then (a.2.2.2.2.2.1 ++ (pRun T xs cnt (9 - a.1) a.2.2.1).1, a.2.2.2.1 + (pRun T xs cnt (9 - a.1) a.2.2.1).2.1, (pRun T xs cnt (9 - a.1) a.2.2.1).2.2) else (a.2.2.2.2.2.1, a.2.2.2.1, a.2.2.1)) ∧ (a.2.1 = true → a.2.2.2.2.1 = false) ∧ isPS cy ad n a.2.2.2.2.2.2 a.2.2.2.2.1 lim a.2.2.2.2.2.1 xs cnt a.2.2.1 a.2.2.2.1 ∧ isDir a.2.2.2.2.2.2 ∧ isRow cy ad n a.2.2.2.2.2.2 3 4 80 80 T ∧ a.2.2.2.2.2.2 0 = fdO ad (fltI (fltF T 80 0)) ot ∧ Fr (0 :: prtS) M a.2.2.2.2.2.2 ∧ a.1 ≤ 9) (fun a => 9 - a.1) (0, true, 0, 0, false, [], M31) (⟨by rw [if_pos rfl, List.nil_append, Nat.zero_add]; rfl, fun _ => rfl, ⟨hn, pa_31, pb_31, pc_31, ⟨_, _, pd_31⟩, pe_31, ⟨_, pf_31⟩, ⟨_, pg_31⟩⟩, dif46, R3_49, f0_50, (((F_1.sub (by decide)).tr (F_3.sub (by decide))).tr (F_31.sub (by decide))), Nat.zero_le _⟩) ?_
    rintro ⟨k, ag, tk, od, e, R, Mk⟩ hinv ih
    dsimp only at hinv ih ⊢
    obtain ⟨i1, i2, i3, i4, i5, i6, i7, i8⟩ := hinv
    have i3b := i3
    obtain ⟨pn_0, pa_0, pb_0, pc_0, ⟨ds_0, lg_0, pd_0⟩, pe_0, ⟨P_0, pf_0⟩, W_0, pg_0⟩ := i3
    refine m_iload_n (pc' := 38) C dX11_print_37 rfl 2 rfl rfl ?_
    refine m_bipush (pc' := 40) (v := nI 8) C dX11_print_38 (by decide) rfl ?_
    refine m_icmp_gt (pc' := 43) (tgt := 128) C dX11_print_40 (by decide) rfl (fun c_40 => ?_) (fun c_40 => ?_)
    · have n_40 : 8 < k := (nI_ltI (by omega) (by omega)).mp c_40
      have hfin : (pRun T xs cnt 9 0) = (R, od, tk) := by rw [i1, show k = 9 by omega]; cases ag; rfl; rw [if_pos rfl, Nat.sub_self, pRun, List.append_nil]; rfl
      refine m_lv [0] rfl ?_
      exact J128 Mk (⟨⟨_, by rw [hfin]; exact i3b⟩, i4, i5, i6, i7⟩)
    · have n_40 : k ≤ 8 := Nat.le_of_not_lt (fun q => c_40 ((nI_ltI (by omega) (by omega)).mpr q))
      refine m_iload_n (pc' := 44) C dX11_print_43 rfl 1 rfl rfl ?_
      refine m_if_eq (pc' := 47) (tgt := 128) C dX11_print_44 (by decide) rfl (fun c_44 => ?_) (fun c_44 => ?_)
      · have hfin : (pRun T xs cnt 9 0) = (R, od, tk) := by rw [i1, (bI_0 _).mp c_44]; rfl
        refine m_lv [0] rfl ?_
        exact J128 Mk (⟨⟨_, by rw [hfin]; exact i3b⟩, i4, i5, i6, i7⟩)
      · have hag : ag = true := ts_of c_44
        have he0 : e = false := i2 hag
        subst he0
        refine m_aload_n (pc' := 48) C dX11_print_47 rfl 0 rfl rfl ?_
        refine m_get (pc' := 51) C 0 (by omega) i6 rfl inW_X11 3 (by decide) (gW_of tm_2_62) rfl rfl dX11_print_48 rfl ?_
        refine m_callVi (pc' := 54) (As := []) (rest := []) C (kX1_taken hI pc_0) (cwV 0 C.1.2.2.2.2 (goodV tm_2_198 tm_2_199 tm_2_200 tm_1_4 tm_2_201) rfl rfl rfl (by decide +kernel) ⟨by decide, by decide⟩) pc_0.lt9 pc_0.ob9 rfl rfl rfl (Nat.le_of_ble_eq_true rfl) dX11_print_51 rfl ⟨by decide, by decide⟩ (fun x_51 N_51 q_51 => ?_)
        obtain ⟨e_51, E_51⟩ := q_51
        replace E_51 := E_51.symm
        subst E_51
        replace e_51 := e_51.symm
        subst e_51
        refine m_istore_n (pc' := 55) (lv' := [(3, .int (nI tk)), (0, .ref (ad 0)), (1, .int (bI ag)), (2, .int (nI k))]) C dX11_print_54 rfl (by decide) rfl rfl ?_
        refine m_aload_n (pc' := 56) C dX11_print_55 rfl 1 rfl rfl ?_
        refine m_get (pc' := 59) C 0 (by omega) i6 rfl inW_X11 4 (by decide) (gW_of tm_2_63) rfl rfl dX11_print_56 rfl ?_
        refine m_aload_n (pc' := 60) C dX11_print_59 rfl 1 rfl rfl ?_
        refine m_get (pc' := 63) C 0 (by omega) i6 rfl inW_X11 0 (by decide) (gW_of tm_2_59) rfl rfl dX11_print_60 rfl ?_
        refine m_callVv (pc' := 66) (As := [.ref (ad 3)]) (rest := []) C (kX8_printOnce hI ⟨hn, pa_0, pb_0, pc_0, ⟨_, _, pd_0⟩, pe_0, ⟨_, pf_0⟩, ⟨_, pg_0⟩⟩ i5 hT i4) (cwV 1 C.1.2.2.2.2 (goodV tm_2_202 tm_2_203 tm_2_204 tm_1_7 tm_2_205) rfl rfl rfl (by decide +kernel) ⟨by decide, by decide⟩) (by omega) pa_0 rfl rfl rfl (Nat.le_of_ble_eq_true rfl) dX11_print_63 rfl ⟨by decide, by decide⟩ (fun M52 q_52 => ?_)
        obtain ⟨PS_52, di_52, F_52⟩ := q_52
        have PB_52 := PS_52
        obtain ⟨pn_52, pa_52, pb_52, pc_52, ⟨ds_52, lg_52, pd_52⟩, pe_52, ⟨P_52, pf_52⟩, W_52, pg_52⟩ := PS_52
        have hb1 : (oRun T xs cnt 80 false 0 tk).2.1 ≤ 8 := pc_52.2.2.1
        have hb0 : tk ≤ 8 := pc_0.2.2.1
        have hc8 : cnt ≤ 8 := pc_0.2.1
        refine m_cut (σ := Bool) (fun a => a = decide (tk < (oRun T xs cnt 80 false 0 tk).2.1)) (fun a => M52) 84 (fun a => [(0, .ref (ad 0)), (1, .int (bI ag)), (2, .int (nI k)), (4, .int (bI a))]) (fun a => []) ?_ (fun J84 => ?_)
        · rintro z hj
          try dsimp only at hj ⊢
          have hz4 := hj
          refine m_cut (σ := Bool) (fun a => a = decide (tk < (oRun T xs cnt 80 false 0 tk).2.1 ∧ (oRun T xs cnt 80 false 0 tk).2.1 < cnt ∧ (oRun T xs cnt 80 false 0 tk).2.2.2 = false)) (fun a => M52) 121 (fun a => [(0, .ref (ad 0)), (1, .int (bI ag)), (2, .int (nI k))]) (fun a => [.int (bI a)]) ?_ (fun J121 => ?_)
          · rintro z hj
            try dsimp only at hj ⊢
            have hz := hj
            refine m_istore_n (pc' := 122) (lv' := [(1, .int (bI z)), (0, .ref (ad 0)), (2, .int (nI k))]) C dX11_print_121 rfl (by decide) rfl rfl ?_
            refine m_iinc (pc' := 125) (v := nI (k + 1)) (lv' := [(2, .int (nI (k + 1))), (1, .int (bI z)), (0, .ref (ad 0))]) C dX11_print_122 (k := 2) rfl (nI_add _ _) (by decide) rfl rfl ?_
            refine m_goto (tgt := 37) C dX11_print_125 (by decide) ?_
            have R3_53 := i5.fr F_52 (by decide) (by decide)
            have f0_54 : M52 0 = .inr (11, [.ref (ad 3), .ref (ad 5), .ref (ad 7), .ref (ad 9), .ref (ad 36), .ref (ad 43), .ref (ad 46), .ref (ad 47), .int (fltI (fltF T 80 0)), .int (ot)]) := (F_52 0 (by decide)).trans i6
            have hbk : (pRun T xs cnt 9 0) = (if z then (R ++ (oRun T xs cnt 80 false 0 tk).1 ++ (pRun T xs cnt (9 - (k + 1)) (oRun T xs cnt 80 false 0 tk).2.1).1, od + (oRun T xs cnt 80 false 0 tk).2.2.1 + (pRun T xs cnt (9 - (k + 1)) (oRun T xs cnt 80 false 0 tk).2.1).2.1, (pRun T xs cnt (9 - (k + 1)) (oRun T xs cnt 80 false 0 tk).2.1).2.2) else (R ++ (oRun T xs cnt 80 false 0 tk).1, od + (oRun T xs cnt 80 false 0 tk).2.2.1, (oRun T xs cnt 80 false 0 tk).2.1)) := by
              rw [i1, if_pos hag, show 9 - k = (9 - (k + 1)) + 1 by omega]
              by_cases hgo : tk < (oRun T xs cnt 80 false 0 tk).2.1 ∧ (oRun T xs cnt 80 false 0 tk).2.1 < cnt ∧ (oRun T xs cnt 80 false 0 tk).2.2.2 = false
              · rw [hz, decide_eq_true hgo, if_pos rfl, pRun_more hgo, List.append_assoc, Nat.add_assoc]
              · rw [hz, decide_eq_false hgo, if_neg (by decide), pRun_last hgo]
            refine m_lv [2, 1, 0] rfl ?_
            exact ih (k + 1, z, (oRun T xs cnt 80 false 0 tk).2.1, od + (oRun T xs cnt 80 false 0 tk).2.2.1, (oRun T xs cnt 80 false 0 tk).2.2.2, R ++ (oRun T xs cnt 80 false 0 tk).1, M52) (⟨hbk, fun q => (of_decide_eq_true (hz.symm.trans q)).2.2, PB_52, di_52, R3_53, f0_54, (i7.tr (F_52.sub (by decide))), by (try dsimp only); omega⟩) (by simp only; omega)
          refine m_iload (pc' := 86) C dX11_print_84 3 rfl rfl ?_
          refine m_if_eq (pc' := 89) (tgt := 120) C dX11_print_86 (by decide) rfl (fun c_86 => ?_) (fun c_86 => ?_)
          · have h86 : ¬ tk < (oRun T xs cnt 80 false 0 tk).2.1 := of_decide_eq_false (hz4.symm.trans ((bI_0 _).mp c_86))
            refine m_iconst (pc' := 121) (v := bI false) C dX11_print_120 (by decide) rfl ?_
            refine m_lv [0, 1, 2] rfl ?_
            exact J121 false ((decide_eq_false (fun q => h86 q.1)).symm)
          · have h86 : tk < (oRun T xs cnt 80 false 0 tk).2.1 := of_decide_eq_true (hz4.symm.trans (ts_of c_86))
            refine m_aload_n (pc' := 90) C dX11_print_89 rfl 0 rfl rfl ?_
            have f0_55 : M52 0 = .inr (11, [.ref (ad 3), .ref (ad 5), .ref (ad 7), .ref (ad 9), .ref (ad 36), .ref (ad 43), .ref (ad 46), .ref (ad 47), .int (fltI (fltF T 80 0)), .int (ot)]) := (F_52 0 (by decide)).trans i6
            refine m_get (pc' := 93) C 0 (by omega) f0_55 rfl inW_X11 3 (by decide) (gW_of tm_2_62) rfl rfl dX11_print_90 rfl ?_
            refine m_callVi (pc' := 96) (As := []) (rest := []) C (kX1_taken hI pc_52) (cwV 0 C.1.2.2.2.2 (goodV tm_2_198 tm_2_199 tm_2_200 tm_1_4 tm_2_201) rfl rfl rfl (by decide +kernel) ⟨by decide, by decide⟩) pc_52.lt9 pc_52.ob9 rfl rfl rfl (Nat.le_of_ble_eq_true rfl) dX11_print_93 rfl ⟨by decide, by decide⟩ (fun x_56 N_56 q_56 => ?_)
            obtain ⟨e_56, E_56⟩ := q_56
            replace E_56 := E_56.symm
            subst E_56
            replace e_56 := e_56.symm
            subst e_56
            refine m_aload_n (pc' := 97) C dX11_print_96 rfl 0 rfl rfl ?_
            refine m_get (pc' := 100) C 0 (by omega) f0_55 rfl inW_X11 3 (by decide) (gW_of tm_2_62) rfl rfl dX11_print_97 rfl ?_
            refine m_callVi (pc' := 103) (As := []) (rest := [.int (nI ((oRun T xs cnt 80 false 0 tk).2.1))]) C (kX1_count hI pc_52) (cwV 0 C.1.2.2.2.2 (goodV tm_2_106 tm_2_107 tm_2_108 tm_1_4 tm_2_109) rfl rfl rfl (by decide +kernel) ⟨by decide, by decide⟩) pc_52.lt9 pc_52.ob9 rfl rfl rfl (Nat.le_of_ble_eq_true rfl) dX11_print_100 rfl ⟨by decide, by decide⟩ (fun x_57 N_57 q_57 => ?_)
            obtain ⟨e_57, E_57⟩ := q_57
            replace E_57 := E_57.symm
            subst E_57
            replace e_57 := e_57.symm
            subst e_57
            refine m_icmp_ge (pc' := 106) (tgt := 120) C dX11_print_103 (by decide) rfl (fun c_103 => ?_) (fun c_103 => ?_)
            · have n_103 : cnt ≤ ((oRun T xs cnt 80 false 0 tk).2.1) := (nI_leI (by omega) (by omega)).mp c_103
              refine m_iconst (pc' := 121) (v := bI false) C dX11_print_120 (by decide) rfl ?_
              refine m_lv [0, 1, 2] rfl ?_
              exact J121 false ((decide_eq_false (fun q => by have := q.2.1; omega)).symm)
            · have n_103 : ((oRun T xs cnt 80 false 0 tk).2.1) < cnt := Nat.lt_of_not_le (fun q => c_103 ((nI_leI (by omega) (by omega)).mpr q))
              refine m_aload_n (pc' := 107) C dX11_print_106 rfl 0 rfl rfl ?_
              refine m_get (pc' := 110) C 0 (by omega) f0_55 rfl inW_X11 4 (by decide) (gW_of tm_2_63) rfl rfl dX11_print_107 rfl ?_
              refine m_callVi (pc' := 113) (As := []) (rest := []) C (kX8_hasEnded hI hn pa_52) (cwV 0 C.1.2.2.2.2 (goodV tm_3_134 tm_3_135 tm_3_136 tm_1_7 tm_3_137) rfl rfl rfl (by decide +kernel) ⟨by decide, by decide⟩) (by omega) pa_52 rfl rfl rfl (Nat.le_of_ble_eq_true rfl) dX11_print_110 rfl ⟨by decide, by decide⟩ (fun x_58 N_58 q_58 => ?_)
              obtain ⟨e_58, E_58⟩ := q_58
              replace E_58 := E_58.symm
              subst E_58
              replace e_58 := e_58.symm
              subst e_58
              refine m_if_ne (pc' := 116) (tgt := 120) C dX11_print_113 (by decide) rfl (fun c_113 => ?_) (fun c_113 => ?_)
              · have h113 : ¬ (oRun T xs cnt 80 false 0 tk).2.2.2 = false := fun q => c_113 ((bI_0 _).mpr q)
                refine m_iconst (pc' := 121) (v := bI false) C dX11_print_120 (by decide) rfl ?_
                refine m_lv [0, 1, 2] rfl ?_
                exact J121 false ((decide_eq_false (fun q => h113 q.2.2)).symm)
              · have h113 : (oRun T xs cnt 80 false 0 tk).2.2.2 = false := (bI_0 _).mp (Classical.not_not.mp c_113)
                refine m_iconst (pc' := 117) (v := bI true) C dX11_print_116 (by decide) rfl ?_
                refine m_goto (tgt := 121) C dX11_print_117 (by decide) ?_
                refine m_lv [0, 1, 2] rfl ?_
                exact J121 true ((decide_eq_true ⟨h86, n_103, h113⟩).symm)
        refine m_aload_n (pc' := 67) C dX11_print_66 rfl 1 rfl rfl ?_
        have f0_59 : M52 0 = .inr (11, [.ref (ad 3), .ref (ad 5), .ref (ad 7), .ref (ad 9), .ref (ad 36), .ref (ad 43), .ref (ad 46), .ref (ad 47), .int (fltI (fltF T 80 0)), .int (ot)]) := (F_52 0 (by decide)).trans i6
        refine m_get (pc' := 70) C 0 (by omega) f0_59 rfl inW_X11 3 (by decide) (gW_of tm_2_62) rfl rfl dX11_print_67 rfl ?_
        refine m_callVi (pc' := 73) (As := []) (rest := []) C (kX1_taken hI pc_52) (cwV 0 C.1.2.2.2.2 (goodV tm_2_198 tm_2_199 tm_2_200 tm_1_4 tm_2_201) rfl rfl rfl (by decide +kernel) ⟨by decide, by decide⟩) pc_52.lt9 pc_52.ob9 rfl rfl rfl (Nat.le_of_ble_eq_true rfl) dX11_print_70 rfl ⟨by decide, by decide⟩ (fun x_60 N_60 q_60 => ?_)
        obtain ⟨e_60, E_60⟩ := q_60
        replace E_60 := E_60.symm
        subst E_60
        replace e_60 := e_60.symm
        subst e_60
        refine m_iload_n (pc' := 74) C dX11_print_73 rfl 0 rfl rfl ?_
        refine m_icmp_le (pc' := 77) (tgt := 81) C dX11_print_74 (by decide) rfl (fun c_74 => ?_) (fun c_74 => ?_)
        · have n_74 : ((oRun T xs cnt 80 false 0 tk).2.1) ≤ tk := (nI_leI (by omega) (by omega)).mp c_74
          refine m_iconst (pc' := 82) (v := bI false) C dX11_print_81 (by decide) rfl ?_
          refine m_istore (pc' := 84) (lv' := [(4, .int (bI false)), (3, .int (nI tk)), (0, .ref (ad 0)), (1, .int (bI ag)), (2, .int (nI k))]) C dX11_print_82 (by decide) rfl rfl ?_
          refine m_lv [2, 3, 4, 0] rfl ?_
          exact J84 false ((decide_eq_false (by omega)).symm)
        · have n_74 : tk < ((oRun T xs cnt 80 false 0 tk).2.1) := Nat.lt_of_not_le (fun q => c_74 ((nI_leI (by omega) (by omega)).mpr q))
          refine m_iconst (pc' := 78) (v := bI true) C dX11_print_77 (by decide) rfl ?_
          refine m_goto (tgt := 82) C dX11_print_78 (by decide) ?_
          refine m_istore (pc' := 84) (lv' := [(4, .int (bI true)), (3, .int (nI tk)), (0, .ref (ad 0)), (1, .int (bI ag)), (2, .int (nI k))]) C dX11_print_82 (by decide) rfl rfl ?_
          refine m_lv [2, 3, 4, 0] rfl ?_
          exact J84 true ((decide_eq_true n_74).symm)
  · have hsome : ¬ fltF T 80 0 = none := fun q => c_20 ((fltI_none hT).mpr q)
    refine m_bipush (pc' := 25) (v := (-2)) C dX11_print_23 (by decide) rfl ?_
    refine m_iret C hrt0 hlk0 rfl dX11_print_25 ?_
    have dif61 := di_1.fr F_3 (by decide)
    have f36_62 : M1 36 = .inr (8, [.ref (ad 5), .ref (ad 9), .ref (ad 1), .ref (ad 37), .ref (ad 38), .ref (ad 39), .ref (ad 41), .int (bI ended)]) := (F_1 36 (by decide)).trans pa_0
    have f36_63 : M3 36 = .inr (8, [.ref (ad 5), .ref (ad 9), .ref (ad 1), .ref (ad 37), .ref (ad 38), .ref (ad 39), .ref (ad 41), .int (bI ended)]) := (F_3 36 (by decide)).trans f36_62
    have R5_64 := pb_0.fr F_1 (by decide) (by decide)
    have R5_65 := R5_64.fr F_3 (by decide) (by decide)
    have A_66 := pc_0.fr F_1 (by decide)
    have A_67 := A_66.fr F_3 (by decide)
    have G_68 := pd_0.fr F_1 (by decide) (by decide)
    have G_69 := G_68.fr F_3 (by decide) (by decide)
    have esf70 := es_1.fr F_3 (by decide)
    have R39_71 := pf_0.fr F_1 (by decide) (by decide)
    have R39_72 := R39_71.fr F_3 (by decide) (by decide)
    have R41_73 := pg_0.fr F_1 (by decide) (by decide)
    have R41_74 := R41_73.fr F_3 (by decide) (by decide)
    unfold ptI ptO ptN
    rw [if_neg hsome, if_neg hsome, if_neg (fun q => hsome q.1)]
    exact ⟨rfl, g_3, ⟨_, _, _, ⟨hn, f36_63, R5_65, A_67, ⟨_, _, G_69⟩, esf70, ⟨_, R39_72⟩, ⟨_, R41_74⟩⟩⟩, dif61, ((F_1.sub (by decide)).tr (F_3.sub (by decide)))⟩
