set_option maxHeartbeats 4000000 in
set_option maxRecDepth 100000 in
theorem kX8_faultIn {l : Launch} {D : va_G} {cy : Nat → ClassId} {ad : Nat → Nat} {n : Nat} {A : Nat → Prop} (hI : mI ad n A) {M : Nat → va_E} (hn : 52 ≤ n) {ended : Bool} (hpr : M 36 = prO ad ended) {T : List Nat} (ht : isRow cy ad n M 3 4 80 80 T) (hT : T.length ≤ 80) (hes : isEsc M) (hdi : isDir M) : mMi l yX8_faultIn (gW yX8_faultIn cX8_faultIn 5 (some .int)) { frames := 5, cells := 0, slots := 0, locals := 111 } D cy ad n A [.ref (ad 36), .ref (ad 3)] M (fun res M' => res = fltI (fltF T 80 0) ∧ isEsc M' ∧ isDir M' ∧ Fr [37, 38] M M') := by
  refine m_entry (cc := cX8_faultIn) (maxL := 5) (ret := (some .int)) (own := RX8) (lv := [(0, .ref (ad 36)), (1, .ref (ad 3))]) hI (by decide) rfl rfl (Nat.le_of_ble_eq_true rfl) rfl (fun pX eX sX mX aX bX tX cX C hrt0 hlk0 => ?_)
  refine m_iconst (pc' := 1) (v := nI 0) C dX8_faultIn_0 (by decide) rfl ?_
  refine m_istore_n (pc' := 2) (lv' := [(2, .int (nI 0)), (0, .ref (ad 36)), (1, .ref (ad 3))]) C dX8_faultIn_1 rfl (by decide) rfl rfl ?_
  refine m_iconst (pc' := 3) (v := nI 0) C dX8_faultIn_2 (by decide) rfl ?_
  refine m_istore_n (pc' := 4) (lv' := [(3, .int (nI 0)), (2, .int (nI 0)), (0, .ref (ad 36)), (1, .ref (ad 3))]) C dX8_faultIn_3 rfl (by decide) rfl rfl ?_
  refine m_lv [2, 3, 1, 0] rfl ?_
  refine m_loop (σ := Nat × Nat × (Nat → va_E)) (fun a => a.2.2) (fun a => [(0, .ref (ad 36)), (1, .ref (ad 3)), (2, .int (nI a.2.1)), (3, .int (nI a.1))]) (fun a => fltF T 80 0 = fltF T (80 - a.1) a.2.1 ∧ (a.1 ≤ 80 ∧ a.2.1 ≤ 200) ∧ isEsc a.2.2 ∧ isDir a.2.2 ∧ Fr [37, 38] M a.2.2) (fun a => 80 - a.1) (0, 0, M) (⟨rfl, ⟨Nat.zero_le _, Nat.zero_le _⟩, hes, hdi, Fr.rf⟩) ?_
  rintro ⟨k, i, Mk⟩ hinv ih
  dsimp only at hinv ih ⊢
  obtain ⟨i1, ⟨i2, i3⟩, i5, i6, i7⟩ := hinv
  refine m_iload_n (pc' := 5) C dX8_faultIn_4 rfl 3 rfl rfl ?_
  refine m_bipush (pc' := 7) (v := nI 80) C dX8_faultIn_5 (by decide) rfl ?_
  refine m_icmp_ge (pc' := 10) (tgt := 43) C dX8_faultIn_7 (by decide) rfl (fun c_7 => ?_) (fun c_7 => ?_)
  · have hk8 : k = 80 := by
      rcases Nat.lt_or_ge k 80 with q | q
      · exact absurd c_7 (nI_ge q (by omega))
      · omega
    refine m_iconst (pc' := 44) (v := (-1)) C dX8_faultIn_43 (by decide) rfl ?_
    refine m_iret C hrt0 hlk0 rfl dX8_faultIn_44 ?_
    have hfin : fltF T 80 0 = none := by
      rw [i1]
      first | (rw [hk8]; rfl) | (cases h9 : 80 - k with | zero => rfl | succ f => rw [fltF, if_pos hge])
    exact ⟨by rw [hfin]; rfl, i5, i6, (i7.sub (by decide))⟩
  · have hk8 : k < 80 := by
      rcases Nat.lt_or_ge k 80 with q | q
      · exact q
      · exact absurd (nI_le q (by omega)) c_7
    refine m_iload_n (pc' := 11) C dX8_faultIn_10 rfl 2 rfl rfl ?_
    refine m_aload_n (pc' := 12) C dX8_faultIn_11 rfl 1 rfl rfl ?_
    have R3_1 := ht.fr i7 (by decide) (by decide)
    refine m_callVi (pc' := 15) (As := []) (rest := [.int (nI i)]) C (kX9_size hI R3_1) (cwV 0 C.1.2.2.2.2 (goodV tm_2_122 tm_2_95 tm_2_96 tm_1_3 tm_2_97) rfl rfl rfl (by decide +kernel) ⟨by decide, by decide⟩) R3_1.1 R3_1.ob rfl rfl rfl (Nat.le_of_ble_eq_true rfl) dX8_faultIn_12 rfl ⟨by decide, by decide⟩ (fun x_2 N_2 q_2 => ?_)
    obtain ⟨e_2, E_2⟩ := q_2
    replace E_2 := E_2.symm
    subst E_2
    replace e_2 : x_2 = nI T.length := e_2.trans (by rw [Nat.min_eq_left hT])
    replace e_2 := e_2.symm
    subst e_2
    refine m_icmp_ge (pc' := 18) (tgt := 43) C dX8_faultIn_15 (by decide) rfl (fun c_15 => ?_) (fun c_15 => ?_)
    · have hge : T.length ≤ i := by
        rcases Nat.lt_or_ge i T.length with q | q
        · exact absurd c_15 (nI_ge q (by omega))
        · exact q
      refine m_iconst (pc' := 44) (v := (-1)) C dX8_faultIn_43 (by decide) rfl ?_
      refine m_iret C hrt0 hlk0 rfl dX8_faultIn_44 ?_
      have hfin : fltF T 80 0 = none := by
        rw [i1]
        first | (rw [hk8]; rfl) | (cases h9 : 80 - k with | zero => rfl | succ f => rw [fltF, if_pos hge])
      exact ⟨by rw [hfin]; rfl, i5, i6, (i7.sub (by decide))⟩
    · have hlt : i < T.length := by
        rcases Nat.lt_or_ge i T.length with q | q
        · exact q
        · exact absurd (nI_le q (by omega)) c_15
      refine m_aload_n (pc' := 19) C dX8_faultIn_18 rfl 0 rfl rfl ?_
      refine m_aload_n (pc' := 20) C dX8_faultIn_19 rfl 1 rfl rfl ?_
      refine m_iload_n (pc' := 21) C dX8_faultIn_20 rfl 2 rfl rfl ?_
      have f36_4 : Mk 36 = .inr (8, [.ref (ad 5), .ref (ad 9), .ref (ad 1), .ref (ad 37), .ref (ad 38), .ref (ad 39), .ref (ad 41), .int (bI ended)]) := (i7 36 (by decide)).trans hpr
      refine m_callVi (pc' := 24) (As := [.ref (ad 3), .int (nI i)]) (rest := []) C (kX8_readPiece hI hn f36_4 R3_1 hT i5 i6 (i := i) (by omega)) (cwV 2 C.1.2.2.2.2 (goodV tm_2_123 tm_2_125 tp_1 tm_1_7 tm_2_126) rfl rfl rfl (by decide +kernel) ⟨by decide, by decide⟩) (by omega) f36_4 rfl rfl rfl (Nat.le_of_ble_eq_true rfl) dX8_faultIn_21 rfl ⟨by decide, by decide⟩ (fun x_3 M3 q_3 => ?_)
      obtain ⟨e_3, es_3, di_3, ga_3, gb_3, F_3⟩ := q_3
      replace e_3 := e_3.symm
      subst e_3
      refine m_istore (pc' := 26) (lv' := [(4, .int (pcI T i)), (0, .ref (ad 36)), (1, .ref (ad 3)), (2, .int (nI i)), (3, .int (nI k))]) C dX8_faultIn_24 (by decide) rfl rfl ?_
      refine m_iload (pc' := 28) C dX8_faultIn_26 0 rfl rfl ?_
      refine m_iconst (pc' := 29) (v := (-1)) C dX8_faultIn_28 (by decide) rfl ?_
      refine m_icmp_ne (pc' := 32) (tgt := 34) C dX8_faultIn_29 (by decide) rfl (fun c_29 => ?_) (fun c_29 => ?_)
      · obtain ⟨e9, he9, he9a, he9b⟩ : ∃ e, pcI T i = nI e ∧ i < e ∧ e ≤ 200 := (pcI_le hT hlt).resolve_left c_29
        rw [he9]
        have hstep : fltF T (80 - (k + 1) + 1) i = fltF T (80 - (k + 1)) e9 := by rw [fltF, if_neg (by omega), if_neg c_29, he9, nI_clamp (by omega)]
        refine m_iload (pc' := 36) C dX8_faultIn_34 0 rfl rfl ?_
        refine m_istore_n (pc' := 37) (lv' := [(2, .int (nI e9)), (4, .int (nI e9)), (0, .ref (ad 36)), (1, .ref (ad 3)), (3, .int (nI k))]) C dX8_faultIn_36 rfl (by decide) rfl rfl ?_
        refine m_iinc (pc' := 40) (v := nI (k + 1)) (lv' := [(3, .int (nI (k + 1))), (2, .int (nI e9)), (4, .int (nI e9)), (0, .ref (ad 36)), (1, .ref (ad 3))]) C dX8_faultIn_37 (k := 4) rfl (nI_add _ _) (by decide) rfl rfl ?_
        refine m_goto (tgt := 4) C dX8_faultIn_40 (by decide) ?_
        refine m_lv [3, 4, 1, 0] rfl ?_
        exact ih (k + 1, e9, M3) (⟨by rw [i1, show 80 - k = (80 - (k + 1)) + 1 by omega, hstep], ⟨by (try dsimp only); omega, by (try dsimp only); omega⟩, es_3, di_3, ((i7.sub (by decide)).tr (F_3.sub (by decide)))⟩) (by simp only; omega)
      · have hfin : fltF T 80 0 = some i := by rw [i1, show 80 - k = (80 - (k + 1)) + 1 by omega, fltF, if_neg (by omega), if_pos (Classical.not_not.mp c_29)]
        refine m_iload_n (pc' := 33) C dX8_faultIn_32 rfl 3 rfl rfl ?_
        refine m_iret C hrt0 hlk0 rfl dX8_faultIn_33 ?_
        exact ⟨by rw [hfin]; rfl, es_3, di_3, ((i7.sub (by decide)).tr (F_3.sub (by decide)))⟩
set_option maxHeartbeats 4000000 in
set_option maxRecDepth 100000 in
theorem kX8_printOnce {l : Launch} {D : va_G} {cy : Nat → ClassId} {ad : Nat → Nat} {n : Nat} {A : Nat → Prop} (hI : mI ad n A) {M : Nat → va_E} {e0 : Bool} {lim : Nat} {O : List Nat} {xs : Nat → Arg} {cnt tk0 od : Nat} (hps : isPS cy ad n M e0 lim O xs cnt tk0 od) {T : List Nat} (ht : isRow cy ad n M 3 4 80 80 T) (hT : T.length ≤ 80) (hdi : isDir M) : mMv l yX8_printOnce (gW yX8_printOnce cX8_printOnce 6 none) { frames := 5, cells := 0, slots := 0, locals := 116 } D cy ad n A [.ref (ad 36), .ref (ad 3)] M (fun M' => isPS cy ad n M' (oRun T xs cnt 80 e0 0 tk0).2.2.2 lim (O ++ (oRun T xs cnt 80 e0 0 tk0).1) xs cnt (oRun T xs cnt 80 e0 0 tk0).2.1 (od + (oRun T xs cnt 80 e0 0 tk0).2.2.1) ∧ isDir M' ∧ Fr prtS M M') := by
  have hn := hps.1
  have h256 : ∀ x ∈ T, x < 256 := ht.2.2.2.2.1
  refine m_entry (cc := cX8_printOnce) (maxL := 6) (ret := none) (own := RX8) (lv := [(0, .ref (ad 36)), (1, .ref (ad 3))]) hI (by decide) rfl rfl (Nat.le_of_ble_eq_true rfl) rfl (fun pX eX sX mX aX bX tX cX C hrt0 hlk0 => ?_)
  refine m_iconst (pc' := 1) (v := nI 0) C dX8_printOnce_0 (by decide) rfl ?_
  refine m_istore_n (pc' := 2) (lv' := [(2, .int (nI 0)), (0, .ref (ad 36)), (1, .ref (ad 3))]) C dX8_printOnce_1 rfl (by decide) rfl rfl ?_
  refine m_iconst (pc' := 3) (v := nI 0) C dX8_printOnce_2 (by decide) rfl ?_
  refine m_istore_n (pc' := 4) (lv' := [(3, .int (nI 0)), (2, .int (nI 0)), (0, .ref (ad 36)), (1, .ref (ad 3))]) C dX8_printOnce_3 rfl (by decide) rfl rfl ?_
  refine m_lv [2, 3, 1, 0] rfl ?_
  refine m_loop (σ := Nat × Nat × Nat × Nat × Bool × List Nat × (Nat → va_E)) (fun a => a.2.2.2.2.2.2) (fun a => [(0, .ref (ad 36)), (1, .ref (ad 3)), (2, .int (nI a.2.1)), (3, .int (nI a.1))]) (fun a => (oRun T xs cnt 80 e0 0 tk0).1 = a.2.2.2.2.2.1 ++ (oRun T xs cnt (80 - a.1) a.2.2.2.2.1 a.2.1 a.2.2.1).1 ∧ (oRun T xs cnt 80 e0 0 tk0).2.1 = (oRun T xs cnt (80 - a.1) a.2.2.2.2.1 a.2.1 a.2.2.1).2.1 ∧ (oRun T xs cnt 80 e0 0 tk0).2.2.1 = a.2.2.2.1 + (oRun T xs cnt (80 - a.1) a.2.2.2.2.1 a.2.1 a.2.2.1).2.2.1 ∧ (oRun T xs cnt 80 e0 0 tk0).2.2.2 = (oRun T xs cnt (80 - a.1) a.2.2.2.2.1 a.2.1 a.2.2.1).2.2.2 ∧ (a.1 ≤ 80 ∧ a.2.1 ≤ 200) ∧ isPS cy ad n a.2.2.2.2.2.2 a.2.2.2.2.1 lim (O ++ a.2.2.2.2.2.1) xs cnt a.2.2.1 (od + a.2.2.2.1) ∧ isDir a.2.2.2.2.2.2 ∧ Fr prtS M a.2.2.2.2.2.2) (fun a => 80 - a.1) (0, 0, tk0, 0, e0, [], M) (⟨rfl, rfl, by dsimp only; rw [Nat.zero_add], rfl, ⟨Nat.zero_le _, Nat.zero_le _⟩, by dsimp only; rw [List.append_nil]; exact hps, hdi, Fr.rf⟩) ?_
  rintro ⟨k, i, tk, s, e, R, Mk⟩ hinv ih
  dsimp only at hinv ih ⊢
  obtain ⟨i1, i2, i3, i4, ⟨i5, i6⟩, hpk, q8, q9⟩ := hinv
  have hpk2 := hpk
  obtain ⟨p1, p2, p3, p4, ⟨ds, lg, p5⟩, p6, ⟨P, p7⟩, W, p8⟩ := hpk
  refine m_iload_n (pc' := 5) C dX8_printOnce_4 rfl 3 rfl rfl ?_
  refine m_bipush (pc' := 7) (v := nI 80) C dX8_printOnce_5 (by decide) rfl ?_
  refine m_icmp_ge (pc' := 10) (tgt := 115) C dX8_printOnce_7 (by decide) rfl (fun c_7 => ?_) (fun c_7 => ?_)
  · have hk8 : k = 80 := by
      rcases Nat.lt_or_ge k 80 with q | q
      · exact absurd c_7 (nI_ge q (by omega))
      · omega
    have hdone : oRun T xs cnt (80 - k) e i tk = ([], tk, 0, e) := by rw [hk8]; rfl
    refine m_vret C hrt0 hlk0 dX8_printOnce_115 ?_
    rw [hdone] at i1 i2 i3 i4
    dsimp only at i1 i2 i3 i4
    rw [List.append_nil] at i1
    rw [Nat.add_zero] at i3
    rw [i1, i2, i3, i4]
    exact ⟨hpk2, q8, q9⟩
  · have hk8 : k < 80 := by
      rcases Nat.lt_or_ge k 80 with q | q
      · exact q
      · exact absurd (nI_le q (by omega)) c_7
    refine m_iload_n (pc' := 11) C dX8_printOnce_10 rfl 2 rfl rfl ?_
    refine m_aload_n (pc' := 12) C dX8_printOnce_11 rfl 1 rfl rfl ?_
    have R3_1 := ht.fr q9 (by decide) (by decide)
    refine m_callVi (pc' := 15) (As := []) (rest := [.int (nI i)]) C (kX9_size hI R3_1) (cwV 0 C.1.2.2.2.2 (goodV tm_2_122 tm_2_95 tm_2_96 tm_1_3 tm_2_97) rfl rfl rfl (by decide +kernel) ⟨by decide, by decide⟩) R3_1.1 R3_1.ob rfl rfl rfl (Nat.le_of_ble_eq_true rfl) dX8_printOnce_12 rfl ⟨by decide, by decide⟩ (fun x_2 N_2 q_2 => ?_)
    obtain ⟨e_2, E_2⟩ := q_2
    replace E_2 := E_2.symm
    subst E_2
    replace e_2 : x_2 = nI T.length := e_2.trans (by rw [Nat.min_eq_left hT])
    replace e_2 := e_2.symm
    subst e_2
    refine m_icmp_ge (pc' := 18) (tgt := 115) C dX8_printOnce_15 (by decide) rfl (fun c_15 => ?_) (fun c_15 => ?_)
    · have hge : T.length ≤ i := by
        rcases Nat.lt_or_ge i T.length with q | q
        · exact absurd c_15 (nI_ge q (by omega))
        · exact q
      have hdone : oRun T xs cnt (80 - k) e i tk = ([], tk, 0, e) := by cases h9 : 80 - k with | zero => rfl | succ f => rw [oRun, if_pos (Or.inl hge)]
      refine m_vret C hrt0 hlk0 dX8_printOnce_115 ?_
      rw [hdone] at i1 i2 i3 i4
      dsimp only at i1 i2 i3 i4
      rw [List.append_nil] at i1
      rw [Nat.add_zero] at i3
      rw [i1, i2, i3, i4]
      exact ⟨hpk2, q8, q9⟩
    · have hlt : i < T.length := by
        rcases Nat.lt_or_ge i T.length with q | q
        · exact q
        · exact absurd (nI_le q (by omega)) c_15
      refine m_aload_n (pc' := 19) C dX8_printOnce_18 rfl 0 rfl rfl ?_
      refine m_get (pc' := 22) C 36 (by omega) p2 rfl inW_X8 7 (by decide) (gW_of tm_1_211) rfl rfl dX8_printOnce_19 rfl ?_
      refine m_if_ne (pc' := 25) (tgt := 115) C dX8_printOnce_22 (by decide) rfl (fun c_22 => ?_) (fun c_22 => ?_)
      · have he1 : e = true := ts_of c_22
        have hdone : oRun T xs cnt (80 - k) e i tk = ([], tk, 0, e) := by cases h9 : 80 - k with | zero => rfl | succ f => rw [oRun, if_pos (Or.inr he1)]
        refine m_vret C hrt0 hlk0 dX8_printOnce_115 ?_
        rw [hdone] at i1 i2 i3 i4
        dsimp only at i1 i2 i3 i4
        rw [List.append_nil] at i1
        rw [Nat.add_zero] at i3
        rw [i1, i2, i3, i4]
        exact ⟨hpk2, q8, q9⟩
      · have he0 : e = false := (bI_0 _).mp (Classical.not_not.mp c_22)
        have hgo : ¬ (T.length ≤ i ∨ e = true) := fun q => q.elim (fun q => by omega) (fun q => by rw [he0] at q; cases q)
        refine m_aload_n (pc' := 26) C dX8_printOnce_25 rfl 1 rfl rfl ?_
        refine m_iload_n (pc' := 27) C dX8_printOnce_26 rfl 2 rfl rfl ?_
        refine m_callVi (pc' := 30) (As := [.int (nI i)]) (rest := []) C (kX9_at hI R3_1 (nI i)) (cwV 1 C.1.2.2.2.2 (goodV tm_2_127 tm_2_128 tm_2_129 tm_1_3 tm_2_130) rfl rfl rfl (by decide +kernel) ⟨by decide, by decide⟩) R3_1.1 R3_1.ob rfl rfl rfl (Nat.le_of_ble_eq_true rfl) dX8_printOnce_27 rfl ⟨by decide, by decide⟩ (fun x_3 N_3 q_3 => ?_)
        obtain ⟨e_3, E_3⟩ := q_3
        replace E_3 := E_3.symm
        subst E_3
        replace e_3 : x_3 = chAt T i := e_3.trans (rowAt_full hT (by omega) (by omega))
        replace e_3 := e_3.symm
        subst e_3
        refine m_istore (pc' := 32) (lv' := [(4, .int (chAt T i)), (0, .ref (ad 36)), (1, .ref (ad 3)), (2, .int (nI i)), (3, .int (nI k))]) C dX8_printOnce_30 (by decide) rfl rfl ?_
        refine m_aload_n (pc' := 33) C dX8_printOnce_32 rfl 1 rfl rfl ?_
        refine m_aload_n (pc' := 34) C dX8_printOnce_33 rfl 2 rfl rfl ?_
        refine m_iload_n (pc' := 35) C dX8_printOnce_34 rfl 3 rfl rfl ?_
        refine m_callVi (pc' := 38) (As := [.ref (ad 3), .int (nI i)]) (rest := []) C (kX8_readPiece hI hn p2 R3_1 hT p6 q8 (i := i) (by omega)) (cwV 2 C.1.2.2.2.2 (goodV tm_2_123 tm_2_125 tp_1 tm_1_7 tm_2_126) rfl rfl rfl (by decide +kernel) ⟨by decide, by decide⟩) (by omega) p2 rfl rfl rfl (Nat.le_of_ble_eq_true rfl) dX8_printOnce_35 rfl ⟨by decide, by decide⟩ (fun x_4 M4 q_4 => ?_)
        obtain ⟨e_4, es_4, di_4, ga_4, gb_4, F_4⟩ := q_4
        replace e_4 := e_4.symm
        subst e_4
        refine m_istore (pc' := 40) (lv' := [(5, .int (pcI T i)), (4, .int (chAt T i)), (0, .ref (ad 36)), (1, .ref (ad 3)), (2, .int (nI i)), (3, .int (nI k))]) C dX8_printOnce_38 (by decide) rfl rfl ?_
        refine m_iload (pc' := 42) C dX8_printOnce_40 0 rfl rfl ?_
        refine m_iconst (pc' := 43) (v := (-1)) C dX8_printOnce_42 (by decide) rfl ?_
        refine m_icmp_ne (pc' := 46) (tgt := 47) C dX8_printOnce_43 (by decide) rfl (fun c_43 => ?_) (fun c_43 => ?_)
        · obtain ⟨e9, he9, he9a, he9b⟩ : ∃ z, pcI T i = nI z ∧ i < z ∧ z ≤ 200 := (pcI_le hT hlt).resolve_left c_43
          have hcl : (pcI T i).toNatClampNeg = e9 := by rw [he9, nI_clamp (by omega)]
          rw [he9]
          refine m_iload (pc' := 49) C dX8_printOnce_47 1 rfl rfl ?_
          refine m_bipush (pc' := 51) (v := nI 92) C dX8_printOnce_49 (by decide) rfl ?_
          refine m_icmp_ne (pc' := 54) (tgt := 71) C dX8_printOnce_51 (by decide) rfl (fun c_51 => ?_) (fun c_51 => ?_)
          · have e51 : ¬ T.getD i 0 = 92 := fun q => c_51 ((chAt_eq h256 (by decide) (by decide)).mpr q)
            refine m_iload (pc' := 73) C dX8_printOnce_71 1 rfl rfl ?_
            refine m_bipush (pc' := 75) (v := nI 37) C dX8_printOnce_73 (by decide) rfl ?_
            refine m_icmp_ne (pc' := 78) (tgt := 97) C dX8_printOnce_75 (by decide) rfl (fun c_75 => ?_) (fun c_75 => ?_)
            · have e75 : ¬ T.getD i 0 = 37 := fun q => c_75 ((chAt_eq h256 (by decide) (by decide)).mpr q)
              have hstep : oRun T xs cnt (80 - (k + 1) + 1) e i tk = (T.getD i 0 :: (oRun T xs cnt (80 - (k + 1)) e e9 tk).1, (oRun T xs cnt (80 - (k + 1)) e e9 tk).2) := by rw [oRun, if_neg hgo, if_neg c_43, if_neg e51, if_neg (fun q => e75 q.1), hcl]
              refine m_aload_n (pc' := 98) C dX8_printOnce_97 rfl 2 rfl rfl ?_
              have f36_5 : M4 36 = .inr (8, [.ref (ad 5), .ref (ad 9), .ref (ad 1), .ref (ad 37), .ref (ad 38), .ref (ad 39), .ref (ad 41), .int (bI e)]) := (F_4 36 (by decide)).trans p2
              refine m_get (pc' := 101) C 36 (by omega) f36_5 rfl inW_X8 0 (by decide) (gW_of tm_1_204) rfl rfl dX8_printOnce_98 rfl ?_
              refine m_iload (pc' := 103) C dX8_printOnce_101 1 rfl rfl ?_
              have R5_6 := p3.fr F_4 (by decide) (by decide)
              refine m_callVv (pc' := 106) (As := [.int (chAt T i)]) (rest := []) C (kX9_add hI R5_6 (chAt T i)) (cwV 1 C.1.2.2.2.2 (goodV tm_2_210 tm_2_211 tm_2_212 tm_1_3 tm_2_213) rfl rfl rfl (by decide +kernel) ⟨by decide, by decide⟩) R5_6.1 R5_6.ob rfl rfl rfl (Nat.le_of_ble_eq_true rfl) dX8_printOnce_103 rfl ⟨by decide, by decide⟩ (fun M7 q_7 => ?_)
              obtain ⟨R_7, F_7⟩ := q_7
              rw [show lowb (chAt T i) = T.getD i 0 by unfold chAt; rw [if_pos hlt, lowb_nI (gd_lt (by decide) h256 i)]] at R_7
              refine m_iload (pc' := 108) C dX8_printOnce_106 0 rfl rfl ?_
              refine m_istore_n (pc' := 109) (lv' := [(2, .int (nI e9)), (5, .int (nI e9)), (4, .int (chAt T i)), (0, .ref (ad 36)), (1, .ref (ad 3)), (3, .int (nI k))]) C dX8_printOnce_108 rfl (by decide) rfl rfl ?_
              refine m_iinc (pc' := 112) (v := nI (k + 1)) (lv' := [(3, .int (nI (k + 1))), (2, .int (nI e9)), (5, .int (nI e9)), (4, .int (chAt T i)), (0, .ref (ad 36)), (1, .ref (ad 3))]) C dX8_printOnce_109 (k := 5) rfl (nI_add _ _) (by decide) rfl rfl ?_
              refine m_goto (tgt := 4) C dX8_printOnce_112 (by decide) ?_
              have f36_8 : M7 36 = .inr (8, [.ref (ad 5), .ref (ad 9), .ref (ad 1), .ref (ad 37), .ref (ad 38), .ref (ad 39), .ref (ad 41), .int (bI e)]) := (F_7 36 (by decide)).trans f36_5
              have A_9 := p4.fr F_4 (by decide)
              have A_10 := A_9.fr F_7 (by decide)
              have G_11 := p5.fr F_4 (by decide) (by decide)
              have G_12 := G_11.fr F_7 (by decide) (by decide)
              have esf13 := es_4.fr F_7 (by decide)
              have R39_14 := p7.fr F_4 (by decide) (by decide)
              have R39_15 := R39_14.fr F_7 (by decide) (by decide)
              have R41_16 := p8.fr F_4 (by decide) (by decide)
              have R41_17 := R41_16.fr F_7 (by decide) (by decide)
              have dif18 := di_4.fr F_7 (by decide)
              refine m_lv [4, 5, 1, 0] rfl ?_
              exact ih (k + 1, e9, tk, s, e, R ++ [T.getD i 0], M7) (⟨by rw [i1, show 80 - k = (80 - (k + 1)) + 1 by omega, hstep, app1], by rw [i2, show 80 - k = (80 - (k + 1)) + 1 by omega, hstep], by rw [i3, show 80 - k = (80 - (k + 1)) + 1 by omega, hstep], by rw [i4, show 80 - k = (80 - (k + 1)) + 1 by omega, hstep], ⟨by (try dsimp only); omega, by (try dsimp only); omega⟩, by dsimp only; first | (rw [← List.append_assoc]; exact ⟨p1, f36_8, R_7, A_10, ⟨_, _, G_12⟩, esf13, ⟨_, R39_15⟩, ⟨_, R41_17⟩⟩) | (rw [← List.append_assoc, ← Nat.add_assoc]; exact ⟨p1, f36_8, R_7, A_10, ⟨_, _, G_12⟩, esf13, ⟨_, R39_15⟩, ⟨_, R41_17⟩⟩), dif18, ((q9.tr (F_4.sub (by decide))).tr (F_7.sub (by decide)))⟩) (by simp only; omega)
            · have e75 : T.getD i 0 = 37 := (chAt_eq h256 (by decide) (by decide)).mp (Classical.not_not.mp c_75)
              refine m_aload_n (pc' := 79) C dX8_printOnce_78 rfl 3 rfl rfl ?_
              refine m_iload_n (pc' := 80) C dX8_printOnce_79 rfl 4 rfl rfl ?_
              refine m_iconst (pc' := 81) (v := nI 1) C dX8_printOnce_80 (by decide) rfl ?_
              refine m_iadd (pc' := 82) (v := nI (i + 1)) C dX8_printOnce_81 (nI_add _ _) rfl ?_
              have R3_19 := R3_1.fr F_4 (by decide) (by decide)
              refine m_callVi (pc' := 85) (As := [.int (nI (i + 1))]) (rest := []) C (kX9_at hI R3_19 (nI (i + 1))) (cwV 1 C.1.2.2.2.2 (goodV tm_2_127 tm_2_128 tm_2_129 tm_1_3 tm_2_130) rfl rfl rfl (by decide +kernel) ⟨by decide, by decide⟩) R3_19.1 R3_19.ob rfl rfl rfl (Nat.le_of_ble_eq_true rfl) dX8_printOnce_82 rfl ⟨by decide, by decide⟩ (fun x_20 N_20 q_20 => ?_)
              obtain ⟨e_20, E_20⟩ := q_20
              replace E_20 := E_20.symm
              subst E_20
              replace e_20 : x_20 = chAt T (i + 1) := e_20.trans (rowAt_full hT (by omega) (by omega))
              replace e_20 := e_20.symm
              subst e_20
              refine m_bipush (pc' := 87) (v := nI 37) C dX8_printOnce_85 (by decide) rfl ?_
              refine m_icmp_eq (pc' := 90) (tgt := 97) C dX8_printOnce_87 (by decide) rfl (fun c_87 => ?_) (fun c_87 => ?_)
              · have e87 : T.getD (i + 1) 0 = 37 := (chAt_eq h256 (by decide) (by decide)).mp c_87
                have hstep : oRun T xs cnt (80 - (k + 1) + 1) e i tk = (T.getD i 0 :: (oRun T xs cnt (80 - (k + 1)) e e9 tk).1, (oRun T xs cnt (80 - (k + 1)) e e9 tk).2) := by rw [oRun, if_neg hgo, if_neg c_43, if_neg e51, if_neg (fun q => q.2 e87), hcl]
                refine m_aload_n (pc' := 98) C dX8_printOnce_97 rfl 2 rfl rfl ?_
                have f36_21 : M4 36 = .inr (8, [.ref (ad 5), .ref (ad 9), .ref (ad 1), .ref (ad 37), .ref (ad 38), .ref (ad 39), .ref (ad 41), .int (bI e)]) := (F_4 36 (by decide)).trans p2
                refine m_get (pc' := 101) C 36 (by omega) f36_21 rfl inW_X8 0 (by decide) (gW_of tm_1_204) rfl rfl dX8_printOnce_98 rfl ?_
                refine m_iload (pc' := 103) C dX8_printOnce_101 1 rfl rfl ?_
                have R5_22 := p3.fr F_4 (by decide) (by decide)
                refine m_callVv (pc' := 106) (As := [.int (chAt T i)]) (rest := []) C (kX9_add hI R5_22 (chAt T i)) (cwV 1 C.1.2.2.2.2 (goodV tm_2_210 tm_2_211 tm_2_212 tm_1_3 tm_2_213) rfl rfl rfl (by decide +kernel) ⟨by decide, by decide⟩) R5_22.1 R5_22.ob rfl rfl rfl (Nat.le_of_ble_eq_true rfl) dX8_printOnce_103 rfl ⟨by decide, by decide⟩ (fun M23 q_23 => ?_)
                obtain ⟨R_23, F_23⟩ := q_23
                rw [show lowb (chAt T i) = T.getD i 0 by unfold chAt; rw [if_pos hlt, lowb_nI (gd_lt (by decide) h256 i)]] at R_23
                refine m_iload (pc' := 108) C dX8_printOnce_106 0 rfl rfl ?_
                refine m_istore_n (pc' := 109) (lv' := [(2, .int (nI e9)), (5, .int (nI e9)), (4, .int (chAt T i)), (0, .ref (ad 36)), (1, .ref (ad 3)), (3, .int (nI k))]) C dX8_printOnce_108 rfl (by decide) rfl rfl ?_
                refine m_iinc (pc' := 112) (v := nI (k + 1)) (lv' := [(3, .int (nI (k + 1))), (2, .int (nI e9)), (5, .int (nI e9)), (4, .int (chAt T i)), (0, .ref (ad 36)), (1, .ref (ad 3))]) C dX8_printOnce_109 (k := 5) rfl (nI_add _ _) (by decide) rfl rfl ?_
                refine m_goto (tgt := 4) C dX8_printOnce_112 (by decide) ?_
                have f36_24 : M23 36 = .inr (8, [.ref (ad 5), .ref (ad 9), .ref (ad 1), .ref (ad 37), .ref (ad 38), .ref (ad 39), .ref (ad 41), .int (bI e)]) := (F_23 36 (by decide)).trans f36_21
                have A_25 := p4.fr F_4 (by decide)
                have A_26 := A_25.fr F_23 (by decide)
                have G_27 := p5.fr F_4 (by decide) (by decide)
                have G_28 := G_27.fr F_23 (by decide) (by decide)
                have esf29 := es_4.fr F_23 (by decide)
                have R39_30 := p7.fr F_4 (by decide) (by decide)
                have R39_31 := R39_30.fr F_23 (by decide) (by decide)
                have R41_32 := p8.fr F_4 (by decide) (by decide)
                have R41_33 := R41_32.fr F_23 (by decide) (by decide)
                have dif34 := di_4.fr F_23 (by decide)
                refine m_lv [4, 5, 1, 0] rfl ?_
                exact ih (k + 1, e9, tk, s, e, R ++ [T.getD i 0], M23) (⟨by rw [i1, show 80 - k = (80 - (k + 1)) + 1 by omega, hstep, app1], by rw [i2, show 80 - k = (80 - (k + 1)) + 1 by omega, hstep], by rw [i3, show 80 - k = (80 - (k + 1)) + 1 by omega, hstep], by rw [i4, show 80 - k = (80 - (k + 1)) + 1 by omega, hstep], ⟨by (try dsimp only); omega, by (try dsimp only); omega⟩, by dsimp only; first | (rw [← List.append_assoc]; exact ⟨p1, f36_24, R_23, A_26, ⟨_, _, G_28⟩, esf29, ⟨_, R39_31⟩, ⟨_, R41_33⟩⟩) | (rw [← List.append_assoc, ← Nat.add_assoc]; exact ⟨p1, f36_24, R_23, A_26, ⟨_, _, G_28⟩, esf29, ⟨_, R39_31⟩, ⟨_, R41_33⟩⟩), dif34, ((q9.tr (F_4.sub (by decide))).tr (F_23.sub (by decide)))⟩) (by simp only; omega)
              · have e87 : ¬ T.getD (i + 1) 0 = 37 := fun q => c_87 ((chAt_eq h256 (by decide) (by decide)).mpr q)
                have g38 := gb_4 e75 e87
                rw [show dirF T (i + 1) = dF (has 45 (flR (T.drop (i + 1)))) (has 43 (flR (T.drop (i + 1)))) (has 32 (flR (T.drop (i + 1)))) (has 35 (flR (T.drop (i + 1)))) (has 48 (flR (T.drop (i + 1)))) (wdS T (dP1 T (i + 1))) (prS T (dP2 T (i + 1))) (nI (wdN T (dP1 T (i + 1)))) (pI (prP T (dP2 T (i + 1)))) (nI (lnB T (dP3 T (i + 1)))) (chAt T (dP4 T (i + 1))) (nI (dP4 T (i + 1) + 1)) by rw [← prI_eq]] at g38
                have hstep : oRun T xs cnt (80 - (k + 1) + 1) e i tk = ((dDir T xs cnt (i + 1) tk).1 ++ (oRun T xs cnt (80 - (k + 1)) (e || (dDir T xs cnt (i + 1) tk).2.2.2) e9 (dDir T xs cnt (i + 1) tk).2.1).1, (oRun T xs cnt (80 - (k + 1)) (e || (dDir T xs cnt (i + 1) tk).2.2.2) e9 (dDir T xs cnt (i + 1) tk).2.1).2.1, (dDir T xs cnt (i + 1) tk).2.2.1 + (oRun T xs cnt (80 - (k + 1)) (e || (dDir T xs cnt (i + 1) tk).2.2.2) e9 (dDir T xs cnt (i + 1) tk).2.1).2.2.1, (oRun T xs cnt (80 - (k + 1)) (e || (dDir T xs cnt (i + 1) tk).2.2.2) e9 (dDir T xs cnt (i + 1) tk).2.1).2.2.2) := by rw [oRun, if_neg hgo, if_neg c_43, if_neg e51, if_pos ⟨e75, e87⟩, hcl]
                refine m_aload_n (pc' := 91) C dX8_printOnce_90 rfl 2 rfl rfl ?_
                have f36_36 : M4 36 = .inr (8, [.ref (ad 5), .ref (ad 9), .ref (ad 1), .ref (ad 37), .ref (ad 38), .ref (ad 39), .ref (ad 41), .int (bI e)]) := (F_4 36 (by decide)).trans p2
                have R5_37 := p3.fr F_4 (by decide) (by decide)
                have A_38 := p4.fr F_4 (by decide)
                have G_39 := p5.fr F_4 (by decide) (by decide)
                have R39_40 := p7.fr F_4 (by decide) (by decide)
                have R41_41 := p8.fr F_4 (by decide) (by decide)
                refine m_callVv (pc' := 94) (As := []) (rest := []) C (kX8_printDirective hI ⟨p1, f36_36, R5_37, A_38, ⟨_, _, G_39⟩, es_4, ⟨_, R39_40⟩, ⟨_, R41_41⟩⟩ (wdN_lt T (dP1 T (i + 1))) (lnB_le T (dP3 T (i + 1))) (prP_lt T (dP2 T (i + 1))) g38) (cwV 0 C.1.2.2.2.2 (goodV tm_2_214 tm_2_216 tp_11 tm_1_7 tm_2_217) rfl rfl rfl (by decide +kernel) ⟨by decide, by decide⟩) (by omega) f36_36 rfl rfl rfl (Nat.le_of_ble_eq_true rfl) dX8_printOnce_91 rfl ⟨by decide, by decide⟩ (fun M35 q_35 => ?_)
                obtain ⟨PS_35, di_35, F_35⟩ := q_35
                refine m_goto (tgt := 106) C dX8_printOnce_94 (by decide) ?_
                refine m_iload (pc' := 108) C dX8_printOnce_106 0 rfl rfl ?_
                refine m_istore_n (pc' := 109) (lv' := [(2, .int (nI e9)), (5, .int (nI e9)), (4, .int (chAt T i)), (0, .ref (ad 36)), (1, .ref (ad 3)), (3, .int (nI k))]) C dX8_printOnce_108 rfl (by decide) rfl rfl ?_
                refine m_iinc (pc' := 112) (v := nI (k + 1)) (lv' := [(3, .int (nI (k + 1))), (2, .int (nI e9)), (5, .int (nI e9)), (4, .int (chAt T i)), (0, .ref (ad 36)), (1, .ref (ad 3))]) C dX8_printOnce_109 (k := 5) rfl (nI_add _ _) (by decide) rfl rfl ?_
                refine m_goto (tgt := 4) C dX8_printOnce_112 (by decide) ?_
                refine m_lv [4, 5, 1, 0] rfl ?_
                exact ih (k + 1, e9, (dDir T xs cnt (i + 1) tk).2.1, s + (dDir T xs cnt (i + 1) tk).2.2.1, (e || (dDir T xs cnt (i + 1) tk).2.2.2), R ++ (dDir T xs cnt (i + 1) tk).1, M35) (⟨by rw [i1, show 80 - k = (80 - (k + 1)) + 1 by omega, hstep, List.append_assoc], by rw [i2, show 80 - k = (80 - (k + 1)) + 1 by omega, hstep], by rw [i3, show 80 - k = (80 - (k + 1)) + 1 by omega, hstep, Nat.add_assoc], by rw [i4, show 80 - k = (80 - (k + 1)) + 1 by omega, hstep], ⟨by (try dsimp only); omega, by (try dsimp only); omega⟩, by dsimp only; first | (rw [← List.append_assoc]; exact PS_35) | (rw [← List.append_assoc, ← Nat.add_assoc]; exact PS_35), di_35, ((q9.tr (F_4.sub (by decide))).tr (F_35.sub (by decide)))⟩) (by simp only; omega)
          · have e51 : T.getD i 0 = 92 := (chAt_eq h256 (by decide) (by decide)).mp (Classical.not_not.mp c_51)
            have hok : escOk T (i + 1) = true := by
              cases h9 : escOk T (i + 1)
              · exact absurd (by unfold pcI; rw [if_pos e51, h9]; rfl) c_43
              · rfl
            have g37 := ga_4 e51 hok
            have hstep : oRun T xs cnt (80 - (k + 1) + 1) e i tk = ((escV T (i + 1) % 256) :: (oRun T xs cnt (80 - (k + 1)) e e9 tk).1, (oRun T xs cnt (80 - (k + 1)) e e9 tk).2) := by rw [oRun, if_neg hgo, if_neg c_43, if_pos e51, hcl]
            refine m_aload_n (pc' := 55) C dX8_printOnce_54 rfl 2 rfl rfl ?_
            have f36_42 : M4 36 = .inr (8, [.ref (ad 5), .ref (ad 9), .ref (ad 1), .ref (ad 37), .ref (ad 38), .ref (ad 39), .ref (ad 41), .int (bI e)]) := (F_4 36 (by decide)).trans p2
            refine m_get (pc' := 58) C 36 (by omega) f36_42 rfl inW_X8 0 (by decide) (gW_of tm_1_204) rfl rfl dX8_printOnce_55 rfl ?_
            refine m_aload_n (pc' := 59) C dX8_printOnce_58 rfl 2 rfl rfl ?_
            refine m_get (pc' := 62) C 36 (by omega) f36_42 rfl inW_X8 3 (by decide) (gW_of tm_1_207) rfl rfl dX8_printOnce_59 rfl ?_
            refine m_callVi (pc' := 65) (As := []) (rest := [.ref (ad 5)]) C (kX3_value hI (by omega) g37) (cwV 0 C.1.2.2.2.2 (goodV tm_2_206 tm_2_207 tm_2_208 tm_1_8 tm_2_209) rfl rfl rfl (by decide +kernel) ⟨by decide, by decide⟩) (by omega) g37 rfl rfl rfl (Nat.le_of_ble_eq_true rfl) dX8_printOnce_62 rfl ⟨by decide, by decide⟩ (fun x_43 N_43 q_43 => ?_)
            obtain ⟨e_43, E_43⟩ := q_43
            replace E_43 := E_43.symm
            subst E_43
            replace e_43 := e_43.symm
            subst e_43
            have R5_44 := p3.fr F_4 (by decide) (by decide)
            refine m_callVv (pc' := 68) (As := [.int (nI (escV T (i + 1)))]) (rest := []) C (kX9_add hI R5_44 (nI (escV T (i + 1)))) (cwV 1 C.1.2.2.2.2 (goodV tm_2_210 tm_2_211 tm_2_212 tm_1_3 tm_2_213) rfl rfl rfl (by decide +kernel) ⟨by decide, by decide⟩) R5_44.1 R5_44.ob rfl rfl rfl (Nat.le_of_ble_eq_true rfl) dX8_printOnce_65 rfl ⟨by decide, by decide⟩ (fun M45 q_45 => ?_)
            obtain ⟨R_45, F_45⟩ := q_45
            rw [lowb_mod (Nat.lt_of_lt_of_le (escV_lt T (i + 1)) (by decide))] at R_45
            refine m_goto (tgt := 106) C dX8_printOnce_68 (by decide) ?_
            refine m_iload (pc' := 108) C dX8_printOnce_106 0 rfl rfl ?_
            refine m_istore_n (pc' := 109) (lv' := [(2, .int (nI e9)), (5, .int (nI e9)), (4, .int (chAt T i)), (0, .ref (ad 36)), (1, .ref (ad 3)), (3, .int (nI k))]) C dX8_printOnce_108 rfl (by decide) rfl rfl ?_
            refine m_iinc (pc' := 112) (v := nI (k + 1)) (lv' := [(3, .int (nI (k + 1))), (2, .int (nI e9)), (5, .int (nI e9)), (4, .int (chAt T i)), (0, .ref (ad 36)), (1, .ref (ad 3))]) C dX8_printOnce_109 (k := 5) rfl (nI_add _ _) (by decide) rfl rfl ?_
            refine m_goto (tgt := 4) C dX8_printOnce_112 (by decide) ?_
            have f36_46 : M45 36 = .inr (8, [.ref (ad 5), .ref (ad 9), .ref (ad 1), .ref (ad 37), .ref (ad 38), .ref (ad 39), .ref (ad 41), .int (bI e)]) := (F_45 36 (by decide)).trans f36_42
            have A_47 := p4.fr F_4 (by decide)
            have A_48 := A_47.fr F_45 (by decide)
            have G_49 := p5.fr F_4 (by decide) (by decide)
            have G_50 := G_49.fr F_45 (by decide) (by decide)
            have esf51 := es_4.fr F_45 (by decide)
            have R39_52 := p7.fr F_4 (by decide) (by decide)
            have R39_53 := R39_52.fr F_45 (by decide) (by decide)
            have R41_54 := p8.fr F_4 (by decide) (by decide)
            have R41_55 := R41_54.fr F_45 (by decide) (by decide)
            have dif56 := di_4.fr F_45 (by decide)
            refine m_lv [4, 5, 1, 0] rfl ?_
            exact ih (k + 1, e9, tk, s, e, R ++ [escV T (i + 1) % 256], M45) (⟨by rw [i1, show 80 - k = (80 - (k + 1)) + 1 by omega, hstep, app1], by rw [i2, show 80 - k = (80 - (k + 1)) + 1 by omega, hstep], by rw [i3, show 80 - k = (80 - (k + 1)) + 1 by omega, hstep], by rw [i4, show 80 - k = (80 - (k + 1)) + 1 by omega, hstep], ⟨by (try dsimp only); omega, by (try dsimp only); omega⟩, by dsimp only; first | (rw [← List.append_assoc]; exact ⟨p1, f36_46, R_45, A_48, ⟨_, _, G_50⟩, esf51, ⟨_, R39_53⟩, ⟨_, R41_55⟩⟩) | (rw [← List.append_assoc, ← Nat.add_assoc]; exact ⟨p1, f36_46, R_45, A_48, ⟨_, _, G_50⟩, esf51, ⟨_, R39_53⟩, ⟨_, R41_55⟩⟩), dif56, ((q9.tr (F_4.sub (by decide))).tr (F_45.sub (by decide)))⟩) (by simp only; omega)
        · have hdone : oRun T xs cnt (80 - k) e i tk = ([], tk, 0, e) := by rw [show 80 - k = (80 - (k + 1)) + 1 by omega, oRun, if_neg hgo, if_pos (Classical.not_not.mp c_43)]
          refine m_vret C hrt0 hlk0 dX8_printOnce_46 ?_
          have f36_57 : M4 36 = .inr (8, [.ref (ad 5), .ref (ad 9), .ref (ad 1), .ref (ad 37), .ref (ad 38), .ref (ad 39), .ref (ad 41), .int (bI e)]) := (F_4 36 (by decide)).trans p2
          have R5_58 := p3.fr F_4 (by decide) (by decide)
          have A_59 := p4.fr F_4 (by decide)
          have G_60 := p5.fr F_4 (by decide) (by decide)
          have R39_61 := p7.fr F_4 (by decide) (by decide)
          have R41_62 := p8.fr F_4 (by decide) (by decide)
          rw [hdone] at i1 i2 i3 i4
          dsimp only at i1 i2 i3 i4
          rw [List.append_nil] at i1
          rw [Nat.add_zero] at i3
          rw [i1, i2, i3, i4]
          exact ⟨⟨p1, f36_57, R5_58, A_59, ⟨_, _, G_60⟩, es_4, ⟨_, R39_61⟩, ⟨_, R41_62⟩⟩, di_4, (q9.tr (F_4.sub (by decide)))⟩
