set_option maxHeartbeats 4000000 in
set_option maxRecDepth 100000 in
theorem kX12_noArgument {l : Launch} {D : va_G} {cy : Nat → ClassId} {ad : Nat → Nat} {n : Nat} {A : Nat → Prop} (hI : mI ad n A) {M : Nat → va_E}  : mMi l yX12_noArgument (gW yX12_noArgument cX12_noArgument 1 (some .int)) { frames := 0, cells := 0, slots := 0, locals := 0 } D cy ad n A [.ref (ad 52)] M (fun res M' => res = nI 0 ∧ M' = M) := by
  refine m_entry (cc := cX12_noArgument) (maxL := 1) (ret := (some .int)) (own := RX12) (lv := [(0, .ref (ad 52))]) hI (by decide) rfl rfl (Nat.le_of_ble_eq_true rfl) rfl (fun pX eX sX mX aX bX tX cX C hrt0 hlk0 => ?_)
  refine m_iconst (pc' := 1) (v := nI 0) C dX12_noArgument_0 (by decide) rfl ?_
  exact m_iret C hrt0 hlk0 rfl dX12_noArgument_1 ⟨rfl, rfl⟩
set_option maxHeartbeats 4000000 in
set_option maxRecDepth 100000 in
theorem kX12_printRow {l : Launch} {D : va_G} {cy : Nat → ClassId} {ad : Nat → Nat} {n : Nat} {A : Nat → Prop} (hI : mI ad n A) {M : Nat → va_E} (hn : 63 ≤ n) (hn2 : n ≤ 100) (hro : rO ad M) {P : List Nat} (hrw : isRw cy M P) {lim : Nat} {O : List Nat} (hout : isOut cy M lim O) {fl : Bool} {wd : Nat} (h20 : M 120 = gh (.int (bI fl))) (h25 : M 125 = gh (.int (nI wd))) (hwd : wd < 2 ^ 20) : mMv l yX12_printRow (gW yX12_printRow cX12_printRow 3 none) { frames := 2, cells := 0, slots := 0, locals := 44 } D cy ad n A [.ref (ad 52)] M (fun M' => rO ad M' ∧ isOut cy M' lim (O ++ padT fl wd P) ∧ Fr [52, 59, 111, 113] M M') := by
  obtain ⟨w1, w2, w3, w0, w4, w5⟩ := id hrw
  refine m_entry (cc := cX12_printRow) (maxL := 3) (ret := none) (own := RX12) (lv := [(0, .ref (ad 52))]) hI (by decide) rfl rfl (Nat.le_of_ble_eq_true rfl) rfl (fun pX eX sX mX aX bX tX cX C hrt0 hlk0 => ?_)
  refine m_cut (σ := Int32) (fun a => a = nI (wd - P.length)) (fun a => M) 24 (fun a => [(0, .ref (ad 52))]) (fun a => [.int (a)]) ?_ (fun J24 => ?_)
  · rintro y9 hj
    try dsimp only at hj ⊢
    subst hj
    refine m_istore_n (pc' := 25) (lv' := [(1, .int (nI (wd - P.length))), (0, .ref (ad 52))]) C dX12_printRow_24 rfl (by decide) rfl rfl ?_
    refine m_aload_n (pc' := 26) C dX12_printRow_25 rfl 1 rfl rfl ?_
    refine m_bipush (pc' := 28) (v := nI 32) C dX12_printRow_26 (by decide) rfl ?_
    refine m_cut (σ := Int32) (fun a => a = nI (if fl then 0 else (wd - P.length))) (fun a => M) 40 (fun a => [(1, .int (nI (wd - P.length))), (0, .ref (ad 52))]) (fun a => [.int (a), .int (nI 32), .ref (ad 52)]) ?_ (fun J40 => ?_)
    · rintro y9 hj
      try dsimp only at hj ⊢
      subst hj
      refine m_callVv (pc' := 43) (As := [.int (nI 32), .int (nI (if fl then 0 else (wd - P.length)))]) (rest := []) C (kX12_putMany hI hn hn2 hro hout (x := 32) (by decide) (nI (if fl then 0 else (wd - P.length)))) (cwV 2 C.1.2.2.2.2 (goodV tm_6_52 tm_6_54 tp_67 tm_1_13 tm_6_55) rfl rfl rfl (by decide +kernel) ⟨by decide, by decide⟩) (by omega) hro rfl rfl rfl (Nat.le_of_ble_eq_true rfl) dX12_printRow_40 rfl ⟨by decide, by decide⟩ (fun M1 q_1 => ?_)
      obtain ⟨pro_1, pout_1, F_1⟩ := q_1
      rw [show cl (nI (if fl then 0 else (wd - P.length))) = (if fl then 0 else (wd - P.length)) from nI_clamp (by split <;> omega)] at pout_1
      refine m_iconst (pc' := 44) (v := nI 0) C dX12_printRow_43 (by decide) rfl ?_
      refine m_istore_n (pc' := 45) (lv' := [(2, .int (nI 0)), (1, .int (nI (wd - P.length))), (0, .ref (ad 52))]) C dX12_printRow_44 rfl (by decide) rfl rfl ?_
      refine m_lv [2, 1, 0] rfl ?_
      refine m_loop (σ := Nat × (Nat → va_E)) (fun a => a.2) (fun a => [(0, .ref (ad 52)), (1, .int (nI (wd - P.length))), (2, .int (nI a.1))]) (fun a => a.1 ≤ P.length ∧ rO ad a.2 ∧ isOut cy a.2 lim ((O ++ List.replicate (if fl then 0 else (wd - P.length)) 32) ++ P.take a.1) ∧ Fr [52, 59, 111, 113] M a.2) (fun a => P.length - a.1) (0, M1) (⟨Nat.zero_le _, pro_1, by (try dsimp only); rw [List.take_zero, List.append_nil]; exact pout_1, (F_1.sub (by decide))⟩) ?_
      rintro ⟨k, Mk⟩ hinv ih
      dsimp only at hinv ih ⊢
      obtain ⟨i1, l1, l2, l3⟩ := hinv
      refine m_iload_n (pc' := 46) C dX12_printRow_45 rfl 2 rfl rfl ?_
      refine m_aload_n (pc' := 47) C dX12_printRow_46 rfl 0 rfl rfl ?_
      have ff30_2 : Mk 130 = gh (.int (nI P.length)) := (l3 130 (by decide)).trans w2
      refine r_get C hn l1 inW_X12 30 (by decide) ⟨rfl, rfl, rfl⟩ (gW_of tm_5_80) (r_at 30 rfl ff30_2) dX12_printRow_47 rfl ?_
      refine m_icmp_ge (pc' := 53) (tgt := 69) C dX12_printRow_50 (by decide) rfl (fun c_50 => ?_) (fun c_50 => ?_)
      · have n_50 : P.length ≤ k := (nI_leI (by omega) (by omega)).mp c_50
        have hk9 : k = P.length := by omega
        subst hk9
        rw [List.take_length] at l2
        refine m_aload_n (pc' := 70) C dX12_printRow_69 rfl 0 rfl rfl ?_
        refine m_bipush (pc' := 72) (v := nI 32) C dX12_printRow_70 (by decide) rfl ?_
        refine m_cut (σ := Int32) (fun a => a = nI (if fl then (wd - P.length) else 0)) (fun a => Mk) 84 (fun a => [(0, .ref (ad 52)), (1, .int (nI (wd - P.length))), (2, .int (nI P.length))]) (fun a => [.int (a), .int (nI 32), .ref (ad 52)]) ?_ (fun J84 => ?_)
        · rintro y9 hj
          try dsimp only at hj ⊢
          subst hj
          refine m_callVv (pc' := 87) (As := [.int (nI 32), .int (nI (if fl then (wd - P.length) else 0))]) (rest := []) C (kX12_putMany hI hn hn2 l1 l2 (x := 32) (by decide) (nI (if fl then (wd - P.length) else 0))) (cwV 2 C.1.2.2.2.2 (goodV tm_6_52 tm_6_54 tp_67 tm_1_13 tm_6_55) rfl rfl rfl (by decide +kernel) ⟨by decide, by decide⟩) (by omega) l1 rfl rfl rfl (Nat.le_of_ble_eq_true rfl) dX12_printRow_84 rfl ⟨by decide, by decide⟩ (fun M3 q_3 => ?_)
          obtain ⟨pro_3, pout_3, F_3⟩ := q_3
          rw [show cl (nI (if fl then (wd - P.length) else 0)) = (if fl then (wd - P.length) else 0) from nI_clamp (by split <;> omega)] at pout_3
          refine m_vret C hrt0 hlk0 dX12_printRow_87 ?_
          have e9 : O ++ padT fl wd P = ((O ++ List.replicate (if fl then 0 else (wd - P.length)) 32) ++ P) ++ List.replicate (if fl then (wd - P.length) else 0) 32 := by
            unfold padT
            cases fl
            · simp
            · simp
          rw [e9]
          exact ⟨pro_3, pout_3, ((l3.sub (by decide)).tr (F_3.sub (by decide)))⟩
        refine m_aload_n (pc' := 73) C dX12_printRow_72 rfl 0 rfl rfl ?_
        have ff20_4 : Mk 120 = gh (.int (bI fl)) := (l3 120 (by decide)).trans h20
        refine r_get C hn l1 inW_X12 20 (by decide) ⟨rfl, rfl, rfl⟩ (gW_of tm_5_70) (r_at 20 rfl ff20_4) dX12_printRow_73 rfl ?_
        refine m_if_eq (pc' := 79) (tgt := 83) C dX12_printRow_76 (by decide) rfl (fun c_76 => ?_) (fun c_76 => ?_)
        · refine m_iconst (pc' := 84) (v := nI 0) C dX12_printRow_83 (by decide) rfl ?_
          refine m_lv [0, 1, 2] rfl ?_
          exact J84 (nI 0) (by rw [if_neg (by rw [(bI_0 _).mp c_76]; decide)])
        · refine m_iload_n (pc' := 80) C dX12_printRow_79 rfl 1 rfl rfl ?_
          refine m_goto (tgt := 84) C dX12_printRow_80 (by decide) ?_
          refine m_lv [0, 1, 2] rfl ?_
          exact J84 (nI (wd - P.length)) (by rw [if_pos (ts_of c_76)])
      · have n_50 : k < P.length := Nat.lt_of_not_le (fun q => c_50 ((nI_leI (by omega) (by omega)).mpr q))
        refine m_aload_n (pc' := 54) C dX12_printRow_53 rfl 0 rfl rfl ?_
        refine m_aload_n (pc' := 55) C dX12_printRow_54 rfl 0 rfl rfl ?_
        refine r_get C hn l1 inW_X12 29 (by decide) ⟨rfl, rfl, rfl⟩ (gW_of tm_5_79) rfl dX12_printRow_55 rfl ?_
        refine m_iload_n (pc' := 59) C dX12_printRow_58 rfl 2 rfl rfl ?_
        have f60_5 : Mk 60 = .inl (cy 0, 200, .inl (fun i => nI (w0 i))) := (l3 60 (by decide)).trans w4
        refine m_cald (pc' := 60) (v := nI (P.getD k 0)) C 60 (by omega) f60_5 (vp_in_nI (by omega) (by decide)) (by rw [nI_clamp (by omega), w5 _ n_50]) dX12_printRow_59 rfl ?_
        refine m_callVv (pc' := 63) (As := [.int (nI (P.getD k 0))]) (rest := []) C (kX12_put hI hn hn2 l1 l2 (x := P.getD k 0) (gd_lt0 w1 _)) (cwV 1 C.1.2.2.2.2 (goodV tm_5_239 tm_6_1 tp_57 tm_1_13 tm_6_2) rfl rfl rfl (by decide +kernel) ⟨by decide, by decide⟩) (by omega) l1 rfl rfl rfl (Nat.le_of_ble_eq_true rfl) dX12_printRow_60 rfl ⟨by decide, by decide⟩ (fun M6 q_6 => ?_)
        obtain ⟨pro_6, pout_6, F_6⟩ := q_6
        refine m_iinc (pc' := 66) (v := nI (k + 1)) (lv' := [(2, .int (nI (k + 1))), (0, .ref (ad 52)), (1, .int (nI (wd - P.length)))]) C dX12_printRow_63 (k := 2) rfl (nI_add _ _) (by decide) rfl rfl ?_
        refine m_goto (tgt := 45) C dX12_printRow_66 (by decide) ?_
        refine m_lv [1, 2, 0] rfl ?_
        exact ih (k + 1, M6) (⟨by (try dsimp only); omega, pro_6, by (try dsimp only); rw [take_s n_50, ← List.append_assoc]; exact pout_6, (l3.tr (F_6.sub (by decide)))⟩) (by simp only; omega)
    refine m_aload_n (pc' := 29) C dX12_printRow_28 rfl 1 rfl rfl ?_
    refine r_get C hn hro inW_X12 20 (by decide) ⟨rfl, rfl, rfl⟩ (gW_of tm_5_70) (r_at 20 rfl h20) dX12_printRow_29 rfl ?_
    refine m_if_eq (pc' := 35) (tgt := 39) C dX12_printRow_32 (by decide) rfl (fun c_32 => ?_) (fun c_32 => ?_)
    · refine m_iload_n (pc' := 40) C dX12_printRow_39 rfl 0 rfl rfl ?_
      refine m_lv [0, 1] rfl ?_
      exact J40 (nI (wd - P.length)) (by rw [if_neg (by rw [(bI_0 _).mp c_32]; decide)])
    · refine m_iconst (pc' := 36) (v := nI 0) C dX12_printRow_35 (by decide) rfl ?_
      refine m_goto (tgt := 40) C dX12_printRow_36 (by decide) ?_
      refine m_lv [0, 1] rfl ?_
      exact J40 (nI 0) (by rw [if_pos (ts_of c_32)])
  refine m_aload_n (pc' := 1) C dX12_printRow_0 rfl 0 rfl rfl ?_
  refine r_get C hn hro inW_X12 25 (by decide) ⟨rfl, rfl, rfl⟩ (gW_of tm_5_75) (r_at 25 rfl h25) dX12_printRow_1 rfl ?_
  refine m_aload_n (pc' := 5) C dX12_printRow_4 rfl 0 rfl rfl ?_
  refine r_get C hn hro inW_X12 30 (by decide) ⟨rfl, rfl, rfl⟩ (gW_of tm_5_80) (r_at 30 rfl w2) dX12_printRow_5 rfl ?_
  refine m_icmp_le (pc' := 11) (tgt := 23) C dX12_printRow_8 (by decide) rfl (fun c_8 => ?_) (fun c_8 => ?_)
  · have n_8 : wd ≤ P.length := (nI_leI (by omega) (by omega)).mp c_8
    refine m_iconst (pc' := 24) (v := nI 0) C dX12_printRow_23 (by decide) rfl ?_
    refine m_lv [0] rfl ?_
    exact J24 (nI 0) (by rw [show (wd - P.length) = 0 by omega])
  · have n_8 : P.length < wd := Nat.lt_of_not_le (fun q => c_8 ((nI_leI (by omega) (by omega)).mpr q))
    refine m_aload_n (pc' := 12) C dX12_printRow_11 rfl 0 rfl rfl ?_
    refine r_get C hn hro inW_X12 25 (by decide) ⟨rfl, rfl, rfl⟩ (gW_of tm_5_75) (r_at 25 rfl h25) dX12_printRow_12 rfl ?_
    refine m_aload_n (pc' := 16) C dX12_printRow_15 rfl 0 rfl rfl ?_
    refine r_get C hn hro inW_X12 30 (by decide) ⟨rfl, rfl, rfl⟩ (gW_of tm_5_80) (r_at 30 rfl w2) dX12_printRow_16 rfl ?_
    refine m_isub (pc' := 20) (v := nI (wd - P.length)) C dX12_printRow_19 (pk_sub (by omega)) rfl ?_
    refine m_goto (tgt := 24) C dX12_printRow_20 (by decide) ?_
    refine m_lv [0] rfl ?_
    exact J24 (nI (wd - P.length)) (rfl)
set_option maxHeartbeats 4000000 in
set_option maxRecDepth 100000 in
theorem kX12_undo {l : Launch} {D : va_G} {cy : Nat → ClassId} {ad : Nat → Nat} {n : Nat} {A : Nat → Prop} (hI : mI ad n A) {M : Nat → va_E} (hn : 63 ≤ n) (hn2 : n ≤ 100) (hro : rO ad M) {P : List Nat} (hrw : isRw cy M P) {e0 : Bool} (he : M 118 = gh (.int (bI e0))) (hP : P.length ≤ 80) : mMv l yX12_undo (gW yX12_undo cX12_undo 8 none) { frames := 1, cells := 0, slots := 0, locals := 20 } D cy ad n A [.ref (ad 52)] M (fun M' => rO ad M' ∧ isRw cy M' (unsT P) ∧ M' 118 = gh (.int (bI (e0 || unsE P))) ∧ Fr [52, 60, 118, 130] M M') := by
  obtain ⟨w1, w2, w3, w0, w4, w5⟩ := id hrw
  refine m_entry (cc := cX12_undo) (maxL := 8) (ret := none) (own := RX12) (lv := [(0, .ref (ad 52))]) hI (by decide) rfl rfl (Nat.le_of_ble_eq_true rfl) rfl (fun pX eX sX mX aX bX tX cX C hrt0 hlk0 => ?_)
  refine m_aload_n (pc' := 1) C dX12_undo_0 rfl 0 rfl rfl ?_
  refine r_get C hn hro inW_X12 30 (by decide) ⟨rfl, rfl, rfl⟩ (gW_of tm_5_80) (r_at 30 rfl w2) dX12_undo_1 rfl ?_
  refine m_istore_n (pc' := 5) (lv' := [(1, .int (nI P.length)), (0, .ref (ad 52))]) C dX12_undo_4 rfl (by decide) rfl rfl ?_
  refine m_iconst (pc' := 6) (v := nI 0) C dX12_undo_5 (by decide) rfl ?_
  refine m_istore_n (pc' := 7) (lv' := [(2, .int (nI 0)), (1, .int (nI P.length)), (0, .ref (ad 52))]) C dX12_undo_6 rfl (by decide) rfl rfl ?_
  refine m_aload_n (pc' := 8) C dX12_undo_7 rfl 2 rfl rfl ?_
  refine m_iconst (pc' := 9) (v := nI 0) C dX12_undo_8 (by decide) rfl ?_
  refine r_put (ty := .int) C hn hn2 hro inW_X12 30 130 (by decide) rfl ⟨rfl, rfl, rfl, rfl⟩ (gW_of tm_5_80) (by decide +kernel) rfl rfl (fun _ => rfl) dX12_undo_9 rfl (fun M1 go_1 g_1 F_1 => ?_)
  refine m_iconst (pc' := 13) (v := bI false) C dX12_undo_12 (by decide) rfl ?_
  refine m_istore_n (pc' := 14) (lv' := [(3, .int (bI false)), (2, .int (nI 0)), (1, .int (nI P.length)), (0, .ref (ad 52))]) C dX12_undo_13 rfl (by decide) rfl rfl ?_
  refine m_lv [3, 2, 1, 0] rfl ?_
  have f60_2 : M1 60 = .inl (cy 0, 200, .inl (fun i => nI (w0 i))) := (F_1 60 (by decide)).trans w4
  have ff18_3 : M1 118 = gh (.int (bI e0)) := (F_1 118 (by decide)).trans he
  refine m_loop (σ := Nat × List Nat × Nat × Bool × (Nat → Nat) × (Nat → va_E)) (fun a => a.2.2.2.2.2) (fun a => [(0, .ref (ad 52)), (1, .int (nI P.length)), (2, .int (nI a.1)), (3, .int (bI a.2.2.2.1))]) (fun a => (unsF P 80 0).1 = a.2.1 ++ (if a.2.2.2.1 = true then [] else (unsF P (80 - a.2.2.1) a.1).1) ∧ (unsF P 80 0).2 = (a.2.2.2.1 || (unsF P (80 - a.2.2.1) a.1).2) ∧ rO ad a.2.2.2.2.2 ∧ a.2.2.2.2.2 60 = .inl (cy 0, 200, .inl (fun i => nI (a.2.2.2.2.1 i))) ∧ a.2.2.2.2.2 130 = gh (.int (nI a.2.1.length)) ∧ a.2.2.2.2.2 118 = gh (.int (bI (e0 || a.2.2.2.1))) ∧ (∀ i, i < a.2.1.length → a.2.2.2.2.1 i = a.2.1.getD i 0) ∧ (∀ i, a.1 ≤ i → i < P.length → a.2.2.2.2.1 i = P.getD i 0) ∧ a.2.1.length ≤ a.1 ∧ (a.2.2.1 ≤ a.1 ∧ a.1 ≤ P.length + 4 ∧ a.2.1.length ≤ P.length ∧ ∀ x ∈ a.2.1, x < 256) ∧ Fr [52, 60, 118, 130] M a.2.2.2.2.2) (fun a => (if a.2.2.2.1 = true then 0 else 1) + (P.length - a.1)) (0, [], 0, false, w0, M1) (⟨rfl, rfl, go_1, f60_2, g_1, by (try dsimp only); rw [Bool.or_false]; exact ff18_3, (fun i hi => by cases hi), (fun i _ hi => w5 i hi), Nat.zero_le _, ⟨Nat.zero_le _, Nat.zero_le _, Nat.zero_le _, (fun x hx => by cases hx)⟩, (F_1.sub (by decide))⟩) ?_
  rintro ⟨k, Q, f, sp, q, Mk⟩ hinv ih
  dsimp only at hinv ih ⊢
  obtain ⟨i1, i2, i4, i5, i6, i7, i8, i9, i10, ⟨i11, i13, i14, hQ8⟩, i12⟩ := hinv
  refine m_iload_n (pc' := 15) C dX12_undo_14 rfl 2 rfl rfl ?_
  refine m_iload_n (pc' := 16) C dX12_undo_15 rfl 1 rfl rfl ?_
  refine m_icmp_ge (pc' := 19) (tgt := 273) C dX12_undo_16 (by decide) rfl (fun c_16 => ?_) (fun c_16 => ?_)
  · have n_16 : P.length ≤ k := (nI_leI (by omega) (by omega)).mp c_16
    have hend : unsT P = Q ∧ unsE P = sp := by
      unfold unsT unsE
      rw [i1, i2, unsF_e n_16]
      cases sp <;> simp
    refine m_vret C hrt0 hlk0 dX12_undo_273 ?_
    exact ⟨i4, by rw [hend.1]; exact ⟨hQ8, i6, ⟨by omega, q, i5, i8⟩⟩, by rw [hend.2]; exact i7, i12⟩
  · have n_16 : k < P.length := Nat.lt_of_not_le (fun q => c_16 ((nI_leI (by omega) (by omega)).mpr q))
    refine m_iload_n (pc' := 20) C dX12_undo_19 rfl 3 rfl rfl ?_
    refine m_if_ne (pc' := 23) (tgt := 273) C dX12_undo_20 (by decide) rfl (fun c_20 => ?_) (fun c_20 => ?_)
    · have hsp := ts_of c_20
      have hend : unsT P = Q ∧ unsE P = sp := by
        unfold unsT unsE
        rw [i1, i2, hsp]
        simp
      refine m_vret C hrt0 hlk0 dX12_undo_273 ?_
      exact ⟨i4, by rw [hend.1]; exact ⟨hQ8, i6, ⟨by omega, q, i5, i8⟩⟩, by rw [hend.2]; exact i7, i12⟩
    · have hsp : sp = false := (bI_0 _).mp (Classical.not_not.mp c_20)
      have hsp9 : ¬ sp = true := by rw [hsp]; decide
      have hf80 : f < 80 := by omega
      have hc8 := gd_lt0 w1 k
      refine m_aload_n (pc' := 24) C dX12_undo_23 rfl 0 rfl rfl ?_
      refine r_get C hn i4 inW_X12 29 (by decide) ⟨rfl, rfl, rfl⟩ (gW_of tm_5_79) rfl dX12_undo_24 rfl ?_
      refine m_iload_n (pc' := 28) C dX12_undo_27 rfl 2 rfl rfl ?_
      refine m_cald (pc' := 29) (v := nI (P.getD k 0)) C 60 (by omega) i5 (vp_in_nI (by omega) (by decide)) (by rw [nI_clamp (by omega), i9 _ (Nat.le_refl _) n_16]) dX12_undo_28 rfl ?_
      refine m_istore (pc' := 31) (lv' := [(4, .int (nI (P.getD k 0))), (0, .ref (ad 52)), (1, .int (nI P.length)), (2, .int (nI k)), (3, .int (bI sp))]) C dX12_undo_29 (by decide) rfl rfl ?_
      refine m_cut (σ := Int32) (fun a => a = nI (P.getD (k + 1) 0)) (fun a => Mk) 50 (fun a => [(4, .int (nI (P.getD k 0))), (0, .ref (ad 52)), (1, .int (nI P.length)), (2, .int (nI k)), (3, .int (bI sp))]) (fun a => [.int (a)]) ?_ (fun J50 => ?_)
      · rintro y9 hj
        try dsimp only at hj ⊢
        subst hj
        have hb8 := gd_lt0 w1 (k + 1)
        refine m_istore (pc' := 52) (lv' := [(5, .int (nI (P.getD (k + 1) 0))), (4, .int (nI (P.getD k 0))), (0, .ref (ad 52)), (1, .int (nI P.length)), (2, .int (nI k)), (3, .int (bI sp))]) C dX12_undo_50 (by decide) rfl rfl ?_
        refine m_cut (σ := Unit) (fun a => ¬ (P.getD k 0 = 92 ∧ P.getD (k + 1) 0 = 99)) (fun a => Mk) 83 (fun a => [(0, .ref (ad 52)), (1, .int (nI P.length)), (2, .int (nI k)), (3, .int (bI sp)), (4, .int (nI (P.getD k 0))), (5, .int (nI (P.getD (k + 1) 0)))]) (fun a => []) ?_ (fun J83 => ?_)
        · rintro zz hj
          try dsimp only at hj ⊢
          have hj83 := hj
          refine m_cut (σ := Unit) (fun a => ¬ (P.getD k 0 = 92 ∧ P.getD (k + 1) 0 = 48)) (fun a => Mk) 192 (fun a => [(0, .ref (ad 52)), (1, .int (nI P.length)), (2, .int (nI k)), (3, .int (bI sp)), (4, .int (nI (P.getD k 0))), (5, .int (nI (P.getD (k + 1) 0)))]) (fun a => []) ?_ (fun J192 => ?_)
          · rintro zz hj
            try dsimp only at hj ⊢
            have hj192 := hj
            refine m_cut (σ := Unit) (fun a => ¬ (P.getD k 0 = 92 ∧ txOk P (k + 1) = true)) (fun a => Mk) 246 (fun a => [(0, .ref (ad 52)), (1, .int (nI P.length)), (2, .int (nI k)), (3, .int (bI sp)), (4, .int (nI (P.getD k 0))), (5, .int (nI (P.getD (k + 1) 0)))]) (fun a => []) ?_ (fun J246 => ?_)
            · rintro zz hj
              try dsimp only at hj ⊢
              have hj246 := hj
              refine m_aload_n (pc' := 247) C dX12_undo_246 rfl 0 rfl rfl ?_
              refine r_get C hn i4 inW_X12 29 (by decide) ⟨rfl, rfl, rfl⟩ (gW_of tm_5_79) rfl dX12_undo_247 rfl ?_
              refine m_aload_n (pc' := 251) C dX12_undo_250 rfl 0 rfl rfl ?_
              refine r_get C hn i4 inW_X12 30 (by decide) ⟨rfl, rfl, rfl⟩ (gW_of tm_5_80) (r_at 30 rfl i6) dX12_undo_251 rfl ?_
              refine m_iload (pc' := 256) C dX12_undo_254 4 rfl rfl ?_
              refine m_cast (pc' := 257) (E' := .inl (cy 0, 200, .inl (fun i => nI (va_up q Q.length (P.getD k 0) i)))) C 60 (by omega) i5 (vp_in_nI (by omega) (by decide)) (by rw [nI_clamp (by omega), nar_cv (by omega), upd_nI]) dX12_undo_256 rfl (fun M4 g_4 F_4 => ?_)
              refine m_aload_n (pc' := 258) C dX12_undo_257 rfl 0 rfl rfl ?_
              refine m_dup (pc' := 259) C dX12_undo_258 rfl rfl ?_
              have ro_5 := i4.fr F_4 (by decide)
              have ff30_6 : M4 130 = gh (.int (nI Q.length)) := (F_4 130 (by decide)).trans i6
              refine r_get C hn ro_5 inW_X12 30 (by decide) ⟨rfl, rfl, rfl⟩ (gW_of tm_5_80) (r_at 30 rfl ff30_6) dX12_undo_259 rfl ?_
              refine m_iconst (pc' := 263) (v := nI 1) C dX12_undo_262 (by decide) rfl ?_
              refine m_iadd (pc' := 264) (v := nI (Q.length + 1)) C dX12_undo_263 (nI_add _ _) rfl ?_
              refine r_put (ty := .int) C hn hn2 ro_5 inW_X12 30 130 (by decide) rfl ⟨rfl, rfl, rfl, rfl⟩ (gW_of tm_5_80) (by decide +kernel) rfl rfl (fun _ => rfl) dX12_undo_264 rfl (fun M7 go_7 g_7 F_7 => ?_)
              refine m_iinc (pc' := 270) (v := nI (k + 1)) (lv' := [(2, .int (nI (k + 1))), (0, .ref (ad 52)), (1, .int (nI P.length)), (3, .int (bI sp)), (4, .int (nI (P.getD k 0))), (5, .int (nI (P.getD (k + 1) 0)))]) C dX12_undo_267 (k := 2) rfl (nI_add _ _) (by decide) rfl rfl ?_
              refine m_goto (tgt := 14) C dX12_undo_270 (by decide) ?_
              have f60_8 : M7 60 = .inl (cy 0, 200, .inl (fun i => nI (va_up q Q.length (P.getD k 0) i))) := (F_7 60 (by decide)).trans g_4
              have ff18_9 : M4 118 = gh (.int (bI (e0 || sp))) := (F_4 118 (by decide)).trans i7
              have ff18_10 : M7 118 = gh (.int (bI (e0 || sp))) := (F_7 118 (by decide)).trans ff18_9
              refine m_lv [1, 2, 0, 3] rfl ?_
              exact ih (k + 1, Q ++ [P.getD k 0], f + 1, sp, va_up q Q.length (P.getD k 0), M7) (⟨by (try dsimp only); rw [i1, if_neg hsp9, if_neg hsp9, show 80 - f = (80 - (f + 1)) + 1 by omega, unsF_p n_16 hj83 hj246, List.append_assoc]; rfl, by (try dsimp only); rw [i2, show 80 - f = (80 - (f + 1)) + 1 by omega, unsF_p n_16 hj83 hj246], go_7, f60_8, by (try dsimp only); rw [List.length_append]; exact g_7, ff18_10, (by intro i hi; (try dsimp only at hi ⊢); rw [List.length_append, List.length_singleton] at hi; by_cases z : i = Q.length; rw [z, va_up_self, gd_last]; rw [va_up_ne _ _ z, gd_app (by omega)]; exact i8 i (by omega)), (by intro i hi hi2; (try dsimp only at hi ⊢); rw [va_up_ne _ _ (by omega)]; exact i9 i (by omega) hi2), by (try dsimp only); rw [List.length_append, List.length_singleton]; omega, ⟨by (try dsimp only); omega, by (try dsimp only); omega, by (try dsimp only); rw [List.length_append, List.length_singleton]; omega, (by intro x hx; rcases List.mem_append.mp hx with z | z; exact hQ8 x z; rw [List.mem_singleton.mp z]; omega)⟩, ((i12.tr (F_4.sub (by decide))).tr (F_7.sub (by decide)))⟩) (by simp only [if_neg hsp9]; omega)
            refine m_iload (pc' := 194) C dX12_undo_192 4 rfl rfl ?_
            refine m_bipush (pc' := 196) (v := nI 92) C dX12_undo_194 (by decide) rfl ?_
            refine m_icmp_ne (pc' := 199) (tgt := 246) C dX12_undo_196 (by decide) rfl (fun c_196 => ?_) (fun c_196 => ?_)
            · have n_196 : ¬ (P.getD k 0) = 92 := fun q => c_196 ((nI_eq (by omega) (by omega)).mpr q)
              refine m_lv [0, 1, 2, 3, 4, 5] rfl ?_
              exact J246 () (fun q => n_196 q.1)
            · have n_196 : (P.getD k 0) = 92 := (nI_eq (by omega) (by omega)).mp (Classical.not_not.mp c_196)
              refine m_iload_n (pc' := 200) C dX12_undo_199 rfl 2 rfl rfl ?_
              refine m_iconst (pc' := 201) (v := nI 1) C dX12_undo_200 (by decide) rfl ?_
              refine m_iadd (pc' := 202) (v := nI (k + 1)) C dX12_undo_201 (nI_add _ _) rfl ?_
              refine m_iload_n (pc' := 203) C dX12_undo_202 rfl 1 rfl rfl ?_
              refine m_icmp_ge (pc' := 206) (tgt := 246) C dX12_undo_203 (by decide) rfl (fun c_203 => ?_) (fun c_203 => ?_)
              · have n_203 : P.length ≤ (k + 1) := (nI_leI (by omega) (by omega)).mp c_203
                refine m_lv [0, 1, 2, 3, 4, 5] rfl ?_
                exact J246 () (fun q => absurd q.2 (txN (by rw [gd_out n_203]; rfl) (by rw [gd_out n_203]; decide)))
              · have n_203 : (k + 1) < P.length := Nat.lt_of_not_le (fun q => c_203 ((nI_leI (by omega) (by omega)).mpr q))
                refine m_iload (pc' := 208) C dX12_undo_206 5 rfl rfl ?_
                refine m_callSi (pc' := 211) (As := [.int (nI (P.getD (k + 1) 0))]) (rest := []) C (kX12_escapeOf hI (c := P.getD (k + 1) 0) (by omega)) (cwS 1 C.1.2.2.2.2 (goodS tm_5_220 tm_5_221 tm_1_13 tm_5_222) rfl rfl rfl (by decide +kernel) ⟨by decide, by decide⟩) rfl rfl (Nat.le_of_ble_eq_true rfl) dX12_undo_208 rfl ⟨by decide, by decide⟩ (fun x_11 N_11 q_11 => ?_)
                obtain ⟨e_11, E_11⟩ := q_11
                replace E_11 := E_11.symm
                subst E_11
                replace e_11 := e_11.symm
                subst e_11
                refine m_if_lt (pc' := 214) (tgt := 246) C dX12_undo_211 (by decide) rfl (fun c_211 => ?_) (fun c_211 => ?_)
                · refine m_lv [0, 1, 2, 3, 4, 5] rfl ?_
                  exact J246 () (fun q => absurd q.2 (txN (escI_lt0.mp c_211) (fun z => hj192 ⟨q.1, z⟩)))
                · have hev := escI_v c_211
                  have htx := txE_s hev.2
                  have hec := escC_lt (P.getD (k + 1) 0)
                  have hvx : txV P (k + 1) % 256 = escC (P.getD (k + 1) 0) := by rw [htx.2.1, Nat.mod_eq_of_lt hec]
                  refine m_aload_n (pc' := 215) C dX12_undo_214 rfl 0 rfl rfl ?_
                  refine r_get C hn i4 inW_X12 29 (by decide) ⟨rfl, rfl, rfl⟩ (gW_of tm_5_79) rfl dX12_undo_215 rfl ?_
                  refine m_aload_n (pc' := 219) C dX12_undo_218 rfl 0 rfl rfl ?_
                  refine r_get C hn i4 inW_X12 30 (by decide) ⟨rfl, rfl, rfl⟩ (gW_of tm_5_80) (r_at 30 rfl i6) dX12_undo_219 rfl ?_
                  refine m_iload (pc' := 224) C dX12_undo_222 5 rfl rfl ?_
                  refine m_callSi (pc' := 227) (As := [.int (nI (P.getD (k + 1) 0))]) (rest := [.int (nI Q.length), .ref (ad 60)]) C (kX12_escapeOf hI (c := P.getD (k + 1) 0) (by omega)) (cwS 1 C.1.2.2.2.2 (goodS tm_5_220 tm_5_221 tm_1_13 tm_5_222) rfl rfl rfl (by decide +kernel) ⟨by decide, by decide⟩) rfl rfl (Nat.le_of_ble_eq_true rfl) dX12_undo_224 rfl ⟨by decide, by decide⟩ (fun x_12 N_12 q_12 => ?_)
                  obtain ⟨e_12, E_12⟩ := q_12
                  replace E_12 := E_12.symm
                  subst E_12
                  replace e_12 := e_12.symm
                  subst e_12
                  refine m_i2c (pc' := 228) (v := nI (txV P (k + 1) % 256)) C dX12_undo_227 (by rw [hev.1, i2c_nI (by omega), hvx]) rfl ?_
                  refine m_cast (pc' := 229) (E' := .inl (cy 0, 200, .inl (fun i => nI (va_up q Q.length (txV P (k + 1) % 256) i)))) C 60 (by omega) i5 (vp_in_nI (by omega) (by decide)) (by rw [nI_clamp (by omega), nar_cv (by omega), upd_nI]) dX12_undo_228 rfl (fun M13 g_13 F_13 => ?_)
                  refine m_aload_n (pc' := 230) C dX12_undo_229 rfl 0 rfl rfl ?_
                  refine m_dup (pc' := 231) C dX12_undo_230 rfl rfl ?_
                  have ro_14 := i4.fr F_13 (by decide)
                  have ff30_15 : M13 130 = gh (.int (nI Q.length)) := (F_13 130 (by decide)).trans i6
                  refine r_get C hn ro_14 inW_X12 30 (by decide) ⟨rfl, rfl, rfl⟩ (gW_of tm_5_80) (r_at 30 rfl ff30_15) dX12_undo_231 rfl ?_
                  refine m_iconst (pc' := 235) (v := nI 1) C dX12_undo_234 (by decide) rfl ?_
                  refine m_iadd (pc' := 236) (v := nI (Q.length + 1)) C dX12_undo_235 (nI_add _ _) rfl ?_
                  refine r_put (ty := .int) C hn hn2 ro_14 inW_X12 30 130 (by decide) rfl ⟨rfl, rfl, rfl, rfl⟩ (gW_of tm_5_80) (by decide +kernel) rfl rfl (fun _ => rfl) dX12_undo_236 rfl (fun M16 go_16 g_16 F_16 => ?_)
                  refine m_iload_n (pc' := 240) C dX12_undo_239 rfl 2 rfl rfl ?_
                  refine m_iconst (pc' := 241) (v := nI 2) C dX12_undo_240 (by decide) rfl ?_
                  refine m_iadd (pc' := 242) (v := nI (k + 2)) C dX12_undo_241 (nI_add _ _) rfl ?_
                  refine m_istore_n (pc' := 243) (lv' := [(2, .int (nI (k + 2))), (0, .ref (ad 52)), (1, .int (nI P.length)), (3, .int (bI sp)), (4, .int (nI (P.getD k 0))), (5, .int (nI (P.getD (k + 1) 0)))]) C dX12_undo_242 rfl (by decide) rfl rfl ?_
                  refine m_goto (tgt := 270) C dX12_undo_243 (by decide) ?_
                  refine m_goto (tgt := 14) C dX12_undo_270 (by decide) ?_
                  have f60_17 : M16 60 = .inl (cy 0, 200, .inl (fun i => nI (va_up q Q.length (txV P (k + 1) % 256) i))) := (F_16 60 (by decide)).trans g_13
                  have ff18_18 : M13 118 = gh (.int (bI (e0 || sp))) := (F_13 118 (by decide)).trans i7
                  have ff18_19 : M16 118 = gh (.int (bI (e0 || sp))) := (F_16 118 (by decide)).trans ff18_18
                  refine m_lv [1, 2, 0, 3] rfl ?_
                  exact ih (k + 2, Q ++ [txV P (k + 1) % 256], f + 1, sp, va_up q Q.length (txV P (k + 1) % 256), M16) (⟨by (try dsimp only); rw [i1, if_neg hsp9, if_neg hsp9, show 80 - f = (80 - (f + 1)) + 1 by omega, unsF_x n_16 n_196 (fun z => hj83 ⟨n_196, z⟩) htx.1, htx.2.2, List.append_assoc]; rfl, by (try dsimp only); rw [i2, show 80 - f = (80 - (f + 1)) + 1 by omega, unsF_x n_16 n_196 (fun z => hj83 ⟨n_196, z⟩) htx.1, htx.2.2], go_16, f60_17, by (try dsimp only); rw [List.length_append]; exact g_16, ff18_19, (by intro i hi; (try dsimp only at hi ⊢); rw [List.length_append, List.length_singleton] at hi; by_cases z : i = Q.length; rw [z, va_up_self, gd_last]; rw [va_up_ne _ _ z, gd_app (by omega)]; exact i8 i (by omega)), (by intro i hi hi2; (try dsimp only at hi ⊢); rw [va_up_ne _ _ (by omega)]; exact i9 i (by omega) hi2), by (try dsimp only); rw [List.length_append, List.length_singleton]; omega, ⟨by (try dsimp only); omega, by (try dsimp only); omega, by (try dsimp only); rw [List.length_append, List.length_singleton]; omega, (by intro x hx; rcases List.mem_append.mp hx with z | z; exact hQ8 x z; rw [List.mem_singleton.mp z]; omega)⟩, ((i12.tr (F_13.sub (by decide))).tr (F_16.sub (by decide)))⟩) (by simp only [if_neg hsp9]; omega)
          refine m_iload (pc' := 85) C dX12_undo_83 4 rfl rfl ?_
          refine m_bipush (pc' := 87) (v := nI 92) C dX12_undo_85 (by decide) rfl ?_
          refine m_icmp_ne (pc' := 90) (tgt := 192) C dX12_undo_87 (by decide) rfl (fun c_87 => ?_) (fun c_87 => ?_)
          · have n_87 : ¬ (P.getD k 0) = 92 := fun q => c_87 ((nI_eq (by omega) (by omega)).mpr q)
            refine m_lv [0, 1, 2, 3, 4, 5] rfl ?_
            exact J192 () (fun q => n_87 q.1)
          · have n_87 : (P.getD k 0) = 92 := (nI_eq (by omega) (by omega)).mp (Classical.not_not.mp c_87)
            refine m_iload_n (pc' := 91) C dX12_undo_90 rfl 2 rfl rfl ?_
            refine m_iconst (pc' := 92) (v := nI 1) C dX12_undo_91 (by decide) rfl ?_
            refine m_iadd (pc' := 93) (v := nI (k + 1)) C dX12_undo_92 (nI_add _ _) rfl ?_
            refine m_iload_n (pc' := 94) C dX12_undo_93 rfl 1 rfl rfl ?_
            refine m_icmp_ge (pc' := 97) (tgt := 192) C dX12_undo_94 (by decide) rfl (fun c_94 => ?_) (fun c_94 => ?_)
            · have n_94 : P.length ≤ (k + 1) := (nI_leI (by omega) (by omega)).mp c_94
              refine m_lv [0, 1, 2, 3, 4, 5] rfl ?_
              exact J192 () (fun q => by have := q.2; rw [gd_out n_94] at this; omega)
            · have n_94 : (k + 1) < P.length := Nat.lt_of_not_le (fun q => c_94 ((nI_leI (by omega) (by omega)).mpr q))
              refine m_iload (pc' := 99) C dX12_undo_97 5 rfl rfl ?_
              refine m_bipush (pc' := 101) (v := nI 48) C dX12_undo_99 (by decide) rfl ?_
              refine m_icmp_ne (pc' := 104) (tgt := 192) C dX12_undo_101 (by decide) rfl (fun c_101 => ?_) (fun c_101 => ?_)
              · have n_101 : ¬ (P.getD (k + 1) 0) = 48 := fun q => c_101 ((nI_eq (by omega) (by omega)).mpr q)
                refine m_lv [0, 1, 2, 3, 4, 5] rfl ?_
                exact J192 () (fun q => n_101 q.2)
              · have n_101 : (P.getD (k + 1) 0) = 48 := (nI_eq (by omega) (by omega)).mp (Classical.not_not.mp c_101)
                have htx := tx48 n_101
                refine m_iconst (pc' := 105) (v := nI (valN 8 [])) C dX12_undo_104 (by decide) rfl ?_
                refine m_istore (pc' := 107) (lv' := [(6, .int (nI (valN 8 []))), (0, .ref (ad 52)), (1, .int (nI P.length)), (2, .int (nI k)), (3, .int (bI sp)), (4, .int (nI (P.getD k 0))), (5, .int (nI (P.getD (k + 1) 0)))]) C dX12_undo_105 (by decide) rfl rfl ?_
                refine m_iload_n (pc' := 108) C dX12_undo_107 rfl 3 rfl rfl ?_
                refine m_iconst (pc' := 109) (v := nI 2) C dX12_undo_108 (by decide) rfl ?_
                refine m_iadd (pc' := 110) (v := nI (k + 2)) C dX12_undo_109 (nI_add _ _) rfl ?_
                refine m_istore_n (pc' := 111) (lv' := [(2, .int (nI (k + 2))), (6, .int (nI (valN 8 []))), (0, .ref (ad 52)), (1, .int (nI P.length)), (3, .int (bI sp)), (4, .int (nI (P.getD k 0))), (5, .int (nI (P.getD (k + 1) 0)))]) C dX12_undo_110 rfl (by decide) rfl rfl ?_
                refine m_iconst (pc' := 112) (v := nI 0) C dX12_undo_111 (by decide) rfl ?_
                refine m_istore (pc' := 114) (lv' := [(7, .int (nI 0)), (2, .int (nI (k + 2))), (6, .int (nI (valN 8 []))), (0, .ref (ad 52)), (1, .int (nI P.length)), (3, .int (bI sp)), (4, .int (nI (P.getD k 0))), (5, .int (nI (P.getD (k + 1) 0)))]) C dX12_undo_112 (by decide) rfl rfl ?_
                refine m_lv [3, 4, 1, 5, 2, 0] rfl ?_
                refine m_loop (σ := Nat × List Nat × (Nat → va_E)) (fun a => a.2.2) (fun a => [(0, .ref (ad 52)), (1, .int (nI P.length)), (2, .int (nI (k + 2 + a.1))), (3, .int (bI sp)), (6, .int (nI (valN 8 a.2.1))), (7, .int (nI a.1))]) (fun a => a.2.1.length = a.1 ∧ oct3 P (k + 2) = a.2.1 ++ dgr 8 P (k + 2 + a.1) (3 - a.1) ∧ (∀ x ∈ a.2.1, x < 8) ∧ rO ad a.2.2 ∧ Fr [] Mk a.2.2) (fun a => 3 - a.1) (0, [], Mk) (⟨rfl, rfl, (fun x hx => by cases hx), i4, Fr.rf⟩) ?_
                rintro ⟨j, ps, Mm⟩ hinv ih1
                dsimp only at hinv ih1 ⊢
                obtain ⟨o1, o2, o3, o4, o5⟩ := hinv
                have hk3 : j ≤ 3 := by rw [← o1]; have h9 := oct3_len P (k + 2); rw [o2, List.length_append] at h9; omega
                have hvb : valN 8 ps < 2 ^ 9 := Nat.lt_of_lt_of_le (valN_lt ps o3) (by rw [o1]; exact Nat.pow_le_pow_right (by decide) hk3)
                have hc8k := gd_lt0 w1 (k + 2 + j)
                refine m_iload (pc' := 116) C dX12_undo_114 5 rfl rfl ?_
                refine m_iconst (pc' := 117) (v := nI 3) C dX12_undo_116 (by decide) rfl ?_
                refine m_icmp_ge (pc' := 120) (tgt := 163) C dX12_undo_117 (by decide) rfl (fun c_117 => ?_) (fun c_117 => ?_)
                · have n_117 : 3 ≤ j := (nI_leI (by omega) (by omega)).mp c_117
                  have hds : oct3 P (k + 1 + 1) = ps := by show oct3 P (k + 2) = ps; rw [o2, show 3 - j = 0 by omega, dgr_0, List.append_nil]
                  have hvx : valN 8 ps = txV P (k + 1) := by rw [htx.2.1, hds]
                  refine m_aload_n (pc' := 164) C dX12_undo_163 rfl 0 rfl rfl ?_
                  refine r_get C hn o4 inW_X12 29 (by decide) ⟨rfl, rfl, rfl⟩ (gW_of tm_5_79) rfl dX12_undo_164 rfl ?_
                  refine m_aload_n (pc' := 168) C dX12_undo_167 rfl 0 rfl rfl ?_
                  have ff30_20 : Mm 130 = gh (.int (nI Q.length)) := (o5 130 (by decide)).trans i6
                  refine r_get C hn o4 inW_X12 30 (by decide) ⟨rfl, rfl, rfl⟩ (gW_of tm_5_80) (r_at 30 rfl ff30_20) dX12_undo_168 rfl ?_
                  refine m_iload (pc' := 173) C dX12_undo_171 4 rfl rfl ?_
                  refine m_sipush (pc' := 176) (v := nI 255) C dX12_undo_173 (by decide) rfl ?_
                  refine m_iand (pc' := 177) (v := nI (txV P (k + 1) % 256)) C dX12_undo_176 (by rw [and255, lowb_mod (by omega), hvx]) rfl ?_
                  refine m_i2c (pc' := 178) (v := nI (txV P (k + 1) % 256)) C dX12_undo_177 (i2c_nI (by omega)) rfl ?_
                  have f60_21 : Mm 60 = .inl (cy 0, 200, .inl (fun i => nI (q i))) := (o5 60 (by decide)).trans i5
                  refine m_cast (pc' := 179) (E' := .inl (cy 0, 200, .inl (fun i => nI (va_up q Q.length (txV P (k + 1) % 256) i)))) C 60 (by omega) f60_21 (vp_in_nI (by omega) (by decide)) (by rw [nI_clamp (by omega), nar_cv (by omega), upd_nI]) dX12_undo_178 rfl (fun M22 g_22 F_22 => ?_)
                  refine m_aload_n (pc' := 180) C dX12_undo_179 rfl 0 rfl rfl ?_
                  refine m_dup (pc' := 181) C dX12_undo_180 rfl rfl ?_
                  have ro_23 := o4.fr F_22 (by decide)
                  have ff30_24 : M22 130 = gh (.int (nI Q.length)) := (F_22 130 (by decide)).trans ff30_20
                  refine r_get C hn ro_23 inW_X12 30 (by decide) ⟨rfl, rfl, rfl⟩ (gW_of tm_5_80) (r_at 30 rfl ff30_24) dX12_undo_181 rfl ?_
                  refine m_iconst (pc' := 185) (v := nI 1) C dX12_undo_184 (by decide) rfl ?_
                  refine m_iadd (pc' := 186) (v := nI (Q.length + 1)) C dX12_undo_185 (nI_add _ _) rfl ?_
                  refine r_put (ty := .int) C hn hn2 ro_23 inW_X12 30 130 (by decide) rfl ⟨rfl, rfl, rfl, rfl⟩ (gW_of tm_5_80) (by decide +kernel) rfl rfl (fun _ => rfl) dX12_undo_186 rfl (fun M25 go_25 g_25 F_25 => ?_)
                  refine m_goto (tgt := 270) C dX12_undo_189 (by decide) ?_
                  refine m_goto (tgt := 14) C dX12_undo_270 (by decide) ?_
                  have f60_26 : M25 60 = .inl (cy 0, 200, .inl (fun i => nI (va_up q Q.length (txV P (k + 1) % 256) i))) := (F_25 60 (by decide)).trans g_22
                  have ff18_27 : Mm 118 = gh (.int (bI (e0 || sp))) := (o5 118 (by decide)).trans i7
                  have ff18_28 : M22 118 = gh (.int (bI (e0 || sp))) := (F_22 118 (by decide)).trans ff18_27
                  have ff18_29 : M25 118 = gh (.int (bI (e0 || sp))) := (F_25 118 (by decide)).trans ff18_28
                  refine m_lv [0, 1, 2, 3] rfl ?_
                  exact ih (k + 2 + j, Q ++ [txV P (k + 1) % 256], f + 1, sp, va_up q Q.length (txV P (k + 1) % 256), M25) (⟨by (try dsimp only); rw [i1, if_neg hsp9, if_neg hsp9, show 80 - f = (80 - (f + 1)) + 1 by omega, unsF_x n_16 n_87 (fun z => hj83 ⟨n_87, z⟩) htx.1, htx.2.2, hds, o1, List.append_assoc]; rfl, by (try dsimp only); rw [i2, show 80 - f = (80 - (f + 1)) + 1 by omega, unsF_x n_16 n_87 (fun z => hj83 ⟨n_87, z⟩) htx.1, htx.2.2, hds, o1], go_25, f60_26, by (try dsimp only); rw [List.length_append]; exact g_25, ff18_29, (by intro i hi; (try dsimp only at hi ⊢); rw [List.length_append, List.length_singleton] at hi; by_cases z : i = Q.length; rw [z, va_up_self, gd_last]; rw [va_up_ne _ _ z, gd_app (by omega)]; exact i8 i (by omega)), (by intro i hi hi2; (try dsimp only at hi ⊢); rw [va_up_ne _ _ (by omega)]; exact i9 i (by omega) hi2), by (try dsimp only); rw [List.length_append, List.length_singleton]; omega, ⟨by (try dsimp only); omega, by (try dsimp only); omega, by (try dsimp only); rw [List.length_append, List.length_singleton]; omega, (by intro x hx; rcases List.mem_append.mp hx with z | z; exact hQ8 x z; rw [List.mem_singleton.mp z]; omega)⟩, i12.tr ((((o5.sub (by decide)).tr (F_22.sub (by decide))).tr (F_25.sub (by decide))))⟩) (by simp only [if_neg hsp9]; omega)
                · have n_117 : j < 3 := Nat.lt_of_not_le (fun q => c_117 ((nI_leI (by omega) (by omega)).mpr q))
                  refine m_iload_n (pc' := 121) C dX12_undo_120 rfl 2 rfl rfl ?_
                  refine m_iload_n (pc' := 122) C dX12_undo_121 rfl 1 rfl rfl ?_
                  refine m_icmp_ge (pc' := 125) (tgt := 163) C dX12_undo_122 (by decide) rfl (fun c_122 => ?_) (fun c_122 => ?_)
                  · have n_122 : P.length ≤ (k + 2 + j) := (nI_leI (by omega) (by omega)).mp c_122
                    have hds : oct3 P (k + 1 + 1) = ps := by show oct3 P (k + 2) = ps; rw [o2, dgr_n (by rw [gd_out n_122]; decide), List.append_nil]
                    have hvx : valN 8 ps = txV P (k + 1) := by rw [htx.2.1, hds]
                    refine m_aload_n (pc' := 164) C dX12_undo_163 rfl 0 rfl rfl ?_
                    refine r_get C hn o4 inW_X12 29 (by decide) ⟨rfl, rfl, rfl⟩ (gW_of tm_5_79) rfl dX12_undo_164 rfl ?_
                    refine m_aload_n (pc' := 168) C dX12_undo_167 rfl 0 rfl rfl ?_
                    have ff30_30 : Mm 130 = gh (.int (nI Q.length)) := (o5 130 (by decide)).trans i6
                    refine r_get C hn o4 inW_X12 30 (by decide) ⟨rfl, rfl, rfl⟩ (gW_of tm_5_80) (r_at 30 rfl ff30_30) dX12_undo_168 rfl ?_
                    refine m_iload (pc' := 173) C dX12_undo_171 4 rfl rfl ?_
                    refine m_sipush (pc' := 176) (v := nI 255) C dX12_undo_173 (by decide) rfl ?_
                    refine m_iand (pc' := 177) (v := nI (txV P (k + 1) % 256)) C dX12_undo_176 (by rw [and255, lowb_mod (by omega), hvx]) rfl ?_
                    refine m_i2c (pc' := 178) (v := nI (txV P (k + 1) % 256)) C dX12_undo_177 (i2c_nI (by omega)) rfl ?_
                    have f60_31 : Mm 60 = .inl (cy 0, 200, .inl (fun i => nI (q i))) := (o5 60 (by decide)).trans i5
                    refine m_cast (pc' := 179) (E' := .inl (cy 0, 200, .inl (fun i => nI (va_up q Q.length (txV P (k + 1) % 256) i)))) C 60 (by omega) f60_31 (vp_in_nI (by omega) (by decide)) (by rw [nI_clamp (by omega), nar_cv (by omega), upd_nI]) dX12_undo_178 rfl (fun M32 g_32 F_32 => ?_)
                    refine m_aload_n (pc' := 180) C dX12_undo_179 rfl 0 rfl rfl ?_
                    refine m_dup (pc' := 181) C dX12_undo_180 rfl rfl ?_
                    have ro_33 := o4.fr F_32 (by decide)
                    have ff30_34 : M32 130 = gh (.int (nI Q.length)) := (F_32 130 (by decide)).trans ff30_30
                    refine r_get C hn ro_33 inW_X12 30 (by decide) ⟨rfl, rfl, rfl⟩ (gW_of tm_5_80) (r_at 30 rfl ff30_34) dX12_undo_181 rfl ?_
                    refine m_iconst (pc' := 185) (v := nI 1) C dX12_undo_184 (by decide) rfl ?_
                    refine m_iadd (pc' := 186) (v := nI (Q.length + 1)) C dX12_undo_185 (nI_add _ _) rfl ?_
                    refine r_put (ty := .int) C hn hn2 ro_33 inW_X12 30 130 (by decide) rfl ⟨rfl, rfl, rfl, rfl⟩ (gW_of tm_5_80) (by decide +kernel) rfl rfl (fun _ => rfl) dX12_undo_186 rfl (fun M35 go_35 g_35 F_35 => ?_)
                    refine m_goto (tgt := 270) C dX12_undo_189 (by decide) ?_
                    refine m_goto (tgt := 14) C dX12_undo_270 (by decide) ?_
                    have f60_36 : M35 60 = .inl (cy 0, 200, .inl (fun i => nI (va_up q Q.length (txV P (k + 1) % 256) i))) := (F_35 60 (by decide)).trans g_32
                    have ff18_37 : Mm 118 = gh (.int (bI (e0 || sp))) := (o5 118 (by decide)).trans i7
                    have ff18_38 : M32 118 = gh (.int (bI (e0 || sp))) := (F_32 118 (by decide)).trans ff18_37
                    have ff18_39 : M35 118 = gh (.int (bI (e0 || sp))) := (F_35 118 (by decide)).trans ff18_38
                    refine m_lv [0, 1, 2, 3] rfl ?_
                    exact ih (k + 2 + j, Q ++ [txV P (k + 1) % 256], f + 1, sp, va_up q Q.length (txV P (k + 1) % 256), M35) (⟨by (try dsimp only); rw [i1, if_neg hsp9, if_neg hsp9, show 80 - f = (80 - (f + 1)) + 1 by omega, unsF_x n_16 n_87 (fun z => hj83 ⟨n_87, z⟩) htx.1, htx.2.2, hds, o1, List.append_assoc]; rfl, by (try dsimp only); rw [i2, show 80 - f = (80 - (f + 1)) + 1 by omega, unsF_x n_16 n_87 (fun z => hj83 ⟨n_87, z⟩) htx.1, htx.2.2, hds, o1], go_35, f60_36, by (try dsimp only); rw [List.length_append]; exact g_35, ff18_39, (by intro i hi; (try dsimp only at hi ⊢); rw [List.length_append, List.length_singleton] at hi; by_cases z : i = Q.length; rw [z, va_up_self, gd_last]; rw [va_up_ne _ _ z, gd_app (by omega)]; exact i8 i (by omega)), (by intro i hi hi2; (try dsimp only at hi ⊢); rw [va_up_ne _ _ (by omega)]; exact i9 i (by omega) hi2), by (try dsimp only); rw [List.length_append, List.length_singleton]; omega, ⟨by (try dsimp only); omega, by (try dsimp only); omega, by (try dsimp only); rw [List.length_append, List.length_singleton]; omega, (by intro x hx; rcases List.mem_append.mp hx with z | z; exact hQ8 x z; rw [List.mem_singleton.mp z]; omega)⟩, i12.tr ((((o5.sub (by decide)).tr (F_32.sub (by decide))).tr (F_35.sub (by decide))))⟩) (by simp only [if_neg hsp9]; omega)
                  · have n_122 : (k + 2 + j) < P.length := Nat.lt_of_not_le (fun q => c_122 ((nI_leI (by omega) (by omega)).mpr q))
                    refine m_aload_n (pc' := 126) C dX12_undo_125 rfl 0 rfl rfl ?_
                    refine r_get C hn o4 inW_X12 29 (by decide) ⟨rfl, rfl, rfl⟩ (gW_of tm_5_79) rfl dX12_undo_126 rfl ?_
                    refine m_iload_n (pc' := 130) C dX12_undo_129 rfl 2 rfl rfl ?_
                    have f60_40 : Mm 60 = .inl (cy 0, 200, .inl (fun i => nI (q i))) := (o5 60 (by decide)).trans i5
                    refine m_cald (pc' := 131) (v := nI (P.getD (k + 2 + j) 0)) C 60 (by omega) f60_40 (vp_in_nI (by omega) (by decide)) (by rw [nI_clamp (by omega), i9 _ (by omega) n_122]) dX12_undo_130 rfl ?_
                    refine m_callSi (pc' := 134) (As := [.int (nI (P.getD (k + 2 + j) 0))]) (rest := []) C (kX12_isOctal hI (c := P.getD (k + 2 + j) 0) (by omega)) (cwS 1 C.1.2.2.2.2 (goodS tm_5_217 tm_5_218 tm_1_13 tm_5_219) rfl rfl rfl (by decide +kernel) ⟨by decide, by decide⟩) rfl rfl (Nat.le_of_ble_eq_true rfl) dX12_undo_131 rfl ⟨by decide, by decide⟩ (fun x_41 N_41 q_41 => ?_)
                    obtain ⟨e_41, E_41⟩ := q_41
                    replace E_41 := E_41.symm
                    subst E_41
                    replace e_41 := e_41.symm
                    subst e_41
                    refine m_if_eq (pc' := 137) (tgt := 163) C dX12_undo_134 (by decide) rfl (fun c_134 => ?_) (fun c_134 => ?_)
                    · have hdv : ¬ dvN (P.getD (k + 2 + j) 0) < 8 := fun q => by rw [(octB_dv _).mpr q] at c_134; exact absurd c_134 (by decide)
                      have hds : oct3 P (k + 1 + 1) = ps := by show oct3 P (k + 2) = ps; rw [o2, dgr_n hdv, List.append_nil]
                      have hvx : valN 8 ps = txV P (k + 1) := by rw [htx.2.1, hds]
                      refine m_aload_n (pc' := 164) C dX12_undo_163 rfl 0 rfl rfl ?_
                      refine r_get C hn o4 inW_X12 29 (by decide) ⟨rfl, rfl, rfl⟩ (gW_of tm_5_79) rfl dX12_undo_164 rfl ?_
                      refine m_aload_n (pc' := 168) C dX12_undo_167 rfl 0 rfl rfl ?_
                      have ff30_42 : Mm 130 = gh (.int (nI Q.length)) := (o5 130 (by decide)).trans i6
                      refine r_get C hn o4 inW_X12 30 (by decide) ⟨rfl, rfl, rfl⟩ (gW_of tm_5_80) (r_at 30 rfl ff30_42) dX12_undo_168 rfl ?_
                      refine m_iload (pc' := 173) C dX12_undo_171 4 rfl rfl ?_
                      refine m_sipush (pc' := 176) (v := nI 255) C dX12_undo_173 (by decide) rfl ?_
                      refine m_iand (pc' := 177) (v := nI (txV P (k + 1) % 256)) C dX12_undo_176 (by rw [and255, lowb_mod (by omega), hvx]) rfl ?_
                      refine m_i2c (pc' := 178) (v := nI (txV P (k + 1) % 256)) C dX12_undo_177 (i2c_nI (by omega)) rfl ?_
                      refine m_cast (pc' := 179) (E' := .inl (cy 0, 200, .inl (fun i => nI (va_up q Q.length (txV P (k + 1) % 256) i)))) C 60 (by omega) f60_40 (vp_in_nI (by omega) (by decide)) (by rw [nI_clamp (by omega), nar_cv (by omega), upd_nI]) dX12_undo_178 rfl (fun M43 g_43 F_43 => ?_)
                      refine m_aload_n (pc' := 180) C dX12_undo_179 rfl 0 rfl rfl ?_
                      refine m_dup (pc' := 181) C dX12_undo_180 rfl rfl ?_
                      have ro_44 := o4.fr F_43 (by decide)
                      have ff30_45 : M43 130 = gh (.int (nI Q.length)) := (F_43 130 (by decide)).trans ff30_42
                      refine r_get C hn ro_44 inW_X12 30 (by decide) ⟨rfl, rfl, rfl⟩ (gW_of tm_5_80) (r_at 30 rfl ff30_45) dX12_undo_181 rfl ?_
                      refine m_iconst (pc' := 185) (v := nI 1) C dX12_undo_184 (by decide) rfl ?_
                      refine m_iadd (pc' := 186) (v := nI (Q.length + 1)) C dX12_undo_185 (nI_add _ _) rfl ?_
                      refine r_put (ty := .int) C hn hn2 ro_44 inW_X12 30 130 (by decide) rfl ⟨rfl, rfl, rfl, rfl⟩ (gW_of tm_5_80) (by decide +kernel) rfl rfl (fun _ => rfl) dX12_undo_186 rfl (fun M46 go_46 g_46 F_46 => ?_)
                      refine m_goto (tgt := 270) C dX12_undo_189 (by decide) ?_
                      refine m_goto (tgt := 14) C dX12_undo_270 (by decide) ?_
                      have f60_47 : M46 60 = .inl (cy 0, 200, .inl (fun i => nI (va_up q Q.length (txV P (k + 1) % 256) i))) := (F_46 60 (by decide)).trans g_43
                      have ff18_48 : Mm 118 = gh (.int (bI (e0 || sp))) := (o5 118 (by decide)).trans i7
                      have ff18_49 : M43 118 = gh (.int (bI (e0 || sp))) := (F_43 118 (by decide)).trans ff18_48
                      have ff18_50 : M46 118 = gh (.int (bI (e0 || sp))) := (F_46 118 (by decide)).trans ff18_49
                      refine m_lv [0, 1, 2, 3] rfl ?_
                      exact ih (k + 2 + j, Q ++ [txV P (k + 1) % 256], f + 1, sp, va_up q Q.length (txV P (k + 1) % 256), M46) (⟨by (try dsimp only); rw [i1, if_neg hsp9, if_neg hsp9, show 80 - f = (80 - (f + 1)) + 1 by omega, unsF_x n_16 n_87 (fun z => hj83 ⟨n_87, z⟩) htx.1, htx.2.2, hds, o1, List.append_assoc]; rfl, by (try dsimp only); rw [i2, show 80 - f = (80 - (f + 1)) + 1 by omega, unsF_x n_16 n_87 (fun z => hj83 ⟨n_87, z⟩) htx.1, htx.2.2, hds, o1], go_46, f60_47, by (try dsimp only); rw [List.length_append]; exact g_46, ff18_50, (by intro i hi; (try dsimp only at hi ⊢); rw [List.length_append, List.length_singleton] at hi; by_cases z : i = Q.length; rw [z, va_up_self, gd_last]; rw [va_up_ne _ _ z, gd_app (by omega)]; exact i8 i (by omega)), (by intro i hi hi2; (try dsimp only at hi ⊢); rw [va_up_ne _ _ (by omega)]; exact i9 i (by omega) hi2), by (try dsimp only); rw [List.length_append, List.length_singleton]; omega, ⟨by (try dsimp only); omega, by (try dsimp only); omega, by (try dsimp only); rw [List.length_append, List.length_singleton]; omega, (by intro x hx; rcases List.mem_append.mp hx with z | z; exact hQ8 x z; rw [List.mem_singleton.mp z]; omega)⟩, i12.tr ((((o5.sub (by decide)).tr (F_43.sub (by decide))).tr (F_46.sub (by decide))))⟩) (by simp only [if_neg hsp9]; omega)
                    · have hob := ts_of c_134
                      have hdv := (octB_dv _).mp hob
                      have hobv := octB_v hob
                      refine m_bipush (pc' := 139) (v := nI 8) C dX12_undo_137 (by decide) rfl ?_
                      refine m_iload (pc' := 141) C dX12_undo_139 4 rfl rfl ?_
                      refine m_imul (pc' := 142) (v := nI (8 * (valN 8 ps))) C dX12_undo_141 (pk_mul _ _) rfl ?_
                      refine m_aload_n (pc' := 143) C dX12_undo_142 rfl 0 rfl rfl ?_
                      refine r_get C hn o4 inW_X12 29 (by decide) ⟨rfl, rfl, rfl⟩ (gW_of tm_5_79) rfl dX12_undo_143 rfl ?_
                      refine m_iload_n (pc' := 147) C dX12_undo_146 rfl 2 rfl rfl ?_
                      refine m_cald (pc' := 148) (v := nI (P.getD (k + 2 + j) 0)) C 60 (by omega) f60_40 (vp_in_nI (by omega) (by decide)) (by rw [nI_clamp (by omega), i9 _ (by omega) n_122]) dX12_undo_147 rfl ?_
                      refine m_iadd (pc' := 149) (v := nI ((8 * (valN 8 ps)) + (P.getD (k + 2 + j) 0))) C dX12_undo_148 (nI_add _ _) rfl ?_
                      refine m_bipush (pc' := 151) (v := nI 48) C dX12_undo_149 (by decide) rfl ?_
                      refine m_isub (pc' := 152) (v := nI (valN 8 (ps ++ [dvN (P.getD (k + 2 + j) 0)]))) C dX12_undo_151 (by rw [pk_sub (by omega), valN_s, hobv.1]; congr 1; omega) rfl ?_
                      refine m_istore (pc' := 154) (lv' := [(6, .int (nI (valN 8 (ps ++ [dvN (P.getD (k + 2 + j) 0)])))), (0, .ref (ad 52)), (1, .int (nI P.length)), (2, .int (nI (k + 2 + j))), (3, .int (bI sp)), (7, .int (nI j))]) C dX12_undo_152 (by decide) rfl rfl ?_
                      refine m_iinc (pc' := 157) (v := nI (k + 2 + (j + 1))) (lv' := [(2, .int (nI (k + 2 + (j + 1)))), (6, .int (nI (valN 8 (ps ++ [dvN (P.getD (k + 2 + j) 0)])))), (0, .ref (ad 52)), (1, .int (nI P.length)), (3, .int (bI sp)), (7, .int (nI j))]) C dX12_undo_154 (k := 3) rfl (by rw [← Nat.add_assoc]; exact nI_add _ _) (by decide) rfl rfl ?_
                      refine m_iinc (pc' := 160) (v := nI (j + 1)) (lv' := [(7, .int (nI (j + 1))), (2, .int (nI (k + 2 + (j + 1)))), (6, .int (nI (valN 8 (ps ++ [dvN (P.getD (k + 2 + j) 0)])))), (0, .ref (ad 52)), (1, .int (nI P.length)), (3, .int (bI sp))]) C dX12_undo_157 (k := 5) rfl (nI_add _ _) (by decide) rfl rfl ?_
                      refine m_goto (tgt := 114) C dX12_undo_160 (by decide) ?_
                      refine m_lv [3, 4, 1, 5, 2, 0] rfl ?_
                      exact ih1 (j + 1, ps ++ [dvN (P.getD (k + 2 + j) 0)], Mm) (⟨by simp [o1], by rw [o2, show 3 - j = (3 - (j + 1)) + 1 by omega, dgr_s (by decide) hdv, List.append_assoc]; rfl, (by intro x hx; rcases List.mem_append.mp hx with q | q; exact o3 x q; rw [List.mem_singleton.mp q]; exact hdv), o4, o5⟩) (by simp only; omega)
        refine m_iload (pc' := 54) C dX12_undo_52 1 rfl rfl ?_
        refine m_bipush (pc' := 56) (v := nI 92) C dX12_undo_54 (by decide) rfl ?_
        refine m_icmp_ne (pc' := 59) (tgt := 83) C dX12_undo_56 (by decide) rfl (fun c_56 => ?_) (fun c_56 => ?_)
        · have n_56 : ¬ (P.getD k 0) = 92 := fun q => c_56 ((nI_eq (by omega) (by omega)).mpr q)
          refine m_lv [2, 3, 4, 5, 1, 0] rfl ?_
          exact J83 () (fun q => n_56 q.1)
        · have n_56 : (P.getD k 0) = 92 := (nI_eq (by omega) (by omega)).mp (Classical.not_not.mp c_56)
          refine m_iload_n (pc' := 60) C dX12_undo_59 rfl 4 rfl rfl ?_
          refine m_iconst (pc' := 61) (v := nI 1) C dX12_undo_60 (by decide) rfl ?_
          refine m_iadd (pc' := 62) (v := nI (k + 1)) C dX12_undo_61 (nI_add _ _) rfl ?_
          refine m_iload_n (pc' := 63) C dX12_undo_62 rfl 3 rfl rfl ?_
          refine m_icmp_ge (pc' := 66) (tgt := 83) C dX12_undo_63 (by decide) rfl (fun c_63 => ?_) (fun c_63 => ?_)
          · have n_63 : P.length ≤ (k + 1) := (nI_leI (by omega) (by omega)).mp c_63
            refine m_lv [2, 3, 4, 5, 1, 0] rfl ?_
            exact J83 () (fun q => by have := q.2; rw [gd_out n_63] at this; omega)
          · have n_63 : (k + 1) < P.length := Nat.lt_of_not_le (fun q => c_63 ((nI_leI (by omega) (by omega)).mpr q))
            refine m_iload (pc' := 68) C dX12_undo_66 0 rfl rfl ?_
            refine m_bipush (pc' := 70) (v := nI 99) C dX12_undo_68 (by decide) rfl ?_
            refine m_icmp_ne (pc' := 73) (tgt := 83) C dX12_undo_70 (by decide) rfl (fun c_70 => ?_) (fun c_70 => ?_)
            · have n_70 : ¬ (P.getD (k + 1) 0) = 99 := fun q => c_70 ((nI_eq (by omega) (by omega)).mpr q)
              refine m_lv [2, 3, 4, 5, 1, 0] rfl ?_
              exact J83 () (fun q => n_70 q.2)
            · have n_70 : (P.getD (k + 1) 0) = 99 := (nI_eq (by omega) (by omega)).mp (Classical.not_not.mp c_70)
              have hst : unsF P (80 - f) k = ([], true) := by rw [show 80 - f = (80 - (f + 1)) + 1 by omega]; exact unsF_c n_16 n_56 n_70
              refine m_aload_n (pc' := 74) C dX12_undo_73 rfl 2 rfl rfl ?_
              refine m_iconst (pc' := 75) (v := bI true) C dX12_undo_74 (by decide) rfl ?_
              refine r_put (ty := .boolean) C hn hn2 i4 inW_X12 18 118 (by decide) rfl ⟨rfl, rfl, rfl, rfl⟩ (gW_of tm_5_68) (by decide +kernel) (nar_z _) (fit_z _) (fun _ => rfl) dX12_undo_75 rfl (fun M51 go_51 g_51 F_51 => ?_)
              refine m_iconst (pc' := 79) (v := bI true) C dX12_undo_78 (by decide) rfl ?_
              refine m_istore_n (pc' := 80) (lv' := [(3, .int (bI true)), (5, .int (nI (P.getD (k + 1) 0))), (4, .int (nI (P.getD k 0))), (0, .ref (ad 52)), (1, .int (nI P.length)), (2, .int (nI k))]) C dX12_undo_79 rfl (by decide) rfl rfl ?_
              refine m_goto (tgt := 270) C dX12_undo_80 (by decide) ?_
              refine m_goto (tgt := 14) C dX12_undo_270 (by decide) ?_
              have f60_52 : M51 60 = .inl (cy 0, 200, .inl (fun i => nI (q i))) := (F_51 60 (by decide)).trans i5
              have ff30_53 : M51 130 = gh (.int (nI Q.length)) := (F_51 130 (by decide)).trans i6
              refine m_lv [3, 4, 5, 0] rfl ?_
              exact ih (k, Q, f, true, q, M51) (⟨by (try dsimp only); rw [i1, hst, if_neg hsp9]; simp, by (try dsimp only); rw [i2, hst, hsp]; rfl, go_51, f60_52, ff30_53, by (try dsimp only); rw [Bool.or_true]; exact g_51, i8, i9, i10, ⟨i11, i13, i14, hQ8⟩, (i12.tr (F_51.sub (by decide)))⟩) (by show (if true = true then 0 else 1) + (P.length - k) < (if sp = true then 0 else 1) + (P.length - k); rw [if_pos rfl, if_neg hsp9]; omega)
      refine m_iload_n (pc' := 32) C dX12_undo_31 rfl 3 rfl rfl ?_
      refine m_iconst (pc' := 33) (v := nI 1) C dX12_undo_32 (by decide) rfl ?_
      refine m_iadd (pc' := 34) (v := nI (k + 1)) C dX12_undo_33 (nI_add _ _) rfl ?_
      refine m_iload_n (pc' := 35) C dX12_undo_34 rfl 2 rfl rfl ?_
      refine m_icmp_ge (pc' := 38) (tgt := 49) C dX12_undo_35 (by decide) rfl (fun c_35 => ?_) (fun c_35 => ?_)
      · have n_35 : P.length ≤ (k + 1) := (nI_leI (by omega) (by omega)).mp c_35
        refine m_iconst (pc' := 50) (v := nI 0) C dX12_undo_49 (by decide) rfl ?_
        refine m_lv [0, 1, 2, 3, 4] rfl ?_
        exact J50 (nI 0) (by rw [gd_out n_35])
      · have n_35 : (k + 1) < P.length := Nat.lt_of_not_le (fun q => c_35 ((nI_leI (by omega) (by omega)).mpr q))
        refine m_aload_n (pc' := 39) C dX12_undo_38 rfl 1 rfl rfl ?_
        refine r_get C hn i4 inW_X12 29 (by decide) ⟨rfl, rfl, rfl⟩ (gW_of tm_5_79) rfl dX12_undo_39 rfl ?_
        refine m_iload_n (pc' := 43) C dX12_undo_42 rfl 3 rfl rfl ?_
        refine m_iconst (pc' := 44) (v := nI 1) C dX12_undo_43 (by decide) rfl ?_
        refine m_iadd (pc' := 45) (v := nI (k + 1)) C dX12_undo_44 (nI_add _ _) rfl ?_
        refine m_cald (pc' := 46) (v := nI (P.getD (k + 1) 0)) C 60 (by omega) i5 (vp_in_nI (by omega) (by decide)) (by rw [nI_clamp (by omega), i9 _ (by omega) n_35]) dX12_undo_45 rfl ?_
        refine m_goto (tgt := 50) C dX12_undo_46 (by decide) ?_
        refine m_lv [0, 1, 2, 3, 4] rfl ?_
        exact J50 (nI (P.getD (k + 1) 0)) (rfl)
