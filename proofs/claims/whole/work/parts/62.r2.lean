set_option maxHeartbeats 4000000 in
set_option maxRecDepth 100000 in
theorem kX12_digit {l : Launch} {D : va_G} {cy : Nat → ClassId} {ad : Nat → Nat} {n : Nat} {A : Nat → Prop} (hI : mI ad n A) {M : Nat → va_E} {d : Nat} {lg : Bool} (hd16 : d < 16) : mMi l yX12_digit (gW yX12_digit cX12_digit 2 (some .char)) { frames := 0, cells := 0, slots := 0, locals := 0 } D cy ad n A [.int (nI d), .int (bI lg)] M (fun res M' => res = nI (dch lg d) ∧ M' = M) := by
  refine m_entry (cc := cX12_digit) (maxL := 2) (ret := (some .char)) (own := RX12) (lv := [(0, .int (nI d)), (1, .int (bI lg))]) hI (by decide) rfl rfl (Nat.le_of_ble_eq_true rfl) rfl (fun pX eX sX mX aX bX tX cX C hrt0 hlk0 => ?_)
  refine m_cut (σ := Nat) (fun a => a = dch lg d) (fun a => M) 29 (fun a => [(0, .int (nI d))]) (fun a => [.int (nI a)]) ?_ (fun J29 => ?_)
  · rintro z hj
    try dsimp only at hj ⊢
    have hz8 : z < 256 := by rw [hj]; exact dch_lt hd16
    refine m_i2c (pc' := 30) (v := nI z) C dX12_digit_29 (i2c_nI (by omega)) rfl ?_
    refine m_iret C hrt0 hlk0 (nar_c (by omega)) dX12_digit_30 ?_
    exact ⟨by rw [hj], rfl⟩
  refine m_iload_n (pc' := 1) C dX12_digit_0 rfl 0 rfl rfl ?_
  refine m_bipush (pc' := 3) (v := nI 10) C dX12_digit_1 (by decide) rfl ?_
  refine m_icmp_ge (pc' := 6) (tgt := 13) C dX12_digit_3 (by decide) rfl (fun c_3 => ?_) (fun c_3 => ?_)
  · have n_3 : 10 ≤ d := (nI_leI (by omega) (by omega)).mp c_3
    refine m_cut (σ := Nat) (fun a => a = (if lg then 65 else 97)) (fun a => M) 24 (fun a => [(0, .int (nI d)), (1, .int (bI lg))]) (fun a => [.int (nI a)]) ?_ (fun J24 => ?_)
    · rintro z hj
      try dsimp only at hj ⊢
      refine m_iload_n (pc' := 25) C dX12_digit_24 rfl 0 rfl rfl ?_
      refine m_iadd (pc' := 26) (v := nI (z + d)) C dX12_digit_25 (nI_add _ _) rfl ?_
      refine m_bipush (pc' := 28) (v := nI 10) C dX12_digit_26 (by decide) rfl ?_
      refine m_isub (pc' := 29) (v := nI (z + d - 10)) C dX12_digit_28 (pk_sub (by rw [hj]; split <;> omega)) rfl ?_
      refine m_lv [0] rfl ?_
      exact J29 (z + d - 10) (by unfold dch; rw [if_neg (by omega), hj])
    refine m_iload_n (pc' := 14) C dX12_digit_13 rfl 1 rfl rfl ?_
    refine m_if_eq (pc' := 17) (tgt := 22) C dX12_digit_14 (by decide) rfl (fun c_14 => ?_) (fun c_14 => ?_)
    · have hz : lg = false := (bI_0 _).mp c_14
      refine m_bipush (pc' := 24) (v := nI 97) C dX12_digit_22 (by decide) rfl ?_
      refine m_lv [0, 1] rfl ?_
      exact J24 97 (by first | rw [if_pos hz] | (rw [hz]; rfl))
    · have hz : lg = true := ts_of c_14
      refine m_bipush (pc' := 19) (v := nI 65) C dX12_digit_17 (by decide) rfl ?_
      refine m_goto (tgt := 24) C dX12_digit_19 (by decide) ?_
      refine m_lv [0, 1] rfl ?_
      exact J24 65 (by first | rw [if_pos hz] | (rw [hz]; rfl))
  · have n_3 : d < 10 := Nat.lt_of_not_le (fun q => c_3 ((nI_leI (by omega) (by omega)).mpr q))
    refine m_bipush (pc' := 8) (v := nI 48) C dX12_digit_6 (by decide) rfl ?_
    refine m_iload_n (pc' := 9) C dX12_digit_8 rfl 0 rfl rfl ?_
    refine m_iadd (pc' := 10) (v := nI (48 + d)) C dX12_digit_9 (nI_add _ _) rfl ?_
    refine m_goto (tgt := 29) C dX12_digit_10 (by decide) ?_
    refine m_lv [0] rfl ?_
    exact J29 (48 + d) (by unfold dch; rw [if_pos n_3])
set_option maxHeartbeats 4000000 in
set_option maxRecDepth 100000 in
theorem kX12_reckon {l : Launch} {D : va_G} {cy : Nat → ClassId} {ad : Nat → Nat} {n : Nat} {A : Nat → Prop} (hI : mI ad n A) {M : Nat → va_E} (hn : 63 ≤ n) (hn2 : n ≤ 100) (hro : rO ad M) {L : List Nat} (hdg : isDg cy M L) (x : Int64) {b : Nat} (lg2 : Bool) (hb : b = 8 ∨ b = 10 ∨ b = 16) : mMv l yX12_reckon (gW yX12_reckon cX12_reckon 9 none) { frames := 1, cells := 0, slots := 0, locals := 21 } D cy ad n A [.ref (ad 52), .long x, .int (nI b), .int (bI lg2)] M (fun M' => rO ad M' ∧ isDg cy M' ((dg b (uL x)).map (dch lg2)) ∧ Fr [52, 61, 132] M M') := by
  obtain ⟨d1, d2, d3, g, d4, d5⟩ := hdg
  have hv22 : uL x < 8 ^ (22 - 0) := Nat.lt_of_lt_of_le (uL_lt x) (by decide)
  refine m_entry (cc := cX12_reckon) (maxL := 9) (ret := none) (own := RX12) (lv := [(0, .ref (ad 52)), (1, .long (x)), (3, .int (nI b)), (4, .int (bI lg2))]) hI (by decide) rfl rfl (Nat.le_of_ble_eq_true rfl) rfl (fun pX eX sX mX aX bX tX cX C hrt0 hlk0 => ?_)
  refine m_aload_n (pc' := 1) C dX12_reckon_0 rfl 0 rfl rfl ?_
  refine m_iconst (pc' := 2) (v := nI 0) C dX12_reckon_1 (by decide) rfl ?_
  refine r_put (ty := .int) C hn hn2 hro inW_X12 32 132 (by decide) rfl ⟨rfl, rfl, rfl, rfl⟩ (gW_of tm_5_82) (by decide +kernel) rfl rfl (fun _ => rfl) dX12_reckon_2 rfl (fun M1 go_1 g_1 F_1 => ?_)
  refine m_lload_n (pc' := 6) C dX12_reckon_5 rfl 1 rfl rfl ?_
  refine m_lstore (pc' := 8) (lv' := [(5, .long (x)), (0, .ref (ad 52)), (1, .long (x)), (3, .int (nI b)), (4, .int (bI lg2))]) C dX12_reckon_6 (by decide) rfl rfl ?_
  refine m_lvx (lv' := [(5, .long (lN (uL x))), (0, .ref (ad 52)), (1, .long (x)), (3, .int (nI b)), (4, .int (bI lg2))]) (by rw [lN_uL]) ?_
  refine m_lv [1, 3, 4, 0] rfl ?_
  have f61_2 : M1 61 = .inl (cy 0, 200, .inl (fun i => nI (g i))) := (F_1 61 (by decide)).trans d4
  refine m_loop (σ := Nat × List Nat × Nat × (Nat → Nat) × (Nat → va_E)) (fun a => a.2.2.2.2) (fun a => [(0, .ref (ad 52)), (3, .int (nI b)), (4, .int (bI lg2)), (5, .long (lN a.2.2.1))]) (fun a => a.2.1.length = a.1 ∧ (dg b (uL x)).map (dch lg2) = a.2.1 ++ (dg b a.2.2.1).map (dch lg2) ∧ a.2.2.1 < 2 ^ 64 ∧ a.2.2.1 < 8 ^ (22 - a.1) ∧ a.1 ≤ 22 ∧ rO ad a.2.2.2.2 ∧ a.2.2.2.2 132 = gh (.int (nI a.1)) ∧ a.2.2.2.2 61 = .inl (cy 0, 200, .inl (fun i => nI (a.2.2.2.1 i))) ∧ (∀ i, i < a.1 → a.2.2.2.1 i = a.2.1.getD i 0) ∧ Fr [52, 61, 132] M a.2.2.2.2) (fun a => 22 - a.1) (0, [], uL x, g, M1) (⟨rfl, rfl, uL_lt x, hv22, by (try dsimp only); omega, go_1, g_1, f61_2, (fun i hi => by cases hi), (F_1.sub (by decide))⟩) ?_
  rintro ⟨k, ps, r, q, Mk⟩ hinv ih
  dsimp only at hinv ih ⊢
  obtain ⟨i1, i2, i3, i7, i10, i4, i5, i6, i8, i9⟩ := hinv
  refine m_lload (pc' := 10) C dX12_reckon_8 3 rfl rfl ?_
  refine m_lconst (pc' := 11) (v := 0) C dX12_reckon_10 (by decide) rfl ?_
  refine m_lcmp (pc' := 12) (v := lg_cmp (lN r) 0) C dX12_reckon_11 rfl rfl ?_
  refine m_if_eq (pc' := 15) (tgt := 91) C dX12_reckon_12 (by decide) rfl (fun c_12 => ?_) (fun c_12 => ?_)
  · have hr0 : r = 0 := (lcmp_0 i3).mp c_12
    refine m_vret C hrt0 hlk0 dX12_reckon_91 ?_
    have hps : (dg b (uL x)).map (dch lg2) = ps := by rw [i2, hr0, dg_0]; exact List.append_nil _
    rw [hps]
    exact ⟨i4, ⟨by rw [← hps]; exact dg_map_lt (by omega) (by omega) _, by rw [i1]; exact i5, by omega, q, i6, by rw [i1]; exact i8⟩, i9⟩
  · have hr0 : r ≠ 0 := fun z => c_12 ((lcmp_0 i3).mpr z)
    have hk22 : k < 22 := by
      rcases Nat.lt_or_ge k 22 with z | z
      · exact z
      · rw [show 22 - k = 0 by omega] at i7; omega
    have hstep : r / b < 8 ^ (22 - (k + 1)) := by
      have e8 : 8 ^ (22 - k) = 8 ^ (22 - (k + 1)) * 8 := by rw [← Nat.pow_succ]; congr 1; omega
      rw [e8] at i7
      have h8 : r / b ≤ r / 8 := Nat.div_le_div_left (by omega) (by decide)
      omega
    have hmod : r % b < 16 := by have := Nat.mod_lt r (show 0 < b by omega); omega
    have hst : ∀ i, i < k + 1 → va_up q k (dch lg2 (r % b)) i = (ps ++ [dch lg2 (r % b)]).getD i 0 := by
      intro i hi
      unfold va_up
      by_cases z : i = k
      · rw [if_pos z, z, ← i1, gd_last]
      · rw [if_neg z, i8 i (by omega), gd_app (by omega)]
    refine m_cut (σ := Unit) (fun a => True) (fun a => Mk) 49 (fun a => [(0, .ref (ad 52)), (3, .int (nI b)), (4, .int (bI lg2)), (5, .long (lN r))]) (fun a => [.long (lN (r / b))]) ?_ (fun J49 => ?_)
    · rintro zz hj
      try dsimp only at hj ⊢
      clear hj
      refine m_lstore (pc' := 51) (lv' := [(7, .long (lN (r / b))), (0, .ref (ad 52)), (3, .int (nI b)), (4, .int (bI lg2)), (5, .long (lN r))]) C dX12_reckon_49 (by decide) rfl rfl ?_
      refine m_aload_n (pc' := 52) C dX12_reckon_51 rfl 1 rfl rfl ?_
      refine r_get C hn i4 inW_X12 31 (by decide) ⟨rfl, rfl, rfl⟩ (gW_of tm_5_81) rfl dX12_reckon_52 rfl ?_
      refine m_aload_n (pc' := 56) C dX12_reckon_55 rfl 1 rfl rfl ?_
      refine r_get C hn i4 inW_X12 32 (by decide) ⟨rfl, rfl, rfl⟩ (gW_of tm_5_82) (r_at 32 rfl i5) dX12_reckon_56 rfl ?_
      refine m_lload (pc' := 61) C dX12_reckon_59 4 rfl rfl ?_
      refine m_lload (pc' := 63) C dX12_reckon_61 0 rfl rfl ?_
      refine m_iload_n (pc' := 64) C dX12_reckon_63 rfl 2 rfl rfl ?_
      refine m_i2l (pc' := 65) (v := lN b) C dX12_reckon_64 (nI_l (by omega)) rfl ?_
      refine m_lmul (pc' := 66) (v := lN (r / b * b)) C dX12_reckon_65 (lN_mul _ _) rfl ?_
      refine m_lsub (pc' := 67) (v := lN (r % b)) C dX12_reckon_66 (by rw [lN_sub (Nat.div_mul_le_self r b), div_mod_sub]) rfl ?_
      refine m_l2i (pc' := 68) (v := nI (r % b)) C dX12_reckon_67 (lN_i _) rfl ?_
      refine m_iload (pc' := 70) C dX12_reckon_68 3 rfl rfl ?_
      refine m_callSi (pc' := 73) (As := [.int (nI (r % b)), .int (bI lg2)]) (rest := [.int (nI k), .ref (ad 61)]) C (kX12_digit hI hmod) (cwS 2 C.1.2.2.2.2 (goodS tm_6_36 tm_6_37 tm_1_13 tm_6_38) rfl rfl rfl (by decide +kernel) ⟨by decide, by decide⟩) rfl rfl (Nat.le_of_ble_eq_true rfl) dX12_reckon_70 rfl ⟨by decide, by decide⟩ (fun x_3 N_3 q_3 => ?_)
      obtain ⟨e_3, E_3⟩ := q_3
      replace E_3 := E_3.symm
      subst E_3
      replace e_3 := e_3.symm
      subst e_3
      refine m_cast (pc' := 74) (E' := .inl (cy 0, 200, .inl (fun i => nI (va_up q k (dch lg2 (r % b)) i)))) C 61 (by omega) i6 (vp_in_nI (by omega) (by decide)) (by rw [nI_clamp (by omega), nar_cv (by have := dch_lt (lg := lg2) hmod; omega), upd_nI]) dX12_reckon_73 rfl (fun M4 g_4 F_4 => ?_)
      refine m_aload_n (pc' := 75) C dX12_reckon_74 rfl 1 rfl rfl ?_
      refine m_dup (pc' := 76) C dX12_reckon_75 rfl rfl ?_
      have ro_5 := i4.fr F_4 (by decide)
      have ff32_6 : M4 132 = gh (.int (nI k)) := (F_4 132 (by decide)).trans i5
      refine r_get C hn ro_5 inW_X12 32 (by decide) ⟨rfl, rfl, rfl⟩ (gW_of tm_5_82) (r_at 32 rfl ff32_6) dX12_reckon_76 rfl ?_
      refine m_iconst (pc' := 80) (v := nI 1) C dX12_reckon_79 (by decide) rfl ?_
      refine m_iadd (pc' := 81) (v := nI (k + 1)) C dX12_reckon_80 (nI_add _ _) rfl ?_
      refine r_put (ty := .int) C hn hn2 ro_5 inW_X12 32 132 (by decide) rfl ⟨rfl, rfl, rfl, rfl⟩ (gW_of tm_5_82) (by decide +kernel) rfl rfl (fun _ => rfl) dX12_reckon_81 rfl (fun M7 go_7 g_7 F_7 => ?_)
      refine m_lload (pc' := 86) C dX12_reckon_84 0 rfl rfl ?_
      refine m_lstore (pc' := 88) (lv' := [(5, .long (lN (r / b))), (7, .long (lN (r / b))), (0, .ref (ad 52)), (3, .int (nI b)), (4, .int (bI lg2))]) C dX12_reckon_86 (by decide) rfl rfl ?_
      refine m_goto (tgt := 8) C dX12_reckon_88 (by decide) ?_
      have f61_8 : M7 61 = .inl (cy 0, 200, .inl (fun i => nI (va_up q k (dch lg2 (r % b)) i))) := (F_7 61 (by decide)).trans g_4
      refine m_lv [2, 3, 4, 0] rfl ?_
      exact ih (k + 1, ps ++ [dch lg2 (r % b)], r / b, va_up q k (dch lg2 (r % b)), M7) (⟨by simp [i1], by rw [i2, dg_s (by omega) hr0, List.map_cons, List.append_assoc]; rfl, Nat.lt_of_le_of_lt (Nat.div_le_self _ _) i3, hstep, by omega, go_7, g_7, f61_8, hst, ((i9.tr (F_4.sub (by decide))).tr (F_7.sub (by decide)))⟩) (by simp only; omega)
    refine m_iload_n (pc' := 16) C dX12_reckon_15 rfl 1 rfl rfl ?_
    refine m_bipush (pc' := 18) (v := nI 10) C dX12_reckon_16 (by decide) rfl ?_
    refine m_icmp_ne (pc' := 21) (tgt := 32) C dX12_reckon_18 (by decide) rfl (fun c_18 => ?_) (fun c_18 => ?_)
    · have n_18 : ¬ b = 10 := fun q => c_18 ((nI_eq (by omega) (by omega)).mpr q)
      refine m_iload_n (pc' := 33) C dX12_reckon_32 rfl 1 rfl rfl ?_
      refine m_bipush (pc' := 35) (v := nI 8) C dX12_reckon_33 (by decide) rfl ?_
      refine m_icmp_ne (pc' := 38) (tgt := 45) C dX12_reckon_35 (by decide) rfl (fun c_35 => ?_) (fun c_35 => ?_)
      · have n_35 : ¬ b = 8 := fun q => c_35 ((nI_eq (by omega) (by omega)).mpr q)
        refine m_lload (pc' := 47) C dX12_reckon_45 3 rfl rfl ?_
        refine m_iconst (pc' := 48) (v := nI 4) C dX12_reckon_47 (by decide) rfl ?_
        refine m_lushr (pc' := 49) (v := lN (r / b)) C dX12_reckon_48 (by rw [wb_shr i3 (by decide), show b = 2 ^ 4 by omega]) rfl ?_
        refine m_lv [0, 1, 2, 3] rfl ?_
        exact J49 () (trivial)
      · have n_35 : b = 8 := (nI_eq (by omega) (by omega)).mp (Classical.not_not.mp c_35)
        refine m_lload (pc' := 40) C dX12_reckon_38 3 rfl rfl ?_
        refine m_iconst (pc' := 41) (v := nI 3) C dX12_reckon_40 (by decide) rfl ?_
        refine m_lushr (pc' := 42) (v := lN (r / b)) C dX12_reckon_41 (by rw [wb_shr i3 (by decide), n_35]) rfl ?_
        refine m_goto (tgt := 49) C dX12_reckon_42 (by decide) ?_
        refine m_lv [0, 1, 2, 3] rfl ?_
        exact J49 () (trivial)
    · have n_18 : b = 10 := (nI_eq (by omega) (by omega)).mp (Classical.not_not.mp c_18)
      refine m_lload (pc' := 23) C dX12_reckon_21 3 rfl rfl ?_
      refine m_iconst (pc' := 24) (v := nI 1) C dX12_reckon_23 (by decide) rfl ?_
      refine m_lushr (pc' := 25) (v := lN (r / 2 ^ 1)) C dX12_reckon_24 (wb_shr i3 (by decide)) rfl ?_
      refine m_ldc2 (pc' := 28) (v := (5)) C dX12_reckon_25 (gW_of tm_6_35) rfl ?_
      refine m_ldiv (pc' := 29) (v := lN (r / b)) C dX12_reckon_28 (by decide) (by rw [show ((5 : Int64)) = lN 5 from rfl, pk_lDiv (by omega) (by omega) (by omega), Nat.div_div_eq_div_mul, n_18]) rfl ?_
      refine m_goto (tgt := 49) C dX12_reckon_29 (by decide) ?_
      refine m_lv [0, 1, 2, 3] rfl ?_
      exact J49 () (trivial)
set_option maxHeartbeats 4000000 in
set_option maxRecDepth 100000 in
theorem kX12_fill {l : Launch} {D : va_G} {cy : Nat → ClassId} {ad : Nat → Nat} {n : Nat} {A : Nat → Prop} (hI : mI ad n A) {M : Nat → va_E} (hn : 63 ≤ n) (hn2 : n ≤ 100) (hro : rO ad M) {L : List Nat} (hdg : isDg cy M L) {m : Nat} (hm : m ≤ 200) : mMv l yX12_fill (gW yX12_fill cX12_fill 2 none) { frames := 0, cells := 0, slots := 0, locals := 0 } D cy ad n A [.ref (ad 52), .int (nI m)] M (fun M' => rO ad M' ∧ isDg cy M' (L ++ List.replicate (m - L.length) 48) ∧ Fr [52, 61, 132] M M') := by
  refine m_entry (cc := cX12_fill) (maxL := 2) (ret := none) (own := RX12) (lv := [(0, .ref (ad 52)), (1, .int (nI m))]) hI (by decide) rfl rfl (Nat.le_of_ble_eq_true rfl) rfl (fun pX eX sX mX aX bX tX cX C hrt0 hlk0 => ?_)
  refine m_lv [0, 1] rfl ?_
  refine m_loop (σ := List Nat × (Nat → va_E)) (fun a => a.2) (fun a => [(0, .ref (ad 52)), (1, .int (nI m))]) (fun a => L ++ List.replicate (m - L.length) 48 = a.1 ++ List.replicate (m - a.1.length) 48 ∧ a.1.length ≤ 200 ∧ rO ad a.2 ∧ isDg cy a.2 a.1 ∧ Fr [52, 61, 132] M a.2) (fun a => m - a.1.length) (L, M) (⟨rfl, hdg.2.2.1, hro, hdg, Fr.rf⟩) ?_
  rintro ⟨X, Mk⟩ hinv ih
  dsimp only at hinv ih ⊢
  obtain ⟨i1, i2, l1, l2, l3⟩ := hinv
  refine m_aload_n (pc' := 1) C dX12_fill_0 rfl 0 rfl rfl ?_
  refine r_get C hn l1 inW_X12 32 (by decide) ⟨rfl, rfl, rfl⟩ (gW_of tm_5_82) (r_at 32 rfl l2.2.1) dX12_fill_1 rfl ?_
  refine m_iload_n (pc' := 5) C dX12_fill_4 rfl 1 rfl rfl ?_
  refine m_icmp_ge (pc' := 8) (tgt := 32) C dX12_fill_5 (by decide) rfl (fun c_5 => ?_) (fun c_5 => ?_)
  · have n_5 : m ≤ X.length := (nI_leI (by omega) (by omega)).mp c_5
    refine m_vret C hrt0 hlk0 dX12_fill_32 ?_
    rw [i1, show m - X.length = 0 by omega, List.replicate_zero, List.append_nil]
    exact ⟨l1, l2, l3⟩
  · have n_5 : X.length < m := Nat.lt_of_not_le (fun q => c_5 ((nI_leI (by omega) (by omega)).mpr q))
    obtain ⟨d1, d2, d3, g, d4, d5⟩ := id l2
    refine m_aload_n (pc' := 9) C dX12_fill_8 rfl 0 rfl rfl ?_
    refine r_get C hn l1 inW_X12 31 (by decide) ⟨rfl, rfl, rfl⟩ (gW_of tm_5_81) rfl dX12_fill_9 rfl ?_
    refine m_aload_n (pc' := 13) C dX12_fill_12 rfl 0 rfl rfl ?_
    refine r_get C hn l1 inW_X12 32 (by decide) ⟨rfl, rfl, rfl⟩ (gW_of tm_5_82) (r_at 32 rfl l2.2.1) dX12_fill_13 rfl ?_
    refine m_bipush (pc' := 18) (v := nI 48) C dX12_fill_16 (by decide) rfl ?_
    refine m_cast (pc' := 19) (E' := .inl (cy 0, 200, .inl (fun i => nI (va_up g X.length 48 i)))) C 61 (by omega) d4 (vp_in_nI (by omega) (by decide)) (by rw [nI_clamp (by omega), nar_cv (by decide), upd_nI]) dX12_fill_18 rfl (fun M1 g_1 F_1 => ?_)
    refine m_aload_n (pc' := 20) C dX12_fill_19 rfl 0 rfl rfl ?_
    refine m_dup (pc' := 21) C dX12_fill_20 rfl rfl ?_
    have ro_2 := l1.fr F_1 (by decide)
    have ff32_3 : M1 132 = gh (.int (nI X.length)) := (F_1 132 (by decide)).trans l2.2.1
    refine r_get C hn ro_2 inW_X12 32 (by decide) ⟨rfl, rfl, rfl⟩ (gW_of tm_5_82) (r_at 32 rfl ff32_3) dX12_fill_21 rfl ?_
    refine m_iconst (pc' := 25) (v := nI 1) C dX12_fill_24 (by decide) rfl ?_
    refine m_iadd (pc' := 26) (v := nI (X.length + 1)) C dX12_fill_25 (nI_add _ _) rfl ?_
    refine r_put (ty := .int) C hn hn2 ro_2 inW_X12 32 132 (by decide) rfl ⟨rfl, rfl, rfl, rfl⟩ (gW_of tm_5_82) (by decide +kernel) rfl rfl (fun _ => rfl) dX12_fill_26 rfl (fun M4 go_4 g_4 F_4 => ?_)
    refine m_goto (tgt := 0) C dX12_fill_29 (by decide) ?_
    have f61_5 : M4 61 = .inl (cy 0, 200, .inl (fun i => nI (va_up g X.length 48 i))) := (F_4 61 (by decide)).trans g_1
    refine m_lv [0, 1] rfl ?_
    exact ih (X ++ [48], M4) (⟨by rw [i1, List.length_append, List.length_singleton, List.append_assoc, show m - X.length = (m - (X.length + 1)) + 1 by omega, List.replicate_succ]; rfl, by (try dsimp only); rw [List.length_append, List.length_singleton]; omega, go_4, isDg.push d1 (by decide) g_4 f61_5 (by omega) d5, ((l3.tr (F_1.sub (by decide))).tr (F_4.sub (by decide)))⟩) (by simp only [List.length_append, List.length_singleton]; omega)
set_option maxHeartbeats 4000000 in
set_option maxRecDepth 100000 in
theorem kX12_putDigits {l : Launch} {D : va_G} {cy : Nat → ClassId} {ad : Nat → Nat} {n : Nat} {A : Nat → Prop} (hI : mI ad n A) {M : Nat → va_E} (hn : 63 ≤ n) (hn2 : n ≤ 100) (hro : rO ad M) {L : List Nat} (hdg : isDg cy M L) {lim : Nat} {O : List Nat} (hout : isOut cy M lim O) : mMv l yX12_putDigits (gW yX12_putDigits cX12_putDigits 2 none) { frames := 1, cells := 0, slots := 0, locals := 21 } D cy ad n A [.ref (ad 52)] M (fun M' => rO ad M' ∧ isOut cy M' lim (O ++ L.reverse) ∧ Fr [52, 59, 111, 113] M M') := by
  obtain ⟨d1, d2, d3, g, d4, d5⟩ := hdg
  have hstep : ∀ j, 0 < j → j ≤ L.length → O ++ L.reverse.take (L.length - (j - 1)) = (O ++ L.reverse.take (L.length - j)) ++ [L.getD (j - 1) 0] := by
    intro j hj hjl
    rw [List.append_assoc]
    congr 1
    rw [show L.length - (j - 1) = L.length - j + 1 by omega, List.take_succ]
    congr 1
    rw [List.getElem?_reverse (by omega), show L.length - 1 - (L.length - j) = j - 1 by omega, List.getElem?_eq_getElem (by omega)]
    simp [List.getD_eq_getElem?_getD, List.getElem?_eq_getElem (show j - 1 < L.length by omega)]
  refine m_entry (cc := cX12_putDigits) (maxL := 2) (ret := none) (own := RX12) (lv := [(0, .ref (ad 52))]) hI (by decide) rfl rfl (Nat.le_of_ble_eq_true rfl) rfl (fun pX eX sX mX aX bX tX cX C hrt0 hlk0 => ?_)
  refine m_aload_n (pc' := 1) C dX12_putDigits_0 rfl 0 rfl rfl ?_
  refine r_get C hn hro inW_X12 32 (by decide) ⟨rfl, rfl, rfl⟩ (gW_of tm_5_82) (r_at 32 rfl d2) dX12_putDigits_1 rfl ?_
  refine m_iconst (pc' := 5) (v := nI 1) C dX12_putDigits_4 (by decide) rfl ?_
  refine m_isub (pc' := 6) (v := (nI L.length) - (nI 1)) C dX12_putDigits_5 rfl rfl ?_
  refine m_istore_n (pc' := 7) (lv' := [(1, .int ((nI L.length) - (nI 1))), (0, .ref (ad 52))]) C dX12_putDigits_6 rfl (by decide) rfl rfl ?_
  refine m_lv [1, 0] rfl ?_
  refine m_loop (σ := Nat × (Nat → va_E)) (fun a => a.2) (fun a => [(0, .ref (ad 52)), (1, .int (nI a.1 - nI 1))]) (fun a => a.1 ≤ L.length ∧ rO ad a.2 ∧ isOut cy a.2 lim (O ++ L.reverse.take (L.length - a.1)) ∧ Fr [52, 59, 111, 113] M a.2) (fun a => a.1) (L.length, M) (⟨Nat.le_refl _, hro, by (try dsimp only); rw [Nat.sub_self, List.take_zero, List.append_nil]; exact hout, Fr.rf⟩) ?_
  rintro ⟨j, Mk⟩ hinv ih
  dsimp only at hinv ih ⊢
  obtain ⟨i1, l1, l2, l3⟩ := hinv
  refine m_iload_n (pc' := 8) C dX12_putDigits_7 rfl 1 rfl rfl ?_
  refine m_if_lt (pc' := 11) (tgt := 27) C dX12_putDigits_8 (by decide) rfl (fun c_8 => ?_) (fun c_8 => ?_)
  · have hj0 : j = 0 := by
      rcases Nat.lt_or_ge 0 j with z | z
      · exact absurd c_8 (by rw [pk_sub (by omega)]; exact nI_pos (by omega))
      · omega
    refine m_vret C hrt0 hlk0 dX12_putDigits_27 ?_
    rw [hj0, Nat.sub_zero, List.take_of_length_le (by simp)] at l2
    exact ⟨l1, l2, l3⟩
  · have hj0 : 0 < j := by
      rcases Nat.lt_or_ge 0 j with z | z
      · exact z
      · exact absurd (by rw [show j = 0 by omega]; decide) c_8
    rw [show nI j - nI 1 = nI (j - 1) from pk_sub (by omega)]
    refine m_aload_n (pc' := 12) C dX12_putDigits_11 rfl 0 rfl rfl ?_
    refine m_aload_n (pc' := 13) C dX12_putDigits_12 rfl 0 rfl rfl ?_
    refine r_get C hn l1 inW_X12 31 (by decide) ⟨rfl, rfl, rfl⟩ (gW_of tm_5_81) rfl dX12_putDigits_13 rfl ?_
    refine m_iload_n (pc' := 17) C dX12_putDigits_16 rfl 1 rfl rfl ?_
    have f61_1 : Mk 61 = .inl (cy 0, 200, .inl (fun i => nI (g i))) := (l3 61 (by decide)).trans d4
    refine m_cald (pc' := 18) (v := nI (L.getD (j - 1) 0)) C 61 (by omega) f61_1 (vp_in_nI (by omega) (by decide)) (by rw [nI_clamp (by omega), d5 _ (by omega)]) dX12_putDigits_17 rfl ?_
    refine m_callVv (pc' := 21) (As := [.int (nI (L.getD (j - 1) 0))]) (rest := []) C (kX12_put hI hn hn2 l1 l2 (x := L.getD (j - 1) 0) (gd_lt0 d1 _)) (cwV 1 C.1.2.2.2.2 (goodV tm_5_239 tm_6_1 tp_57 tm_1_13 tm_6_2) rfl rfl rfl (by decide +kernel) ⟨by decide, by decide⟩) (by omega) l1 rfl rfl rfl (Nat.le_of_ble_eq_true rfl) dX12_putDigits_18 rfl ⟨by decide, by decide⟩ (fun M2 q_2 => ?_)
    obtain ⟨pro_2, pout_2, F_2⟩ := q_2
    refine m_iinc (pc' := 24) (v := nI (j - 1) - nI 1) (lv' := [(1, .int (nI (j - 1) - nI 1)), (0, .ref (ad 52))]) C dX12_putDigits_21 (k := 1) rfl (by rw [Int32.sub_eq_add_neg]; rfl) (by decide) rfl rfl ?_
    refine m_goto (tgt := 7) C dX12_putDigits_24 (by decide) ?_
    refine m_lv [1, 0] rfl ?_
    exact ih (j - 1, M2) (⟨by (try dsimp only); omega, pro_2, by (try dsimp only); rw [hstep j hj0 i1]; exact pout_2, (l3.tr (F_2.sub (by decide)))⟩) (by simp only; omega)
set_option maxHeartbeats 4000000 in
set_option maxRecDepth 100000 in
theorem kX12_charAt {l : Launch} {D : va_G} {cy : Nat → ClassId} {ad : Nat → Nat} {n : Nat} {A : Nat → Prop} (hI : mI ad n A) {M : Nat → va_E} (hn : 63 ≤ n) (hn2 : n ≤ 100) (hro : rO ad M) {T : List Nat} (hln : isLn cy M T) {i : Nat} (hi : i < 2 ^ 29) : mMi l yX12_charAt (gW yX12_charAt cX12_charAt 2 (some .char)) { frames := 0, cells := 0, slots := 0, locals := 0 } D cy ad n A [.ref (ad 52), .int (nI i)] M (fun res M' => res = nI (T.getD i 0) ∧ M' = M) := by
  obtain ⟨t1, t2, t3, t4, g, t5, t6⟩ := hln
  refine m_entry (cc := cX12_charAt) (maxL := 2) (ret := (some .char)) (own := RX12) (lv := [(0, .ref (ad 52)), (1, .int (nI i))]) hI (by decide) rfl rfl (Nat.le_of_ble_eq_true rfl) rfl (fun pX eX sX mX aX bX tX cX C hrt0 hlk0 => ?_)
  refine m_iload_n (pc' := 1) C dX12_charAt_0 rfl 1 rfl rfl ?_
  refine m_aload_n (pc' := 2) C dX12_charAt_1 rfl 0 rfl rfl ?_
  refine r_get C hn hro inW_X12 2 (by decide) ⟨rfl, rfl, rfl⟩ (gW_of tm_5_52) (r_at 2 rfl t3) dX12_charAt_2 rfl ?_
  refine m_icmp_ge (pc' := 8) (tgt := 17) C dX12_charAt_5 (by decide) rfl (fun c_5 => ?_) (fun c_5 => ?_)
  · have n_5 : T.length ≤ i := (nI_leI (by omega) (by omega)).mp c_5
    refine m_iconst (pc' := 18) (v := nI (T.getD i 0)) C dX12_charAt_17 (by rw [gd_out n_5]; rfl) rfl ?_
    refine m_iret C hrt0 hlk0 (nar_c (by have := gd_lt0 t1 i; omega)) dX12_charAt_18 ?_
    exact ⟨rfl, rfl⟩
  · have n_5 : i < T.length := Nat.lt_of_not_le (fun q => c_5 ((nI_leI (by omega) (by omega)).mpr q))
    refine m_aload_n (pc' := 9) C dX12_charAt_8 rfl 0 rfl rfl ?_
    refine r_get C hn hro inW_X12 1 (by decide) ⟨rfl, rfl, rfl⟩ (gW_of tm_5_51) rfl dX12_charAt_9 rfl ?_
    refine m_iload_n (pc' := 13) C dX12_charAt_12 rfl 1 rfl rfl ?_
    refine m_cald (pc' := 14) (v := nI (T.getD i 0)) C 53 (by omega) t5 (vp_in_nI (by omega) (by decide)) (by rw [nI_clamp (by omega), t6 _ n_5]) dX12_charAt_13 rfl ?_
    refine m_goto (tgt := 18) C dX12_charAt_14 (by decide) ?_
    refine m_iret C hrt0 hlk0 (nar_c (by have := gd_lt0 t1 i; omega)) dX12_charAt_18 ?_
    exact ⟨rfl, rfl⟩
set_option maxHeartbeats 4000000 in
set_option maxRecDepth 100000 in
theorem kX12_isOctal {l : Launch} {D : va_G} {cy : Nat → ClassId} {ad : Nat → Nat} {n : Nat} {A : Nat → Prop} (hI : mI ad n A) {M : Nat → va_E} {c : Nat} (hc : c < 65536) : mMi l yX12_isOctal (gW yX12_isOctal cX12_isOctal 1 (some .boolean)) { frames := 0, cells := 0, slots := 0, locals := 0 } D cy ad n A [.int (nI c)] M (fun res M' => res = bI (octB c) ∧ M' = M) := by
  refine m_entry (cc := cX12_isOctal) (maxL := 1) (ret := (some .boolean)) (own := RX12) (lv := [(0, .int (nI c))]) hI (by decide) rfl rfl (Nat.le_of_ble_eq_true rfl) rfl (fun pX eX sX mX aX bX tX cX C hrt0 hlk0 => ?_)
  refine m_iload_n (pc' := 1) C dX12_isOctal_0 rfl 0 rfl rfl ?_
  refine m_bipush (pc' := 3) (v := nI 48) C dX12_isOctal_1 (by decide) rfl ?_
  refine m_icmp_lt (pc' := 6) (tgt := 16) C dX12_isOctal_3 (by decide) rfl (fun c_3 => ?_) (fun c_3 => ?_)
  · have n_3 : c < 48 := (nI_ltI (by omega) (by omega)).mp c_3
    refine m_iconst (pc' := 17) (v := bI false) C dX12_isOctal_16 (by decide) rfl ?_
    refine m_iret C hrt0 hlk0 (nar_z _) dX12_isOctal_17 ?_
    refine ⟨?_, rfl⟩
    unfold octB
    first | (rw [decide_eq_true ⟨n_3, n_9⟩]; done) | (rw [decide_eq_false (fun q => by have := q.1; omega)]; done) | (rw [decide_eq_false (fun q => by have := q.2; omega)]; done)
  · have n_3 : 48 ≤ c := Nat.le_of_not_lt (fun q => c_3 ((nI_ltI (by omega) (by omega)).mpr q))
    refine m_iload_n (pc' := 7) C dX12_isOctal_6 rfl 0 rfl rfl ?_
    refine m_bipush (pc' := 9) (v := nI 55) C dX12_isOctal_7 (by decide) rfl ?_
    refine m_icmp_gt (pc' := 12) (tgt := 16) C dX12_isOctal_9 (by decide) rfl (fun c_9 => ?_) (fun c_9 => ?_)
    · have n_9 : 55 < c := (nI_ltI (by omega) (by omega)).mp c_9
      refine m_iconst (pc' := 17) (v := bI false) C dX12_isOctal_16 (by decide) rfl ?_
      refine m_iret C hrt0 hlk0 (nar_z _) dX12_isOctal_17 ?_
      refine ⟨?_, rfl⟩
      unfold octB
      first | (rw [decide_eq_true ⟨n_3, n_9⟩]; done) | (rw [decide_eq_false (fun q => by have := q.1; omega)]; done) | (rw [decide_eq_false (fun q => by have := q.2; omega)]; done)
    · have n_9 : c ≤ 55 := Nat.le_of_not_lt (fun q => c_9 ((nI_ltI (by omega) (by omega)).mpr q))
      refine m_iconst (pc' := 13) (v := bI true) C dX12_isOctal_12 (by decide) rfl ?_
      refine m_goto (tgt := 17) C dX12_isOctal_13 (by decide) ?_
      refine m_iret C hrt0 hlk0 (nar_z _) dX12_isOctal_17 ?_
      refine ⟨?_, rfl⟩
      unfold octB
      first | (rw [decide_eq_true ⟨n_3, n_9⟩]; done) | (rw [decide_eq_false (fun q => by have := q.1; omega)]; done) | (rw [decide_eq_false (fun q => by have := q.2; omega)]; done)
