set_option maxHeartbeats 4000000 in
set_option maxRecDepth 100000 in
theorem kX12_isNext {l : Launch} {D : va_G} {cy : Nat → ClassId} {ad : Nat → Nat} {n : Nat} {A : Nat → Prop} (hI : mI ad n A) {M : Nat → va_E} (hn : 63 ≤ n) (hn2 : n ≤ 100) (hro : rO ad M) {lim : Nat} {P : List Nat} (hout : isOutR cy M lim P) {rd : Nat} (hrd : M 135 = gh (.int (nI rd))) {ch : Nat} (hrl : rd < 2 ^ 20) (hc0 : ch ≠ 0) (hch : ch < 256) : mMi l yX12_isNext (gW yX12_isNext cX12_isNext 2 (some .boolean)) { frames := 0, cells := 0, slots := 0, locals := 0 } D cy ad n A [.ref (ad 52), .int (nI ch)] M (fun res M' => res = bI (decide (P.getD rd 0 = ch)) ∧ M' = M) := by
  obtain ⟨p1, p0, p2, p3, p4, p5, p6, pg, p7, p8⟩ := id hout
  refine m_entry (cc := cX12_isNext) (maxL := 2) (ret := (some .boolean)) (own := RX12) (lv := [(0, .ref (ad 52)), (1, .int (nI ch))]) hI (by decide) rfl rfl (Nat.le_of_ble_eq_true rfl) rfl (fun pX eX sX mX aX bX tX cX C hrt0 hlk0 => ?_)
  refine m_aload_n (pc' := 1) C dX12_isNext_0 rfl 0 rfl rfl ?_
  refine r_get C hn hro inW_X12 35 (by decide) ⟨rfl, rfl, rfl⟩ (gW_of tm_5_85) (r_at 35 rfl hrd) dX12_isNext_1 rfl ?_
  refine m_aload_n (pc' := 5) C dX12_isNext_4 rfl 0 rfl rfl ?_
  refine r_get C hn hro inW_X12 11 (by decide) ⟨rfl, rfl, rfl⟩ (gW_of tm_5_61) (r_at 11 rfl p4) dX12_isNext_5 rfl ?_
  refine m_icmp_ge (pc' := 11) (tgt := 28) C dX12_isNext_8 (by decide) rfl (fun c_8 => ?_) (fun c_8 => ?_)
  · have n_8 : P.length ≤ rd := (nI_leI (by omega) (by omega)).mp c_8
    have hz : decide (P.getD rd 0 = ch) = false := decide_eq_false (fun q => hc0 (by rw [← q, gd_out n_8]))
    refine m_iconst (pc' := 29) (v := bI false) C dX12_isNext_28 (by decide) rfl ?_
    refine m_iret C hrt0 hlk0 (nar_z _) dX12_isNext_29 ?_
    exact ⟨by rw [hz], rfl⟩
  · have n_8 : rd < P.length := Nat.lt_of_not_le (fun q => c_8 ((nI_leI (by omega) (by omega)).mpr q))
    have hb8 := gd_lt0 p2 rd
    refine m_aload_n (pc' := 12) C dX12_isNext_11 rfl 0 rfl rfl ?_
    refine r_get C hn hro inW_X12 12 (by decide) ⟨rfl, rfl, rfl⟩ (gW_of tm_5_62) rfl dX12_isNext_12 rfl ?_
    refine m_aload_n (pc' := 16) C dX12_isNext_15 rfl 0 rfl rfl ?_
    refine r_get C hn hro inW_X12 35 (by decide) ⟨rfl, rfl, rfl⟩ (gW_of tm_5_85) (r_at 35 rfl hrd) dX12_isNext_16 rfl ?_
    refine m_cald (pc' := 20) (v := nI (P.getD rd 0)) C 59 (by omega) p7 (vp_in_nI (by omega) (by decide)) (by rw [nI_clamp (by omega), p8 _ n_8]) dX12_isNext_19 rfl ?_
    refine m_iload_n (pc' := 21) C dX12_isNext_20 rfl 1 rfl rfl ?_
    refine m_icmp_ne (pc' := 24) (tgt := 28) C dX12_isNext_21 (by decide) rfl (fun c_21 => ?_) (fun c_21 => ?_)
    · have n_21 : ¬ (P.getD rd 0) = ch := fun q => c_21 ((nI_eq (by omega) (by omega)).mpr q)
      have hz : decide (P.getD rd 0 = ch) = false := decide_eq_false n_21
      refine m_iconst (pc' := 29) (v := bI false) C dX12_isNext_28 (by decide) rfl ?_
      refine m_iret C hrt0 hlk0 (nar_z _) dX12_isNext_29 ?_
      exact ⟨by rw [hz], rfl⟩
    · have n_21 : (P.getD rd 0) = ch := (nI_eq (by omega) (by omega)).mp (Classical.not_not.mp c_21)
      have hz : decide (P.getD rd 0 = ch) = true := decide_eq_true n_21
      refine m_iconst (pc' := 25) (v := bI true) C dX12_isNext_24 (by decide) rfl ?_
      refine m_goto (tgt := 29) C dX12_isNext_25 (by decide) ?_
      refine m_iret C hrt0 hlk0 (nar_z _) dX12_isNext_29 ?_
      exact ⟨by rw [hz], rfl⟩
set_option maxHeartbeats 4000000 in
set_option maxRecDepth 100000 in
theorem kX12_hexAt {l : Launch} {D : va_G} {cy : Nat → ClassId} {ad : Nat → Nat} {n : Nat} {A : Nat → Prop} (hI : mI ad n A) {M : Nat → va_E} (hn : 63 ≤ n) (hn2 : n ≤ 100) (hro : rO ad M) {lim : Nat} {P : List Nat} (hout : isOutR cy M lim P) {k : Nat} (hk : k < 2 ^ 20) : mMi l yX12_hexAt (gW yX12_hexAt cX12_hexAt 2 (some .int)) { frames := 1, cells := 0, slots := 0, locals := 22 } D cy ad n A [.ref (ad 52), .int (nI k)] M (fun res M' => res = dI (P.getD k 0) 16 ∧ M' = M) := by
  obtain ⟨p1, p0, p2, p3, p4, p5, p6, pg, p7, p8⟩ := id hout
  refine m_entry (cc := cX12_hexAt) (maxL := 2) (ret := (some .int)) (own := RX12) (lv := [(0, .ref (ad 52)), (1, .int (nI k))]) hI (by decide) rfl rfl (Nat.le_of_ble_eq_true rfl) rfl (fun pX eX sX mX aX bX tX cX C hrt0 hlk0 => ?_)
  refine m_iload_n (pc' := 1) C dX12_hexAt_0 rfl 1 rfl rfl ?_
  refine m_aload_n (pc' := 2) C dX12_hexAt_1 rfl 0 rfl rfl ?_
  refine r_get C hn hro inW_X12 11 (by decide) ⟨rfl, rfl, rfl⟩ (gW_of tm_5_61) (r_at 11 rfl p4) dX12_hexAt_2 rfl ?_
  refine m_icmp_ge (pc' := 8) (tgt := 22) C dX12_hexAt_5 (by decide) rfl (fun c_5 => ?_) (fun c_5 => ?_)
  · have n_5 : P.length ≤ k := (nI_leI (by omega) (by omega)).mp c_5
    refine m_iconst (pc' := 23) (v := dI (P.getD k 0) 16) C dX12_hexAt_22 (by rw [gd_out n_5]; decide) rfl ?_
    refine m_iret C hrt0 hlk0 rfl dX12_hexAt_23 ?_
    exact ⟨rfl, rfl⟩
  · have n_5 : k < P.length := Nat.lt_of_not_le (fun q => c_5 ((nI_leI (by omega) (by omega)).mpr q))
    refine m_aload_n (pc' := 9) C dX12_hexAt_8 rfl 0 rfl rfl ?_
    refine r_get C hn hro inW_X12 12 (by decide) ⟨rfl, rfl, rfl⟩ (gW_of tm_5_62) rfl dX12_hexAt_9 rfl ?_
    refine m_iload_n (pc' := 13) C dX12_hexAt_12 rfl 1 rfl rfl ?_
    refine m_cald (pc' := 14) (v := nI (P.getD k 0)) C 59 (by omega) p7 (vp_in_nI (by omega) (by decide)) (by rw [nI_clamp (by omega), p8 _ n_5]) dX12_hexAt_13 rfl ?_
    refine m_bipush (pc' := 16) (v := nI 16) C dX12_hexAt_14 (by decide) rfl ?_
    refine m_callSi (pc' := 19) (As := [.int (nI (P.getD k 0)), .int (nI 16)]) (rest := []) C (kX12_baseDigit hI (c := P.getD k 0) (b := 16) (by have := gd_lt0 p2 k; omega) (by decide)) (cwS 2 C.1.2.2.2.2 (goodS tm_6_19 tm_6_20 tm_1_13 tm_6_21) rfl rfl rfl (by decide +kernel) ⟨by decide, by decide⟩) rfl rfl (Nat.le_of_ble_eq_true rfl) dX12_hexAt_16 rfl ⟨by decide, by decide⟩ (fun x_1 N_1 q_1 => ?_)
    obtain ⟨e_1, E_1⟩ := q_1
    replace E_1 := E_1.symm
    subst E_1
    replace e_1 := e_1.symm
    subst e_1
    refine m_goto (tgt := 23) C dX12_hexAt_19 (by decide) ?_
    refine m_iret C hrt0 hlk0 rfl dX12_hexAt_23 ?_
    exact ⟨rfl, rfl⟩
set_option maxHeartbeats 4000000 in
set_option maxRecDepth 100000 in
theorem kX12_readLine {l : Launch} {D : va_G} {cy : Nat → ClassId} {ad : Nat → Nat} {n : Nat} {A : Nat → Prop} (hI : mI ad n A) {M : Nat → va_E} (hn : 63 ≤ n) (hn2 : n ≤ 100) (hro : rO ad M) {lim : Nat} {P : List Nat} (hout : isOutR cy M lim P) {i0 : Nat} (hrd : M 135 = gh (.int (nI i0))) {Fd : List Nat} (hfd : isFd cy M Fd) {c g0 : Nat} (hi0 : i0 ≤ 2000) (hF2 : 2 * Fd.length ≤ i0) (hc32 : c ≤ 32) (hg32 : g0 ≤ 32) : mMi l yX12_readLine (gW yX12_readLine cX12_readLine 8 (some .boolean)) { frames := 2, cells := 0, slots := 0, locals := 43 } D cy ad n A [.ref (ad 52), .int (nI c), .int (nI g0)] M (fun res M' => res = bI ((rLine P c (gN c g0) Fd.length i0).1 && (decide ((rLine P c (gN c g0) Fd.length i0).2.2.length = c) || decide ((rLine P c (gN c g0) Fd.length i0).2.1 = P.length))) ∧ rO ad M' ∧ M' 135 = gh (.int (nI (rLine P c (gN c g0) Fd.length i0).2.1)) ∧ isFd cy M' (Fd ++ (rLine P c (gN c g0) Fd.length i0).2.2) ∧ Fr [52, 62, 134, 135] M M') := by
  obtain ⟨p1, p0, p2, p3, p4, p5, p6, pg, p7, p8⟩ := id hout
  refine m_entry (cc := cX12_readLine) (maxL := 8) (ret := (some .boolean)) (own := RX12) (lv := [(0, .ref (ad 52)), (1, .int (nI c)), (2, .int (nI g0))]) hI (by decide) rfl rfl (Nat.le_of_ble_eq_true rfl) rfl (fun pX eX sX mX aX bX tX cX C hrt0 hlk0 => ?_)
  refine m_aload_n (pc' := 1) C dX12_readLine_0 rfl 0 rfl rfl ?_
  refine r_get C hn hro inW_X12 34 (by decide) ⟨rfl, rfl, rfl⟩ (gW_of tm_5_84) (r_at 34 rfl hfd.2.1) dX12_readLine_1 rfl ?_
  refine m_istore_n (pc' := 5) (lv' := [(3, .int (nI Fd.length)), (0, .ref (ad 52)), (1, .int (nI c)), (2, .int (nI g0))]) C dX12_readLine_4 rfl (by decide) rfl rfl ?_
  refine m_bipush (pc' := 7) (v := nI 7) C dX12_readLine_5 (by decide) rfl ?_
  refine m_istore (pc' := 9) (lv' := [(4, .int (nI 7)), (3, .int (nI Fd.length)), (0, .ref (ad 52)), (1, .int (nI c)), (2, .int (nI g0))]) C dX12_readLine_7 (by decide) rfl rfl ?_
  refine m_lvx (lv' := [(4, .int (nI 7 - nI 0)), (3, .int (nI Fd.length)), (0, .ref (ad 52)), (1, .int (nI c)), (2, .int (nI g0))]) (by rw [show nI 7 - nI 0 = nI 7 by decide]) ?_
  refine m_lv [2, 3, 4, 1, 0] rfl ?_
  refine m_loop (σ := Nat × (Nat → va_E)) (fun a => a.2) (fun a => [(0, .ref (ad 52)), (1, .int (nI c)), (2, .int (nI g0)), (3, .int (nI Fd.length)), (4, .int (nI 7 - nI a.1))]) (fun a => a.1 ≤ 8 ∧ rAdr P Fd.length i0 = mN (pAdr P Fd.length i0) (8 - a.1) a.1 ∧ rO ad a.2 ∧ a.2 135 = gh (.int (nI (i0 + a.1))) ∧ Fr [52, 135] M a.2) (fun a => 8 - a.1) (0, M) (⟨Nat.zero_le _, rfl, hro, hrd, Fr.rf⟩) ?_
  rintro ⟨j, Mk⟩ hinv ih
  dsimp only at hinv ih ⊢
  obtain ⟨i1, i2, i4, i5, i8⟩ := hinv
  refine m_iload (pc' := 11) C dX12_readLine_9 4 rfl rfl ?_
  refine m_if_lt (pc' := 14) (tgt := 52) C dX12_readLine_11 (by decide) rfl (fun c_11 => ?_) (fun c_11 => ?_)
  · have hj8 : j = 8 := by
      rcases Nat.lt_or_ge j 8 with q | q
      · exact absurd c_11 (k7 j q).2.1
      · omega
    subst hj8
    have hA8 : rAdr P Fd.length i0 = 8 := i2
    refine m_aload_n (pc' := 53) C dX12_readLine_52 rfl 0 rfl rfl ?_
    refine m_bipush (pc' := 55) (v := nI 58) C dX12_readLine_53 (by decide) rfl ?_
    have xoutR_2 := hout.fr i8 (by decide)
    refine m_callVi (pc' := 58) (As := [.int (nI 58)]) (rest := []) C (kX12_isNext hI hn hn2 i4 xoutR_2 i5 (ch := 58) (by omega) (by decide) (by decide)) (cwV 1 C.1.2.2.2.2 (goodV tm_6_132 tm_6_134 tp_78 tm_1_13 tm_6_135) rfl rfl rfl (by decide +kernel) ⟨by decide, by decide⟩) (by omega) i4 rfl rfl rfl (Nat.le_of_ble_eq_true rfl) dX12_readLine_55 rfl ⟨by decide, by decide⟩ (fun x_1 N_1 q_1 => ?_)
    obtain ⟨e_1, E_1⟩ := q_1
    replace E_1 := E_1.symm
    subst E_1
    replace e_1 := e_1.symm
    subst e_1
    refine m_if_ne (pc' := 61) (tgt := 63) C dX12_readLine_58 (by decide) rfl (fun c_58 => ?_) (fun c_58 => ?_)
    · have hN8 := of_decide_eq_true (ts_of c_58)
      refine m_aload_n (pc' := 64) C dX12_readLine_63 rfl 0 rfl rfl ?_
      refine m_dup (pc' := 65) C dX12_readLine_64 rfl rfl ?_
      refine r_get C hn i4 inW_X12 35 (by decide) ⟨rfl, rfl, rfl⟩ (gW_of tm_5_85) (r_at 35 rfl i5) dX12_readLine_65 rfl ?_
      refine m_iconst (pc' := 69) (v := nI 1) C dX12_readLine_68 (by decide) rfl ?_
      refine m_iadd (pc' := 70) (v := nI (i0 + 9)) C dX12_readLine_69 (nI_add _ _) rfl ?_
      refine r_put (ty := .int) C hn hn2 i4 inW_X12 35 135 (by decide) rfl ⟨rfl, rfl, rfl, rfl⟩ (gW_of tm_5_85) (by decide +kernel) rfl rfl (fun _ => rfl) dX12_readLine_70 rfl (fun M3 go_3 g_3 F_3 => ?_)
      refine m_aload_n (pc' := 74) C dX12_readLine_73 rfl 0 rfl rfl ?_
      refine m_bipush (pc' := 76) (v := nI 32) C dX12_readLine_74 (by decide) rfl ?_
      have xoutR_5 := xoutR_2.fr F_3 (by decide)
      refine m_callVi (pc' := 79) (As := [.int (nI 32)]) (rest := []) C (kX12_isNext hI hn hn2 go_3 xoutR_5 g_3 (ch := 32) (by omega) (by decide) (by decide)) (cwV 1 C.1.2.2.2.2 (goodV tm_6_132 tm_6_134 tp_78 tm_1_13 tm_6_135) rfl rfl rfl (by decide +kernel) ⟨by decide, by decide⟩) (by omega) go_3 rfl rfl rfl (Nat.le_of_ble_eq_true rfl) dX12_readLine_76 rfl ⟨by decide, by decide⟩ (fun x_4 N_4 q_4 => ?_)
      obtain ⟨e_4, E_4⟩ := q_4
      replace E_4 := E_4.symm
      subst E_4
      replace e_4 := e_4.symm
      subst e_4
      refine m_if_ne (pc' := 82) (tgt := 84) C dX12_readLine_79 (by decide) rfl (fun c_79 => ?_) (fun c_79 => ?_)
      · have hH : HD P Fd.length i0 := ⟨hA8, hN8, of_decide_eq_true (ts_of c_79)⟩
        refine m_aload_n (pc' := 85) C dX12_readLine_84 rfl 0 rfl rfl ?_
        refine m_dup (pc' := 86) C dX12_readLine_85 rfl rfl ?_
        refine r_get C hn go_3 inW_X12 35 (by decide) ⟨rfl, rfl, rfl⟩ (gW_of tm_5_85) (r_at 35 rfl g_3) dX12_readLine_86 rfl ?_
        refine m_iconst (pc' := 90) (v := nI 1) C dX12_readLine_89 (by decide) rfl ?_
        refine m_iadd (pc' := 91) (v := nI (i0 + 10)) C dX12_readLine_90 (nI_add _ _) rfl ?_
        refine r_put (ty := .int) C hn hn2 go_3 inW_X12 35 135 (by decide) rfl ⟨rfl, rfl, rfl, rfl⟩ (gW_of tm_5_85) (by decide +kernel) rfl rfl (fun _ => rfl) dX12_readLine_91 rfl (fun M6 go_6 g_6 F_6 => ?_)
        refine m_iconst (pc' := 95) (v := nI 0) C dX12_readLine_94 (by decide) rfl ?_
        refine m_istore (pc' := 97) (lv' := [(4, .int (nI 0)), (0, .ref (ad 52)), (1, .int (nI c)), (2, .int (nI g0)), (3, .int (nI Fd.length))]) C dX12_readLine_95 (by decide) rfl rfl ?_
        refine m_iconst (pc' := 98) (v := nI 0) C dX12_readLine_97 (by decide) rfl ?_
        refine m_istore (pc' := 100) (lv' := [(5, .int (nI 0)), (4, .int (nI 0)), (0, .ref (ad 52)), (1, .int (nI c)), (2, .int (nI g0)), (3, .int (nI Fd.length))]) C dX12_readLine_98 (by decide) rfl rfl ?_
        refine m_lv [2, 3, 4, 1, 0] rfl ?_
        have ff34_7 : Mk 134 = gh (.int (nI Fd.length)) := (i8 134 (by decide)).trans hfd.2.1
        have ff34_8 : M3 134 = gh (.int (nI Fd.length)) := (F_3 134 (by decide)).trans ff34_7
        have ff34_9 : M6 134 = gh (.int (nI Fd.length)) := (F_6 134 (by decide)).trans ff34_8
        refine m_loop (σ := Nat × Nat × Nat × List Nat × (Nat → va_E)) (fun a => a.2.2.2.2) (fun a => [(0, .ref (ad 52)), (1, .int (nI c)), (2, .int (nI g0)), (4, .int (nI a.2.1)), (5, .int (nI a.1))]) (fun a => PH P c (gN c g0) i0 a.1 a.2.1 a.2.2.1 a.2.2.2.1 ∧ (a.1 ≤ c ∧ a.2.1 ≤ a.1) ∧ rO ad a.2.2.2.2 ∧ a.2.2.2.2 135 = gh (.int (nI a.2.2.1)) ∧ a.2.2.2.2 134 = gh (.int (nI Fd.length)) ∧ isA cy a.2.2.2.2 1 62 2000 (Fd ++ a.2.2.2.1) ∧ (∀ x ∈ a.2.2.2.1, x < 256) ∧ Fr [52, 62, 135] M a.2.2.2.2) (fun a => c - a.1) (0, 0, i0 + 10, [], M6) (⟨⟨by (try dsimp only); rw [show egN c (gN c g0) 0 = 0 from rfl], rfl, Or.inl ⟨rfl, rfl⟩⟩, ⟨Nat.zero_le _, Nat.le_refl _⟩, go_6, g_6, ff34_9, by (try dsimp only); rw [List.append_nil]; exact (isA.fr hfd.2.2 (S := [52, 135]) ((((i8.sub (by decide)).tr (F_3.sub (by decide))).tr (F_6.sub (by decide)))) (by decide)), (fun x hx => by cases hx), (((i8.sub (by decide)).tr (F_3.sub (by decide))).tr (F_6.sub (by decide)))⟩) ?_
        rintro ⟨k, n, rd, L, Mm⟩ hinv ih1
        dsimp only at hinv ih1 ⊢
        obtain ⟨jp, ⟨j1, j2⟩, j4, j5, j6, jA, j9, j8⟩ := hinv
        obtain ⟨h1R, h2L, h3P⟩ := id jp
        obtain ⟨hcap0, q, j7, hq9⟩ := id jA
        have hFL : (Fd ++ L).length = Fd.length + n := by rw [List.length_append, h2L]
        have hegl := eg_le c (gN c g0) k j1
        have hpw := pwN_le c (gN c g0)
        have hcap : (Fd ++ L).length < 2000 := by rw [hFL]; omega
        refine m_iload (pc' := 102) C dX12_readLine_100 4 rfl rfl ?_
        refine m_iload_n (pc' := 103) C dX12_readLine_102 rfl 1 rfl rfl ?_
        refine m_icmp_ge (pc' := 106) (tgt := 316) C dX12_readLine_103 (by decide) rfl (fun c_103 => ?_) (fun c_103 => ?_)
        · have n_103 : c ≤ k := (nI_leI (by omega) (by omega)).mp c_103
          have hkc : k = c := by omega
          rw [hkc] at jp
          obtain ⟨hBL, hE⟩ := ph_end jp
          refine m_aload_n (pc' := 317) C dX12_readLine_316 rfl 0 rfl rfl ?_
          refine m_bipush (pc' := 319) (v := nI 32) C dX12_readLine_317 (by decide) rfl ?_
          have xoutR_11 := hout.fr j8 (by decide)
          refine m_callVi (pc' := 322) (As := [.int (nI 32)]) (rest := []) C (kX12_isNext hI hn hn2 j4 xoutR_11 j5 (ch := 32) (by omega) (by decide) (by decide)) (cwV 1 C.1.2.2.2.2 (goodV tm_6_132 tm_6_134 tp_78 tm_1_13 tm_6_135) rfl rfl rfl (by decide +kernel) ⟨by decide, by decide⟩) (by omega) j4 rfl rfl rfl (Nat.le_of_ble_eq_true rfl) dX12_readLine_319 rfl ⟨by decide, by decide⟩ (fun x_10 N_10 q_10 => ?_)
          obtain ⟨e_10, E_10⟩ := q_10
          replace E_10 := E_10.symm
          subst E_10
          replace e_10 := e_10.symm
          subst e_10
          refine m_if_ne (pc' := 325) (tgt := 327) C dX12_readLine_322 (by decide) rfl (fun c_322 => ?_) (fun c_322 => ?_)
          · have hB9 := hBL.step (of_decide_eq_true (ts_of c_322))
            rw [hE] at hB9
            have hGo := rl_go hH hB9
            refine m_aload_n (pc' := 328) C dX12_readLine_327 rfl 0 rfl rfl ?_
            refine m_dup (pc' := 329) C dX12_readLine_328 rfl rfl ?_
            refine r_get C hn j4 inW_X12 35 (by decide) ⟨rfl, rfl, rfl⟩ (gW_of tm_5_85) (r_at 35 rfl j5) dX12_readLine_329 rfl ?_
            refine m_iconst (pc' := 333) (v := nI 1) C dX12_readLine_332 (by decide) rfl ?_
            refine m_iadd (pc' := 334) (v := nI (i0 + 10 + pwN c (gN c g0) + 1)) C dX12_readLine_333 (by rw [← hE]; exact nI_add _ _) rfl ?_
            refine r_put (ty := .int) C hn hn2 j4 inW_X12 35 135 (by decide) rfl ⟨rfl, rfl, rfl, rfl⟩ (gW_of tm_5_85) (by decide +kernel) rfl rfl (fun _ => rfl) dX12_readLine_334 rfl (fun M12 go_12 g_12 F_12 => ?_)
            refine m_iconst (pc' := 338) (v := nI 0) C dX12_readLine_337 (by decide) rfl ?_
            refine m_istore (pc' := 340) (lv' := [(5, .int (nI 0)), (0, .ref (ad 52)), (1, .int (nI c)), (2, .int (nI g0)), (4, .int (nI n))]) C dX12_readLine_338 (by decide) rfl rfl ?_
            refine m_lv [1, 2, 3, 4, 0] rfl ?_
            have ff34_13 : M12 134 = gh (.int (nI Fd.length)) := (F_12 134 (by decide)).trans j6
            have f62_14 : M12 62 = .inl (cy 1, 2000, .inl (fun i => nI (q i))) := (F_12 62 (by decide)).trans j7
            refine m_loop (σ := Nat × (Nat → va_E)) (fun a => a.2) (fun a => [(0, .ref (ad 52)), (1, .int (nI c)), (2, .int (nI g0)), (4, .int (nI n)), (5, .int (nI a.1))]) (fun a => a.1 ≤ L.length ∧ rSn P L (i0 + 10 + pwN c (gN c g0) + 1) = mN (pSn P L (i0 + 10 + pwN c (gN c g0) + 1)) (L.length - a.1) a.1 ∧ rO ad a.2 ∧ a.2 135 = gh (.int (nI ((i0 + 10 + pwN c (gN c g0) + 1) + a.1))) ∧ a.2 134 = gh (.int (nI Fd.length)) ∧ a.2 62 = .inl (cy 1, 2000, .inl (fun i => nI (q i))) ∧ Fr [52, 62, 135] M a.2) (fun a => L.length - a.1) (0, M12) (⟨Nat.zero_le _, rfl, go_12, g_12, ff34_13, f62_14, j8.tr ((F_12.sub (by decide)))⟩) ?_
            rintro ⟨m, Mn⟩ hinv ih2
            dsimp only at hinv ih2 ⊢
            obtain ⟨k1, k2, k4, k5, k6, k7, k8⟩ := hinv
            refine m_iload (pc' := 342) C dX12_readLine_340 4 rfl rfl ?_
            refine m_iload (pc' := 344) C dX12_readLine_342 3 rfl rfl ?_
            refine m_icmp_ge (pc' := 347) (tgt := 387) C dX12_readLine_344 (by decide) rfl (fun c_344 => ?_) (fun c_344 => ?_)
            · have n_344 : n ≤ m := (nI_leI (by omega) (by omega)).mp c_344
              have hmm : m = L.length := by omega
              subst hmm
              have hSn : rSn P L (i0 + 10 + pwN c (gN c g0) + 1) = L.length := by rw [k2, Nat.sub_self]; rfl
              rw [if_neg (fun z => z hSn)] at hGo
              refine m_aload_n (pc' := 388) C dX12_readLine_387 rfl 0 rfl rfl ?_
              refine m_bipush (pc' := 390) (v := nI 10) C dX12_readLine_388 (by decide) rfl ?_
              have xoutR_16 := hout.fr k8 (by decide)
              refine m_callVi (pc' := 393) (As := [.int (nI 10)]) (rest := []) C (kX12_isNext hI hn hn2 k4 xoutR_16 k5 (ch := 10) (by omega) (by decide) (by decide)) (cwV 1 C.1.2.2.2.2 (goodV tm_6_132 tm_6_134 tp_78 tm_1_13 tm_6_135) rfl rfl rfl (by decide +kernel) ⟨by decide, by decide⟩) (by omega) k4 rfl rfl rfl (Nat.le_of_ble_eq_true rfl) dX12_readLine_390 rfl ⟨by decide, by decide⟩ (fun x_15 N_15 q_15 => ?_)
              obtain ⟨e_15, E_15⟩ := q_15
              replace E_15 := E_15.symm
              subst E_15
              replace e_15 := e_15.symm
              subst e_15
              refine m_if_ne (pc' := 396) (tgt := 398) C dX12_readLine_393 (by decide) rfl (fun c_393 => ?_) (fun c_393 => ?_)
              · have h10 := of_decide_eq_true (ts_of c_393)
                have hRL : (rLine P c (gN c g0) Fd.length i0) = (true, (i0 + 10 + pwN c (gN c g0) + 1) + L.length + 1, L) := by rw [hGo, if_pos h10]
                refine m_aload_n (pc' := 399) C dX12_readLine_398 rfl 0 rfl rfl ?_
                refine m_dup (pc' := 400) C dX12_readLine_399 rfl rfl ?_
                refine r_get C hn k4 inW_X12 35 (by decide) ⟨rfl, rfl, rfl⟩ (gW_of tm_5_85) (r_at 35 rfl k5) dX12_readLine_400 rfl ?_
                refine m_iconst (pc' := 404) (v := nI 1) C dX12_readLine_403 (by decide) rfl ?_
                refine m_iadd (pc' := 405) (v := nI (((i0 + 10 + pwN c (gN c g0) + 1) + L.length) + 1)) C dX12_readLine_404 (nI_add _ _) rfl ?_
                refine r_put (ty := .int) C hn hn2 k4 inW_X12 35 135 (by decide) rfl ⟨rfl, rfl, rfl, rfl⟩ (gW_of tm_5_85) (by decide +kernel) rfl rfl (fun _ => rfl) dX12_readLine_405 rfl (fun M17 go_17 g_17 F_17 => ?_)
                refine m_aload_n (pc' := 409) C dX12_readLine_408 rfl 0 rfl rfl ?_
                refine m_aload_n (pc' := 410) C dX12_readLine_409 rfl 0 rfl rfl ?_
                have ff34_18 : M17 134 = gh (.int (nI Fd.length)) := (F_17 134 (by decide)).trans k6
                refine r_get C hn go_17 inW_X12 34 (by decide) ⟨rfl, rfl, rfl⟩ (gW_of tm_5_84) (r_at 34 rfl ff34_18) dX12_readLine_410 rfl ?_
                refine m_iload (pc' := 415) C dX12_readLine_413 3 rfl rfl ?_
                refine m_iadd (pc' := 416) (v := nI (Fd.length + n)) C dX12_readLine_415 (nI_add _ _) rfl ?_
                refine r_put (ty := .int) C hn hn2 go_17 inW_X12 34 134 (by decide) rfl ⟨rfl, rfl, rfl, rfl⟩ (gW_of tm_5_84) (by decide +kernel) rfl rfl (fun _ => rfl) dX12_readLine_416 rfl (fun M19 go_19 g_19 F_19 => ?_)
                refine m_iload (pc' := 421) C dX12_readLine_419 3 rfl rfl ?_
                refine m_iload_n (pc' := 422) C dX12_readLine_421 rfl 1 rfl rfl ?_
                refine m_icmp_eq (pc' := 425) (tgt := 436) C dX12_readLine_422 (by decide) rfl (fun c_422 => ?_) (fun c_422 => ?_)
                · have n_422 : n = c := (nI_eq (by omega) (by omega)).mp c_422
                  have hz : (decide (L.length = c) || decide ((i0 + 10 + pwN c (gN c g0) + 1) + L.length + 1 = P.length)) = true := by rw [decide_eq_true (show L.length = c by omega)]; rfl
                  refine m_iconst (pc' := 437) (v := bI true) C dX12_readLine_436 (by decide) rfl ?_
                  refine m_goto (tgt := 441) C dX12_readLine_437 (by decide) ?_
                  refine m_iret C hrt0 hlk0 (nar_z _) dX12_readLine_441 ?_
                  have ff35_20 : M19 135 = gh (.int (nI (((i0 + 10 + pwN c (gN c g0) + 1) + L.length) + 1))) := (F_19 135 (by decide)).trans g_17
                  have f62_21 : M17 62 = .inl (cy 1, 2000, .inl (fun i => nI (q i))) := (F_17 62 (by decide)).trans k7
                  have f62_22 : M19 62 = .inl (cy 1, 2000, .inl (fun i => nI (q i))) := (F_19 62 (by decide)).trans f62_21
                  rw [hRL]
                  dsimp only
                  exact ⟨by rw [hz]; rfl, go_19, ff35_20, ⟨(by intro x hx; rcases List.mem_append.mp hx with z | z; exact hfd.1 x z; exact j9 x z), by rw [hFL]; exact g_19, ⟨hcap0, q, f62_22, hq9⟩⟩, (((k8.sub (by decide)).tr (F_17.sub (by decide))).tr (F_19.sub (by decide)))⟩
                · have n_422 : ¬ n = c := fun q => c_422 ((nI_eq (by omega) (by omega)).mpr q)
                  refine m_aload_n (pc' := 426) C dX12_readLine_425 rfl 0 rfl rfl ?_
                  have ff35_23 : M19 135 = gh (.int (nI (((i0 + 10 + pwN c (gN c g0) + 1) + L.length) + 1))) := (F_19 135 (by decide)).trans g_17
                  refine r_get C hn go_19 inW_X12 35 (by decide) ⟨rfl, rfl, rfl⟩ (gW_of tm_5_85) (r_at 35 rfl ff35_23) dX12_readLine_426 rfl ?_
                  refine m_aload_n (pc' := 430) C dX12_readLine_429 rfl 0 rfl rfl ?_
                  have ff11_24 : Mn 111 = gh (.int (nI P.length)) := (k8 111 (by decide)).trans p4
                  have ff11_25 : M17 111 = gh (.int (nI P.length)) := (F_17 111 (by decide)).trans ff11_24
                  have ff11_26 : M19 111 = gh (.int (nI P.length)) := (F_19 111 (by decide)).trans ff11_25
                  refine r_get C hn go_19 inW_X12 11 (by decide) ⟨rfl, rfl, rfl⟩ (gW_of tm_5_61) (r_at 11 rfl ff11_26) dX12_readLine_430 rfl ?_
                  refine m_icmp_ne (pc' := 436) (tgt := 440) C dX12_readLine_433 (by decide) rfl (fun c_433 => ?_) (fun c_433 => ?_)
                  · have n_433 : ¬ (((i0 + 10 + pwN c (gN c g0) + 1) + L.length) + 1) = P.length := fun q => c_433 ((nI_eq (by omega) (by omega)).mpr q)
                    have hz : (decide (L.length = c) || decide ((i0 + 10 + pwN c (gN c g0) + 1) + L.length + 1 = P.length)) = false := by rw [decide_eq_false (show ¬ L.length = c by omega), decide_eq_false n_433]; rfl
                    refine m_iconst (pc' := 441) (v := bI false) C dX12_readLine_440 (by decide) rfl ?_
                    refine m_iret C hrt0 hlk0 (nar_z _) dX12_readLine_441 ?_
                    have f62_27 : M17 62 = .inl (cy 1, 2000, .inl (fun i => nI (q i))) := (F_17 62 (by decide)).trans k7
                    have f62_28 : M19 62 = .inl (cy 1, 2000, .inl (fun i => nI (q i))) := (F_19 62 (by decide)).trans f62_27
                    rw [hRL]
                    dsimp only
                    exact ⟨by rw [hz]; rfl, go_19, ff35_23, ⟨(by intro x hx; rcases List.mem_append.mp hx with z | z; exact hfd.1 x z; exact j9 x z), by rw [hFL]; exact g_19, ⟨hcap0, q, f62_28, hq9⟩⟩, (((k8.sub (by decide)).tr (F_17.sub (by decide))).tr (F_19.sub (by decide)))⟩
                  · have n_433 : (((i0 + 10 + pwN c (gN c g0) + 1) + L.length) + 1) = P.length := (nI_eq (by omega) (by omega)).mp (Classical.not_not.mp c_433)
                    have hz : (decide (L.length = c) || decide ((i0 + 10 + pwN c (gN c g0) + 1) + L.length + 1 = P.length)) = true := by rw [decide_eq_true n_433, Bool.or_true]
                    refine m_iconst (pc' := 437) (v := bI true) C dX12_readLine_436 (by decide) rfl ?_
                    refine m_goto (tgt := 441) C dX12_readLine_437 (by decide) ?_
                    refine m_iret C hrt0 hlk0 (nar_z _) dX12_readLine_441 ?_
                    have f62_29 : M17 62 = .inl (cy 1, 2000, .inl (fun i => nI (q i))) := (F_17 62 (by decide)).trans k7
                    have f62_30 : M19 62 = .inl (cy 1, 2000, .inl (fun i => nI (q i))) := (F_19 62 (by decide)).trans f62_29
                    rw [hRL]
                    dsimp only
                    exact ⟨by rw [hz]; rfl, go_19, ff35_23, ⟨(by intro x hx; rcases List.mem_append.mp hx with z | z; exact hfd.1 x z; exact j9 x z), by rw [hFL]; exact g_19, ⟨hcap0, q, f62_30, hq9⟩⟩, (((k8.sub (by decide)).tr (F_17.sub (by decide))).tr (F_19.sub (by decide)))⟩
              · have hRL : (rLine P c (gN c g0) Fd.length i0) = (false, (i0 + 10 + pwN c (gN c g0) + 1) + L.length, []) := by rw [hGo, if_neg (of_decide_eq_false ((bI_0 _).mp (Classical.not_not.mp c_393)))]
                refine m_iconst (pc' := 397) (v := bI false) C dX12_readLine_396 (by decide) rfl ?_
                refine m_iret C hrt0 hlk0 (nar_z _) dX12_readLine_397 ?_
                rw [hRL]
                dsimp only
                rw [List.append_nil]
                exact ⟨rfl, k4, k5, ⟨hfd.1, k6, ⟨by omega, _, k7, fun i hi => by rw [hq9 i (by rw [hFL]; omega), List.getD_eq_getElem?_getD, List.getD_eq_getElem?_getD, List.getElem?_append_left hi]⟩⟩, (k8.sub (by decide))⟩
            · have n_344 : m < n := Nat.lt_of_not_le (fun q => c_344 ((nI_leI (by omega) (by omega)).mpr q))
              have hLm := gd_lt0 j9 m
              have hqm : q (Fd.length + m) = L.getD m 0 := by rw [hq9 _ (by rw [hFL]; omega), List.getD_eq_getElem?_getD, List.getElem?_append_right (by omega), ← List.getD_eq_getElem?_getD, Nat.add_sub_cancel_left]
              refine m_aload_n (pc' := 348) C dX12_readLine_347 rfl 0 rfl rfl ?_
              refine m_aload_n (pc' := 349) C dX12_readLine_348 rfl 0 rfl rfl ?_
              refine r_get C hn k4 inW_X12 33 (by decide) ⟨rfl, rfl, rfl⟩ (gW_of tm_5_83) rfl dX12_readLine_349 rfl ?_
              refine m_aload_n (pc' := 353) C dX12_readLine_352 rfl 0 rfl rfl ?_
              refine r_get C hn k4 inW_X12 34 (by decide) ⟨rfl, rfl, rfl⟩ (gW_of tm_5_84) (r_at 34 rfl k6) dX12_readLine_353 rfl ?_
              refine m_iload (pc' := 358) C dX12_readLine_356 4 rfl rfl ?_
              refine m_iadd (pc' := 359) (v := nI (Fd.length + m)) C dX12_readLine_358 (nI_add _ _) rfl ?_
              refine m_iald (pc' := 360) (v := nI (L.getD m 0)) C 62 (by omega) k7 (vp_in_nI (by omega) (by decide)) (by rw [nI_clamp (by omega), hqm]) dX12_readLine_359 rfl ?_
              refine m_callSi (pc' := 363) (As := [.int (nI (L.getD m 0))]) (rest := [.ref (ad 52)]) C (kX12_shown hI (v := L.getD m 0) hLm) (cwS 1 C.1.2.2.2.2 (goodS tm_6_117 tm_6_118 tm_1_13 tm_6_119) rfl rfl rfl (by decide +kernel) ⟨by decide, by decide⟩) rfl rfl (Nat.le_of_ble_eq_true rfl) dX12_readLine_360 rfl ⟨by decide, by decide⟩ (fun x_31 N_31 q_31 => ?_)
              obtain ⟨e_31, E_31⟩ := q_31
              replace E_31 := E_31.symm
              subst E_31
              replace e_31 := e_31.symm
              subst e_31
              have xoutR_33 := hout.fr k8 (by decide)
              refine m_callVi (pc' := 366) (As := [.int (nI (seN (L.getD m 0)))]) (rest := []) C (kX12_isNext hI hn hn2 k4 xoutR_33 k5 (ch := seN (L.getD m 0)) (by omega) seN_pos (seN_lt hLm)) (cwV 1 C.1.2.2.2.2 (goodV tm_6_132 tm_6_134 tp_78 tm_1_13 tm_6_135) rfl rfl rfl (by decide +kernel) ⟨by decide, by decide⟩) (by omega) k4 rfl rfl rfl (Nat.le_of_ble_eq_true rfl) dX12_readLine_363 rfl ⟨by decide, by decide⟩ (fun x_32 N_32 q_32 => ?_)
              obtain ⟨e_32, E_32⟩ := q_32
              replace E_32 := E_32.symm
              subst E_32
              replace e_32 := e_32.symm
              subst e_32
              refine m_if_ne (pc' := 369) (tgt := 371) C dX12_readLine_366 (by decide) rfl (fun c_366 => ?_) (fun c_366 => ?_)
              · have hps : pSn P L (i0 + 10 + pwN c (gN c g0) + 1) m = true := decide_eq_true (of_decide_eq_true (ts_of c_366))
                refine m_aload_n (pc' := 372) C dX12_readLine_371 rfl 0 rfl rfl ?_
                refine m_dup (pc' := 373) C dX12_readLine_372 rfl rfl ?_
                refine r_get C hn k4 inW_X12 35 (by decide) ⟨rfl, rfl, rfl⟩ (gW_of tm_5_85) (r_at 35 rfl k5) dX12_readLine_373 rfl ?_
                refine m_iconst (pc' := 377) (v := nI 1) C dX12_readLine_376 (by decide) rfl ?_
                refine m_iadd (pc' := 378) (v := nI ((i0 + 10 + pwN c (gN c g0) + 1) + (m + 1))) C dX12_readLine_377 (by rw [← Nat.add_assoc]; exact nI_add _ _) rfl ?_
                refine r_put (ty := .int) C hn hn2 k4 inW_X12 35 135 (by decide) rfl ⟨rfl, rfl, rfl, rfl⟩ (gW_of tm_5_85) (by decide +kernel) rfl rfl (fun _ => rfl) dX12_readLine_378 rfl (fun M34 go_34 g_34 F_34 => ?_)
                refine m_iinc (pc' := 384) (v := nI (m + 1)) (lv' := [(5, .int (nI (m + 1))), (0, .ref (ad 52)), (1, .int (nI c)), (2, .int (nI g0)), (4, .int (nI n))]) C dX12_readLine_381 (k := 4) rfl (nI_add _ _) (by decide) rfl rfl ?_
                refine m_goto (tgt := 340) C dX12_readLine_384 (by decide) ?_
                have ff34_35 : M34 134 = gh (.int (nI Fd.length)) := (F_34 134 (by decide)).trans k6
                have f62_36 : M34 62 = .inl (cy 1, 2000, .inl (fun i => nI (q i))) := (F_34 62 (by decide)).trans k7
                refine m_lv [1, 2, 3, 4, 0] rfl ?_
                exact ih2 (m + 1, M34) (⟨by (try dsimp only); omega, by (try dsimp only); rw [k2, show L.length - m = (L.length - (m + 1)) + 1 by omega, mN_t hps], go_34, g_34, ff34_35, f62_36, (k8.tr (F_34.sub (by decide)))⟩) (by simp only; omega)
              · have hns9 : rSn P L (i0 + 10 + pwN c (gN c g0) + 1) = m := by rw [k2, show L.length - m = (L.length - (m + 1)) + 1 by omega, mN_f (fun z => of_decide_eq_false ((bI_0 _).mp (Classical.not_not.mp c_366)) (of_decide_eq_true z))]
                have hRL : (rLine P c (gN c g0) Fd.length i0) = (false, (i0 + 10 + pwN c (gN c g0) + 1) + m, []) := by rw [hGo, hns9, if_pos (by omega)]
                refine m_iconst (pc' := 370) (v := bI false) C dX12_readLine_369 (by decide) rfl ?_
                refine m_iret C hrt0 hlk0 (nar_z _) dX12_readLine_370 ?_
                rw [hRL]
                dsimp only
                rw [List.append_nil]
                exact ⟨rfl, k4, k5, ⟨hfd.1, k6, ⟨by omega, _, k7, fun i hi => by rw [hq9 i (by rw [hFL]; omega), List.getD_eq_getElem?_getD, List.getD_eq_getElem?_getD, List.getElem?_append_left hi]⟩⟩, (k8.sub (by decide))⟩
          · have hRL : (rLine P c (gN c g0) Fd.length i0) = (false, rd, []) := rl_bl hH hBL (by omega) (of_decide_eq_false ((bI_0 _).mp (Classical.not_not.mp c_322)))
            refine m_iconst (pc' := 326) (v := bI false) C dX12_readLine_325 (by decide) rfl ?_
            refine m_iret C hrt0 hlk0 (nar_z _) dX12_readLine_326 ?_
            rw [hRL]
            dsimp only
            rw [List.append_nil]
            exact ⟨rfl, j4, j5, ⟨hfd.1, j6, ⟨by omega, _, j7, fun i hi => by rw [hq9 i (by rw [hFL]; omega), List.getD_eq_getElem?_getD, List.getD_eq_getElem?_getD, List.getElem?_append_left hi]⟩⟩, (j8.sub (by decide))⟩
        · have n_103 : k < c := Nat.lt_of_not_le (fun q => c_103 ((nI_leI (by omega) (by omega)).mpr q))
          have hk9 : k < c := n_103
          have hegl2 := eg_le c (gN c g0) (k + 1) hk9
          have hrdE : rd + 2 ≤ i0 + 10 + pwN c (gN c g0) := by have := egN_succ c (gN c g0) k; omega
          refine m_cut (σ := Unit) (fun a => (n = k ∧ 0 < k ∧ ¬ dvN (P.getD rd 0) < 16) ∨ n < k) (fun a => Mm) 133 (fun a => [(0, .ref (ad 52)), (1, .int (nI c)), (2, .int (nI g0)), (4, .int (nI n)), (5, .int (nI k))]) (fun a => []) ?_ (fun J133 => ?_)
          · rintro zz hj
            try dsimp only at hj ⊢
            have hbl := hj
            refine m_iconst (pc' := 134) (v := nI 0) C dX12_readLine_133 (by decide) rfl ?_
            refine m_istore (pc' := 136) (lv' := [(6, .int (nI 0)), (0, .ref (ad 52)), (1, .int (nI c)), (2, .int (nI g0)), (4, .int (nI n)), (5, .int (nI k))]) C dX12_readLine_134 (by decide) rfl rfl ?_
            refine m_iconst (pc' := 137) (v := nI 0) C dX12_readLine_136 (by decide) rfl ?_
            refine m_istore (pc' := 139) (lv' := [(7, .int (nI 0)), (6, .int (nI 0)), (0, .ref (ad 52)), (1, .int (nI c)), (2, .int (nI g0)), (4, .int (nI n)), (5, .int (nI k))]) C dX12_readLine_137 (by decide) rfl rfl ?_
            refine m_iload (pc' := 141) C dX12_readLine_139 0 rfl rfl ?_
            refine m_iconst (pc' := 142) (v := nI 2) C dX12_readLine_141 (by decide) rfl ?_
            refine m_icmp_ge (pc' := 145) (tgt := 263) C dX12_readLine_142 (by decide) rfl (fun c_142 => ?_) (fun c_142 => ?_)
            · exact absurd c_142 (by decide)
            · refine m_iload (pc' := 147) C dX12_readLine_145 1 rfl rfl ?_
              refine m_if_eq (pc' := 150) (tgt := 164) C dX12_readLine_147 (by decide) rfl (fun c_147 => ?_) (fun c_147 => ?_)
              · refine m_aload_n (pc' := 165) C dX12_readLine_164 rfl 2 rfl rfl ?_
                refine m_bipush (pc' := 167) (v := nI 32) C dX12_readLine_165 (by decide) rfl ?_
                have xoutR_38 := hout.fr j8 (by decide)
                refine m_callVi (pc' := 170) (As := [.int (nI 32)]) (rest := []) C (kX12_isNext hI hn hn2 j4 xoutR_38 j5 (ch := 32) (by omega) (by decide) (by decide)) (cwV 1 C.1.2.2.2.2 (goodV tm_6_132 tm_6_134 tp_78 tm_1_13 tm_6_135) rfl rfl rfl (by decide +kernel) ⟨by decide, by decide⟩) (by omega) j4 rfl rfl rfl (Nat.le_of_ble_eq_true rfl) dX12_readLine_167 rfl ⟨by decide, by decide⟩ (fun x_37 N_37 q_37 => ?_)
                obtain ⟨e_37, E_37⟩ := q_37
                replace E_37 := E_37.symm
                subst E_37
                replace e_37 := e_37.symm
                subst e_37
                refine m_if_ne (pc' := 173) (tgt := 175) C dX12_readLine_170 (by decide) rfl (fun c_170 => ?_) (fun c_170 => ?_)
                · have hs0 := of_decide_eq_true (ts_of c_170)
                  have hB1 := bl_yes hk9 jp hbl hs0
                  refine m_aload_n (pc' := 176) C dX12_readLine_175 rfl 2 rfl rfl ?_
                  refine r_get C hn j4 inW_X12 33 (by decide) ⟨rfl, rfl, rfl⟩ (gW_of tm_5_83) rfl dX12_readLine_176 rfl ?_
                  refine m_aload_n (pc' := 180) C dX12_readLine_179 rfl 2 rfl rfl ?_
                  refine r_get C hn j4 inW_X12 34 (by decide) ⟨rfl, rfl, rfl⟩ (gW_of tm_5_84) (r_at 34 rfl j6) dX12_readLine_180 rfl ?_
                  refine m_iload (pc' := 185) C dX12_readLine_183 5 rfl rfl ?_
                  refine m_iadd (pc' := 186) (v := nI (Fd.length + n)) C dX12_readLine_185 (nI_add _ _) rfl ?_
                  refine m_iload (pc' := 188) C dX12_readLine_186 1 rfl rfl ?_
                  refine m_if_eq (pc' := 191) (tgt := 234) C dX12_readLine_188 (by decide) rfl (fun c_188 => ?_) (fun c_188 => ?_)
                  · refine m_aload_n (pc' := 235) C dX12_readLine_234 rfl 2 rfl rfl ?_
                    refine r_get C hn j4 inW_X12 33 (by decide) ⟨rfl, rfl, rfl⟩ (gW_of tm_5_83) rfl dX12_readLine_235 rfl ?_
                    refine m_aload_n (pc' := 239) C dX12_readLine_238 rfl 2 rfl rfl ?_
                    refine r_get C hn j4 inW_X12 34 (by decide) ⟨rfl, rfl, rfl⟩ (gW_of tm_5_84) (r_at 34 rfl j6) dX12_readLine_239 rfl ?_
                    refine m_iload (pc' := 244) C dX12_readLine_242 5 rfl rfl ?_
                    refine m_iadd (pc' := 245) (v := nI (Fd.length + n)) C dX12_readLine_244 (nI_add _ _) rfl ?_
                    refine m_iald (pc' := 246) (v := nI (q (Fd.length + n))) C 62 (by omega) j7 (vp_in_nI (by omega) (by decide)) (by rw [nI_clamp (by omega)]) dX12_readLine_245 rfl ?_
                    refine m_iast (pc' := 247) (E' := .inl (cy 1, 2000, .inl (fun i => nI (va_up q (Fd.length + n) ((q (Fd.length + n))) i)))) C 62 (by omega) j7 (vp_in_nI (by omega) (by decide)) (by rw [nI_clamp (by omega), upd_nI]) dX12_readLine_246 rfl (fun M39 g_39 F_39 => ?_)
                    refine m_aload_n (pc' := 248) C dX12_readLine_247 rfl 2 rfl rfl ?_
                    refine m_dup (pc' := 249) C dX12_readLine_248 rfl rfl ?_
                    have ro_40 := j4.fr F_39 (by decide)
                    have ff35_41 : M39 135 = gh (.int (nI rd)) := (F_39 135 (by decide)).trans j5
                    refine r_get C hn ro_40 inW_X12 35 (by decide) ⟨rfl, rfl, rfl⟩ (gW_of tm_5_85) (r_at 35 rfl ff35_41) dX12_readLine_249 rfl ?_
                    refine m_iconst (pc' := 253) (v := nI 1) C dX12_readLine_252 (by decide) rfl ?_
                    refine m_iadd (pc' := 254) (v := nI (rd + 1)) C dX12_readLine_253 (nI_add _ _) rfl ?_
                    refine r_put (ty := .int) C hn hn2 ro_40 inW_X12 35 135 (by decide) rfl ⟨rfl, rfl, rfl, rfl⟩ (gW_of tm_5_85) (by decide +kernel) rfl rfl (fun _ => rfl) dX12_readLine_254 rfl (fun M42 go_42 g_42 F_42 => ?_)
                    refine m_iinc (pc' := 260) (v := nI (0 + 1)) (lv' := [(7, .int (nI (0 + 1))), (6, .int (nI 0)), (0, .ref (ad 52)), (1, .int (nI c)), (2, .int (nI g0)), (4, .int (nI n)), (5, .int (nI k))]) C dX12_readLine_257 (k := 0) rfl (nI_add _ _) (by decide) rfl rfl ?_
                    refine m_goto (tgt := 139) C dX12_readLine_260 (by decide) ?_
                    refine m_iload (pc' := 141) C dX12_readLine_139 0 rfl rfl ?_
                    refine m_iconst (pc' := 142) (v := nI 2) C dX12_readLine_141 (by decide) rfl ?_
                    refine m_icmp_ge (pc' := 145) (tgt := 263) C dX12_readLine_142 (by decide) rfl (fun c_142 => ?_) (fun c_142 => ?_)
                    · exact absurd c_142 (by decide)
                    · refine m_iload (pc' := 147) C dX12_readLine_145 1 rfl rfl ?_
                      refine m_if_eq (pc' := 150) (tgt := 164) C dX12_readLine_147 (by decide) rfl (fun c_147 => ?_) (fun c_147 => ?_)
                      · refine m_aload_n (pc' := 165) C dX12_readLine_164 rfl 2 rfl rfl ?_
                        refine m_bipush (pc' := 167) (v := nI 32) C dX12_readLine_165 (by decide) rfl ?_
                        have xoutR_44 := xoutR_38.fr F_39 (by decide)
                        have xoutR_45 := xoutR_44.fr F_42 (by decide)
                        refine m_callVi (pc' := 170) (As := [.int (nI 32)]) (rest := []) C (kX12_isNext hI hn hn2 go_42 xoutR_45 g_42 (ch := 32) (by omega) (by decide) (by decide)) (cwV 1 C.1.2.2.2.2 (goodV tm_6_132 tm_6_134 tp_78 tm_1_13 tm_6_135) rfl rfl rfl (by decide +kernel) ⟨by decide, by decide⟩) (by omega) go_42 rfl rfl rfl (Nat.le_of_ble_eq_true rfl) dX12_readLine_167 rfl ⟨by decide, by decide⟩ (fun x_43 N_43 q_43 => ?_)
                        obtain ⟨e_43, E_43⟩ := q_43
                        replace E_43 := E_43.symm
                        subst E_43
                        replace e_43 := e_43.symm
                        subst e_43
                        refine m_if_ne (pc' := 173) (tgt := 175) C dX12_readLine_170 (by decide) rfl (fun c_170 => ?_) (fun c_170 => ?_)
                        · have hs1 := of_decide_eq_true (ts_of c_170)
                          have hB2 := hB1.step hs1
                          refine m_aload_n (pc' := 176) C dX12_readLine_175 rfl 2 rfl rfl ?_
                          refine r_get C hn go_42 inW_X12 33 (by decide) ⟨rfl, rfl, rfl⟩ (gW_of tm_5_83) rfl dX12_readLine_176 rfl ?_
                          refine m_aload_n (pc' := 180) C dX12_readLine_179 rfl 2 rfl rfl ?_
                          have ff34_46 : M39 134 = gh (.int (nI Fd.length)) := (F_39 134 (by decide)).trans j6
                          have ff34_47 : M42 134 = gh (.int (nI Fd.length)) := (F_42 134 (by decide)).trans ff34_46
                          refine r_get C hn go_42 inW_X12 34 (by decide) ⟨rfl, rfl, rfl⟩ (gW_of tm_5_84) (r_at 34 rfl ff34_47) dX12_readLine_180 rfl ?_
                          refine m_iload (pc' := 185) C dX12_readLine_183 5 rfl rfl ?_
                          refine m_iadd (pc' := 186) (v := nI (Fd.length + n)) C dX12_readLine_185 (nI_add _ _) rfl ?_
                          refine m_iload (pc' := 188) C dX12_readLine_186 1 rfl rfl ?_
                          refine m_if_eq (pc' := 191) (tgt := 234) C dX12_readLine_188 (by decide) rfl (fun c_188 => ?_) (fun c_188 => ?_)
                          · refine m_aload_n (pc' := 235) C dX12_readLine_234 rfl 2 rfl rfl ?_
                            refine r_get C hn go_42 inW_X12 33 (by decide) ⟨rfl, rfl, rfl⟩ (gW_of tm_5_83) rfl dX12_readLine_235 rfl ?_
                            refine m_aload_n (pc' := 239) C dX12_readLine_238 rfl 2 rfl rfl ?_
                            refine r_get C hn go_42 inW_X12 34 (by decide) ⟨rfl, rfl, rfl⟩ (gW_of tm_5_84) (r_at 34 rfl ff34_47) dX12_readLine_239 rfl ?_
                            refine m_iload (pc' := 244) C dX12_readLine_242 5 rfl rfl ?_
                            refine m_iadd (pc' := 245) (v := nI (Fd.length + n)) C dX12_readLine_244 (nI_add _ _) rfl ?_
                            have f62_48 : M42 62 = .inl (cy 1, 2000, .inl (fun i => nI (va_up q (Fd.length + n) ((q (Fd.length + n))) i))) := (F_42 62 (by decide)).trans g_39
                            refine m_iald (pc' := 246) (v := nI ((va_up q (Fd.length + n) ((q (Fd.length + n)))) (Fd.length + n))) C 62 (by omega) f62_48 (vp_in_nI (by omega) (by decide)) (by rw [nI_clamp (by omega)]) dX12_readLine_245 rfl ?_
                            refine m_iast (pc' := 247) (E' := .inl (cy 1, 2000, .inl (fun i => nI (va_up (va_up q (Fd.length + n) ((q (Fd.length + n)))) (Fd.length + n) (((va_up q (Fd.length + n) ((q (Fd.length + n)))) (Fd.length + n))) i)))) C 62 (by omega) f62_48 (vp_in_nI (by omega) (by decide)) (by rw [nI_clamp (by omega), upd_nI]) dX12_readLine_246 rfl (fun M49 g_49 F_49 => ?_)
                            refine m_aload_n (pc' := 248) C dX12_readLine_247 rfl 2 rfl rfl ?_
                            refine m_dup (pc' := 249) C dX12_readLine_248 rfl rfl ?_
                            have ro_50 := go_42.fr F_49 (by decide)
                            have ff35_51 : M49 135 = gh (.int (nI (rd + 1))) := (F_49 135 (by decide)).trans g_42
                            refine r_get C hn ro_50 inW_X12 35 (by decide) ⟨rfl, rfl, rfl⟩ (gW_of tm_5_85) (r_at 35 rfl ff35_51) dX12_readLine_249 rfl ?_
                            refine m_iconst (pc' := 253) (v := nI 1) C dX12_readLine_252 (by decide) rfl ?_
                            refine m_iadd (pc' := 254) (v := nI ((rd + 1) + 1)) C dX12_readLine_253 (nI_add _ _) rfl ?_
                            refine r_put (ty := .int) C hn hn2 ro_50 inW_X12 35 135 (by decide) rfl ⟨rfl, rfl, rfl, rfl⟩ (gW_of tm_5_85) (by decide +kernel) rfl rfl (fun _ => rfl) dX12_readLine_254 rfl (fun M52 go_52 g_52 F_52 => ?_)
                            refine m_iinc (pc' := 260) (v := nI ((0 + 1) + 1)) (lv' := [(7, .int (nI ((0 + 1) + 1))), (6, .int (nI 0)), (0, .ref (ad 52)), (1, .int (nI c)), (2, .int (nI g0)), (4, .int (nI n)), (5, .int (nI k))]) C dX12_readLine_257 (k := 0) rfl (nI_add _ _) (by decide) rfl rfl ?_
                            refine m_goto (tgt := 139) C dX12_readLine_260 (by decide) ?_
                            refine m_iload (pc' := 141) C dX12_readLine_139 0 rfl rfl ?_
                            refine m_iconst (pc' := 142) (v := nI 2) C dX12_readLine_141 (by decide) rfl ?_
                            refine m_icmp_ge (pc' := 145) (tgt := 263) C dX12_readLine_142 (by decide) rfl (fun c_142 => ?_) (fun c_142 => ?_)
                            · refine m_iload (pc' := 265) C dX12_readLine_263 1 rfl rfl ?_
                              refine m_if_eq (pc' := 268) (tgt := 275) C dX12_readLine_265 (by decide) rfl (fun c_265 => ?_) (fun c_265 => ?_)
                              · refine m_iload (pc' := 277) C dX12_readLine_275 5 rfl rfl ?_
                                refine m_istore (pc' := 279) (lv' := [(4, .int (nI n)), (7, .int (nI ((0 + 1) + 1))), (6, .int (nI 0)), (0, .ref (ad 52)), (1, .int (nI c)), (2, .int (nI g0)), (5, .int (nI k))]) C dX12_readLine_277 (by decide) rfl rfl ?_
                                refine m_iload (pc' := 281) C dX12_readLine_279 6 rfl rfl ?_
                                refine m_iload_n (pc' := 282) C dX12_readLine_281 rfl 4 rfl rfl ?_
                                refine m_iload_n (pc' := 283) C dX12_readLine_282 rfl 5 rfl rfl ?_
                                refine m_callSi (pc' := 286) (As := [.int (nI k), .int (nI c), .int (nI g0)]) (rest := []) C (kX12_isGroupEnd hI (k := k) (c := c) (g0 := g0) hk9 hc32 hg32) (cwS 3 C.1.2.2.2.2 (goodS tm_6_114 tm_6_115 tm_1_13 tm_6_116) rfl rfl rfl (by decide +kernel) ⟨by decide, by decide⟩) rfl rfl (Nat.le_of_ble_eq_true rfl) dX12_readLine_283 rfl ⟨by decide, by decide⟩ (fun x_53 N_53 q_53 => ?_)
                                obtain ⟨e_53, E_53⟩ := q_53
                                replace E_53 := E_53.symm
                                subst E_53
                                replace e_53 := e_53.symm
                                subst e_53
                                refine m_if_eq (pc' := 289) (tgt := 310) C dX12_readLine_286 (by decide) rfl (fun c_286 => ?_) (fun c_286 => ?_)
                                · have hge9 := (bI_0 _).mp c_286
                                  refine m_iinc (pc' := 313) (v := nI (k + 1)) (lv' := [(5, .int (nI (k + 1))), (4, .int (nI n)), (7, .int (nI ((0 + 1) + 1))), (6, .int (nI 0)), (0, .ref (ad 52)), (1, .int (nI c)), (2, .int (nI g0))]) C dX12_readLine_310 (k := 6) rfl (nI_add _ _) (by decide) rfl rfl ?_
                                  refine m_goto (tgt := 100) C dX12_readLine_313 (by decide) ?_
                                  have ff34_54 : M49 134 = gh (.int (nI Fd.length)) := (F_49 134 (by decide)).trans ff34_47
                                  have ff34_55 : M52 134 = gh (.int (nI Fd.length)) := (F_52 134 (by decide)).trans ff34_54
                                  have f62_56 : M52 62 = .inl (cy 1, 2000, .inl (fun i => nI (va_up (va_up q (Fd.length + n) ((q (Fd.length + n)))) (Fd.length + n) (((va_up q (Fd.length + n) ((q (Fd.length + n)))) (Fd.length + n))) i))) := (F_52 62 (by decide)).trans g_49
                                  refine m_lv [4, 5, 6, 1, 0] rfl ?_
                                  exact ih1 (k + 1, n, ((rd + 1) + 1), L, M52) (⟨⟨by (try dsimp only); rw [egN_succ, hge9, if_neg (by decide)]; omega, h2L, Or.inr ⟨by (try dsimp only); omega, hB2⟩⟩, ⟨by (try dsimp only); omega, by (try dsimp only); omega⟩, go_52, g_52, ff34_55, isA.same (Nat.le_of_lt hcap) hq9 f62_56, j9, ((((j8.tr (F_39.sub (by decide))).tr (F_42.sub (by decide))).tr (F_49.sub (by decide))).tr (F_52.sub (by decide)))⟩) (by simp only; omega)
                                · have hge9 := ts_of c_286
                                  have hrdE3 : rd + 3 ≤ i0 + 10 + pwN c (gN c g0) := by have h9 := egN_succ c (gN c g0) k; rw [hge9, if_pos rfl] at h9; omega
                                  refine m_aload_n (pc' := 290) C dX12_readLine_289 rfl 3 rfl rfl ?_
                                  refine m_bipush (pc' := 292) (v := nI 32) C dX12_readLine_290 (by decide) rfl ?_
                                  have xoutR_58 := xoutR_45.fr F_49 (by decide)
                                  have xoutR_59 := xoutR_58.fr F_52 (by decide)
                                  refine m_callVi (pc' := 295) (As := [.int (nI 32)]) (rest := []) C (kX12_isNext hI hn hn2 go_52 xoutR_59 g_52 (ch := 32) (by omega) (by decide) (by decide)) (cwV 1 C.1.2.2.2.2 (goodV tm_6_132 tm_6_134 tp_78 tm_1_13 tm_6_135) rfl rfl rfl (by decide +kernel) ⟨by decide, by decide⟩) (by omega) go_52 rfl rfl rfl (Nat.le_of_ble_eq_true rfl) dX12_readLine_292 rfl ⟨by decide, by decide⟩ (fun x_57 N_57 q_57 => ?_)
                                  obtain ⟨e_57, E_57⟩ := q_57
                                  replace E_57 := E_57.symm
                                  subst E_57
                                  replace e_57 := e_57.symm
                                  subst e_57
                                  refine m_if_ne (pc' := 298) (tgt := 300) C dX12_readLine_295 (by decide) rfl (fun c_295 => ?_) (fun c_295 => ?_)
                                  · have hsp9 := of_decide_eq_true (ts_of c_295)
                                    have hB3 := hB2.step hsp9
                                    refine m_aload_n (pc' := 301) C dX12_readLine_300 rfl 3 rfl rfl ?_
                                    refine m_dup (pc' := 302) C dX12_readLine_301 rfl rfl ?_
                                    refine r_get C hn go_52 inW_X12 35 (by decide) ⟨rfl, rfl, rfl⟩ (gW_of tm_5_85) (r_at 35 rfl g_52) dX12_readLine_302 rfl ?_
                                    refine m_iconst (pc' := 306) (v := nI 1) C dX12_readLine_305 (by decide) rfl ?_
                                    refine m_iadd (pc' := 307) (v := nI (((rd + 1) + 1) + 1)) C dX12_readLine_306 (nI_add _ _) rfl ?_
                                    refine r_put (ty := .int) C hn hn2 go_52 inW_X12 35 135 (by decide) rfl ⟨rfl, rfl, rfl, rfl⟩ (gW_of tm_5_85) (by decide +kernel) rfl rfl (fun _ => rfl) dX12_readLine_307 rfl (fun M60 go_60 g_60 F_60 => ?_)
                                    refine m_iinc (pc' := 313) (v := nI (k + 1)) (lv' := [(5, .int (nI (k + 1))), (4, .int (nI n)), (7, .int (nI ((0 + 1) + 1))), (6, .int (nI 0)), (0, .ref (ad 52)), (1, .int (nI c)), (2, .int (nI g0))]) C dX12_readLine_310 (k := 6) rfl (nI_add _ _) (by decide) rfl rfl ?_
                                    refine m_goto (tgt := 100) C dX12_readLine_313 (by decide) ?_
                                    have ff34_61 : M49 134 = gh (.int (nI Fd.length)) := (F_49 134 (by decide)).trans ff34_47
                                    have ff34_62 : M52 134 = gh (.int (nI Fd.length)) := (F_52 134 (by decide)).trans ff34_61
                                    have ff34_63 : M60 134 = gh (.int (nI Fd.length)) := (F_60 134 (by decide)).trans ff34_62
                                    have f62_64 : M52 62 = .inl (cy 1, 2000, .inl (fun i => nI (va_up (va_up q (Fd.length + n) ((q (Fd.length + n)))) (Fd.length + n) (((va_up q (Fd.length + n) ((q (Fd.length + n)))) (Fd.length + n))) i))) := (F_52 62 (by decide)).trans g_49
                                    have f62_65 : M60 62 = .inl (cy 1, 2000, .inl (fun i => nI (va_up (va_up q (Fd.length + n) ((q (Fd.length + n)))) (Fd.length + n) (((va_up q (Fd.length + n) ((q (Fd.length + n)))) (Fd.length + n))) i))) := (F_60 62 (by decide)).trans f62_64
                                    refine m_lv [4, 5, 6, 1, 0] rfl ?_
                                    exact ih1 (k + 1, n, (((rd + 1) + 1) + 1), L, M60) (⟨⟨by (try dsimp only); rw [egN_succ, hge9, if_pos rfl]; omega, h2L, Or.inr ⟨by (try dsimp only); omega, hB3⟩⟩, ⟨by (try dsimp only); omega, by (try dsimp only); omega⟩, go_60, g_60, ff34_63, isA.same (Nat.le_of_lt hcap) hq9 f62_65, j9, (((((j8.tr (F_39.sub (by decide))).tr (F_42.sub (by decide))).tr (F_49.sub (by decide))).tr (F_52.sub (by decide))).tr (F_60.sub (by decide)))⟩) (by simp only; omega)
                                  · have hs := of_decide_eq_false ((bI_0 _).mp (Classical.not_not.mp c_295))
                                    have hRL : (rLine P c (gN c g0) Fd.length i0) = (false, rd + 1 + 1, []) := rl_bl hH hB2 (by omega) hs
                                    refine m_iconst (pc' := 299) (v := bI false) C dX12_readLine_298 (by decide) rfl ?_
                                    refine m_iret C hrt0 hlk0 (nar_z _) dX12_readLine_299 ?_
                                    have ff34_66 : M49 134 = gh (.int (nI Fd.length)) := (F_49 134 (by decide)).trans ff34_47
                                    have ff34_67 : M52 134 = gh (.int (nI Fd.length)) := (F_52 134 (by decide)).trans ff34_66
                                    have f62_68 : M52 62 = .inl (cy 1, 2000, .inl (fun i => nI (va_up (va_up q (Fd.length + n) ((q (Fd.length + n)))) (Fd.length + n) (((va_up q (Fd.length + n) ((q (Fd.length + n)))) (Fd.length + n))) i))) := (F_52 62 (by decide)).trans g_49
                                    rw [hRL]
                                    dsimp only
                                    rw [List.append_nil]
                                    exact ⟨rfl, go_52, g_52, ⟨hfd.1, ff34_67, ⟨by omega, _, f62_68, fun i hi => by simp only [va_up_ne _ _ (show i ≠ Fd.length + n by omega)]; rw [hq9 i (by rw [hFL]; omega), List.getD_eq_getElem?_getD, List.getD_eq_getElem?_getD, List.getElem?_append_left hi]⟩⟩, (((((j8.sub (by decide)).tr (F_39.sub (by decide))).tr (F_42.sub (by decide))).tr (F_49.sub (by decide))).tr (F_52.sub (by decide)))⟩
                              · exact absurd (by decide) c_265
                            · exact absurd (by decide) c_142
                          · exact absurd (by decide) c_188
                        · have hs := of_decide_eq_false ((bI_0 _).mp (Classical.not_not.mp c_170))
                          have hRL : (rLine P c (gN c g0) Fd.length i0) = (false, (rd + 1), []) := rl_bl hH hB1 (by omega) hs
                          refine m_iconst (pc' := 174) (v := bI false) C dX12_readLine_173 (by decide) rfl ?_
                          refine m_iret C hrt0 hlk0 (nar_z _) dX12_readLine_174 ?_
                          have ff34_69 : M39 134 = gh (.int (nI Fd.length)) := (F_39 134 (by decide)).trans j6
                          have ff34_70 : M42 134 = gh (.int (nI Fd.length)) := (F_42 134 (by decide)).trans ff34_69
                          have f62_71 : M42 62 = .inl (cy 1, 2000, .inl (fun i => nI (va_up q (Fd.length + n) ((q (Fd.length + n))) i))) := (F_42 62 (by decide)).trans g_39
                          rw [hRL]
                          dsimp only
                          rw [List.append_nil]
                          exact ⟨rfl, go_42, g_42, ⟨hfd.1, ff34_70, ⟨by omega, _, f62_71, fun i hi => by simp only [va_up_ne _ _ (show i ≠ Fd.length + n by omega)]; rw [hq9 i (by rw [hFL]; omega), List.getD_eq_getElem?_getD, List.getD_eq_getElem?_getD, List.getElem?_append_left hi]⟩⟩, (((j8.sub (by decide)).tr (F_39.sub (by decide))).tr (F_42.sub (by decide)))⟩
                      · exact absurd (by decide) c_147
                  · exact absurd (by decide) c_188
                · have hs := of_decide_eq_false ((bI_0 _).mp (Classical.not_not.mp c_170))
                  have hRL : (rLine P c (gN c g0) Fd.length i0) = (false, rd, []) := bl_no hH hk9 jp hbl (by omega) hs
                  refine m_iconst (pc' := 174) (v := bI false) C dX12_readLine_173 (by decide) rfl ?_
                  refine m_iret C hrt0 hlk0 (nar_z _) dX12_readLine_174 ?_
                  rw [hRL]
                  dsimp only
                  rw [List.append_nil]
                  exact ⟨rfl, j4, j5, ⟨hfd.1, j6, ⟨by omega, _, j7, fun i hi => by rw [hq9 i (by rw [hFL]; omega), List.getD_eq_getElem?_getD, List.getD_eq_getElem?_getD, List.getElem?_append_left hi]⟩⟩, (j8.sub (by decide))⟩
              · exact absurd (by decide) c_147
          refine m_cut (σ := Unit) (fun a => n = k ∧ ¬ (0 < k ∧ P.getD rd 0 = 32)) (fun a => Mm) 129 (fun a => [(0, .ref (ad 52)), (1, .int (nI c)), (2, .int (nI g0)), (4, .int (nI n)), (5, .int (nI k))]) (fun a => []) ?_ (fun J129 => ?_)
          · rintro zz hj
            try dsimp only at hj ⊢
            obtain ⟨hnk, hns⟩ := hj
            have hPS : PS0 P c (gN c g0) i0 = rPs P c (gN c g0) (c - k) k rd L := h3P.elim (fun z => z.2) (fun z => absurd z.1 (by omega))
            refine m_iconst (pc' := 130) (v := nI 1) C dX12_readLine_129 (by decide) rfl ?_
            refine m_goto (tgt := 134) C dX12_readLine_130 (by decide) ?_
            refine m_istore (pc' := 136) (lv' := [(6, .int (nI 1)), (0, .ref (ad 52)), (1, .int (nI c)), (2, .int (nI g0)), (4, .int (nI n)), (5, .int (nI k))]) C dX12_readLine_134 (by decide) rfl rfl ?_
            refine m_iconst (pc' := 137) (v := nI 0) C dX12_readLine_136 (by decide) rfl ?_
            refine m_istore (pc' := 139) (lv' := [(7, .int (nI 0)), (6, .int (nI 1)), (0, .ref (ad 52)), (1, .int (nI c)), (2, .int (nI g0)), (4, .int (nI n)), (5, .int (nI k))]) C dX12_readLine_137 (by decide) rfl rfl ?_
            refine m_iload (pc' := 141) C dX12_readLine_139 0 rfl rfl ?_
            refine m_iconst (pc' := 142) (v := nI 2) C dX12_readLine_141 (by decide) rfl ?_
            refine m_icmp_ge (pc' := 145) (tgt := 263) C dX12_readLine_142 (by decide) rfl (fun c_142 => ?_) (fun c_142 => ?_)
            · exact absurd c_142 (by decide)
            · refine m_iload (pc' := 147) C dX12_readLine_145 1 rfl rfl ?_
              refine m_if_eq (pc' := 150) (tgt := 164) C dX12_readLine_147 (by decide) rfl (fun c_147 => ?_) (fun c_147 => ?_)
              · exact absurd c_147 (by decide)
              · refine m_aload_n (pc' := 151) C dX12_readLine_150 rfl 2 rfl rfl ?_
                refine m_aload_n (pc' := 152) C dX12_readLine_151 rfl 2 rfl rfl ?_
                refine r_get C hn j4 inW_X12 35 (by decide) ⟨rfl, rfl, rfl⟩ (gW_of tm_5_85) (r_at 35 rfl j5) dX12_readLine_152 rfl ?_
                have xoutR_73 := hout.fr j8 (by decide)
                refine m_callVi (pc' := 158) (As := [.int (nI rd)]) (rest := []) C (kX12_hexAt hI hn hn2 j4 xoutR_73 (k := rd) (by omega)) (cwV 1 C.1.2.2.2.2 (goodV tm_6_128 tm_6_130 tp_77 tm_1_13 tm_6_131) rfl rfl rfl (by decide +kernel) ⟨by decide, by decide⟩) (by omega) j4 rfl rfl rfl (Nat.le_of_ble_eq_true rfl) dX12_readLine_155 rfl ⟨by decide, by decide⟩ (fun x_72 N_72 q_72 => ?_)
                obtain ⟨e_72, E_72⟩ := q_72
                replace E_72 := E_72.symm
                subst E_72
                replace e_72 := e_72.symm
                subst e_72
                refine m_if_ge (pc' := 161) (tgt := 175) C dX12_readLine_158 (by decide) rfl (fun c_158 => ?_) (fun c_158 => ?_)
                · have hx0 := dI_ge0.mp c_158
                  refine m_aload_n (pc' := 176) C dX12_readLine_175 rfl 2 rfl rfl ?_
                  refine r_get C hn j4 inW_X12 33 (by decide) ⟨rfl, rfl, rfl⟩ (gW_of tm_5_83) rfl dX12_readLine_176 rfl ?_
                  refine m_aload_n (pc' := 180) C dX12_readLine_179 rfl 2 rfl rfl ?_
                  refine r_get C hn j4 inW_X12 34 (by decide) ⟨rfl, rfl, rfl⟩ (gW_of tm_5_84) (r_at 34 rfl j6) dX12_readLine_180 rfl ?_
                  refine m_iload (pc' := 185) C dX12_readLine_183 5 rfl rfl ?_
                  refine m_iadd (pc' := 186) (v := nI (Fd.length + n)) C dX12_readLine_185 (nI_add _ _) rfl ?_
                  refine m_iload (pc' := 188) C dX12_readLine_186 1 rfl rfl ?_
                  refine m_if_eq (pc' := 191) (tgt := 234) C dX12_readLine_188 (by decide) rfl (fun c_188 => ?_) (fun c_188 => ?_)
                  · exact absurd c_188 (by decide)
                  · refine m_iload (pc' := 193) C dX12_readLine_191 0 rfl rfl ?_
                    refine m_if_ne (pc' := 196) (tgt := 210) C dX12_readLine_193 (by decide) rfl (fun c_193 => ?_) (fun c_193 => ?_)
                    · exact absurd (by decide) c_193
                    · refine m_bipush (pc' := 198) (v := nI 16) C dX12_readLine_196 (by decide) rfl ?_
                      refine m_aload_n (pc' := 199) C dX12_readLine_198 rfl 2 rfl rfl ?_
                      refine m_aload_n (pc' := 200) C dX12_readLine_199 rfl 2 rfl rfl ?_
                      refine r_get C hn j4 inW_X12 35 (by decide) ⟨rfl, rfl, rfl⟩ (gW_of tm_5_85) (r_at 35 rfl j5) dX12_readLine_200 rfl ?_
                      refine m_callVi (pc' := 206) (As := [.int (nI rd)]) (rest := [.int (nI 16), .int (nI (Fd.length + n)), .ref (ad 62)]) C (kX12_hexAt hI hn hn2 j4 xoutR_73 (k := rd) (by omega)) (cwV 1 C.1.2.2.2.2 (goodV tm_6_128 tm_6_130 tp_77 tm_1_13 tm_6_131) rfl rfl rfl (by decide +kernel) ⟨by decide, by decide⟩) (by omega) j4 rfl rfl rfl (Nat.le_of_ble_eq_true rfl) dX12_readLine_203 rfl ⟨by decide, by decide⟩ (fun x_74 N_74 q_74 => ?_)
                      obtain ⟨e_74, E_74⟩ := q_74
                      replace E_74 := E_74.symm
                      subst E_74
                      replace e_74 : x_74 = nI (dvN (P.getD rd 0)) := e_74.trans (dI_v hx0)
                      replace e_74 := e_74.symm
                      subst e_74
                      refine m_imul (pc' := 207) (v := nI (16 * (dvN (P.getD rd 0)))) C dX12_readLine_206 (pk_mul _ _) rfl ?_
                      refine m_goto (tgt := 246) C dX12_readLine_207 (by decide) ?_
                      refine m_iast (pc' := 247) (E' := .inl (cy 1, 2000, .inl (fun i => nI (va_up q (Fd.length + n) ((16 * (dvN (P.getD rd 0)))) i)))) C 62 (by omega) j7 (vp_in_nI (by omega) (by decide)) (by rw [nI_clamp (by omega), upd_nI]) dX12_readLine_246 rfl (fun M75 g_75 F_75 => ?_)
                      refine m_aload_n (pc' := 248) C dX12_readLine_247 rfl 2 rfl rfl ?_
                      refine m_dup (pc' := 249) C dX12_readLine_248 rfl rfl ?_
                      have ro_76 := j4.fr F_75 (by decide)
                      have ff35_77 : M75 135 = gh (.int (nI rd)) := (F_75 135 (by decide)).trans j5
                      refine r_get C hn ro_76 inW_X12 35 (by decide) ⟨rfl, rfl, rfl⟩ (gW_of tm_5_85) (r_at 35 rfl ff35_77) dX12_readLine_249 rfl ?_
                      refine m_iconst (pc' := 253) (v := nI 1) C dX12_readLine_252 (by decide) rfl ?_
                      refine m_iadd (pc' := 254) (v := nI (rd + 1)) C dX12_readLine_253 (nI_add _ _) rfl ?_
                      refine r_put (ty := .int) C hn hn2 ro_76 inW_X12 35 135 (by decide) rfl ⟨rfl, rfl, rfl, rfl⟩ (gW_of tm_5_85) (by decide +kernel) rfl rfl (fun _ => rfl) dX12_readLine_254 rfl (fun M78 go_78 g_78 F_78 => ?_)
                      refine m_iinc (pc' := 260) (v := nI (0 + 1)) (lv' := [(7, .int (nI (0 + 1))), (6, .int (nI 1)), (0, .ref (ad 52)), (1, .int (nI c)), (2, .int (nI g0)), (4, .int (nI n)), (5, .int (nI k))]) C dX12_readLine_257 (k := 0) rfl (nI_add _ _) (by decide) rfl rfl ?_
                      refine m_goto (tgt := 139) C dX12_readLine_260 (by decide) ?_
                      refine m_iload (pc' := 141) C dX12_readLine_139 0 rfl rfl ?_
                      refine m_iconst (pc' := 142) (v := nI 2) C dX12_readLine_141 (by decide) rfl ?_
                      refine m_icmp_ge (pc' := 145) (tgt := 263) C dX12_readLine_142 (by decide) rfl (fun c_142 => ?_) (fun c_142 => ?_)
                      · exact absurd c_142 (by decide)
                      · refine m_iload (pc' := 147) C dX12_readLine_145 1 rfl rfl ?_
                        refine m_if_eq (pc' := 150) (tgt := 164) C dX12_readLine_147 (by decide) rfl (fun c_147 => ?_) (fun c_147 => ?_)
                        · exact absurd c_147 (by decide)
                        · refine m_aload_n (pc' := 151) C dX12_readLine_150 rfl 2 rfl rfl ?_
                          refine m_aload_n (pc' := 152) C dX12_readLine_151 rfl 2 rfl rfl ?_
                          refine r_get C hn go_78 inW_X12 35 (by decide) ⟨rfl, rfl, rfl⟩ (gW_of tm_5_85) (r_at 35 rfl g_78) dX12_readLine_152 rfl ?_
                          have xoutR_80 := xoutR_73.fr F_75 (by decide)
                          have xoutR_81 := xoutR_80.fr F_78 (by decide)
                          refine m_callVi (pc' := 158) (As := [.int (nI (rd + 1))]) (rest := []) C (kX12_hexAt hI hn hn2 go_78 xoutR_81 (k := (rd + 1)) (by omega)) (cwV 1 C.1.2.2.2.2 (goodV tm_6_128 tm_6_130 tp_77 tm_1_13 tm_6_131) rfl rfl rfl (by decide +kernel) ⟨by decide, by decide⟩) (by omega) go_78 rfl rfl rfl (Nat.le_of_ble_eq_true rfl) dX12_readLine_155 rfl ⟨by decide, by decide⟩ (fun x_79 N_79 q_79 => ?_)
                          obtain ⟨e_79, E_79⟩ := q_79
                          replace E_79 := E_79.symm
                          subst E_79
                          replace e_79 := e_79.symm
                          subst e_79
                          refine m_if_ge (pc' := 161) (tgt := 175) C dX12_readLine_158 (by decide) rfl (fun c_158 => ?_) (fun c_158 => ?_)
                          · have hx1 := dI_ge0.mp c_158
                            refine m_aload_n (pc' := 176) C dX12_readLine_175 rfl 2 rfl rfl ?_
                            refine r_get C hn go_78 inW_X12 33 (by decide) ⟨rfl, rfl, rfl⟩ (gW_of tm_5_83) rfl dX12_readLine_176 rfl ?_
                            refine m_aload_n (pc' := 180) C dX12_readLine_179 rfl 2 rfl rfl ?_
                            have ff34_82 : M75 134 = gh (.int (nI Fd.length)) := (F_75 134 (by decide)).trans j6
                            have ff34_83 : M78 134 = gh (.int (nI Fd.length)) := (F_78 134 (by decide)).trans ff34_82
                            refine r_get C hn go_78 inW_X12 34 (by decide) ⟨rfl, rfl, rfl⟩ (gW_of tm_5_84) (r_at 34 rfl ff34_83) dX12_readLine_180 rfl ?_
                            refine m_iload (pc' := 185) C dX12_readLine_183 5 rfl rfl ?_
                            refine m_iadd (pc' := 186) (v := nI (Fd.length + n)) C dX12_readLine_185 (nI_add _ _) rfl ?_
                            refine m_iload (pc' := 188) C dX12_readLine_186 1 rfl rfl ?_
                            refine m_if_eq (pc' := 191) (tgt := 234) C dX12_readLine_188 (by decide) rfl (fun c_188 => ?_) (fun c_188 => ?_)
                            · exact absurd c_188 (by decide)
                            · refine m_iload (pc' := 193) C dX12_readLine_191 0 rfl rfl ?_
                              refine m_if_ne (pc' := 196) (tgt := 210) C dX12_readLine_193 (by decide) rfl (fun c_193 => ?_) (fun c_193 => ?_)
                              · refine m_aload_n (pc' := 211) C dX12_readLine_210 rfl 2 rfl rfl ?_
                                refine r_get C hn go_78 inW_X12 33 (by decide) ⟨rfl, rfl, rfl⟩ (gW_of tm_5_83) rfl dX12_readLine_211 rfl ?_
                                refine m_aload_n (pc' := 215) C dX12_readLine_214 rfl 2 rfl rfl ?_
                                refine r_get C hn go_78 inW_X12 34 (by decide) ⟨rfl, rfl, rfl⟩ (gW_of tm_5_84) (r_at 34 rfl ff34_83) dX12_readLine_215 rfl ?_
                                refine m_iload (pc' := 220) C dX12_readLine_218 5 rfl rfl ?_
                                refine m_iadd (pc' := 221) (v := nI (Fd.length + n)) C dX12_readLine_220 (nI_add _ _) rfl ?_
                                have f62_84 : M78 62 = .inl (cy 1, 2000, .inl (fun i => nI (va_up q (Fd.length + n) ((16 * (dvN (P.getD rd 0)))) i))) := (F_78 62 (by decide)).trans g_75
                                refine m_iald (pc' := 222) (v := nI ((va_up q (Fd.length + n) ((16 * (dvN (P.getD rd 0))))) (Fd.length + n))) C 62 (by omega) f62_84 (vp_in_nI (by omega) (by decide)) (by rw [nI_clamp (by omega)]) dX12_readLine_221 rfl ?_
                                refine m_aload_n (pc' := 223) C dX12_readLine_222 rfl 2 rfl rfl ?_
                                refine m_aload_n (pc' := 224) C dX12_readLine_223 rfl 2 rfl rfl ?_
                                refine r_get C hn go_78 inW_X12 35 (by decide) ⟨rfl, rfl, rfl⟩ (gW_of tm_5_85) (r_at 35 rfl g_78) dX12_readLine_224 rfl ?_
                                refine m_callVi (pc' := 230) (As := [.int (nI (rd + 1))]) (rest := [.int (nI ((va_up q (Fd.length + n) ((16 * (dvN (P.getD rd 0))))) (Fd.length + n))), .int (nI (Fd.length + n)), .ref (ad 62)]) C (kX12_hexAt hI hn hn2 go_78 xoutR_81 (k := (rd + 1)) (by omega)) (cwV 1 C.1.2.2.2.2 (goodV tm_6_128 tm_6_130 tp_77 tm_1_13 tm_6_131) rfl rfl rfl (by decide +kernel) ⟨by decide, by decide⟩) (by omega) go_78 rfl rfl rfl (Nat.le_of_ble_eq_true rfl) dX12_readLine_227 rfl ⟨by decide, by decide⟩ (fun x_85 N_85 q_85 => ?_)
                                obtain ⟨e_85, E_85⟩ := q_85
                                replace E_85 := E_85.symm
                                subst E_85
                                replace e_85 : x_85 = nI (dvN (P.getD (rd + 1) 0)) := e_85.trans (dI_v hx1)
                                replace e_85 := e_85.symm
                                subst e_85
                                refine m_iadd (pc' := 231) (v := nI (((va_up q (Fd.length + n) ((16 * (dvN (P.getD rd 0))))) (Fd.length + n)) + (dvN (P.getD (rd + 1) 0)))) C dX12_readLine_230 (nI_add _ _) rfl ?_
                                refine m_goto (tgt := 246) C dX12_readLine_231 (by decide) ?_
                                refine m_iast (pc' := 247) (E' := .inl (cy 1, 2000, .inl (fun i => nI (va_up (va_up q (Fd.length + n) ((16 * (dvN (P.getD rd 0))))) (Fd.length + n) ((((va_up q (Fd.length + n) ((16 * (dvN (P.getD rd 0))))) (Fd.length + n)) + (dvN (P.getD (rd + 1) 0)))) i)))) C 62 (by omega) f62_84 (vp_in_nI (by omega) (by decide)) (by rw [nI_clamp (by omega), upd_nI]) dX12_readLine_246 rfl (fun M86 g_86 F_86 => ?_)
                                refine m_aload_n (pc' := 248) C dX12_readLine_247 rfl 2 rfl rfl ?_
                                refine m_dup (pc' := 249) C dX12_readLine_248 rfl rfl ?_
                                have ro_87 := go_78.fr F_86 (by decide)
                                have ff35_88 : M86 135 = gh (.int (nI (rd + 1))) := (F_86 135 (by decide)).trans g_78
                                refine r_get C hn ro_87 inW_X12 35 (by decide) ⟨rfl, rfl, rfl⟩ (gW_of tm_5_85) (r_at 35 rfl ff35_88) dX12_readLine_249 rfl ?_
                                refine m_iconst (pc' := 253) (v := nI 1) C dX12_readLine_252 (by decide) rfl ?_
                                refine m_iadd (pc' := 254) (v := nI ((rd + 1) + 1)) C dX12_readLine_253 (nI_add _ _) rfl ?_
                                refine r_put (ty := .int) C hn hn2 ro_87 inW_X12 35 135 (by decide) rfl ⟨rfl, rfl, rfl, rfl⟩ (gW_of tm_5_85) (by decide +kernel) rfl rfl (fun _ => rfl) dX12_readLine_254 rfl (fun M89 go_89 g_89 F_89 => ?_)
                                refine m_iinc (pc' := 260) (v := nI ((0 + 1) + 1)) (lv' := [(7, .int (nI ((0 + 1) + 1))), (6, .int (nI 1)), (0, .ref (ad 52)), (1, .int (nI c)), (2, .int (nI g0)), (4, .int (nI n)), (5, .int (nI k))]) C dX12_readLine_257 (k := 0) rfl (nI_add _ _) (by decide) rfl rfl ?_
                                refine m_goto (tgt := 139) C dX12_readLine_260 (by decide) ?_
                                refine m_iload (pc' := 141) C dX12_readLine_139 0 rfl rfl ?_
                                refine m_iconst (pc' := 142) (v := nI 2) C dX12_readLine_141 (by decide) rfl ?_
                                refine m_icmp_ge (pc' := 145) (tgt := 263) C dX12_readLine_142 (by decide) rfl (fun c_142 => ?_) (fun c_142 => ?_)
                                · refine m_iload (pc' := 265) C dX12_readLine_263 1 rfl rfl ?_
                                  refine m_if_eq (pc' := 268) (tgt := 275) C dX12_readLine_265 (by decide) rfl (fun c_265 => ?_) (fun c_265 => ?_)
                                  · exact absurd c_265 (by decide)
                                  · refine m_iload (pc' := 270) C dX12_readLine_268 5 rfl rfl ?_
                                    refine m_iconst (pc' := 271) (v := nI 1) C dX12_readLine_270 (by decide) rfl ?_
                                    refine m_iadd (pc' := 272) (v := nI (n + 1)) C dX12_readLine_271 (nI_add _ _) rfl ?_
                                    refine m_goto (tgt := 277) C dX12_readLine_272 (by decide) ?_
                                    refine m_istore (pc' := 279) (lv' := [(4, .int (nI (n + 1))), (7, .int (nI ((0 + 1) + 1))), (6, .int (nI 1)), (0, .ref (ad 52)), (1, .int (nI c)), (2, .int (nI g0)), (5, .int (nI k))]) C dX12_readLine_277 (by decide) rfl rfl ?_
                                    refine m_iload (pc' := 281) C dX12_readLine_279 6 rfl rfl ?_
                                    refine m_iload_n (pc' := 282) C dX12_readLine_281 rfl 4 rfl rfl ?_
                                    refine m_iload_n (pc' := 283) C dX12_readLine_282 rfl 5 rfl rfl ?_
                                    refine m_callSi (pc' := 286) (As := [.int (nI k), .int (nI c), .int (nI g0)]) (rest := []) C (kX12_isGroupEnd hI (k := k) (c := c) (g0 := g0) hk9 hc32 hg32) (cwS 3 C.1.2.2.2.2 (goodS tm_6_114 tm_6_115 tm_1_13 tm_6_116) rfl rfl rfl (by decide +kernel) ⟨by decide, by decide⟩) rfl rfl (Nat.le_of_ble_eq_true rfl) dX12_readLine_283 rfl ⟨by decide, by decide⟩ (fun x_90 N_90 q_90 => ?_)
                                    obtain ⟨e_90, E_90⟩ := q_90
                                    replace E_90 := E_90.symm
                                    subst E_90
                                    replace e_90 := e_90.symm
                                    subst e_90
                                    refine m_if_eq (pc' := 289) (tgt := 310) C dX12_readLine_286 (by decide) rfl (fun c_286 => ?_) (fun c_286 => ?_)
                                    · have hge9 := (bI_0 _).mp c_286
                                      refine m_iinc (pc' := 313) (v := nI (k + 1)) (lv' := [(5, .int (nI (k + 1))), (4, .int (nI (n + 1))), (7, .int (nI ((0 + 1) + 1))), (6, .int (nI 1)), (0, .ref (ad 52)), (1, .int (nI c)), (2, .int (nI g0))]) C dX12_readLine_310 (k := 6) rfl (nI_add _ _) (by decide) rfl rfl ?_
                                      refine m_goto (tgt := 100) C dX12_readLine_313 (by decide) ?_
                                      have ff34_91 : M86 134 = gh (.int (nI Fd.length)) := (F_86 134 (by decide)).trans ff34_83
                                      have ff34_92 : M89 134 = gh (.int (nI Fd.length)) := (F_89 134 (by decide)).trans ff34_91
                                      have f62_93 : M89 62 = .inl (cy 1, 2000, .inl (fun i => nI (va_up (va_up q (Fd.length + n) ((16 * (dvN (P.getD rd 0))))) (Fd.length + n) ((((va_up q (Fd.length + n) ((16 * (dvN (P.getD rd 0))))) (Fd.length + n)) + (dvN (P.getD (rd + 1) 0)))) i))) := (F_89 62 (by decide)).trans g_86
                                      refine m_lv [4, 5, 6, 1, 0] rfl ?_
                                      exact ih1 (k + 1, n + 1, ((rd + 1) + 1), L ++ [rBy P rd], M89) (⟨⟨by (try dsimp only); rw [egN_succ, hge9, if_neg (by decide)]; omega, by (try dsimp only); rw [List.length_append, List.length_singleton]; omega, Or.inl ⟨by (try dsimp only); omega, by (try dsimp only); rw [ps_3 hk9 hPS hns hx0 hx1, if_pos hge9]⟩⟩, ⟨by (try dsimp only); omega, by (try dsimp only); omega⟩, go_89, g_89, ff34_92, by (try dsimp only); rw [← List.append_assoc]; exact isA.push2 (x := 16 * dvN (P.getD rd 0)) (y := dvN (P.getD (rd + 1) 0)) (z := rBy P rd) hcap hq9 (by unfold rBy; omega) (by rw [hFL]; exact f62_93), by intro x hx; rcases List.mem_append.mp hx with z | z; exact j9 x z; rw [List.mem_singleton.mp z]; exact rBy_lt hx0 hx1, ((((j8.tr (F_75.sub (by decide))).tr (F_78.sub (by decide))).tr (F_86.sub (by decide))).tr (F_89.sub (by decide)))⟩) (by simp only; omega)
                                    · have hge9 := ts_of c_286
                                      have hrdE3 : rd + 3 ≤ i0 + 10 + pwN c (gN c g0) := by have h9 := egN_succ c (gN c g0) k; rw [hge9, if_pos rfl] at h9; omega
                                      refine m_aload_n (pc' := 290) C dX12_readLine_289 rfl 3 rfl rfl ?_
                                      refine m_bipush (pc' := 292) (v := nI 32) C dX12_readLine_290 (by decide) rfl ?_
                                      have xoutR_95 := xoutR_81.fr F_86 (by decide)
                                      have xoutR_96 := xoutR_95.fr F_89 (by decide)
                                      refine m_callVi (pc' := 295) (As := [.int (nI 32)]) (rest := []) C (kX12_isNext hI hn hn2 go_89 xoutR_96 g_89 (ch := 32) (by omega) (by decide) (by decide)) (cwV 1 C.1.2.2.2.2 (goodV tm_6_132 tm_6_134 tp_78 tm_1_13 tm_6_135) rfl rfl rfl (by decide +kernel) ⟨by decide, by decide⟩) (by omega) go_89 rfl rfl rfl (Nat.le_of_ble_eq_true rfl) dX12_readLine_292 rfl ⟨by decide, by decide⟩ (fun x_94 N_94 q_94 => ?_)
                                      obtain ⟨e_94, E_94⟩ := q_94
                                      replace E_94 := E_94.symm
                                      subst E_94
                                      replace e_94 := e_94.symm
                                      subst e_94
                                      refine m_if_ne (pc' := 298) (tgt := 300) C dX12_readLine_295 (by decide) rfl (fun c_295 => ?_) (fun c_295 => ?_)
                                      · have hsp9 := of_decide_eq_true (ts_of c_295)
                                        refine m_aload_n (pc' := 301) C dX12_readLine_300 rfl 3 rfl rfl ?_
                                        refine m_dup (pc' := 302) C dX12_readLine_301 rfl rfl ?_
                                        refine r_get C hn go_89 inW_X12 35 (by decide) ⟨rfl, rfl, rfl⟩ (gW_of tm_5_85) (r_at 35 rfl g_89) dX12_readLine_302 rfl ?_
                                        refine m_iconst (pc' := 306) (v := nI 1) C dX12_readLine_305 (by decide) rfl ?_
                                        refine m_iadd (pc' := 307) (v := nI (((rd + 1) + 1) + 1)) C dX12_readLine_306 (nI_add _ _) rfl ?_
                                        refine r_put (ty := .int) C hn hn2 go_89 inW_X12 35 135 (by decide) rfl ⟨rfl, rfl, rfl, rfl⟩ (gW_of tm_5_85) (by decide +kernel) rfl rfl (fun _ => rfl) dX12_readLine_307 rfl (fun M97 go_97 g_97 F_97 => ?_)
                                        refine m_iinc (pc' := 313) (v := nI (k + 1)) (lv' := [(5, .int (nI (k + 1))), (4, .int (nI (n + 1))), (7, .int (nI ((0 + 1) + 1))), (6, .int (nI 1)), (0, .ref (ad 52)), (1, .int (nI c)), (2, .int (nI g0))]) C dX12_readLine_310 (k := 6) rfl (nI_add _ _) (by decide) rfl rfl ?_
                                        refine m_goto (tgt := 100) C dX12_readLine_313 (by decide) ?_
                                        have ff34_98 : M86 134 = gh (.int (nI Fd.length)) := (F_86 134 (by decide)).trans ff34_83
                                        have ff34_99 : M89 134 = gh (.int (nI Fd.length)) := (F_89 134 (by decide)).trans ff34_98
                                        have ff34_100 : M97 134 = gh (.int (nI Fd.length)) := (F_97 134 (by decide)).trans ff34_99
                                        have f62_101 : M89 62 = .inl (cy 1, 2000, .inl (fun i => nI (va_up (va_up q (Fd.length + n) ((16 * (dvN (P.getD rd 0))))) (Fd.length + n) ((((va_up q (Fd.length + n) ((16 * (dvN (P.getD rd 0))))) (Fd.length + n)) + (dvN (P.getD (rd + 1) 0)))) i))) := (F_89 62 (by decide)).trans g_86
                                        have f62_102 : M97 62 = .inl (cy 1, 2000, .inl (fun i => nI (va_up (va_up q (Fd.length + n) ((16 * (dvN (P.getD rd 0))))) (Fd.length + n) ((((va_up q (Fd.length + n) ((16 * (dvN (P.getD rd 0))))) (Fd.length + n)) + (dvN (P.getD (rd + 1) 0)))) i))) := (F_97 62 (by decide)).trans f62_101
                                        refine m_lv [4, 5, 6, 1, 0] rfl ?_
                                        exact ih1 (k + 1, n + 1, (((rd + 1) + 1) + 1), L ++ [rBy P rd], M97) (⟨⟨by (try dsimp only); rw [egN_succ, hge9, if_pos rfl]; omega, by (try dsimp only); rw [List.length_append, List.length_singleton]; omega, Or.inl ⟨by (try dsimp only); omega, by (try dsimp only); rw [ps_3 hk9 hPS hns hx0 hx1, if_neg (by rw [hge9]; decide), if_pos hsp9]⟩⟩, ⟨by (try dsimp only); omega, by (try dsimp only); omega⟩, go_97, g_97, ff34_100, by (try dsimp only); rw [← List.append_assoc]; exact isA.push2 (x := 16 * dvN (P.getD rd 0)) (y := dvN (P.getD (rd + 1) 0)) (z := rBy P rd) hcap hq9 (by unfold rBy; omega) (by rw [hFL]; exact f62_102), by intro x hx; rcases List.mem_append.mp hx with z | z; exact j9 x z; rw [List.mem_singleton.mp z]; exact rBy_lt hx0 hx1, (((((j8.tr (F_75.sub (by decide))).tr (F_78.sub (by decide))).tr (F_86.sub (by decide))).tr (F_89.sub (by decide))).tr (F_97.sub (by decide)))⟩) (by simp only; omega)
                                      · have hs := of_decide_eq_false ((bI_0 _).mp (Classical.not_not.mp c_295))
                                        have hRL : (rLine P c (gN c g0) Fd.length i0) = (false, rd + 1 + 1, []) := rl_ps hH (by rw [ps_3 hk9 hPS hns hx0 hx1, if_neg (by rw [hge9]; decide), if_neg hs])
                                        refine m_iconst (pc' := 299) (v := bI false) C dX12_readLine_298 (by decide) rfl ?_
                                        refine m_iret C hrt0 hlk0 (nar_z _) dX12_readLine_299 ?_
                                        have ff34_103 : M86 134 = gh (.int (nI Fd.length)) := (F_86 134 (by decide)).trans ff34_83
                                        have ff34_104 : M89 134 = gh (.int (nI Fd.length)) := (F_89 134 (by decide)).trans ff34_103
                                        have f62_105 : M89 62 = .inl (cy 1, 2000, .inl (fun i => nI (va_up (va_up q (Fd.length + n) ((16 * (dvN (P.getD rd 0))))) (Fd.length + n) ((((va_up q (Fd.length + n) ((16 * (dvN (P.getD rd 0))))) (Fd.length + n)) + (dvN (P.getD (rd + 1) 0)))) i))) := (F_89 62 (by decide)).trans g_86
                                        rw [hRL]
                                        dsimp only
                                        rw [List.append_nil]
                                        exact ⟨rfl, go_89, g_89, ⟨hfd.1, ff34_104, ⟨by omega, _, f62_105, fun i hi => by simp only [va_up_ne _ _ (show i ≠ Fd.length + n by omega)]; rw [hq9 i (by rw [hFL]; omega), List.getD_eq_getElem?_getD, List.getD_eq_getElem?_getD, List.getElem?_append_left hi]⟩⟩, (((((j8.sub (by decide)).tr (F_75.sub (by decide))).tr (F_78.sub (by decide))).tr (F_86.sub (by decide))).tr (F_89.sub (by decide)))⟩
                                · exact absurd (by decide) c_142
                              · exact absurd (Classical.not_not.mp c_193) (by decide)
                          · have hRL : (rLine P c (gN c g0) Fd.length i0) = (false, (rd + 1), []) := rl_ps hH (ps_2 hk9 hPS hns hx0 (fun z => c_158 (dI_ge0.mpr z)))
                            refine m_goto (tgt := 173) C dX12_readLine_161 (by decide) ?_
                            refine m_iconst (pc' := 174) (v := bI false) C dX12_readLine_173 (by decide) rfl ?_
                            refine m_iret C hrt0 hlk0 (nar_z _) dX12_readLine_174 ?_
                            have ff34_106 : M75 134 = gh (.int (nI Fd.length)) := (F_75 134 (by decide)).trans j6
                            have ff34_107 : M78 134 = gh (.int (nI Fd.length)) := (F_78 134 (by decide)).trans ff34_106
                            have f62_108 : M78 62 = .inl (cy 1, 2000, .inl (fun i => nI (va_up q (Fd.length + n) ((16 * (dvN (P.getD rd 0)))) i))) := (F_78 62 (by decide)).trans g_75
                            rw [hRL]
                            dsimp only
                            rw [List.append_nil]
                            exact ⟨rfl, go_78, g_78, ⟨hfd.1, ff34_107, ⟨by omega, _, f62_108, fun i hi => by simp only [va_up_ne _ _ (show i ≠ Fd.length + n by omega)]; rw [hq9 i (by rw [hFL]; omega), List.getD_eq_getElem?_getD, List.getD_eq_getElem?_getD, List.getElem?_append_left hi]⟩⟩, (((j8.sub (by decide)).tr (F_75.sub (by decide))).tr (F_78.sub (by decide)))⟩
                · have hRL : (rLine P c (gN c g0) Fd.length i0) = (false, rd, []) := rl_ps hH (ps_1 hk9 hPS hns (fun z => c_158 (dI_ge0.mpr z)))
                  refine m_goto (tgt := 173) C dX12_readLine_161 (by decide) ?_
                  refine m_iconst (pc' := 174) (v := bI false) C dX12_readLine_173 (by decide) rfl ?_
                  refine m_iret C hrt0 hlk0 (nar_z _) dX12_readLine_174 ?_
                  rw [hRL]
                  dsimp only
                  rw [List.append_nil]
                  exact ⟨rfl, j4, j5, ⟨hfd.1, j6, ⟨by omega, _, j7, fun i hi => by rw [hq9 i (by rw [hFL]; omega), List.getD_eq_getElem?_getD, List.getD_eq_getElem?_getD, List.getElem?_append_left hi]⟩⟩, (j8.sub (by decide))⟩
          refine m_iload (pc' := 108) C dX12_readLine_106 3 rfl rfl ?_
          refine m_iload (pc' := 110) C dX12_readLine_108 4 rfl rfl ?_
          refine m_icmp_ne (pc' := 113) (tgt := 133) C dX12_readLine_110 (by decide) rfl (fun c_110 => ?_) (fun c_110 => ?_)
          · have n_110 : ¬ n = k := fun q => c_110 ((nI_eq (by omega) (by omega)).mpr q)
            refine m_lv [0, 1, 2, 3, 4] rfl ?_
            exact J133 () (Or.inr (by omega))
          · have n_110 : n = k := (nI_eq (by omega) (by omega)).mp (Classical.not_not.mp c_110)
            refine m_iload (pc' := 115) C dX12_readLine_113 4 rfl rfl ?_
            refine m_if_eq (pc' := 118) (tgt := 129) C dX12_readLine_115 (by decide) rfl (fun c_115 => ?_) (fun c_115 => ?_)
            · have n_115 : k = 0 := (nI_eq (by omega) (by omega)).mp (c_115.trans nI_0.symm)
              refine m_lv [0, 1, 2, 3, 4] rfl ?_
              exact J129 () (⟨n_110, fun z => by omega⟩)
            · have n_115 : ¬ k = 0 := fun q => c_115 (((nI_eq (by omega) (by omega)).mpr q).trans nI_0)
              refine m_aload_n (pc' := 119) C dX12_readLine_118 rfl 0 rfl rfl ?_
              refine m_aload_n (pc' := 120) C dX12_readLine_119 rfl 0 rfl rfl ?_
              refine r_get C hn j4 inW_X12 35 (by decide) ⟨rfl, rfl, rfl⟩ (gW_of tm_5_85) (r_at 35 rfl j5) dX12_readLine_120 rfl ?_
              have xoutR_110 := hout.fr j8 (by decide)
              refine m_callVi (pc' := 126) (As := [.int (nI rd)]) (rest := []) C (kX12_hexAt hI hn hn2 j4 xoutR_110 (k := rd) (by omega)) (cwV 1 C.1.2.2.2.2 (goodV tm_6_128 tm_6_130 tp_77 tm_1_13 tm_6_131) rfl rfl rfl (by decide +kernel) ⟨by decide, by decide⟩) (by omega) j4 rfl rfl rfl (Nat.le_of_ble_eq_true rfl) dX12_readLine_123 rfl ⟨by decide, by decide⟩ (fun x_109 N_109 q_109 => ?_)
              obtain ⟨e_109, E_109⟩ := q_109
              replace E_109 := E_109.symm
              subst E_109
              replace e_109 := e_109.symm
              subst e_109
              refine m_if_lt (pc' := 129) (tgt := 133) C dX12_readLine_126 (by decide) rfl (fun c_126 => ?_) (fun c_126 => ?_)
              · refine m_lv [0, 1, 2, 3, 4] rfl ?_
                exact J133 () (Or.inl ⟨n_110, by omega, (dI_lt0 (by decide)).mp c_126⟩)
              · refine m_lv [0, 1, 2, 3, 4] rfl ?_
                exact J129 () (⟨n_110, fun z => dv32 (Classical.not_not.mp (fun q => c_126 ((dI_lt0 (by decide)).mpr q))) z.2⟩)
      · have hRL : (rLine P c (gN c g0) Fd.length i0) = (false, i0 + 9, []) := rl_3 hA8 hN8 (of_decide_eq_false ((bI_0 _).mp (Classical.not_not.mp c_79)))
        refine m_iconst (pc' := 83) (v := bI false) C dX12_readLine_82 (by decide) rfl ?_
        refine m_iret C hrt0 hlk0 (nar_z _) dX12_readLine_83 ?_
        have ff34_111 : Mk 134 = gh (.int (nI Fd.length)) := (i8 134 (by decide)).trans hfd.2.1
        have ff34_112 : M3 134 = gh (.int (nI Fd.length)) := (F_3 134 (by decide)).trans ff34_111
        rw [hRL]
        dsimp only
        rw [List.append_nil]
        exact ⟨rfl, go_3, g_3, (isFd.fr hfd (S := [52, 135]) (((i8.sub (by decide)).tr (F_3.sub (by decide)))) (by decide)), (((i8.sub (by decide)).tr (F_3.sub (by decide))))⟩
    · have hRL : (rLine P c (gN c g0) Fd.length i0) = (false, i0 + 8, []) := rl_2 hA8 (of_decide_eq_false ((bI_0 _).mp (Classical.not_not.mp c_58)))
      refine m_iconst (pc' := 62) (v := bI false) C dX12_readLine_61 (by decide) rfl ?_
      refine m_iret C hrt0 hlk0 (nar_z _) dX12_readLine_62 ?_
      have ff34_113 : Mk 134 = gh (.int (nI Fd.length)) := (i8 134 (by decide)).trans hfd.2.1
      rw [hRL]
      dsimp only
      rw [List.append_nil]
      exact ⟨rfl, i4, i5, (isFd.fr hfd (S := [52, 135]) ((i8.sub (by decide))) (by decide)), ((i8.sub (by decide)))⟩
  · have hj8 : j < 8 := by
      rcases Nat.lt_or_ge j 8 with q | q
      · exact q
      · exact absurd (by rw [show j = 8 by omega]; exact k7e) c_11
    have hk7 := k7 j hj8
    rw [hk7.1]
    have hq16 : Fd.length / 2 ^ (28 - 4 * j) % 16 < 16 := Nat.mod_lt _ (by decide)
    refine m_aload_n (pc' := 15) C dX12_readLine_14 rfl 0 rfl rfl ?_
    refine m_aload_n (pc' := 16) C dX12_readLine_15 rfl 0 rfl rfl ?_
    refine r_get C hn i4 inW_X12 35 (by decide) ⟨rfl, rfl, rfl⟩ (gW_of tm_5_85) (r_at 35 rfl i5) dX12_readLine_16 rfl ?_
    have xoutR_115 := hout.fr i8 (by decide)
    refine m_callVi (pc' := 22) (As := [.int (nI (i0 + j))]) (rest := []) C (kX12_hexAt hI hn hn2 i4 xoutR_115 (k := (i0 + j)) (by omega)) (cwV 1 C.1.2.2.2.2 (goodV tm_6_128 tm_6_130 tp_77 tm_1_13 tm_6_131) rfl rfl rfl (by decide +kernel) ⟨by decide, by decide⟩) (by omega) i4 rfl rfl rfl (Nat.le_of_ble_eq_true rfl) dX12_readLine_19 rfl ⟨by decide, by decide⟩ (fun x_114 N_114 q_114 => ?_)
    obtain ⟨e_114, E_114⟩ := q_114
    replace E_114 := E_114.symm
    subst E_114
    replace e_114 := e_114.symm
    subst e_114
    refine m_iload_n (pc' := 23) C dX12_readLine_22 rfl 3 rfl rfl ?_
    refine m_iconst (pc' := 24) (v := nI 4) C dX12_readLine_23 (by decide) rfl ?_
    refine m_iload (pc' := 26) C dX12_readLine_24 4 rfl rfl ?_
    refine m_imul (pc' := 27) (v := nI (4 * (7 - j))) C dX12_readLine_26 (pk_mul _ _) rfl ?_
    refine m_ishr (pc' := 28) (v := (nI Fd.length) >>> ((nI (4 * (7 - j))) &&& 31)) C dX12_readLine_27 rfl rfl ?_
    refine m_bipush (pc' := 30) (v := nI 15) C dX12_readLine_28 (by decide) rfl ?_
    refine m_iand (pc' := 31) (v := nI (Fd.length / 2 ^ (28 - 4 * j) % 16)) C dX12_readLine_30 (by rw [show 4 * (7 - j) = 28 - 4 * j by omega]; exact sar15 (by omega) (by omega)) rfl ?_
    refine m_icmp_eq (pc' := 34) (tgt := 36) C dX12_readLine_31 (by decide) rfl (fun c_31 => ?_) (fun c_31 => ?_)
    · have hpa : pAdr P Fd.length i0 j = true := decide_eq_true ((dI_cmp hq16).mp c_31)
      refine m_aload_n (pc' := 37) C dX12_readLine_36 rfl 0 rfl rfl ?_
      refine m_dup (pc' := 38) C dX12_readLine_37 rfl rfl ?_
      refine r_get C hn i4 inW_X12 35 (by decide) ⟨rfl, rfl, rfl⟩ (gW_of tm_5_85) (r_at 35 rfl i5) dX12_readLine_38 rfl ?_
      refine m_iconst (pc' := 42) (v := nI 1) C dX12_readLine_41 (by decide) rfl ?_
      refine m_iadd (pc' := 43) (v := nI (i0 + (j + 1))) C dX12_readLine_42 (by rw [← Nat.add_assoc]; exact nI_add _ _) rfl ?_
      refine r_put (ty := .int) C hn hn2 i4 inW_X12 35 135 (by decide) rfl ⟨rfl, rfl, rfl, rfl⟩ (gW_of tm_5_85) (by decide +kernel) rfl rfl (fun _ => rfl) dX12_readLine_43 rfl (fun M116 go_116 g_116 F_116 => ?_)
      refine m_iinc (pc' := 49) (v := nI 7 - nI (j + 1)) (lv' := [(4, .int (nI 7 - nI (j + 1))), (0, .ref (ad 52)), (1, .int (nI c)), (2, .int (nI g0)), (3, .int (nI Fd.length))]) C dX12_readLine_46 (k := 4) rfl hk7.2.2 (by decide) rfl rfl ?_
      refine m_goto (tgt := 9) C dX12_readLine_49 (by decide) ?_
      refine m_lv [1, 2, 3, 4, 0] rfl ?_
      exact ih (j + 1, M116) (⟨by (try dsimp only); omega, by (try dsimp only); rw [i2, show 8 - j = (8 - (j + 1)) + 1 by omega, mN_t hpa], go_116, g_116, (i8.tr (F_116.sub (by decide)))⟩) (by simp only; omega)
    · have hA8 : rAdr P Fd.length i0 = j := by rw [i2, show 8 - j = (8 - (j + 1)) + 1 by omega, mN_f (fun q => c_31 ((dI_cmp hq16).mpr (of_decide_eq_true q)))]
      have hRL : (rLine P c (gN c g0) Fd.length i0) = (false, i0 + j, []) := by have h9 := rl_1 (c := c) (g := (gN c g0)) (show ¬ rAdr P Fd.length i0 = 8 by omega); rw [hA8] at h9; exact h9
      refine m_iconst (pc' := 35) (v := bI false) C dX12_readLine_34 (by decide) rfl ?_
      refine m_iret C hrt0 hlk0 (nar_z _) dX12_readLine_35 ?_
      have ff34_117 : Mk 134 = gh (.int (nI Fd.length)) := (i8 134 (by decide)).trans hfd.2.1
      rw [hRL]
      dsimp only
      rw [List.append_nil]
      exact ⟨rfl, i4, i5, (isFd.fr hfd (S := [52, 135]) ((i8.sub (by decide))) (by decide)), ((i8.sub (by decide)))⟩
