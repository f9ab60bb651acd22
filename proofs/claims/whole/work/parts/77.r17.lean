set_option maxHeartbeats 4000000 in
set_option maxRecDepth 100000 in
theorem kX12_back {l : Launch} {D : va_G} {cy : Nat → ClassId} {ad : Nat → Nat} {n : Nat} {A : Nat → Prop} (hI : mI ad n A) {M : Nat → va_E} (hn : 63 ≤ n) (hn2 : n ≤ 100) {T : List Nat} {xs : Nat → Arg} {cnt lim : Nat} {O B : List Nat} {fp ot : Int32} (hM : isM cy ad M T xs cnt lim O B fp ot) (x g : Int32) : mMi l yX12_back (gW yX12_back cX12_back 4 (some .int)) { frames := 3, cells := 0, slots := 0, locals := 70 } D cy ad n A [.ref (ad 52), .int x, .int g] M (fun res M' => (prK x g = 0 → res = bkI O x g) ∧ M' 100 = gh (.int (nI (prK x g))) ∧ isM cy ad M' T xs cnt lim O (sel (prK x g) (bkB O x g B) B) (sel (prK x g) (bkF O x g) fp) ot ∧ Fr refS M M') := by
  obtain ⟨hro, hln, hra, hout, hby, h14, h15, ⟨W, hrw⟩, ⟨L, hdg⟩, gf, hfd⟩ := hM
  obtain ⟨y1, y2, y3, yg, y4, y5⟩ := id hby
  have hlO : O.length ≤ 2000 := Nat.le_trans hout.2.1 hout.1
  refine m_entry (cc := cX12_back) (maxL := 4) (ret := (some .int)) (own := RX12) (lv := [(0, .ref (ad 52)), (1, .int (x)), (2, .int (g))]) hI (by decide) rfl rfl (Nat.le_of_ble_eq_true rfl) rfl (fun pX eX sX mX aX bX tX cX C hrt0 hlk0 => ?_)
  refine m_aload_n (pc' := 1) C dX12_back_0 rfl 0 rfl rfl ?_
  refine m_cut (σ := Int32) (fun a => a = nI (prK x g)) (fun a => M) 25 (fun a => [(0, .ref (ad 52)), (1, .int (x)), (2, .int (g))]) (fun a => [.int (a), .ref (ad 52)]) ?_ (fun J25 => ?_)
  · rintro y9 hj
    try dsimp only at hj ⊢
    subst hj
    have hKb : prK x g ≤ 2 := by unfold prK; (repeat' split) <;> omega
    refine m_callVi (pc' := 28) (As := [.int (nI (prK x g))]) (rest := []) C (kX12_refused hI hn hn2 hro (k := (prK x g)) (by omega)) (cwV 1 C.1.2.2.2.2 (goodV tm_5_174 tm_5_176 tp_49 tm_1_13 tm_5_177) rfl rfl rfl (by decide +kernel) ⟨by decide, by decide⟩) (by omega) hro rfl rfl rfl (Nat.le_of_ble_eq_true rfl) dX12_back_25 rfl ⟨by decide, by decide⟩ (fun x_1 M1 q_1 => ?_)
    obtain ⟨e_1, pro_1, pf0_1, F_1⟩ := q_1
    replace e_1 := e_1.symm
    subst e_1
    refine m_if_eq (pc' := 31) (tgt := 33) C dX12_back_28 (by decide) rfl (fun c_28 => ?_) (fun c_28 => ?_)
    · have hK : prK x g = 0 := by have := of_decide_eq_false ((bI_0 _).mp c_28); omega
      have hok : shOk x g = true := by
        unfold prK at hK
        split at hK
        · assumption
        · omega
      obtain ⟨hxe, hge, hc1, hc32, hg32⟩ := shOk_M hok
      have hgn := gN_eq hok
      obtain ⟨c, hc9⟩ : ∃ z, z = cl x := ⟨_, rfl⟩
      obtain ⟨g0, hg9⟩ : ∃ z, z = cl g := ⟨_, rfl⟩
      rw [← hc9] at hxe hc1 hc32 hgn
      rw [← hg9] at hge hg32 hgn
      refine m_lvx (lv' := [(0, .ref (ad 52)), (1, .int (nI c)), (2, .int (nI g0))]) (by rw [hxe, hge]) ?_
      refine m_aload_n (pc' := 34) C dX12_back_33 rfl 0 rfl rfl ?_
      refine m_iconst (pc' := 35) (v := nI 0) C dX12_back_34 (by decide) rfl ?_
      refine r_put (ty := .int) C hn hn2 pro_1 inW_X12 34 134 (by decide) rfl ⟨rfl, rfl, rfl, rfl⟩ (gW_of tm_5_84) (by decide +kernel) rfl rfl (fun _ => rfl) dX12_back_35 rfl (fun M2 go_2 g_2 F_2 => ?_)
      refine m_aload_n (pc' := 39) C dX12_back_38 rfl 0 rfl rfl ?_
      refine m_iconst (pc' := 40) (v := nI 0) C dX12_back_39 (by decide) rfl ?_
      refine r_put (ty := .int) C hn hn2 go_2 inW_X12 35 135 (by decide) rfl ⟨rfl, rfl, rfl, rfl⟩ (gW_of tm_5_85) (by decide +kernel) rfl rfl (fun _ => rfl) dX12_back_40 rfl (fun M3 go_3 g_3 F_3 => ?_)
      refine m_aload_n (pc' := 44) C dX12_back_43 rfl 0 rfl rfl ?_
      refine m_iconst (pc' := 45) (v := (-1)) C dX12_back_44 (by decide) rfl ?_
      refine r_put (ty := .int) C hn hn2 go_3 inW_X12 14 114 (by decide) rfl ⟨rfl, rfl, rfl, rfl⟩ (gW_of tm_5_64) (by decide +kernel) rfl rfl (fun _ => rfl) dX12_back_45 rfl (fun M4 go_4 g_4 F_4 => ?_)
      refine m_lv [0, 1, 2] rfl ?_
      have ff35_5 : M4 135 = gh (.int (nI 0)) := (F_4 135 (by decide)).trans g_3
      have ff34_6 : M3 134 = gh (.int (nI 0)) := (F_3 134 (by decide)).trans g_2
      have ff34_7 : M4 134 = gh (.int (nI 0)) := (F_4 134 (by decide)).trans ff34_6
      have f62_8 : M1 62 = .inl (cy 1, 2000, .inl (fun i => nI (gf i))) := (F_1 62 (by decide)).trans hfd
      have f62_9 : M2 62 = .inl (cy 1, 2000, .inl (fun i => nI (gf i))) := (F_2 62 (by decide)).trans f62_8
      have f62_10 : M3 62 = .inl (cy 1, 2000, .inl (fun i => nI (gf i))) := (F_3 62 (by decide)).trans f62_9
      have f62_11 : M4 62 = .inl (cy 1, 2000, .inl (fun i => nI (gf i))) := (F_4 62 (by decide)).trans f62_10
      have ff0_12 : M2 100 = gh (.int (nI (prK x g))) := (F_2 100 (by decide)).trans pf0_1
      have ff0_13 : M3 100 = gh (.int (nI (prK x g))) := (F_3 100 (by decide)).trans ff0_12
      have ff0_14 : M4 100 = gh (.int (nI (prK x g))) := (F_4 100 (by decide)).trans ff0_13
      refine m_loop (σ := Nat × Nat × Bool × List Nat × (Nat → va_E)) (fun a => a.2.2.2.2) (fun a => [(0, .ref (ad 52)), (1, .int (nI c)), (2, .int (nI g0))]) (fun a => (rPg O c (gN c g0) 2000 0 true []) = rPg O c (gN c g0) (2000 - a.1) a.2.1 a.2.2.1 a.2.2.2.1 ∧ (a.1 ≤ a.2.1 ∧ a.2.1 ≤ O.length ∧ 2 * a.2.2.2.1.length ≤ a.2.1 ∧ (a.2.2.1 = true ∨ a.2.1 = O.length)) ∧ rO ad a.2.2.2.2 ∧ a.2.2.2.2 135 = gh (.int (nI a.2.1)) ∧ isFd cy a.2.2.2.2 a.2.2.2.1 ∧ a.2.2.2.2 100 = gh (.int (nI (prK x g))) ∧ a.2.2.2.2 114 = gh (.int (-1)) ∧ Fr [52, 62, 100, 114, 134, 135] M a.2.2.2.2) (fun a => 2000 - a.1) (0, 0, true, [], M4) (⟨rfl, ⟨Nat.le_refl _, Nat.zero_le _, Nat.le_refl _, Or.inl rfl⟩, go_4, ff35_5, ⟨(fun x hx => by cases hx), ff34_7, ⟨Nat.zero_le _, gf, f62_11, (fun i hi => by cases hi)⟩⟩, ff0_14, g_4, ((((F_1.sub (by decide)).tr (F_2.sub (by decide))).tr (F_3.sub (by decide))).tr (F_4.sub (by decide)))⟩) ?_
      rintro ⟨f, i, fl, Fd, Mk⟩ hinv ih
      dsimp only at hinv ih ⊢
      obtain ⟨i1, ⟨j1, j2, j3, j5⟩, i4, i5, i6, i3, i7, i8⟩ := hinv
      refine m_aload_n (pc' := 49) C dX12_back_48 rfl 0 rfl rfl ?_
      refine r_get C hn i4 inW_X12 35 (by decide) ⟨rfl, rfl, rfl⟩ (gW_of tm_5_85) (r_at 35 rfl i5) dX12_back_49 rfl ?_
      refine m_aload_n (pc' := 53) C dX12_back_52 rfl 0 rfl rfl ?_
      have ff11_15 : Mk 111 = gh (.int (nI O.length)) := (i8 111 (by decide)).trans hout.2.2.2.2.1
      refine r_get C hn i4 inW_X12 11 (by decide) ⟨rfl, rfl, rfl⟩ (gW_of tm_5_61) (r_at 11 rfl ff11_15) dX12_back_53 rfl ?_
      refine m_icmp_ge (pc' := 59) (tgt := 79) C dX12_back_56 (by decide) rfl (fun c_56 => ?_) (fun c_56 => ?_)
      · have n_56 : O.length ≤ i := (nI_leI (by omega) (by omega)).mp c_56
        obtain ⟨z1, z2, z3, fg, z4, z5⟩ := id i6
        have hbk : bkR O x g = (true, i, Fd) := by unfold bkR; rw [← hc9, ← hgn, i1]; exact rPg_e n_56
        refine m_aload_n (pc' := 80) C dX12_back_79 rfl 0 rfl rfl ?_
        refine r_get C hn i4 inW_X12 34 (by decide) ⟨rfl, rfl, rfl⟩ (gW_of tm_5_84) (r_at 34 rfl z2) dX12_back_80 rfl ?_
        refine m_sipush (pc' := 86) (v := nI 256) C dX12_back_83 (by decide) rfl ?_
        refine m_icmp_le (pc' := 89) (tgt := 92) C dX12_back_86 (by decide) rfl (fun c_86 => ?_) (fun c_86 => ?_)
        · have n_86 : Fd.length ≤ 256 := (nI_leI (by omega) (by omega)).mp c_86
          refine m_aload_n (pc' := 93) C dX12_back_92 rfl 0 rfl rfl ?_
          refine m_aload_n (pc' := 94) C dX12_back_93 rfl 0 rfl rfl ?_
          refine r_get C hn i4 inW_X12 34 (by decide) ⟨rfl, rfl, rfl⟩ (gW_of tm_5_84) (r_at 34 rfl z2) dX12_back_94 rfl ?_
          refine r_put (ty := .int) C hn hn2 i4 inW_X12 8 108 (by decide) rfl ⟨rfl, rfl, rfl, rfl⟩ (gW_of tm_5_58) (by decide +kernel) rfl rfl (fun _ => rfl) dX12_back_97 rfl (fun M16 go_16 g_16 F_16 => ?_)
          refine m_iconst (pc' := 101) (v := nI 0) C dX12_back_100 (by decide) rfl ?_
          refine m_istore_n (pc' := 102) (lv' := [(3, .int (nI 0)), (0, .ref (ad 52)), (1, .int (nI c)), (2, .int (nI g0))]) C dX12_back_101 rfl (by decide) rfl rfl ?_
          refine m_lv [1, 2, 3, 0] rfl ?_
          have ff34_17 : M16 134 = gh (.int (nI Fd.length)) := (F_16 134 (by decide)).trans z2
          have f58_18 : Mk 58 = .inl (cy 1, 256, .inl (fun i => nI (yg i))) := (i8 58 (by decide)).trans y4
          have f58_19 : M16 58 = .inl (cy 1, 256, .inl (fun i => nI (yg i))) := (F_16 58 (by decide)).trans f58_18
          have f62_20 : M16 62 = .inl (cy 1, 2000, .inl (fun i => nI (fg i))) := (F_16 62 (by decide)).trans z4
          have ff0_21 : M16 100 = gh (.int (nI (prK x g))) := (F_16 100 (by decide)).trans i3
          have ff14_22 : M16 114 = gh (.int ((-1))) := (F_16 114 (by decide)).trans i7
          refine m_loop (σ := Nat × (Nat → Nat) × (Nat → va_E)) (fun a => a.2.2) (fun a => [(0, .ref (ad 52)), (1, .int (nI c)), (2, .int (nI g0)), (3, .int (nI a.1))]) (fun a => a.1 ≤ Fd.length ∧ (∀ i, i < a.1 → a.2.1 i = Fd.getD i 0) ∧ rO ad a.2.2 ∧ a.2.2 134 = gh (.int (nI Fd.length)) ∧ a.2.2 108 = gh (.int (nI Fd.length)) ∧ a.2.2 58 = .inl (cy 1, 256, .inl (fun i => nI (a.2.1 i))) ∧ a.2.2 62 = .inl (cy 1, 2000, .inl (fun i => nI (fg i))) ∧ a.2.2 100 = gh (.int (nI (prK x g))) ∧ a.2.2 114 = gh (.int (-1)) ∧ Fr [52, 58, 62, 100, 108, 114, 134, 135] M a.2.2) (fun a => Fd.length - a.1) (0, yg, M16) (⟨Nat.zero_le _, (fun i hi => by cases hi), go_16, ff34_17, g_16, f58_19, f62_20, ff0_21, ff14_22, ((i8.sub (by decide)).tr (F_16.sub (by decide)))⟩) ?_
          rintro ⟨m, q, Mn⟩ hinv ih2
          dsimp only at hinv ih2 ⊢
          obtain ⟨k1, k2, k4, k6, k10, k5, k9, k3, k7, k8⟩ := hinv
          refine m_iload_n (pc' := 103) C dX12_back_102 rfl 3 rfl rfl ?_
          refine m_aload_n (pc' := 104) C dX12_back_103 rfl 0 rfl rfl ?_
          refine r_get C hn k4 inW_X12 34 (by decide) ⟨rfl, rfl, rfl⟩ (gW_of tm_5_84) (r_at 34 rfl k6) dX12_back_104 rfl ?_
          refine m_icmp_ge (pc' := 110) (tgt := 128) C dX12_back_107 (by decide) rfl (fun c_107 => ?_) (fun c_107 => ?_)
          · have n_107 : Fd.length ≤ m := (nI_leI (by omega) (by omega)).mp c_107
            refine m_aload_n (pc' := 129) C dX12_back_128 rfl 0 rfl rfl ?_
            refine r_get C hn k4 inW_X12 8 (by decide) ⟨rfl, rfl, rfl⟩ (gW_of tm_5_58) (r_at 8 rfl k10) dX12_back_129 rfl ?_
            refine m_iret C hrt0 hlk0 rfl dX12_back_132 ?_
            have hmm : m = Fd.length := by omega
            subst hmm
            have hby9 : isBy cy Mn Fd := isBy.of z1 k10 (by omega) k5 k2
            have xln_23 := hln.fr k8 (by decide)
            have xra_24 := hra.fr k8 (by decide)
            have xoutR_25 := hout.fr k8 (by decide)
            have ff15_26 : Mn 115 = gh (.int (ot)) := (k8 115 (by decide)).trans h15
            have xrw_27 := hrw.fr k8 (by decide)
            have xdg_28 := hdg.fr k8 (by decide)
            have hI9 : bkI O x g = nI Fd.length := by unfold bkI; rw [hbk]; dsimp only; rw [if_neg (by decide), if_neg (show ¬ 256 < Fd.length by omega)]
            have hB9 : bkB O x g B = Fd := by unfold bkB; rw [hbk]; dsimp only; rw [if_neg (by decide), if_neg (show ¬ 256 < Fd.length by omega)]
            have hF9 : bkF O x g = (-1) := by unfold bkF; rw [hbk]; dsimp only; rw [if_neg (by decide)]
            simp only [sel0 hK]
            rw [hI9, hB9, hF9]
            exact ⟨(fun _ => rfl), k3, ⟨k4, xln_23, xra_24, xoutR_25, hby9, k7, ff15_26, ⟨_, xrw_27⟩, ⟨_, xdg_28⟩, ⟨_, k9⟩⟩, (k8.sub (by decide))⟩
          · have n_107 : m < Fd.length := Nat.lt_of_not_le (fun q => c_107 ((nI_leI (by omega) (by omega)).mpr q))
            refine m_aload_n (pc' := 111) C dX12_back_110 rfl 0 rfl rfl ?_
            refine r_get C hn k4 inW_X12 9 (by decide) ⟨rfl, rfl, rfl⟩ (gW_of tm_5_59) rfl dX12_back_111 rfl ?_
            refine m_iload_n (pc' := 115) C dX12_back_114 rfl 3 rfl rfl ?_
            refine m_aload_n (pc' := 116) C dX12_back_115 rfl 0 rfl rfl ?_
            refine r_get C hn k4 inW_X12 33 (by decide) ⟨rfl, rfl, rfl⟩ (gW_of tm_5_83) rfl dX12_back_116 rfl ?_
            refine m_iload_n (pc' := 120) C dX12_back_119 rfl 3 rfl rfl ?_
            refine m_iald (pc' := 121) (v := nI (Fd.getD m 0)) C 62 (by omega) k9 (vp_in_nI (by omega) (by decide)) (by rw [nI_clamp (by omega), z5 _ n_107]) dX12_back_120 rfl ?_
            refine m_iast (pc' := 122) (E' := .inl (cy 1, 256, .inl (fun i => nI (va_up q m (Fd.getD m 0) i)))) C 58 (by omega) k5 (vp_in_nI (by omega) (by decide)) (by rw [nI_clamp (by omega), upd_nI]) dX12_back_121 rfl (fun M29 g_29 F_29 => ?_)
            refine m_iinc (pc' := 125) (v := nI (m + 1)) (lv' := [(3, .int (nI (m + 1))), (0, .ref (ad 52)), (1, .int (nI c)), (2, .int (nI g0))]) C dX12_back_122 (k := 3) rfl (nI_add _ _) (by decide) rfl rfl ?_
            refine m_goto (tgt := 102) C dX12_back_125 (by decide) ?_
            have ro_30 := k4.fr F_29 (by decide)
            have ff34_31 : M29 134 = gh (.int (nI Fd.length)) := (F_29 134 (by decide)).trans k6
            have ff8_32 : M29 108 = gh (.int (nI Fd.length)) := (F_29 108 (by decide)).trans k10
            have f62_33 : M29 62 = .inl (cy 1, 2000, .inl (fun i => nI (fg i))) := (F_29 62 (by decide)).trans k9
            have ff0_34 : M29 100 = gh (.int (nI (prK x g))) := (F_29 100 (by decide)).trans k3
            have ff14_35 : M29 114 = gh (.int ((-1))) := (F_29 114 (by decide)).trans k7
            refine m_lv [1, 2, 3, 0] rfl ?_
            exact ih2 (m + 1, va_up q m (Fd.getD m 0), M29) (⟨by (try dsimp only); omega, (by intro i hi; (try dsimp only at hi ⊢); by_cases e : i = m; rw [e, va_up_self]; rw [va_up_ne _ _ e]; exact k2 i (by omega)), ro_30, ff34_31, ff8_32, g_29, f62_33, ff0_34, ff14_35, (k8.tr (F_29.sub (by decide)))⟩) (by simp only; omega)
        · have n_86 : 256 < Fd.length := Nat.lt_of_not_le (fun q => c_86 ((nI_leI (by omega) (by omega)).mpr q))
          refine m_bipush (pc' := 91) (v := (-3)) C dX12_back_89 (by decide) rfl ?_
          refine m_iret C hrt0 hlk0 rfl dX12_back_91 ?_
          have xln_36 := hln.fr i8 (by decide)
          have xra_37 := hra.fr i8 (by decide)
          have xoutR_38 := hout.fr i8 (by decide)
          have xby_39 := hby.fr i8 (by decide)
          have ff15_40 : Mk 115 = gh (.int (ot)) := (i8 115 (by decide)).trans h15
          have xrw_41 := hrw.fr i8 (by decide)
          have xdg_42 := hdg.fr i8 (by decide)
          have hI9 : bkI O x g = (-3) := by unfold bkI; rw [hbk]; dsimp only; rw [if_neg (by decide), if_pos (show 256 < Fd.length by omega)]
          have hB9 : bkB O x g B = B := by unfold bkB; rw [hbk]; dsimp only; rw [if_neg (by decide), if_pos (show 256 < Fd.length by omega)]
          have hF9 : bkF O x g = (-1) := by unfold bkF; rw [hbk]; dsimp only; rw [if_neg (by decide)]
          simp only [sel0 hK]
          rw [hI9, hB9, hF9]
          exact ⟨(fun _ => rfl), i3, ⟨i4, xln_36, xra_37, xoutR_38, xby_39, i7, ff15_40, ⟨_, xrw_41⟩, ⟨_, xdg_42⟩, ⟨_, z4⟩⟩, (i8.sub (by decide))⟩
      · have n_56 : i < O.length := Nat.lt_of_not_le (fun q => c_56 ((nI_leI (by omega) (by omega)).mpr q))
        have hfl : fl = true := j5.resolve_right (by omega)
        have hle9 := rLine_le (P := O) (c := c) (g := (gN c g0)) (tot := Fd.length) j2
        refine m_aload_n (pc' := 60) C dX12_back_59 rfl 0 rfl rfl ?_
        refine m_iload_n (pc' := 61) C dX12_back_60 rfl 1 rfl rfl ?_
        refine m_iload_n (pc' := 62) C dX12_back_61 rfl 2 rfl rfl ?_
        have xoutR_44 := hout.fr i8 (by decide)
        refine m_callVi (pc' := 65) (As := [.int (nI c), .int (nI g0)]) (rest := []) C (kX12_readLine hI hn hn2 i4 xoutR_44 i5 i6 (c := c) (g0 := g0) (by omega) (by omega) hc32 hg32) (cwV 2 C.1.2.2.2.2 (goodV tm_6_124 tm_6_126 tp_76 tm_1_13 tm_6_127) rfl rfl rfl (by decide +kernel) ⟨by decide, by decide⟩) (by omega) i4 rfl rfl rfl (Nat.le_of_ble_eq_true rfl) dX12_back_62 rfl ⟨by decide, by decide⟩ (fun x_43 M43 q_43 => ?_)
        obtain ⟨e_43, pro_43, pf35_43, pfd_43, F_43⟩ := q_43
        replace e_43 := e_43.symm
        subst e_43
        refine m_if_ne (pc' := 68) (tgt := 48) C dX12_back_65 (by decide) rfl (fun c_65 => ?_) (fun c_65 => ?_)
        · have hrr := ts_of c_65
          rw [Bool.and_eq_true, Bool.or_eq_true] at hrr
          have hr1 := hrr.1
          have hadv := rLine_adv (P := O) (c := c) (g := (gN c g0)) (tot := Fd.length) j2 hr1
          have hr2 : decide ((rLine O c (gN c g0) Fd.length i).2.2.length = c) = true ∨ (rLine O c (gN c g0) Fd.length i).2.1 = O.length := hrr.2.elim (fun z => Or.inl z) (fun z => Or.inr (of_decide_eq_true z))
          have ff0_45 : M43 100 = gh (.int (nI (prK x g))) := (F_43 100 (by decide)).trans i3
          have ff14_46 : M43 114 = gh (.int ((-1))) := (F_43 114 (by decide)).trans i7
          refine m_lv [0, 1, 2] rfl ?_
          exact ih (f + 1, (rLine O c (gN c g0) Fd.length i).2.1, decide ((rLine O c (gN c g0) Fd.length i).2.2.length = c), Fd ++ (rLine O c (gN c g0) Fd.length i).2.2, M43) (⟨by (try dsimp only); rw [i1, show 2000 - f = (2000 - (f + 1)) + 1 by omega, hfl, rPg_s n_56, if_neg (by rw [hr1]; decide)], ⟨by (try dsimp only); omega, by (try dsimp only); omega, by (try dsimp only); rw [List.length_append]; omega, by (try dsimp only); exact hr2⟩, pro_43, pf35_43, pfd_43, ff0_45, ff14_46, (i8.tr (F_43.sub (by decide)))⟩) (by simp only; omega)
        · obtain ⟨z1, z2, z3, fg, z4, z5⟩ := id pfd_43
          have hbk : bkR O x g = (false, (rLine O c (gN c g0) Fd.length i).2.1, []) := by
            unfold bkR
            rw [← hc9, ← hgn, i1, show 2000 - f = (2000 - (f + 1)) + 1 by omega, hfl, rPg_s n_56]
            have hno := (bI_0 _).mp (Classical.not_not.mp c_65)
            cases hr1 : (rLine O c (gN c g0) Fd.length i).1 with
            | false => rw [if_pos rfl]
            | true =>
              have hadv := rLine_adv (P := O) (c := c) (g := (gN c g0)) (tot := Fd.length) j2 hr1
              rw [hr1, Bool.true_and, Bool.or_eq_false_iff] at hno
              have hn2 := of_decide_eq_false hno.2
              rw [if_neg (by decide), hno.1, show 2000 - (f + 1) = (2000 - (f + 2)) + 1 by omega]
              exact rPg_n (by omega)
          refine m_aload_n (pc' := 69) C dX12_back_68 rfl 0 rfl rfl ?_
          refine m_aload_n (pc' := 70) C dX12_back_69 rfl 0 rfl rfl ?_
          refine r_get C hn pro_43 inW_X12 35 (by decide) ⟨rfl, rfl, rfl⟩ (gW_of tm_5_85) (r_at 35 rfl pf35_43) dX12_back_70 rfl ?_
          refine r_put (ty := .int) C hn hn2 pro_43 inW_X12 14 114 (by decide) rfl ⟨rfl, rfl, rfl, rfl⟩ (gW_of tm_5_64) (by decide +kernel) rfl rfl (fun _ => rfl) dX12_back_73 rfl (fun M47 go_47 g_47 F_47 => ?_)
          refine m_bipush (pc' := 78) (v := (-2)) C dX12_back_76 (by decide) rfl ?_
          refine m_iret C hrt0 hlk0 rfl dX12_back_78 ?_
          have xln_48 := hln.fr i8 (by decide)
          have xln_49 := xln_48.fr F_43 (by decide)
          have xln_50 := xln_49.fr F_47 (by decide)
          have xra_51 := hra.fr i8 (by decide)
          have xra_52 := xra_51.fr F_43 (by decide)
          have xra_53 := xra_52.fr F_47 (by decide)
          have xoutR_54 := xoutR_44.fr F_43 (by decide)
          have xoutR_55 := xoutR_54.fr F_47 (by decide)
          have xby_56 := hby.fr i8 (by decide)
          have xby_57 := xby_56.fr F_43 (by decide)
          have xby_58 := xby_57.fr F_47 (by decide)
          have ff15_59 : Mk 115 = gh (.int (ot)) := (i8 115 (by decide)).trans h15
          have ff15_60 : M43 115 = gh (.int (ot)) := (F_43 115 (by decide)).trans ff15_59
          have ff15_61 : M47 115 = gh (.int (ot)) := (F_47 115 (by decide)).trans ff15_60
          have xrw_62 := hrw.fr i8 (by decide)
          have xrw_63 := xrw_62.fr F_43 (by decide)
          have xrw_64 := xrw_63.fr F_47 (by decide)
          have xdg_65 := hdg.fr i8 (by decide)
          have xdg_66 := xdg_65.fr F_43 (by decide)
          have xdg_67 := xdg_66.fr F_47 (by decide)
          have f62_68 : M47 62 = .inl (cy 1, 2000, .inl (fun i => nI (fg i))) := (F_47 62 (by decide)).trans z4
          have ff0_69 : M43 100 = gh (.int (nI (prK x g))) := (F_43 100 (by decide)).trans i3
          have ff0_70 : M47 100 = gh (.int (nI (prK x g))) := (F_47 100 (by decide)).trans ff0_69
          have hI9 : bkI O x g = (-2) := by unfold bkI; rw [hbk]; dsimp only; rw [if_pos rfl]
          have hB9 : bkB O x g B = B := by unfold bkB; rw [hbk]; dsimp only; rw [if_pos rfl]
          have hF9 : bkF O x g = nI (rLine O c (gN c g0) Fd.length i).2.1 := by unfold bkF; rw [hbk]; dsimp only; rw [if_pos rfl]
          simp only [sel0 hK]
          rw [hI9, hB9, hF9]
          exact ⟨(fun _ => rfl), ff0_70, ⟨go_47, xln_50, xra_53, xoutR_55, xby_58, g_47, ff15_61, ⟨_, xrw_64⟩, ⟨_, xdg_67⟩, ⟨_, f62_68⟩⟩, (((i8.sub (by decide)).tr (F_43.sub (by decide))).tr (F_47.sub (by decide)))⟩
    · have hK : ¬ prK x g = 0 := by have := of_decide_eq_true (ts_of c_28); omega
      refine m_iconst (pc' := 32) (v := nI 0) C dX12_back_31 (by decide) rfl ?_
      refine m_iret C hrt0 hlk0 rfl dX12_back_32 ?_
      have xln_71 := hln.fr F_1 (by decide)
      have xra_72 := hra.fr F_1 (by decide)
      have xoutR_73 := hout.fr F_1 (by decide)
      have xby_74 := hby.fr F_1 (by decide)
      have ff14_75 : M1 114 = gh (.int (fp)) := (F_1 114 (by decide)).trans h14
      have ff15_76 : M1 115 = gh (.int (ot)) := (F_1 115 (by decide)).trans h15
      have xrw_77 := hrw.fr F_1 (by decide)
      have xdg_78 := hdg.fr F_1 (by decide)
      have f62_79 : M1 62 = .inl (cy 1, 2000, .inl (fun i => nI (gf i))) := (F_1 62 (by decide)).trans hfd
      simp only [sel1 hK]
      exact ⟨(fun q => absurd q hK), pf0_1, ⟨pro_1, xln_71, xra_72, xoutR_73, xby_74, ff14_75, ff15_76, ⟨_, xrw_77⟩, ⟨_, xdg_78⟩, ⟨_, f62_79⟩⟩, (F_1.sub (by decide))⟩
  refine m_iload_n (pc' := 2) C dX12_back_1 rfl 1 rfl rfl ?_
  refine m_iconst (pc' := 3) (v := nI 1) C dX12_back_2 (by decide) rfl ?_
  refine m_bipush (pc' := 5) (v := nI 32) C dX12_back_3 (by decide) rfl ?_
  refine m_callSi (pc' := 8) (As := [.int (x), .int (nI 1), .int (nI 32)]) (rest := [.ref (ad 52)]) C (kX12_isIn hI x (nI 1) (nI 32)) (cwS 3 C.1.2.2.2.2 (goodS tm_5_198 tm_5_199 tm_1_13 tm_5_200) rfl rfl rfl (by decide +kernel) ⟨by decide, by decide⟩) rfl rfl (Nat.le_of_ble_eq_true rfl) dX12_back_5 rfl ⟨by decide, by decide⟩ (fun x_80 N_80 q_80 => ?_)
  obtain ⟨e_80, E_80⟩ := q_80
  replace E_80 := E_80.symm
  subst E_80
  replace e_80 := e_80.symm
  subst e_80
  refine m_if_eq (pc' := 11) (tgt := 24) C dX12_back_8 (by decide) rfl (fun c_8 => ?_) (fun c_8 => ?_)
  · have hz : shOk x g = false := decide_eq_false (fun q => of_decide_eq_false ((bI_0 _).mp c_8) ⟨q.1, q.2.1⟩)
    refine m_iconst (pc' := 25) (v := nI 1) C dX12_back_24 (by decide) rfl ?_
    refine m_lv [0, 1, 2] rfl ?_
    exact J25 (nI 1) (by unfold prK; rw [if_neg (by rw [hz]; decide)])
  · have hx12 := of_decide_eq_true (ts_of c_8)
    refine m_iload_n (pc' := 12) C dX12_back_11 rfl 2 rfl rfl ?_
    refine m_iconst (pc' := 13) (v := 0) C dX12_back_12 (by decide) rfl ?_
    refine m_iload_n (pc' := 14) C dX12_back_13 rfl 1 rfl rfl ?_
    refine m_callSi (pc' := 17) (As := [.int (g), .int (0), .int (x)]) (rest := [.ref (ad 52)]) C (kX12_isIn hI g 0 x) (cwS 3 C.1.2.2.2.2 (goodS tm_5_198 tm_5_199 tm_1_13 tm_5_200) rfl rfl rfl (by decide +kernel) ⟨by decide, by decide⟩) rfl rfl (Nat.le_of_ble_eq_true rfl) dX12_back_14 rfl ⟨by decide, by decide⟩ (fun x_81 N_81 q_81 => ?_)
    obtain ⟨e_81, E_81⟩ := q_81
    replace E_81 := E_81.symm
    subst E_81
    replace e_81 := e_81.symm
    subst e_81
    refine m_if_eq (pc' := 20) (tgt := 24) C dX12_back_17 (by decide) rfl (fun c_17 => ?_) (fun c_17 => ?_)
    · have hz : shOk x g = false := decide_eq_false (fun q => of_decide_eq_false ((bI_0 _).mp c_17) ⟨q.2.2.1, q.2.2.2⟩)
      refine m_iconst (pc' := 25) (v := nI 1) C dX12_back_24 (by decide) rfl ?_
      refine m_lv [0, 1, 2] rfl ?_
      exact J25 (nI 1) (by unfold prK; rw [if_neg (by rw [hz]; decide)])
    · have hg12 := of_decide_eq_true (ts_of c_17)
      have hz : shOk x g = true := decide_eq_true ⟨hx12.1, hx12.2, hg12.1, hg12.2⟩
      refine m_iconst (pc' := 21) (v := nI 0) C dX12_back_20 (by decide) rfl ?_
      refine m_goto (tgt := 25) C dX12_back_21 (by decide) ?_
      refine m_lv [0, 1, 2] rfl ?_
      exact J25 (nI 0) (by unfold prK; rw [if_pos hz])
