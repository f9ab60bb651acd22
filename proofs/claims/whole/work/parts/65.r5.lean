set_option maxHeartbeats 4000000 in
set_option maxRecDepth 100000 in
theorem kX12_badAt {l : Launch} {D : va_G} {cy : Nat → ClassId} {ad : Nat → Nat} {n : Nat} {A : Nat → Prop} (hI : mI ad n A) {M : Nat → va_E} (hn : 63 ≤ n) (hn2 : n ≤ 100) (hro : rO ad M) {T : List Nat} (hln : isLn cy M T) : mMi l yX12_badAt (gW yX12_badAt cX12_badAt 4 (some .int)) { frames := 3, cells := 0, slots := 0, locals := 66 } D cy ad n A [.ref (ad 52)] M (fun res M' => res = fltI (fltF T 80 0) ∧ rO ad M' ∧ Fr [52, 119, 120, 121, 122, 123, 124, 125, 126, 127, 128] M M') := by
  obtain ⟨t1, t2, t3, t4, g, t5, t6⟩ := id hln
  refine m_entry (cc := cX12_badAt) (maxL := 4) (ret := (some .int)) (own := RX12) (lv := [(0, .ref (ad 52))]) hI (by decide) rfl rfl (Nat.le_of_ble_eq_true rfl) rfl (fun pX eX sX mX aX bX tX cX C hrt0 hlk0 => ?_)
  refine m_aload_n (pc' := 1) C dX12_badAt_0 rfl 0 rfl rfl ?_
  refine m_iconst (pc' := 2) (v := nI 0) C dX12_badAt_1 (by decide) rfl ?_
  refine r_put (ty := .int) C hn hn2 hro inW_X12 19 119 (by decide) rfl ⟨rfl, rfl, rfl, rfl⟩ (gW_of tm_5_69) (by decide +kernel) rfl rfl (fun _ => rfl) dX12_badAt_2 rfl (fun M1 go_1 g_1 F_1 => ?_)
  refine m_lv [0] rfl ?_
  refine m_loop (σ := Nat × Nat × (Nat → va_E)) (fun a => a.2.2) (fun a => [(0, .ref (ad 52))]) (fun a => fltF T 80 0 = fltF T (80 - a.1) a.2.1 ∧ (a.1 ≤ a.2.1 ∧ a.2.1 ≤ 200) ∧ rO ad a.2.2 ∧ a.2.2 119 = gh (.int (nI a.2.1)) ∧ Fr [52, 119, 120, 121, 122, 123, 124, 125, 126, 127, 128] M a.2.2) (fun a => 80 - a.1) (0, 0, M1) (⟨rfl, ⟨Nat.le_refl _, Nat.zero_le _⟩, go_1, g_1, (F_1.sub (by decide))⟩) ?_
  rintro ⟨k, i, Mk⟩ hinv ih
  dsimp only at hinv ih ⊢
  obtain ⟨i1, ⟨i2, i3⟩, i4, i5, i6⟩ := hinv
  have hc8 := gd_lt0 t1 i
  have hc9 := gd_lt0 t1 (i + 1)
  have hre := rEe_le T (i + 1)
  have hdp := dP4_le T (i + 1)
  refine m_aload_n (pc' := 6) C dX12_badAt_5 rfl 0 rfl rfl ?_
  refine r_get C hn i4 inW_X12 19 (by decide) ⟨rfl, rfl, rfl⟩ (gW_of tm_5_69) (r_at 19 rfl i5) dX12_badAt_6 rfl ?_
  refine m_aload_n (pc' := 10) C dX12_badAt_9 rfl 0 rfl rfl ?_
  have ff2_2 : Mk 102 = gh (.int (nI T.length)) := (i6 102 (by decide)).trans t3
  refine r_get C hn i4 inW_X12 2 (by decide) ⟨rfl, rfl, rfl⟩ (gW_of tm_5_52) (r_at 2 rfl ff2_2) dX12_badAt_10 rfl ?_
  refine m_icmp_ge (pc' := 16) (tgt := 128) C dX12_badAt_13 (by decide) rfl (fun c_13 => ?_) (fun c_13 => ?_)
  · have n_13 : T.length ≤ i := (nI_leI (by omega) (by omega)).mp c_13
    refine m_iconst (pc' := 129) (v := (-1)) C dX12_badAt_128 (by decide) rfl ?_
    refine m_iret C hrt0 hlk0 rfl dX12_badAt_129 ?_
    exact ⟨by rw [i1, fltF_e n_13]; rfl, i4, i6⟩
  · have n_13 : i < T.length := Nat.lt_of_not_le (fun q => c_13 ((nI_leI (by omega) (by omega)).mpr q))
    refine m_aload_n (pc' := 17) C dX12_badAt_16 rfl 0 rfl rfl ?_
    refine r_get C hn i4 inW_X12 19 (by decide) ⟨rfl, rfl, rfl⟩ (gW_of tm_5_69) (r_at 19 rfl i5) dX12_badAt_17 rfl ?_
    refine m_istore_n (pc' := 21) (lv' := [(1, .int (nI i)), (0, .ref (ad 52))]) C dX12_badAt_20 rfl (by decide) rfl rfl ?_
    refine m_aload_n (pc' := 22) C dX12_badAt_21 rfl 1 rfl rfl ?_
    refine r_get C hn i4 inW_X12 1 (by decide) ⟨rfl, rfl, rfl⟩ (gW_of tm_5_51) rfl dX12_badAt_22 rfl ?_
    refine m_aload_n (pc' := 26) C dX12_badAt_25 rfl 1 rfl rfl ?_
    refine r_get C hn i4 inW_X12 19 (by decide) ⟨rfl, rfl, rfl⟩ (gW_of tm_5_69) (r_at 19 rfl i5) dX12_badAt_26 rfl ?_
    have f53_3 : Mk 53 = .inl (cy 0, 80, .inl (fun i => nI (g i))) := (i6 53 (by decide)).trans t5
    refine m_cald (pc' := 30) (v := nI (T.getD i 0)) C 53 (by omega) f53_3 (vp_in_nI (by omega) (by decide)) (by rw [nI_clamp (by omega), t6 _ n_13]) dX12_badAt_29 rfl ?_
    refine m_istore_n (pc' := 31) (lv' := [(2, .int (nI (T.getD i 0))), (1, .int (nI i)), (0, .ref (ad 52))]) C dX12_badAt_30 rfl (by decide) rfl rfl ?_
    refine m_aload_n (pc' := 32) C dX12_badAt_31 rfl 2 rfl rfl ?_
    refine m_dup (pc' := 33) C dX12_badAt_32 rfl rfl ?_
    refine r_get C hn i4 inW_X12 19 (by decide) ⟨rfl, rfl, rfl⟩ (gW_of tm_5_69) (r_at 19 rfl i5) dX12_badAt_33 rfl ?_
    refine m_iconst (pc' := 37) (v := nI 1) C dX12_badAt_36 (by decide) rfl ?_
    refine m_iadd (pc' := 38) (v := nI (i + 1)) C dX12_badAt_37 (nI_add _ _) rfl ?_
    refine r_put (ty := .int) C hn hn2 i4 inW_X12 19 119 (by decide) rfl ⟨rfl, rfl, rfl, rfl⟩ (gW_of tm_5_69) (by decide +kernel) rfl rfl (fun _ => rfl) dX12_badAt_38 rfl (fun M4 go_4 g_4 F_4 => ?_)
    refine m_iconst (pc' := 42) (v := nI 1) C dX12_badAt_41 (by decide) rfl ?_
    refine m_istore_n (pc' := 43) (lv' := [(3, .int (nI 1)), (2, .int (nI (T.getD i 0))), (1, .int (nI i)), (0, .ref (ad 52))]) C dX12_badAt_42 rfl (by decide) rfl rfl ?_
    refine m_iload_n (pc' := 44) C dX12_badAt_43 rfl 1 rfl rfl ?_
    refine m_bipush (pc' := 46) (v := nI 92) C dX12_badAt_44 (by decide) rfl ?_
    refine m_icmp_ne (pc' := 49) (tgt := 76) C dX12_badAt_46 (by decide) rfl (fun c_46 => ?_) (fun c_46 => ?_)
    · have n_46 : ¬ (T.getD i 0) = 92 := fun q => c_46 ((nI_eq (by omega) (by omega)).mpr q)
      refine m_iload_n (pc' := 77) C dX12_badAt_76 rfl 1 rfl rfl ?_
      refine m_bipush (pc' := 79) (v := nI 37) C dX12_badAt_77 (by decide) rfl ?_
      refine m_icmp_ne (pc' := 82) (tgt := 108) C dX12_badAt_79 (by decide) rfl (fun c_79 => ?_) (fun c_79 => ?_)
      · have n_79 : ¬ (T.getD i 0) = 37 := fun q => c_79 ((nI_eq (by omega) (by omega)).mpr q)
        refine m_iload_n (pc' := 109) C dX12_badAt_108 rfl 1 rfl rfl ?_
        refine m_bipush (pc' := 111) (v := nI 37) C dX12_badAt_109 (by decide) rfl ?_
        refine m_icmp_ne (pc' := 114) (tgt := 119) C dX12_badAt_111 (by decide) rfl (fun c_111 => ?_) (fun c_111 => ?_)
        · have n_111 : ¬ (T.getD i 0) = 37 := fun q => c_111 ((nI_eq (by omega) (by omega)).mpr q)
          refine m_iload_n (pc' := 120) C dX12_badAt_119 rfl 0 rfl rfl ?_
          refine m_if_ne (pc' := 123) (tgt := 125) C dX12_badAt_120 (by decide) rfl (fun c_120 => ?_) (fun c_120 => ?_)
          · refine m_goto (tgt := 5) C dX12_badAt_125 (by decide) ?_
            refine m_lv [3] rfl ?_
            exact ih (k + 1, (i + 1), M4) (⟨by rw [i1, show 80 - k = (80 - (k + 1)) + 1 by omega, fltF_s n_13 (by omega) (pcI_o n_46 n_79)], ⟨by (try dsimp only); omega, by (try dsimp only); omega⟩, go_4, g_4, (i6.tr (F_4.sub (by decide)))⟩) (by simp only; omega)
          · exact absurd (Classical.not_not.mp c_120) (by decide)
        · have n_111 : (T.getD i 0) = 37 := (nI_eq (by omega) (by omega)).mp (Classical.not_not.mp c_111)
          exact absurd n_111 n_79
      · have n_79 : (T.getD i 0) = 37 := (nI_eq (by omega) (by omega)).mp (Classical.not_not.mp c_79)
        refine m_aload_n (pc' := 83) C dX12_badAt_82 rfl 3 rfl rfl ?_
        refine m_aload_n (pc' := 84) C dX12_badAt_83 rfl 3 rfl rfl ?_
        refine r_get C hn go_4 inW_X12 19 (by decide) ⟨rfl, rfl, rfl⟩ (gW_of tm_5_69) (r_at 19 rfl g_4) dX12_badAt_84 rfl ?_
        have xln_6 := hln.fr i6 (by decide)
        have xln_7 := xln_6.fr F_4 (by decide)
        refine m_callVi (pc' := 90) (As := [.int (nI (i + 1))]) (rest := []) C (kX12_charAt hI hn hn2 go_4 xln_7 (i := (i + 1)) (by omega)) (cwV 1 C.1.2.2.2.2 (goodV tm_5_213 tm_5_215 tp_52 tm_1_13 tm_5_216) rfl rfl rfl (by decide +kernel) ⟨by decide, by decide⟩) (by omega) go_4 rfl rfl rfl (Nat.le_of_ble_eq_true rfl) dX12_badAt_87 rfl ⟨by decide, by decide⟩ (fun x_5 N_5 q_5 => ?_)
        obtain ⟨e_5, E_5⟩ := q_5
        replace E_5 := E_5.symm
        subst E_5
        replace e_5 := e_5.symm
        subst e_5
        refine m_bipush (pc' := 92) (v := nI 37) C dX12_badAt_90 (by decide) rfl ?_
        refine m_icmp_ne (pc' := 95) (tgt := 108) C dX12_badAt_92 (by decide) rfl (fun c_92 => ?_) (fun c_92 => ?_)
        · have n_92 : ¬ (T.getD (i + 1) 0) = 37 := fun q => c_92 ((nI_eq (by omega) (by omega)).mpr q)
          refine m_iload_n (pc' := 109) C dX12_badAt_108 rfl 1 rfl rfl ?_
          refine m_bipush (pc' := 111) (v := nI 37) C dX12_badAt_109 (by decide) rfl ?_
          refine m_icmp_ne (pc' := 114) (tgt := 119) C dX12_badAt_111 (by decide) rfl (fun c_111 => ?_) (fun c_111 => ?_)
          · have n_111 : ¬ (T.getD i 0) = 37 := fun q => c_111 ((nI_eq (by omega) (by omega)).mpr q)
            exact absurd n_79 n_111
          · have n_111 : (T.getD i 0) = 37 := (nI_eq (by omega) (by omega)).mp (Classical.not_not.mp c_111)
            refine m_aload_n (pc' := 115) C dX12_badAt_114 rfl 3 rfl rfl ?_
            refine m_callVi (pc' := 118) (As := []) (rest := []) C (kX12_readDirective hI hn hn2 go_4 xln_7 g_4 (by omega)) (cwV 0 C.1.2.2.2.2 (goodV tm_5_223 tm_5_225 tp_53 tm_1_13 tm_5_226) rfl rfl rfl (by decide +kernel) ⟨by decide, by decide⟩) (by omega) go_4 rfl rfl rfl (Nat.le_of_ble_eq_true rfl) dX12_badAt_115 rfl ⟨by decide, by decide⟩ (fun x_8 M8 q_8 => ?_)
            obtain ⟨e_8, pro_8, pf19_8, pf20_8, pf21_8, pf22_8, pf23_8, pf24_8, pf25_8, pf26_8, pf27_8, pf28_8, F_8⟩ := q_8
            replace e_8 := e_8.symm
            subst e_8
            refine m_istore_n (pc' := 119) (lv' := [(3, .int (bI (dirOk T (i + 1)))), (2, .int (nI (T.getD i 0))), (1, .int (nI i)), (0, .ref (ad 52))]) C dX12_badAt_118 rfl (by decide) rfl rfl ?_
            refine m_iload_n (pc' := 120) C dX12_badAt_119 rfl 0 rfl rfl ?_
            refine m_if_ne (pc' := 123) (tgt := 125) C dX12_badAt_120 (by decide) rfl (fun c_120 => ?_) (fun c_120 => ?_)
            · refine m_goto (tgt := 5) C dX12_badAt_125 (by decide) ?_
              refine m_lv [3] rfl ?_
              exact ih (k + 1, (dP4 T (i + 1) + 1), M8) (⟨by rw [i1, show 80 - k = (80 - (k + 1)) + 1 by omega, fltF_s n_13 (by omega) (pcI_d n_79 n_92 (ts_of c_120))], ⟨by (try dsimp only); omega, by (try dsimp only); omega⟩, pro_8, pf19_8, ((i6.tr (F_4.sub (by decide))).tr (F_8.sub (by decide)))⟩) (by simp only; omega)
            · have hb : pcI T i = -1 := pcI_db n_79 n_92 ((bI_0 _).mp (Classical.not_not.mp c_120))
              refine m_iload_n (pc' := 124) C dX12_badAt_123 rfl 2 rfl rfl ?_
              refine m_iret C hrt0 hlk0 rfl dX12_badAt_124 ?_
              exact ⟨by rw [i1, show 80 - k = (80 - (k + 1)) + 1 by omega, fltF_b n_13 hb]; rfl, pro_8, ((i6.tr (F_4.sub (by decide))).tr (F_8.sub (by decide)))⟩
        · have n_92 : (T.getD (i + 1) 0) = 37 := (nI_eq (by omega) (by omega)).mp (Classical.not_not.mp c_92)
          refine m_aload_n (pc' := 96) C dX12_badAt_95 rfl 3 rfl rfl ?_
          refine m_dup (pc' := 97) C dX12_badAt_96 rfl rfl ?_
          refine r_get C hn go_4 inW_X12 19 (by decide) ⟨rfl, rfl, rfl⟩ (gW_of tm_5_69) (r_at 19 rfl g_4) dX12_badAt_97 rfl ?_
          refine m_iconst (pc' := 101) (v := nI 1) C dX12_badAt_100 (by decide) rfl ?_
          refine m_iadd (pc' := 102) (v := nI (i + 2)) C dX12_badAt_101 (nI_add _ _) rfl ?_
          refine r_put (ty := .int) C hn hn2 go_4 inW_X12 19 119 (by decide) rfl ⟨rfl, rfl, rfl, rfl⟩ (gW_of tm_5_69) (by decide +kernel) rfl rfl (fun _ => rfl) dX12_badAt_102 rfl (fun M9 go_9 g_9 F_9 => ?_)
          refine m_goto (tgt := 119) C dX12_badAt_105 (by decide) ?_
          refine m_iload_n (pc' := 120) C dX12_badAt_119 rfl 0 rfl rfl ?_
          refine m_if_ne (pc' := 123) (tgt := 125) C dX12_badAt_120 (by decide) rfl (fun c_120 => ?_) (fun c_120 => ?_)
          · refine m_goto (tgt := 5) C dX12_badAt_125 (by decide) ?_
            refine m_lv [3] rfl ?_
            exact ih (k + 1, (i + 2), M9) (⟨by rw [i1, show 80 - k = (80 - (k + 1)) + 1 by omega, fltF_s n_13 (by omega) (pcI_p n_79 n_92)], ⟨by (try dsimp only); omega, by (try dsimp only); omega⟩, go_9, g_9, ((i6.tr (F_4.sub (by decide))).tr (F_9.sub (by decide)))⟩) (by simp only; omega)
          · exact absurd (Classical.not_not.mp c_120) (by decide)
    · have n_46 : (T.getD i 0) = 92 := (nI_eq (by omega) (by omega)).mp (Classical.not_not.mp c_46)
      refine m_aload_n (pc' := 50) C dX12_badAt_49 rfl 3 rfl rfl ?_
      refine r_get C hn go_4 inW_X12 19 (by decide) ⟨rfl, rfl, rfl⟩ (gW_of tm_5_69) (r_at 19 rfl g_4) dX12_badAt_50 rfl ?_
      refine m_aload_n (pc' := 54) C dX12_badAt_53 rfl 3 rfl rfl ?_
      have ff2_10 : M4 102 = gh (.int (nI T.length)) := (F_4 102 (by decide)).trans ff2_2
      refine r_get C hn go_4 inW_X12 2 (by decide) ⟨rfl, rfl, rfl⟩ (gW_of tm_5_52) (r_at 2 rfl ff2_10) dX12_badAt_54 rfl ?_
      refine m_icmp_ge (pc' := 60) (tgt := 71) C dX12_badAt_57 (by decide) rfl (fun c_57 => ?_) (fun c_57 => ?_)
      · have n_57 : T.length ≤ (i + 1) := (nI_leI (by omega) (by omega)).mp c_57
        have hb : pcI T i = -1 := pcI_eb n_46 (escOk_out n_57)
        refine m_iconst (pc' := 72) (v := nI 0) C dX12_badAt_71 (by decide) rfl ?_
        refine m_istore_n (pc' := 73) (lv' := [(3, .int (nI 0)), (2, .int (nI (T.getD i 0))), (1, .int (nI i)), (0, .ref (ad 52))]) C dX12_badAt_72 rfl (by decide) rfl rfl ?_
        refine m_goto (tgt := 119) C dX12_badAt_73 (by decide) ?_
        refine m_iload_n (pc' := 120) C dX12_badAt_119 rfl 0 rfl rfl ?_
        refine m_if_ne (pc' := 123) (tgt := 125) C dX12_badAt_120 (by decide) rfl (fun c_120 => ?_) (fun c_120 => ?_)
        · exact absurd (by decide) c_120
        · refine m_iload_n (pc' := 124) C dX12_badAt_123 rfl 2 rfl rfl ?_
          refine m_iret C hrt0 hlk0 rfl dX12_badAt_124 ?_
          exact ⟨by rw [i1, show 80 - k = (80 - (k + 1)) + 1 by omega, fltF_b n_13 hb]; rfl, go_4, (i6.tr (F_4.sub (by decide)))⟩
      · have n_57 : (i + 1) < T.length := Nat.lt_of_not_le (fun q => c_57 ((nI_leI (by omega) (by omega)).mpr q))
        refine m_aload_n (pc' := 61) C dX12_badAt_60 rfl 3 rfl rfl ?_
        have xln_12 := hln.fr i6 (by decide)
        have xln_13 := xln_12.fr F_4 (by decide)
        refine m_callVi (pc' := 64) (As := []) (rest := []) C (kX12_readEscape hI hn hn2 go_4 xln_13 g_4 (by omega)) (cwV 0 C.1.2.2.2.2 (goodV tm_5_209 tm_5_211 tp_51 tm_1_13 tm_5_212) rfl rfl rfl (by decide +kernel) ⟨by decide, by decide⟩) (by omega) go_4 rfl rfl rfl (Nat.le_of_ble_eq_true rfl) dX12_badAt_61 rfl ⟨by decide, by decide⟩ (fun x_11 M11 q_11 => ?_)
        obtain ⟨e_11, pro_11, pf19_11, F_11⟩ := q_11
        replace e_11 := e_11.symm
        subst e_11
        refine m_if_lt (pc' := 67) (tgt := 71) C dX12_badAt_64 (by decide) rfl (fun c_64 => ?_) (fun c_64 => ?_)
        · have hb : pcI T i = -1 := pcI_eb n_46 (rEv_lt0.mp c_64)
          refine m_iconst (pc' := 72) (v := nI 0) C dX12_badAt_71 (by decide) rfl ?_
          refine m_istore_n (pc' := 73) (lv' := [(3, .int (nI 0)), (2, .int (nI (T.getD i 0))), (1, .int (nI i)), (0, .ref (ad 52))]) C dX12_badAt_72 rfl (by decide) rfl rfl ?_
          refine m_goto (tgt := 119) C dX12_badAt_73 (by decide) ?_
          refine m_iload_n (pc' := 120) C dX12_badAt_119 rfl 0 rfl rfl ?_
          refine m_if_ne (pc' := 123) (tgt := 125) C dX12_badAt_120 (by decide) rfl (fun c_120 => ?_) (fun c_120 => ?_)
          · exact absurd (by decide) c_120
          · refine m_iload_n (pc' := 124) C dX12_badAt_123 rfl 2 rfl rfl ?_
            refine m_iret C hrt0 hlk0 rfl dX12_badAt_124 ?_
            exact ⟨by rw [i1, show 80 - k = (80 - (k + 1)) + 1 by omega, fltF_b n_13 hb]; rfl, pro_11, ((i6.tr (F_4.sub (by decide))).tr (F_11.sub (by decide)))⟩
        · have hok : escOk T (i + 1) = true := by
            cases q : escOk T (i + 1) with
            | true => rfl
            | false => exact absurd (rEv_lt0.mpr q) c_64
          refine m_iconst (pc' := 68) (v := nI 1) C dX12_badAt_67 (by decide) rfl ?_
          refine m_goto (tgt := 72) C dX12_badAt_68 (by decide) ?_
          refine m_istore_n (pc' := 73) (lv' := [(3, .int (nI 1)), (2, .int (nI (T.getD i 0))), (1, .int (nI i)), (0, .ref (ad 52))]) C dX12_badAt_72 rfl (by decide) rfl rfl ?_
          refine m_goto (tgt := 119) C dX12_badAt_73 (by decide) ?_
          refine m_iload_n (pc' := 120) C dX12_badAt_119 rfl 0 rfl rfl ?_
          refine m_if_ne (pc' := 123) (tgt := 125) C dX12_badAt_120 (by decide) rfl (fun c_120 => ?_) (fun c_120 => ?_)
          · refine m_goto (tgt := 5) C dX12_badAt_125 (by decide) ?_
            refine m_lv [3] rfl ?_
            exact ih (k + 1, (rEe T (i + 1)), M11) (⟨by rw [i1, show 80 - k = (80 - (k + 1)) + 1 by omega, fltF_s n_13 (by omega) (pcI_e n_46 hok)], ⟨by (try dsimp only); omega, by (try dsimp only); omega⟩, pro_11, pf19_11, ((i6.tr (F_4.sub (by decide))).tr (F_11.sub (by decide)))⟩) (by simp only; omega)
          · exact absurd (Classical.not_not.mp c_120) (by decide)
set_option maxHeartbeats 4000000 in
set_option maxRecDepth 100000 in
theorem kX12_baseDigit {l : Launch} {D : va_G} {cy : Nat → ClassId} {ad : Nat → Nat} {n : Nat} {A : Nat → Prop} (hI : mI ad n A) {M : Nat → va_E} {c b : Nat} (hc : c < 65536) (hb : b ≤ 16) : mMi l yX12_baseDigit (gW yX12_baseDigit cX12_baseDigit 3 (some .int)) { frames := 0, cells := 0, slots := 0, locals := 0 } D cy ad n A [.int (nI c), .int (nI b)] M (fun res M' => res = dI c b ∧ M' = M) := by
  refine m_entry (cc := cX12_baseDigit) (maxL := 3) (ret := (some .int)) (own := RX12) (lv := [(0, .int (nI c)), (1, .int (nI b))]) hI (by decide) rfl rfl (Nat.le_of_ble_eq_true rfl) rfl (fun pX eX sX mX aX bX tX cX C hrt0 hlk0 => ?_)
  refine m_cut (σ := Nat) (fun a => a = dvN c) (fun a => M) 65 (fun a => [(0, .int (nI c)), (1, .int (nI b))]) (fun a => [.int (nI a)]) ?_ (fun J65 => ?_)
  · rintro z hj
    try dsimp only at hj ⊢
    have hz9 : z ≤ 99 := by rw [hj]; unfold dvN; (repeat' split) <;> omega
    refine m_istore_n (pc' := 66) (lv' := [(2, .int (nI z)), (0, .int (nI c)), (1, .int (nI b))]) C dX12_baseDigit_65 rfl (by decide) rfl rfl ?_
    refine m_iload_n (pc' := 67) C dX12_baseDigit_66 rfl 0 rfl rfl ?_
    refine m_iload_n (pc' := 68) C dX12_baseDigit_67 rfl 2 rfl rfl ?_
    refine m_icmp_ge (pc' := 71) (tgt := 75) C dX12_baseDigit_68 (by decide) rfl (fun c_68 => ?_) (fun c_68 => ?_)
    · have n_68 : b ≤ z := (nI_leI (by omega) (by omega)).mp c_68
      refine m_iconst (pc' := 76) (v := (-1)) C dX12_baseDigit_75 (by decide) rfl ?_
      refine m_iret C hrt0 hlk0 rfl dX12_baseDigit_76 ?_
      refine ⟨?_, rfl⟩
      unfold dI
      first | (rw [if_pos (by omega), ← hj]; done) | (rw [if_neg (by omega)]; done)
    · have n_68 : z < b := Nat.lt_of_not_le (fun q => c_68 ((nI_leI (by omega) (by omega)).mpr q))
      refine m_iload_n (pc' := 72) C dX12_baseDigit_71 rfl 0 rfl rfl ?_
      refine m_goto (tgt := 76) C dX12_baseDigit_72 (by decide) ?_
      refine m_iret C hrt0 hlk0 rfl dX12_baseDigit_76 ?_
      refine ⟨?_, rfl⟩
      unfold dI
      first | (rw [if_pos (by omega), ← hj]; done) | (rw [if_neg (by omega)]; done)
  refine m_iload_n (pc' := 1) C dX12_baseDigit_0 rfl 0 rfl rfl ?_
  refine m_bipush (pc' := 3) (v := nI 48) C dX12_baseDigit_1 (by decide) rfl ?_
  refine m_icmp_lt (pc' := 6) (tgt := 19) C dX12_baseDigit_3 (by decide) rfl (fun c_3 => ?_) (fun c_3 => ?_)
  · have n_3 : c < 48 := (nI_ltI (by omega) (by omega)).mp c_3
    refine m_iload_n (pc' := 20) C dX12_baseDigit_19 rfl 0 rfl rfl ?_
    refine m_bipush (pc' := 22) (v := nI 97) C dX12_baseDigit_20 (by decide) rfl ?_
    refine m_icmp_lt (pc' := 25) (tgt := 41) C dX12_baseDigit_22 (by decide) rfl (fun c_22 => ?_) (fun c_22 => ?_)
    · have n_22 : c < 97 := (nI_ltI (by omega) (by omega)).mp c_22
      refine m_iload_n (pc' := 42) C dX12_baseDigit_41 rfl 0 rfl rfl ?_
      refine m_bipush (pc' := 44) (v := nI 65) C dX12_baseDigit_42 (by decide) rfl ?_
      refine m_icmp_lt (pc' := 47) (tgt := 63) C dX12_baseDigit_44 (by decide) rfl (fun c_44 => ?_) (fun c_44 => ?_)
      · have n_44 : c < 65 := (nI_ltI (by omega) (by omega)).mp c_44
        refine m_bipush (pc' := 65) (v := nI 99) C dX12_baseDigit_63 (by decide) rfl ?_
        refine m_lv [0, 1] rfl ?_
        exact J65 99 (by unfold dvN; (repeat' split) <;> omega)
      · have n_44 : 65 ≤ c := Nat.le_of_not_lt (fun q => c_44 ((nI_ltI (by omega) (by omega)).mpr q))
        refine m_iload_n (pc' := 48) C dX12_baseDigit_47 rfl 0 rfl rfl ?_
        refine m_bipush (pc' := 50) (v := nI 70) C dX12_baseDigit_48 (by decide) rfl ?_
        refine m_icmp_gt (pc' := 53) (tgt := 63) C dX12_baseDigit_50 (by decide) rfl (fun c_50 => ?_) (fun c_50 => ?_)
        · have n_50 : 70 < c := (nI_ltI (by omega) (by omega)).mp c_50
          refine m_bipush (pc' := 65) (v := nI 99) C dX12_baseDigit_63 (by decide) rfl ?_
          refine m_lv [0, 1] rfl ?_
          exact J65 99 (by unfold dvN; (repeat' split) <;> omega)
        · have n_50 : c ≤ 70 := Nat.le_of_not_lt (fun q => c_50 ((nI_ltI (by omega) (by omega)).mpr q))
          refine m_iload_n (pc' := 54) C dX12_baseDigit_53 rfl 0 rfl rfl ?_
          refine m_bipush (pc' := 56) (v := nI 65) C dX12_baseDigit_54 (by decide) rfl ?_
          refine m_isub (pc' := 57) (v := nI (c - 65)) C dX12_baseDigit_56 (pk_sub (by omega)) rfl ?_
          refine m_bipush (pc' := 59) (v := nI 10) C dX12_baseDigit_57 (by decide) rfl ?_
          refine m_iadd (pc' := 60) (v := nI ((c - 65) + 10)) C dX12_baseDigit_59 (nI_add _ _) rfl ?_
          refine m_goto (tgt := 65) C dX12_baseDigit_60 (by decide) ?_
          refine m_lv [0, 1] rfl ?_
          exact J65 ((c - 65) + 10) (by unfold dvN; (repeat' split) <;> omega)
    · have n_22 : 97 ≤ c := Nat.le_of_not_lt (fun q => c_22 ((nI_ltI (by omega) (by omega)).mpr q))
      refine m_iload_n (pc' := 26) C dX12_baseDigit_25 rfl 0 rfl rfl ?_
      refine m_bipush (pc' := 28) (v := nI 102) C dX12_baseDigit_26 (by decide) rfl ?_
      refine m_icmp_gt (pc' := 31) (tgt := 41) C dX12_baseDigit_28 (by decide) rfl (fun c_28 => ?_) (fun c_28 => ?_)
      · have n_28 : 102 < c := (nI_ltI (by omega) (by omega)).mp c_28
        refine m_iload_n (pc' := 42) C dX12_baseDigit_41 rfl 0 rfl rfl ?_
        refine m_bipush (pc' := 44) (v := nI 65) C dX12_baseDigit_42 (by decide) rfl ?_
        refine m_icmp_lt (pc' := 47) (tgt := 63) C dX12_baseDigit_44 (by decide) rfl (fun c_44 => ?_) (fun c_44 => ?_)
        · have n_44 : c < 65 := (nI_ltI (by omega) (by omega)).mp c_44
          refine m_bipush (pc' := 65) (v := nI 99) C dX12_baseDigit_63 (by decide) rfl ?_
          refine m_lv [0, 1] rfl ?_
          exact J65 99 (by unfold dvN; (repeat' split) <;> omega)
        · have n_44 : 65 ≤ c := Nat.le_of_not_lt (fun q => c_44 ((nI_ltI (by omega) (by omega)).mpr q))
          refine m_iload_n (pc' := 48) C dX12_baseDigit_47 rfl 0 rfl rfl ?_
          refine m_bipush (pc' := 50) (v := nI 70) C dX12_baseDigit_48 (by decide) rfl ?_
          refine m_icmp_gt (pc' := 53) (tgt := 63) C dX12_baseDigit_50 (by decide) rfl (fun c_50 => ?_) (fun c_50 => ?_)
          · have n_50 : 70 < c := (nI_ltI (by omega) (by omega)).mp c_50
            refine m_bipush (pc' := 65) (v := nI 99) C dX12_baseDigit_63 (by decide) rfl ?_
            refine m_lv [0, 1] rfl ?_
            exact J65 99 (by unfold dvN; (repeat' split) <;> omega)
          · have n_50 : c ≤ 70 := Nat.le_of_not_lt (fun q => c_50 ((nI_ltI (by omega) (by omega)).mpr q))
            refine m_iload_n (pc' := 54) C dX12_baseDigit_53 rfl 0 rfl rfl ?_
            refine m_bipush (pc' := 56) (v := nI 65) C dX12_baseDigit_54 (by decide) rfl ?_
            refine m_isub (pc' := 57) (v := nI (c - 65)) C dX12_baseDigit_56 (pk_sub (by omega)) rfl ?_
            refine m_bipush (pc' := 59) (v := nI 10) C dX12_baseDigit_57 (by decide) rfl ?_
            refine m_iadd (pc' := 60) (v := nI ((c - 65) + 10)) C dX12_baseDigit_59 (nI_add _ _) rfl ?_
            refine m_goto (tgt := 65) C dX12_baseDigit_60 (by decide) ?_
            refine m_lv [0, 1] rfl ?_
            exact J65 ((c - 65) + 10) (by unfold dvN; (repeat' split) <;> omega)
      · have n_28 : c ≤ 102 := Nat.le_of_not_lt (fun q => c_28 ((nI_ltI (by omega) (by omega)).mpr q))
        refine m_iload_n (pc' := 32) C dX12_baseDigit_31 rfl 0 rfl rfl ?_
        refine m_bipush (pc' := 34) (v := nI 97) C dX12_baseDigit_32 (by decide) rfl ?_
        refine m_isub (pc' := 35) (v := nI (c - 97)) C dX12_baseDigit_34 (pk_sub (by omega)) rfl ?_
        refine m_bipush (pc' := 37) (v := nI 10) C dX12_baseDigit_35 (by decide) rfl ?_
        refine m_iadd (pc' := 38) (v := nI ((c - 97) + 10)) C dX12_baseDigit_37 (nI_add _ _) rfl ?_
        refine m_goto (tgt := 65) C dX12_baseDigit_38 (by decide) ?_
        refine m_lv [0, 1] rfl ?_
        exact J65 ((c - 97) + 10) (by unfold dvN; (repeat' split) <;> omega)
  · have n_3 : 48 ≤ c := Nat.le_of_not_lt (fun q => c_3 ((nI_ltI (by omega) (by omega)).mpr q))
    refine m_iload_n (pc' := 7) C dX12_baseDigit_6 rfl 0 rfl rfl ?_
    refine m_bipush (pc' := 9) (v := nI 57) C dX12_baseDigit_7 (by decide) rfl ?_
    refine m_icmp_gt (pc' := 12) (tgt := 19) C dX12_baseDigit_9 (by decide) rfl (fun c_9 => ?_) (fun c_9 => ?_)
    · have n_9 : 57 < c := (nI_ltI (by omega) (by omega)).mp c_9
      refine m_iload_n (pc' := 20) C dX12_baseDigit_19 rfl 0 rfl rfl ?_
      refine m_bipush (pc' := 22) (v := nI 97) C dX12_baseDigit_20 (by decide) rfl ?_
      refine m_icmp_lt (pc' := 25) (tgt := 41) C dX12_baseDigit_22 (by decide) rfl (fun c_22 => ?_) (fun c_22 => ?_)
      · have n_22 : c < 97 := (nI_ltI (by omega) (by omega)).mp c_22
        refine m_iload_n (pc' := 42) C dX12_baseDigit_41 rfl 0 rfl rfl ?_
        refine m_bipush (pc' := 44) (v := nI 65) C dX12_baseDigit_42 (by decide) rfl ?_
        refine m_icmp_lt (pc' := 47) (tgt := 63) C dX12_baseDigit_44 (by decide) rfl (fun c_44 => ?_) (fun c_44 => ?_)
        · have n_44 : c < 65 := (nI_ltI (by omega) (by omega)).mp c_44
          refine m_bipush (pc' := 65) (v := nI 99) C dX12_baseDigit_63 (by decide) rfl ?_
          refine m_lv [0, 1] rfl ?_
          exact J65 99 (by unfold dvN; (repeat' split) <;> omega)
        · have n_44 : 65 ≤ c := Nat.le_of_not_lt (fun q => c_44 ((nI_ltI (by omega) (by omega)).mpr q))
          refine m_iload_n (pc' := 48) C dX12_baseDigit_47 rfl 0 rfl rfl ?_
          refine m_bipush (pc' := 50) (v := nI 70) C dX12_baseDigit_48 (by decide) rfl ?_
          refine m_icmp_gt (pc' := 53) (tgt := 63) C dX12_baseDigit_50 (by decide) rfl (fun c_50 => ?_) (fun c_50 => ?_)
          · have n_50 : 70 < c := (nI_ltI (by omega) (by omega)).mp c_50
            refine m_bipush (pc' := 65) (v := nI 99) C dX12_baseDigit_63 (by decide) rfl ?_
            refine m_lv [0, 1] rfl ?_
            exact J65 99 (by unfold dvN; (repeat' split) <;> omega)
          · have n_50 : c ≤ 70 := Nat.le_of_not_lt (fun q => c_50 ((nI_ltI (by omega) (by omega)).mpr q))
            refine m_iload_n (pc' := 54) C dX12_baseDigit_53 rfl 0 rfl rfl ?_
            refine m_bipush (pc' := 56) (v := nI 65) C dX12_baseDigit_54 (by decide) rfl ?_
            refine m_isub (pc' := 57) (v := nI (c - 65)) C dX12_baseDigit_56 (pk_sub (by omega)) rfl ?_
            refine m_bipush (pc' := 59) (v := nI 10) C dX12_baseDigit_57 (by decide) rfl ?_
            refine m_iadd (pc' := 60) (v := nI ((c - 65) + 10)) C dX12_baseDigit_59 (nI_add _ _) rfl ?_
            refine m_goto (tgt := 65) C dX12_baseDigit_60 (by decide) ?_
            refine m_lv [0, 1] rfl ?_
            exact J65 ((c - 65) + 10) (by unfold dvN; (repeat' split) <;> omega)
      · have n_22 : 97 ≤ c := Nat.le_of_not_lt (fun q => c_22 ((nI_ltI (by omega) (by omega)).mpr q))
        refine m_iload_n (pc' := 26) C dX12_baseDigit_25 rfl 0 rfl rfl ?_
        refine m_bipush (pc' := 28) (v := nI 102) C dX12_baseDigit_26 (by decide) rfl ?_
        refine m_icmp_gt (pc' := 31) (tgt := 41) C dX12_baseDigit_28 (by decide) rfl (fun c_28 => ?_) (fun c_28 => ?_)
        · have n_28 : 102 < c := (nI_ltI (by omega) (by omega)).mp c_28
          refine m_iload_n (pc' := 42) C dX12_baseDigit_41 rfl 0 rfl rfl ?_
          refine m_bipush (pc' := 44) (v := nI 65) C dX12_baseDigit_42 (by decide) rfl ?_
          refine m_icmp_lt (pc' := 47) (tgt := 63) C dX12_baseDigit_44 (by decide) rfl (fun c_44 => ?_) (fun c_44 => ?_)
          · have n_44 : c < 65 := (nI_ltI (by omega) (by omega)).mp c_44
            refine m_bipush (pc' := 65) (v := nI 99) C dX12_baseDigit_63 (by decide) rfl ?_
            refine m_lv [0, 1] rfl ?_
            exact J65 99 (by unfold dvN; (repeat' split) <;> omega)
          · have n_44 : 65 ≤ c := Nat.le_of_not_lt (fun q => c_44 ((nI_ltI (by omega) (by omega)).mpr q))
            refine m_iload_n (pc' := 48) C dX12_baseDigit_47 rfl 0 rfl rfl ?_
            refine m_bipush (pc' := 50) (v := nI 70) C dX12_baseDigit_48 (by decide) rfl ?_
            refine m_icmp_gt (pc' := 53) (tgt := 63) C dX12_baseDigit_50 (by decide) rfl (fun c_50 => ?_) (fun c_50 => ?_)
            · have n_50 : 70 < c := (nI_ltI (by omega) (by omega)).mp c_50
              refine m_bipush (pc' := 65) (v := nI 99) C dX12_baseDigit_63 (by decide) rfl ?_
              refine m_lv [0, 1] rfl ?_
              exact J65 99 (by unfold dvN; (repeat' split) <;> omega)
            · have n_50 : c ≤ 70 := Nat.le_of_not_lt (fun q => c_50 ((nI_ltI (by omega) (by omega)).mpr q))
              refine m_iload_n (pc' := 54) C dX12_baseDigit_53 rfl 0 rfl rfl ?_
              refine m_bipush (pc' := 56) (v := nI 65) C dX12_baseDigit_54 (by decide) rfl ?_
              refine m_isub (pc' := 57) (v := nI (c - 65)) C dX12_baseDigit_56 (pk_sub (by omega)) rfl ?_
              refine m_bipush (pc' := 59) (v := nI 10) C dX12_baseDigit_57 (by decide) rfl ?_
              refine m_iadd (pc' := 60) (v := nI ((c - 65) + 10)) C dX12_baseDigit_59 (nI_add _ _) rfl ?_
              refine m_goto (tgt := 65) C dX12_baseDigit_60 (by decide) ?_
              refine m_lv [0, 1] rfl ?_
              exact J65 ((c - 65) + 10) (by unfold dvN; (repeat' split) <;> omega)
        · have n_28 : c ≤ 102 := Nat.le_of_not_lt (fun q => c_28 ((nI_ltI (by omega) (by omega)).mpr q))
          refine m_iload_n (pc' := 32) C dX12_baseDigit_31 rfl 0 rfl rfl ?_
          refine m_bipush (pc' := 34) (v := nI 97) C dX12_baseDigit_32 (by decide) rfl ?_
          refine m_isub (pc' := 35) (v := nI (c - 97)) C dX12_baseDigit_34 (pk_sub (by omega)) rfl ?_
          refine m_bipush (pc' := 37) (v := nI 10) C dX12_baseDigit_35 (by decide) rfl ?_
          refine m_iadd (pc' := 38) (v := nI ((c - 97) + 10)) C dX12_baseDigit_37 (nI_add _ _) rfl ?_
          refine m_goto (tgt := 65) C dX12_baseDigit_38 (by decide) ?_
          refine m_lv [0, 1] rfl ?_
          exact J65 ((c - 97) + 10) (by unfold dvN; (repeat' split) <;> omega)
    · have n_9 : c ≤ 57 := Nat.le_of_not_lt (fun q => c_9 ((nI_ltI (by omega) (by omega)).mpr q))
      refine m_iload_n (pc' := 13) C dX12_baseDigit_12 rfl 0 rfl rfl ?_
      refine m_bipush (pc' := 15) (v := nI 48) C dX12_baseDigit_13 (by decide) rfl ?_
      refine m_isub (pc' := 16) (v := nI (c - 48)) C dX12_baseDigit_15 (pk_sub (by omega)) rfl ?_
      refine m_goto (tgt := 65) C dX12_baseDigit_16 (by decide) ?_
      refine m_lv [0, 1] rfl ?_
      exact J65 (c - 48) (by unfold dvN; (repeat' split) <;> omega)
set_option maxHeartbeats 4000000 in
set_option maxRecDepth 100000 in
theorem kX12_textAt {l : Launch} {D : va_G} {cy : Nat → ClassId} {ad : Nat → Nat} {n : Nat} {A : Nat → Prop} (hI : mI ad n A) {M : Nat → va_E} (hn : 63 ≤ n) (hn2 : n ≤ 100) (hro : rO ad M) {xs : Nat → Arg} {cnt : Nat} (hra : isRA cy M xs cnt) {ix : Nat} {P : List Nat} (ha : ix < cnt) (hxa : xs ix = .inr P) {k : Nat} (hk : k < 2 ^ 20) : mMi l yX12_textAt (gW yX12_textAt cX12_textAt 3 (some .char)) { frames := 0, cells := 0, slots := 0, locals := 0 } D cy ad n A [.ref (ad 52), .int (nI ix), .int (nI k)] M (fun res M' => res = nI (P.getD k 0) ∧ M' = M) := by
  obtain ⟨a1, a2, b, f, z, g, a3, a4, a5, a6, a7⟩ := id hra
  have a8 := a7 ix ha
  rw [hxa] at a8
  obtain ⟨y1, y2, y3, y4, y5, y6⟩ := a8
  refine m_entry (cc := cX12_textAt) (maxL := 3) (ret := (some .char)) (own := RX12) (lv := [(0, .ref (ad 52)), (1, .int (nI ix)), (2, .int (nI k))]) hI (by decide) rfl rfl (Nat.le_of_ble_eq_true rfl) rfl (fun pX eX sX mX aX bX tX cX C hrt0 hlk0 => ?_)
  refine m_iload_n (pc' := 1) C dX12_textAt_0 rfl 2 rfl rfl ?_
  refine m_aload_n (pc' := 2) C dX12_textAt_1 rfl 0 rfl rfl ?_
  refine r_get C hn hro inW_X12 6 (by decide) ⟨rfl, rfl, rfl⟩ (gW_of tm_5_56) rfl dX12_textAt_2 rfl ?_
  refine m_iload_n (pc' := 6) C dX12_textAt_5 rfl 1 rfl rfl ?_
  refine m_iald (pc' := 7) (v := nI P.length) C 56 (by omega) a5 (vp_in_nI (by omega) (by decide)) (by rw [nI_clamp (by omega), y2]) dX12_textAt_6 rfl ?_
  refine m_icmp_ge (pc' := 10) (tgt := 24) C dX12_textAt_7 (by decide) rfl (fun c_7 => ?_) (fun c_7 => ?_)
  · have n_7 : P.length ≤ k := (nI_leI (by omega) (by omega)).mp c_7
    refine m_iconst (pc' := 25) (v := nI (P.getD k 0)) C dX12_textAt_24 (by rw [gd_out n_7]; rfl) rfl ?_
    refine m_iret C hrt0 hlk0 (nar_c (by have := gd_lt0 y4 k; omega)) dX12_textAt_25 ?_
    exact ⟨rfl, rfl⟩
  · have n_7 : k < P.length := Nat.lt_of_not_le (fun q => c_7 ((nI_leI (by omega) (by omega)).mpr q))
    refine m_aload_n (pc' := 11) C dX12_textAt_10 rfl 0 rfl rfl ?_
    refine r_get C hn hro inW_X12 7 (by decide) ⟨rfl, rfl, rfl⟩ (gW_of tm_5_57) rfl dX12_textAt_11 rfl ?_
    refine m_bipush (pc' := 16) (v := nI 80) C dX12_textAt_14 (by decide) rfl ?_
    refine m_iload_n (pc' := 17) C dX12_textAt_16 rfl 1 rfl rfl ?_
    refine m_imul (pc' := 18) (v := nI (80 * ix)) C dX12_textAt_17 (pk_mul _ _) rfl ?_
    refine m_iload_n (pc' := 19) C dX12_textAt_18 rfl 2 rfl rfl ?_
    refine m_iadd (pc' := 20) (v := nI ((80 * ix) + k)) C dX12_textAt_19 (nI_add _ _) rfl ?_
    refine m_cald (pc' := 21) (v := nI (P.getD k 0)) C 57 (by omega) a6 (vp_in_nI (by omega) (by decide)) (by rw [nI_clamp (by omega), y6 _ n_7]) dX12_textAt_20 rfl ?_
    refine m_goto (tgt := 25) C dX12_textAt_21 (by decide) ?_
    refine m_iret C hrt0 hlk0 (nar_c (by have := gd_lt0 y4 k; omega)) dX12_textAt_25 ?_
    exact ⟨rfl, rfl⟩
set_option maxHeartbeats 4000000 in
set_option maxRecDepth 100000 in
theorem kX12_textNumber {l : Launch} {D : va_G} {cy : Nat → ClassId} {ad : Nat → Nat} {n : Nat} {A : Nat → Prop} (hI : mI ad n A) {M : Nat → va_E} (hn : 63 ≤ n) (hn2 : n ≤ 100) (hro : rO ad M) {xs : Nat → Arg} {cnt : Nat} (hra : isRA cy M xs cnt) {od : Nat} (hod : M 116 = gh (.int (nI od))) {ix : Nat} {P : List Nat} (ha : ix < cnt) (hxa : xs ix = .inr P) : mMl l yX12_textNumber (gW yX12_textNumber cX12_textNumber 9 (some .long)) { frames := 1, cells := 0, slots := 0, locals := 22 } D cy ad n A [.ref (ad 52), .int (nI ix)] M (fun res M' => res = txtV P ∧ rO ad M' ∧ M' 116 = gh (.int (nI (od + (if txtO P then 1 else 0)))) ∧ Fr [52, 116] M M') := by
  obtain ⟨a1, a2, b, f, z, g, a3, a4, a5, a6, a7⟩ := id hra
  have a8 := a7 ix ha
  rw [hxa] at a8
  obtain ⟨y1, y2, y3, y4, y5, y6⟩ := a8
  have h8a := gd_lt0 y4 0
  refine m_entry (cc := cX12_textNumber) (maxL := 9) (ret := (some .long)) (own := RX12) (lv := [(0, .ref (ad 52)), (1, .int (nI ix))]) hI (by decide) rfl rfl (Nat.le_of_ble_eq_true rfl) rfl (fun pX eX sX mX aX bX tX cX C hrt0 hlk0 => ?_)
  refine m_aload_n (pc' := 1) C dX12_textNumber_0 rfl 0 rfl rfl ?_
  refine r_get C hn hro inW_X12 6 (by decide) ⟨rfl, rfl, rfl⟩ (gW_of tm_5_56) rfl dX12_textNumber_1 rfl ?_
  refine m_iload_n (pc' := 5) C dX12_textNumber_4 rfl 1 rfl rfl ?_
  refine m_iald (pc' := 6) (v := nI P.length) C 56 (by omega) a5 (vp_in_nI (by omega) (by decide)) (by rw [nI_clamp (by omega), y2]) dX12_textNumber_5 rfl ?_
  refine m_istore_n (pc' := 7) (lv' := [(2, .int (nI P.length)), (0, .ref (ad 52)), (1, .int (nI ix))]) C dX12_textNumber_6 rfl (by decide) rfl rfl ?_
  refine m_aload_n (pc' := 8) C dX12_textNumber_7 rfl 1 rfl rfl ?_
  refine m_iload_n (pc' := 9) C dX12_textNumber_8 rfl 2 rfl rfl ?_
  refine m_iconst (pc' := 10) (v := nI 0) C dX12_textNumber_9 (by decide) rfl ?_
  refine m_callVi (pc' := 13) (As := [.int (nI ix), .int (nI 0)]) (rest := []) C (kX12_textAt hI hn hn2 hro hra ha hxa (k := 0) (by omega)) (cwV 2 C.1.2.2.2.2 (goodV tm_6_15 tm_6_17 tp_61 tm_1_13 tm_6_18) rfl rfl rfl (by decide +kernel) ⟨by decide, by decide⟩) (by omega) hro rfl rfl rfl (Nat.le_of_ble_eq_true rfl) dX12_textNumber_10 rfl ⟨by decide, by decide⟩ (fun x_1 N_1 q_1 => ?_)
  obtain ⟨e_1, E_1⟩ := q_1
  replace E_1 := E_1.symm
  subst E_1
  replace e_1 := e_1.symm
  subst e_1
  refine m_istore_n (pc' := 14) (lv' := [(3, .int (nI (P.getD 0 0))), (2, .int (nI P.length)), (0, .ref (ad 52)), (1, .int (nI ix))]) C dX12_textNumber_13 rfl (by decide) rfl rfl ?_
  refine m_iload_n (pc' := 15) C dX12_textNumber_14 rfl 0 rfl rfl ?_
  refine m_bipush (pc' := 17) (v := nI 39) C dX12_textNumber_15 (by decide) rfl ?_
  refine m_icmp_eq (pc' := 20) (tgt := 26) C dX12_textNumber_17 (by decide) rfl (fun c_17 => ?_) (fun c_17 => ?_)
  · have n_17 : (P.getD 0 0) = 39 := (nI_eq (by omega) (by omega)).mp c_17
    have hQ : tQ P = true := by unfold tQ; rw [n_17]; rfl
    refine m_aload_n (pc' := 27) C dX12_textNumber_26 rfl 2 rfl rfl ?_
    refine m_iload_n (pc' := 28) C dX12_textNumber_27 rfl 1 rfl rfl ?_
    refine m_iconst (pc' := 29) (v := nI 2) C dX12_textNumber_28 (by decide) rfl ?_
    refine m_icmp_ne (pc' := 32) (tgt := 39) C dX12_textNumber_29 (by decide) rfl (fun c_29 => ?_) (fun c_29 => ?_)
    · have n_29 : ¬ P.length = 2 := fun q => c_29 ((nI_eq (by omega) (by omega)).mpr q)
      refine m_aload_n (pc' := 40) C dX12_textNumber_39 rfl 2 rfl rfl ?_
      refine r_get C hn hro inW_X12 16 (by decide) ⟨rfl, rfl, rfl⟩ (gW_of tm_5_66) (r_at 16 rfl hod) dX12_textNumber_40 rfl ?_
      refine m_iconst (pc' := 44) (v := nI 1) C dX12_textNumber_43 (by decide) rfl ?_
      refine m_iadd (pc' := 45) (v := nI (od + 1)) C dX12_textNumber_44 (nI_add _ _) rfl ?_
      refine r_put (ty := .int) C hn hn2 hro inW_X12 16 116 (by decide) rfl ⟨rfl, rfl, rfl, rfl⟩ (gW_of tm_5_66) (by decide +kernel) rfl rfl (fun _ => rfl) dX12_textNumber_45 rfl (fun M2 go_2 g_2 F_2 => ?_)
      refine m_iload_n (pc' := 49) C dX12_textNumber_48 rfl 1 rfl rfl ?_
      refine m_iconst (pc' := 50) (v := nI 1) C dX12_textNumber_49 (by decide) rfl ?_
      refine m_icmp_le (pc' := 53) (tgt := 63) C dX12_textNumber_50 (by decide) rfl (fun c_50 => ?_) (fun c_50 => ?_)
      · have n_50 : P.length ≤ 1 := (nI_leI (by omega) (by omega)).mp c_50
        refine m_lconst (pc' := 64) (v := 0) C dX12_textNumber_63 (by decide) rfl ?_
        refine m_lret C hrt0 hlk0 dX12_textNumber_64 ?_
        have hV : txtV P = 0 := by unfold txtV; rw [if_pos hQ, if_neg (show ¬ 1 < P.length by omega)]
        have hO2 : txtO P = true := by unfold txtO; rw [if_pos hQ]; exact decide_eq_true n_29
        rw [hV, hO2]
        exact ⟨rfl, go_2, g_2, (F_2.sub (by decide))⟩
      · have n_50 : 1 < P.length := Nat.lt_of_not_le (fun q => c_50 ((nI_leI (by omega) (by omega)).mpr q))
        refine m_aload_n (pc' := 54) C dX12_textNumber_53 rfl 2 rfl rfl ?_
        refine m_iload_n (pc' := 55) C dX12_textNumber_54 rfl 3 rfl rfl ?_
        refine m_iconst (pc' := 56) (v := nI 1) C dX12_textNumber_55 (by decide) rfl ?_
        have xra_4 := hra.fr F_2 (by decide)
        refine m_callVi (pc' := 59) (As := [.int (nI ix), .int (nI 1)]) (rest := []) C (kX12_textAt hI hn hn2 go_2 xra_4 ha hxa (k := 1) (by omega)) (cwV 2 C.1.2.2.2.2 (goodV tm_6_15 tm_6_17 tp_61 tm_1_13 tm_6_18) rfl rfl rfl (by decide +kernel) ⟨by decide, by decide⟩) (by omega) go_2 rfl rfl rfl (Nat.le_of_ble_eq_true rfl) dX12_textNumber_56 rfl ⟨by decide, by decide⟩ (fun x_3 N_3 q_3 => ?_)
        obtain ⟨e_3, E_3⟩ := q_3
        replace E_3 := E_3.symm
        subst E_3
        replace e_3 := e_3.symm
        subst e_3
        refine m_i2l (pc' := 60) (v := lN (P.getD 1 0)) C dX12_textNumber_59 (nI_l (by have := gd_lt0 y4 1; omega)) rfl ?_
        refine m_goto (tgt := 64) C dX12_textNumber_60 (by decide) ?_
        refine m_lret C hrt0 hlk0 dX12_textNumber_64 ?_
        have hV : txtV P = lN (P.getD 1 0) := by unfold txtV; rw [if_pos hQ, if_pos (show 1 < P.length by omega)]
        have hO2 : txtO P = true := by unfold txtO; rw [if_pos hQ]; exact decide_eq_true n_29
        rw [hV, hO2]
        exact ⟨rfl, go_2, g_2, (F_2.sub (by decide))⟩
    · have n_29 : P.length = 2 := (nI_eq (by omega) (by omega)).mp (Classical.not_not.mp c_29)
      refine m_aload_n (pc' := 33) C dX12_textNumber_32 rfl 2 rfl rfl ?_
      refine r_get C hn hro inW_X12 16 (by decide) ⟨rfl, rfl, rfl⟩ (gW_of tm_5_66) (r_at 16 rfl hod) dX12_textNumber_33 rfl ?_
      refine m_goto (tgt := 45) C dX12_textNumber_36 (by decide) ?_
      refine r_put (ty := .int) C hn hn2 hro inW_X12 16 116 (by decide) rfl ⟨rfl, rfl, rfl, rfl⟩ (gW_of tm_5_66) (by decide +kernel) rfl rfl (fun _ => rfl) dX12_textNumber_45 rfl (fun M5 go_5 g_5 F_5 => ?_)
      refine m_iload_n (pc' := 49) C dX12_textNumber_48 rfl 1 rfl rfl ?_
      refine m_iconst (pc' := 50) (v := nI 1) C dX12_textNumber_49 (by decide) rfl ?_
      refine m_icmp_le (pc' := 53) (tgt := 63) C dX12_textNumber_50 (by decide) rfl (fun c_50 => ?_) (fun c_50 => ?_)
      · have n_50 : P.length ≤ 1 := (nI_leI (by omega) (by omega)).mp c_50
        refine m_lconst (pc' := 64) (v := 0) C dX12_textNumber_63 (by decide) rfl ?_
        refine m_lret C hrt0 hlk0 dX12_textNumber_64 ?_
        have hV : txtV P = 0 := by unfold txtV; rw [if_pos hQ, if_neg (show ¬ 1 < P.length by omega)]
        have hO2 : txtO P = false := by unfold txtO; rw [if_pos hQ]; exact decide_eq_false (fun z => z n_29)
        rw [hV, hO2]
        exact ⟨rfl, go_5, g_5, (F_5.sub (by decide))⟩
      · have n_50 : 1 < P.length := Nat.lt_of_not_le (fun q => c_50 ((nI_leI (by omega) (by omega)).mpr q))
        refine m_aload_n (pc' := 54) C dX12_textNumber_53 rfl 2 rfl rfl ?_
        refine m_iload_n (pc' := 55) C dX12_textNumber_54 rfl 3 rfl rfl ?_
        refine m_iconst (pc' := 56) (v := nI 1) C dX12_textNumber_55 (by decide) rfl ?_
        have xra_7 := hra.fr F_5 (by decide)
        refine m_callVi (pc' := 59) (As := [.int (nI ix), .int (nI 1)]) (rest := []) C (kX12_textAt hI hn hn2 go_5 xra_7 ha hxa (k := 1) (by omega)) (cwV 2 C.1.2.2.2.2 (goodV tm_6_15 tm_6_17 tp_61 tm_1_13 tm_6_18) rfl rfl rfl (by decide +kernel) ⟨by decide, by decide⟩) (by omega) go_5 rfl rfl rfl (Nat.le_of_ble_eq_true rfl) dX12_textNumber_56 rfl ⟨by decide, by decide⟩ (fun x_6 N_6 q_6 => ?_)
        obtain ⟨e_6, E_6⟩ := q_6
        replace E_6 := E_6.symm
        subst E_6
        replace e_6 := e_6.symm
        subst e_6
        refine m_i2l (pc' := 60) (v := lN (P.getD 1 0)) C dX12_textNumber_59 (nI_l (by have := gd_lt0 y4 1; omega)) rfl ?_
        refine m_goto (tgt := 64) C dX12_textNumber_60 (by decide) ?_
        refine m_lret C hrt0 hlk0 dX12_textNumber_64 ?_
        have hV : txtV P = lN (P.getD 1 0) := by unfold txtV; rw [if_pos hQ, if_pos (show 1 < P.length by omega)]
        have hO2 : txtO P = false := by unfold txtO; rw [if_pos hQ]; exact decide_eq_false (fun z => z n_29)
        rw [hV, hO2]
        exact ⟨rfl, go_5, g_5, (F_5.sub (by decide))⟩
  · have n_17 : ¬ (P.getD 0 0) = 39 := fun q => c_17 ((nI_eq (by omega) (by omega)).mpr q)
    refine m_iload_n (pc' := 21) C dX12_textNumber_20 rfl 0 rfl rfl ?_
    refine m_bipush (pc' := 23) (v := nI 34) C dX12_textNumber_21 (by decide) rfl ?_
    refine m_icmp_ne (pc' := 26) (tgt := 65) C dX12_textNumber_23 (by decide) rfl (fun c_23 => ?_) (fun c_23 => ?_)
    · have n_23 : ¬ (P.getD 0 0) = 34 := fun q => c_23 ((nI_eq (by omega) (by omega)).mpr q)
      have hQ : tQ P = false := by unfold tQ; rw [beq_eq_false_iff_ne.mpr n_17, beq_eq_false_iff_ne.mpr n_23]; rfl
      refine m_cut (σ := Unit) (fun a => True) (fun a => M) 82 (fun a => [(0, .ref (ad 52)), (1, .int (nI ix)), (2, .int (nI P.length)), (3, .int (nI (P.getD 0 0)))]) (fun a => [.int (nI (tS0 P))]) ?_ (fun J82 => ?_)
      · rintro zz hj
        try dsimp only at hj ⊢
        clear hj
        have hs0 : tS0 P ≤ 1 := by unfold tS0; split <;> omega
        have h80 := gd_lt0 y4 (tS0 P)
        have h81 := gd_lt0 y4 (tS0 P + 1)
        have h82 := gd_lt0 y4 (tS0 P + 2)
        refine m_istore (pc' := 84) (lv' := [(4, .int (nI (tS0 P))), (0, .ref (ad 52)), (1, .int (nI ix)), (2, .int (nI P.length)), (3, .int (nI (P.getD 0 0)))]) C dX12_textNumber_82 (by decide) rfl rfl ?_
        refine m_bipush (pc' := 86) (v := nI 10) C dX12_textNumber_84 (by decide) rfl ?_
        refine m_istore (pc' := 88) (lv' := [(5, .int (nI 10)), (4, .int (nI (tS0 P))), (0, .ref (ad 52)), (1, .int (nI ix)), (2, .int (nI P.length)), (3, .int (nI (P.getD 0 0)))]) C dX12_textNumber_86 (by decide) rfl rfl ?_
        refine m_iconst (pc' := 89) (v := nI 0) C dX12_textNumber_88 (by decide) rfl ?_
        refine m_istore (pc' := 91) (lv' := [(6, .int (nI 0)), (5, .int (nI 10)), (4, .int (nI (tS0 P))), (0, .ref (ad 52)), (1, .int (nI ix)), (2, .int (nI P.length)), (3, .int (nI (P.getD 0 0)))]) C dX12_textNumber_89 (by decide) rfl rfl ?_
        refine m_cut (σ := Nat × Nat) (fun a => a.1 = tS P ∧ a.2 = tB P ∧ (a.2 = 8 ∨ a.2 = 10 ∨ a.2 = 16) ∧ a.1 ≤ 3) (fun a => M) 193 (fun a => [(0, .ref (ad 52)), (1, .int (nI ix)), (2, .int (nI P.length)), (3, .int (nI (P.getD 0 0))), (4, .int (nI a.1)), (5, .int (nI a.2)), (6, .int (nI 0))]) (fun a => []) ?_ (fun J193 => ?_)
        · rintro ⟨s, b2⟩ hj
          try dsimp only at hj ⊢
          obtain ⟨hs, hb, hb8, hs3⟩ := hj
          refine m_lconst (pc' := 194) (v := 0) C dX12_textNumber_193 (by decide) rfl ?_
          refine m_lstore (pc' := 196) (lv' := [(7, .long (0)), (0, .ref (ad 52)), (1, .int (nI ix)), (2, .int (nI P.length)), (3, .int (nI (P.getD 0 0))), (4, .int (nI s)), (5, .int (nI b2)), (6, .int (nI 0))]) C dX12_textNumber_194 (by decide) rfl rfl ?_
          refine m_lvx (lv' := [(7, .long (lN (valN b2 []))), (0, .ref (ad 52)), (1, .int (nI ix)), (2, .int (nI P.length)), (3, .int (nI (P.getD 0 0))), (4, .int (nI (s + ([] : List Nat).length))), (5, .int (nI b2)), (6, .int (nI 0))]) (by rfl) ?_
          refine m_lv [1, 2, 3, 4, 5, 6, 7, 0] rfl ?_
          refine m_loop (σ := List Nat × Nat × (Nat → va_E)) (fun a => a.2.2) (fun a => [(0, .ref (ad 52)), (1, .int (nI ix)), (2, .int (nI P.length)), (3, .int (nI (P.getD 0 0))), (4, .int (nI (s + a.1.length))), (5, .int (nI b2)), (6, .int (nI a.2.1)), (7, .long (lN (valN b2 a.1)))]) (fun a => ldig b2 (P.drop s) = a.1 ++ ldig b2 (P.drop (s + a.1.length)) ∧ a.2.1 = (if a.1 = [] then 0 else 1) ∧ rO ad a.2.2 ∧ Fr [] M a.2.2) (fun a => P.length - (s + a.1.length)) ([], 0, M) (⟨rfl, rfl, hro, Fr.rf⟩) ?_
          rintro ⟨ps, sm, Mk⟩ hinv ih
          dsimp only at hinv ih ⊢
          obtain ⟨i1, i2, i4, i5⟩ := hinv
          have hpl : ps.length ≤ P.length - s := by have h9 := ldig_len b2 (P.drop s); rw [i1, List.length_append, List.length_drop] at h9; omega
          have h8s := gd_lt0 y4 (s + ps.length)
          have hsm1 : sm ≤ 1 := by rw [i2]; split <;> omega
          refine m_iload (pc' := 198) C dX12_textNumber_196 4 rfl rfl ?_
          refine m_iload_n (pc' := 199) C dX12_textNumber_198 rfl 2 rfl rfl ?_
          refine m_icmp_ge (pc' := 202) (tgt := 248) C dX12_textNumber_199 (by decide) rfl (fun c_199 => ?_) (fun c_199 => ?_)
          · have n_199 : P.length ≤ (s + ps.length) := (nI_leI (by omega) (by omega)).mp c_199
            have hds : ldig b2 (P.drop s) = ps := by rw [i1, ldig_e n_199]; exact List.append_nil _
            refine m_aload_n (pc' := 249) C dX12_textNumber_248 rfl 0 rfl rfl ?_
            refine m_iload (pc' := 251) C dX12_textNumber_249 6 rfl rfl ?_
            refine m_if_eq (pc' := 254) (tgt := 260) C dX12_textNumber_251 (by decide) rfl (fun c_251 => ?_) (fun c_251 => ?_)
            · have n_251 : sm = 0 := (nI_eq (by omega) (by omega)).mp (c_251.trans nI_0.symm)
              have hO : oddD P ps s = true := decide_eq_true (Or.inl (by
                by_cases q : ps = []
                · exact q
                · rw [if_neg q] at i2; omega))
              refine m_aload_n (pc' := 261) C dX12_textNumber_260 rfl 0 rfl rfl ?_
              have ff16_8 : Mk 116 = gh (.int (nI od)) := (i5 116 (by decide)).trans hod
              refine r_get C hn i4 inW_X12 16 (by decide) ⟨rfl, rfl, rfl⟩ (gW_of tm_5_66) (r_at 16 rfl ff16_8) dX12_textNumber_261 rfl ?_
              refine m_iconst (pc' := 265) (v := nI 1) C dX12_textNumber_264 (by decide) rfl ?_
              refine m_iadd (pc' := 266) (v := nI (od + 1)) C dX12_textNumber_265 (nI_add _ _) rfl ?_
              refine m_goto (tgt := 273) C dX12_textNumber_266 (by decide) ?_
              refine r_put (ty := .int) C hn hn2 i4 inW_X12 16 116 (by decide) rfl ⟨rfl, rfl, rfl, rfl⟩ (gW_of tm_5_66) (by decide +kernel) rfl rfl (fun _ => rfl) dX12_textNumber_273 rfl (fun M9 go_9 g_9 F_9 => ?_)
              refine m_iload_n (pc' := 277) C dX12_textNumber_276 rfl 3 rfl rfl ?_
              refine m_bipush (pc' := 279) (v := nI 45) C dX12_textNumber_277 (by decide) rfl ?_
              refine m_icmp_ne (pc' := 282) (tgt := 288) C dX12_textNumber_279 (by decide) rfl (fun c_279 => ?_) (fun c_279 => ?_)
              · have n_279 : ¬ (P.getD 0 0) = 45 := fun q => c_279 ((nI_eq (by omega) (by omega)).mpr q)
                have h45 := n_279
                refine m_lload (pc' := 290) C dX12_textNumber_288 7 rfl rfl ?_
                refine m_lret C hrt0 hlk0 dX12_textNumber_290 ?_
                have e1 : tDs P = ps := by unfold tDs; rw [← hb, ← hs, hds]
                have hV : txtV P = lN (valN b2 ps) := by unfold txtV; rw [if_neg (by rw [hQ]; decide), e1, ← hb, if_neg h45]
                have hO2 : txtO P = true := by unfold txtO; rw [if_neg (by rw [hQ]; decide), e1, ← hs]; exact hO
                rw [hV, hO2]
                exact ⟨rfl, go_9, g_9, ((i5.sub (by decide)).tr (F_9.sub (by decide)))⟩
              · have n_279 : (P.getD 0 0) = 45 := (nI_eq (by omega) (by omega)).mp (Classical.not_not.mp c_279)
                have h45 := n_279
                refine m_lload (pc' := 284) C dX12_textNumber_282 7 rfl rfl ?_
                refine m_lneg (pc' := 285) (v := -(lN (valN b2 ps))) C dX12_textNumber_284 rfl rfl ?_
                refine m_goto (tgt := 290) C dX12_textNumber_285 (by decide) ?_
                refine m_lret C hrt0 hlk0 dX12_textNumber_290 ?_
                have e1 : tDs P = ps := by unfold tDs; rw [← hb, ← hs, hds]
                have hV : txtV P = -(lN (valN b2 ps)) := by unfold txtV; rw [if_neg (by rw [hQ]; decide), e1, ← hb, if_pos h45]
                have hO2 : txtO P = true := by unfold txtO; rw [if_neg (by rw [hQ]; decide), e1, ← hs]; exact hO
                rw [hV, hO2]
                exact ⟨rfl, go_9, g_9, ((i5.sub (by decide)).tr (F_9.sub (by decide)))⟩
            · have n_251 : ¬ sm = 0 := fun q => c_251 (((nI_eq (by omega) (by omega)).mpr q).trans nI_0)
              refine m_iload (pc' := 256) C dX12_textNumber_254 4 rfl rfl ?_
              refine m_iload_n (pc' := 257) C dX12_textNumber_256 rfl 2 rfl rfl ?_
              refine m_icmp_ge (pc' := 260) (tgt := 269) C dX12_textNumber_257 (by decide) rfl (fun c_257 => ?_) (fun c_257 => ?_)
              · have n_257 : P.length ≤ (s + ps.length) := (nI_leI (by omega) (by omega)).mp c_257
                have hO : oddD P ps s = false := decide_eq_false (fun q => by
                  rcases q with q | q
                  · rw [if_pos q] at i2; omega
                  · omega)
                refine m_aload_n (pc' := 270) C dX12_textNumber_269 rfl 0 rfl rfl ?_
                have ff16_10 : Mk 116 = gh (.int (nI od)) := (i5 116 (by decide)).trans hod
                refine r_get C hn i4 inW_X12 16 (by decide) ⟨rfl, rfl, rfl⟩ (gW_of tm_5_66) (r_at 16 rfl ff16_10) dX12_textNumber_270 rfl ?_
                refine r_put (ty := .int) C hn hn2 i4 inW_X12 16 116 (by decide) rfl ⟨rfl, rfl, rfl, rfl⟩ (gW_of tm_5_66) (by decide +kernel) rfl rfl (fun _ => rfl) dX12_textNumber_273 rfl (fun M11 go_11 g_11 F_11 => ?_)
                refine m_iload_n (pc' := 277) C dX12_textNumber_276 rfl 3 rfl rfl ?_
                refine m_bipush (pc' := 279) (v := nI 45) C dX12_textNumber_277 (by decide) rfl ?_
                refine m_icmp_ne (pc' := 282) (tgt := 288) C dX12_textNumber_279 (by decide) rfl (fun c_279 => ?_) (fun c_279 => ?_)
                · have n_279 : ¬ (P.getD 0 0) = 45 := fun q => c_279 ((nI_eq (by omega) (by omega)).mpr q)
                  have h45 := n_279
                  refine m_lload (pc' := 290) C dX12_textNumber_288 7 rfl rfl ?_
                  refine m_lret C hrt0 hlk0 dX12_textNumber_290 ?_
                  have e1 : tDs P = ps := by unfold tDs; rw [← hb, ← hs, hds]
                  have hV : txtV P = lN (valN b2 ps) := by unfold txtV; rw [if_neg (by rw [hQ]; decide), e1, ← hb, if_neg h45]
                  have hO2 : txtO P = false := by unfold txtO; rw [if_neg (by rw [hQ]; decide), e1, ← hs]; exact hO
                  rw [hV, hO2]
                  exact ⟨rfl, go_11, g_11, ((i5.sub (by decide)).tr (F_11.sub (by decide)))⟩
                · have n_279 : (P.getD 0 0) = 45 := (nI_eq (by omega) (by omega)).mp (Classical.not_not.mp c_279)
                  have h45 := n_279
                  refine m_lload (pc' := 284) C dX12_textNumber_282 7 rfl rfl ?_
                  refine m_lneg (pc' := 285) (v := -(lN (valN b2 ps))) C dX12_textNumber_284 rfl rfl ?_
                  refine m_goto (tgt := 290) C dX12_textNumber_285 (by decide) ?_
                  refine m_lret C hrt0 hlk0 dX12_textNumber_290 ?_
                  have e1 : tDs P = ps := by unfold tDs; rw [← hb, ← hs, hds]
                  have hV : txtV P = -(lN (valN b2 ps)) := by unfold txtV; rw [if_neg (by rw [hQ]; decide), e1, ← hb, if_pos h45]
                  have hO2 : txtO P = false := by unfold txtO; rw [if_neg (by rw [hQ]; decide), e1, ← hs]; exact hO
                  rw [hV, hO2]
                  exact ⟨rfl, go_11, g_11, ((i5.sub (by decide)).tr (F_11.sub (by decide)))⟩
              · have n_257 : (s + ps.length) < P.length := Nat.lt_of_not_le (fun q => c_257 ((nI_leI (by omega) (by omega)).mpr q))
                have hO : oddD P ps s = true := decide_eq_true (Or.inr n_257)
                refine m_aload_n (pc' := 261) C dX12_textNumber_260 rfl 0 rfl rfl ?_
                have ff16_12 : Mk 116 = gh (.int (nI od)) := (i5 116 (by decide)).trans hod
                refine r_get C hn i4 inW_X12 16 (by decide) ⟨rfl, rfl, rfl⟩ (gW_of tm_5_66) (r_at 16 rfl ff16_12) dX12_textNumber_261 rfl ?_
                refine m_iconst (pc' := 265) (v := nI 1) C dX12_textNumber_264 (by decide) rfl ?_
                refine m_iadd (pc' := 266) (v := nI (od + 1)) C dX12_textNumber_265 (nI_add _ _) rfl ?_
                refine m_goto (tgt := 273) C dX12_textNumber_266 (by decide) ?_
                refine r_put (ty := .int) C hn hn2 i4 inW_X12 16 116 (by decide) rfl ⟨rfl, rfl, rfl, rfl⟩ (gW_of tm_5_66) (by decide +kernel) rfl rfl (fun _ => rfl) dX12_textNumber_273 rfl (fun M13 go_13 g_13 F_13 => ?_)
                refine m_iload_n (pc' := 277) C dX12_textNumber_276 rfl 3 rfl rfl ?_
                refine m_bipush (pc' := 279) (v := nI 45) C dX12_textNumber_277 (by decide) rfl ?_
                refine m_icmp_ne (pc' := 282) (tgt := 288) C dX12_textNumber_279 (by decide) rfl (fun c_279 => ?_) (fun c_279 => ?_)
                · have n_279 : ¬ (P.getD 0 0) = 45 := fun q => c_279 ((nI_eq (by omega) (by omega)).mpr q)
                  have h45 := n_279
                  refine m_lload (pc' := 290) C dX12_textNumber_288 7 rfl rfl ?_
                  refine m_lret C hrt0 hlk0 dX12_textNumber_290 ?_
                  have e1 : tDs P = ps := by unfold tDs; rw [← hb, ← hs, hds]
                  have hV : txtV P = lN (valN b2 ps) := by unfold txtV; rw [if_neg (by rw [hQ]; decide), e1, ← hb, if_neg h45]
                  have hO2 : txtO P = true := by unfold txtO; rw [if_neg (by rw [hQ]; decide), e1, ← hs]; exact hO
                  rw [hV, hO2]
                  exact ⟨rfl, go_13, g_13, ((i5.sub (by decide)).tr (F_13.sub (by decide)))⟩
                · have n_279 : (P.getD 0 0) = 45 := (nI_eq (by omega) (by omega)).mp (Classical.not_not.mp c_279)
                  have h45 := n_279
                  refine m_lload (pc' := 284) C dX12_textNumber_282 7 rfl rfl ?_
                  refine m_lneg (pc' := 285) (v := -(lN (valN b2 ps))) C dX12_textNumber_284 rfl rfl ?_
                  refine m_goto (tgt := 290) C dX12_textNumber_285 (by decide) ?_
                  refine m_lret C hrt0 hlk0 dX12_textNumber_290 ?_
                  have e1 : tDs P = ps := by unfold tDs; rw [← hb, ← hs, hds]
                  have hV : txtV P = -(lN (valN b2 ps)) := by unfold txtV; rw [if_neg (by rw [hQ]; decide), e1, ← hb, if_pos h45]
                  have hO2 : txtO P = true := by unfold txtO; rw [if_neg (by rw [hQ]; decide), e1, ← hs]; exact hO
                  rw [hV, hO2]
                  exact ⟨rfl, go_13, g_13, ((i5.sub (by decide)).tr (F_13.sub (by decide)))⟩
          · have n_199 : (s + ps.length) < P.length := Nat.lt_of_not_le (fun q => c_199 ((nI_leI (by omega) (by omega)).mpr q))
            refine m_aload_n (pc' := 203) C dX12_textNumber_202 rfl 0 rfl rfl ?_
            refine m_iload_n (pc' := 204) C dX12_textNumber_203 rfl 1 rfl rfl ?_
            refine m_iload (pc' := 206) C dX12_textNumber_204 4 rfl rfl ?_
            have xra_15 := hra.fr i5 (by decide)
            refine m_callVi (pc' := 209) (As := [.int (nI ix), .int (nI (s + ps.length))]) (rest := []) C (kX12_textAt hI hn hn2 i4 xra_15 ha hxa (k := (s + ps.length)) (by omega)) (cwV 2 C.1.2.2.2.2 (goodV tm_6_15 tm_6_17 tp_61 tm_1_13 tm_6_18) rfl rfl rfl (by decide +kernel) ⟨by decide, by decide⟩) (by omega) i4 rfl rfl rfl (Nat.le_of_ble_eq_true rfl) dX12_textNumber_206 rfl ⟨by decide, by decide⟩ (fun x_14 N_14 q_14 => ?_)
            obtain ⟨e_14, E_14⟩ := q_14
            replace E_14 := E_14.symm
            subst E_14
            replace e_14 := e_14.symm
            subst e_14
            refine m_iload (pc' := 211) C dX12_textNumber_209 5 rfl rfl ?_
            refine m_callSi (pc' := 214) (As := [.int (nI (P.getD (s + ps.length) 0)), .int (nI b2)]) (rest := []) C (kX12_baseDigit hI (c := P.getD (s + ps.length) 0) (b := b2) (by omega) (by omega)) (cwS 2 C.1.2.2.2.2 (goodS tm_6_19 tm_6_20 tm_1_13 tm_6_21) rfl rfl rfl (by decide +kernel) ⟨by decide, by decide⟩) rfl rfl (Nat.le_of_ble_eq_true rfl) dX12_textNumber_211 rfl ⟨by decide, by decide⟩ (fun x_16 N_16 q_16 => ?_)
            obtain ⟨e_16, E_16⟩ := q_16
            replace E_16 := E_16.symm
            subst E_16
            replace e_16 := e_16.symm
            subst e_16
            refine m_if_lt (pc' := 217) (tgt := 248) C dX12_textNumber_214 (by decide) rfl (fun c_214 => ?_) (fun c_214 => ?_)
            · have hdv := (dI_lt0 (by omega)).mp c_214
              have hds : ldig b2 (P.drop s) = ps := by rw [i1, ldig_n n_199 hdv]; exact List.append_nil _
              refine m_aload_n (pc' := 249) C dX12_textNumber_248 rfl 0 rfl rfl ?_
              refine m_iload (pc' := 251) C dX12_textNumber_249 6 rfl rfl ?_
              refine m_if_eq (pc' := 254) (tgt := 260) C dX12_textNumber_251 (by decide) rfl (fun c_251 => ?_) (fun c_251 => ?_)
              · have n_251 : sm = 0 := (nI_eq (by omega) (by omega)).mp (c_251.trans nI_0.symm)
                have hO : oddD P ps s = true := decide_eq_true (Or.inl (by
                  by_cases q : ps = []
                  · exact q
                  · rw [if_neg q] at i2; omega))
                refine m_aload_n (pc' := 261) C dX12_textNumber_260 rfl 0 rfl rfl ?_
                have ff16_17 : Mk 116 = gh (.int (nI od)) := (i5 116 (by decide)).trans hod
                refine r_get C hn i4 inW_X12 16 (by decide) ⟨rfl, rfl, rfl⟩ (gW_of tm_5_66) (r_at 16 rfl ff16_17) dX12_textNumber_261 rfl ?_
                refine m_iconst (pc' := 265) (v := nI 1) C dX12_textNumber_264 (by decide) rfl ?_
                refine m_iadd (pc' := 266) (v := nI (od + 1)) C dX12_textNumber_265 (nI_add _ _) rfl ?_
                refine m_goto (tgt := 273) C dX12_textNumber_266 (by decide) ?_
                refine r_put (ty := .int) C hn hn2 i4 inW_X12 16 116 (by decide) rfl ⟨rfl, rfl, rfl, rfl⟩ (gW_of tm_5_66) (by decide +kernel) rfl rfl (fun _ => rfl) dX12_textNumber_273 rfl (fun M18 go_18 g_18 F_18 => ?_)
                refine m_iload_n (pc' := 277) C dX12_textNumber_276 rfl 3 rfl rfl ?_
                refine m_bipush (pc' := 279) (v := nI 45) C dX12_textNumber_277 (by decide) rfl ?_
                refine m_icmp_ne (pc' := 282) (tgt := 288) C dX12_textNumber_279 (by decide) rfl (fun c_279 => ?_) (fun c_279 => ?_)
                · have n_279 : ¬ (P.getD 0 0) = 45 := fun q => c_279 ((nI_eq (by omega) (by omega)).mpr q)
                  have h45 := n_279
                  refine m_lload (pc' := 290) C dX12_textNumber_288 7 rfl rfl ?_
                  refine m_lret C hrt0 hlk0 dX12_textNumber_290 ?_
                  have e1 : tDs P = ps := by unfold tDs; rw [← hb, ← hs, hds]
                  have hV : txtV P = lN (valN b2 ps) := by unfold txtV; rw [if_neg (by rw [hQ]; decide), e1, ← hb, if_neg h45]
                  have hO2 : txtO P = true := by unfold txtO; rw [if_neg (by rw [hQ]; decide), e1, ← hs]; exact hO
                  rw [hV, hO2]
                  exact ⟨rfl, go_18, g_18, ((i5.sub (by decide)).tr (F_18.sub (by decide)))⟩
                · have n_279 : (P.getD 0 0) = 45 := (nI_eq (by omega) (by omega)).mp (Classical.not_not.mp c_279)
                  have h45 := n_279
                  refine m_lload (pc' := 284) C dX12_textNumber_282 7 rfl rfl ?_
                  refine m_lneg (pc' := 285) (v := -(lN (valN b2 ps))) C dX12_textNumber_284 rfl rfl ?_
                  refine m_goto (tgt := 290) C dX12_textNumber_285 (by decide) ?_
                  refine m_lret C hrt0 hlk0 dX12_textNumber_290 ?_
                  have e1 : tDs P = ps := by unfold tDs; rw [← hb, ← hs, hds]
                  have hV : txtV P = -(lN (valN b2 ps)) := by unfold txtV; rw [if_neg (by rw [hQ]; decide), e1, ← hb, if_pos h45]
                  have hO2 : txtO P = true := by unfold txtO; rw [if_neg (by rw [hQ]; decide), e1, ← hs]; exact hO
                  rw [hV, hO2]
                  exact ⟨rfl, go_18, g_18, ((i5.sub (by decide)).tr (F_18.sub (by decide)))⟩
              · have n_251 : ¬ sm = 0 := fun q => c_251 (((nI_eq (by omega) (by omega)).mpr q).trans nI_0)
                refine m_iload (pc' := 256) C dX12_textNumber_254 4 rfl rfl ?_
                refine m_iload_n (pc' := 257) C dX12_textNumber_256 rfl 2 rfl rfl ?_
                refine m_icmp_ge (pc' := 260) (tgt := 269) C dX12_textNumber_257 (by decide) rfl (fun c_257 => ?_) (fun c_257 => ?_)
                · have n_257 : P.length ≤ (s + ps.length) := (nI_leI (by omega) (by omega)).mp c_257
                  have hO : oddD P ps s = false := decide_eq_false (fun q => by
                    rcases q with q | q
                    · rw [if_pos q] at i2; omega
                    · omega)
                  refine m_aload_n (pc' := 270) C dX12_textNumber_269 rfl 0 rfl rfl ?_
                  have ff16_19 : Mk 116 = gh (.int (nI od)) := (i5 116 (by decide)).trans hod
                  refine r_get C hn i4 inW_X12 16 (by decide) ⟨rfl, rfl, rfl⟩ (gW_of tm_5_66) (r_at 16 rfl ff16_19) dX12_textNumber_270 rfl ?_
                  refine r_put (ty := .int) C hn hn2 i4 inW_X12 16 116 (by decide) rfl ⟨rfl, rfl, rfl, rfl⟩ (gW_of tm_5_66) (by decide +kernel) rfl rfl (fun _ => rfl) dX12_textNumber_273 rfl (fun M20 go_20 g_20 F_20 => ?_)
                  refine m_iload_n (pc' := 277) C dX12_textNumber_276 rfl 3 rfl rfl ?_
                  refine m_bipush (pc' := 279) (v := nI 45) C dX12_textNumber_277 (by decide) rfl ?_
                  refine m_icmp_ne (pc' := 282) (tgt := 288) C dX12_textNumber_279 (by decide) rfl (fun c_279 => ?_) (fun c_279 => ?_)
                  · have n_279 : ¬ (P.getD 0 0) = 45 := fun q => c_279 ((nI_eq (by omega) (by omega)).mpr q)
                    have h45 := n_279
                    refine m_lload (pc' := 290) C dX12_textNumber_288 7 rfl rfl ?_
                    refine m_lret C hrt0 hlk0 dX12_textNumber_290 ?_
                    have e1 : tDs P = ps := by unfold tDs; rw [← hb, ← hs, hds]
                    have hV : txtV P = lN (valN b2 ps) := by unfold txtV; rw [if_neg (by rw [hQ]; decide), e1, ← hb, if_neg h45]
                    have hO2 : txtO P = false := by unfold txtO; rw [if_neg (by rw [hQ]; decide), e1, ← hs]; exact hO
                    rw [hV, hO2]
                    exact ⟨rfl, go_20, g_20, ((i5.sub (by decide)).tr (F_20.sub (by decide)))⟩
                  · have n_279 : (P.getD 0 0) = 45 := (nI_eq (by omega) (by omega)).mp (Classical.not_not.mp c_279)
                    have h45 := n_279
                    refine m_lload (pc' := 284) C dX12_textNumber_282 7 rfl rfl ?_
                    refine m_lneg (pc' := 285) (v := -(lN (valN b2 ps))) C dX12_textNumber_284 rfl rfl ?_
                    refine m_goto (tgt := 290) C dX12_textNumber_285 (by decide) ?_
                    refine m_lret C hrt0 hlk0 dX12_textNumber_290 ?_
                    have e1 : tDs P = ps := by unfold tDs; rw [← hb, ← hs, hds]
                    have hV : txtV P = -(lN (valN b2 ps)) := by unfold txtV; rw [if_neg (by rw [hQ]; decide), e1, ← hb, if_pos h45]
                    have hO2 : txtO P = false := by unfold txtO; rw [if_neg (by rw [hQ]; decide), e1, ← hs]; exact hO
                    rw [hV, hO2]
                    exact ⟨rfl, go_20, g_20, ((i5.sub (by decide)).tr (F_20.sub (by decide)))⟩
                · have n_257 : (s + ps.length) < P.length := Nat.lt_of_not_le (fun q => c_257 ((nI_leI (by omega) (by omega)).mpr q))
                  have hO : oddD P ps s = true := decide_eq_true (Or.inr n_257)
                  refine m_aload_n (pc' := 261) C dX12_textNumber_260 rfl 0 rfl rfl ?_
                  have ff16_21 : Mk 116 = gh (.int (nI od)) := (i5 116 (by decide)).trans hod
                  refine r_get C hn i4 inW_X12 16 (by decide) ⟨rfl, rfl, rfl⟩ (gW_of tm_5_66) (r_at 16 rfl ff16_21) dX12_textNumber_261 rfl ?_
                  refine m_iconst (pc' := 265) (v := nI 1) C dX12_textNumber_264 (by decide) rfl ?_
                  refine m_iadd (pc' := 266) (v := nI (od + 1)) C dX12_textNumber_265 (nI_add _ _) rfl ?_
                  refine m_goto (tgt := 273) C dX12_textNumber_266 (by decide) ?_
                  refine r_put (ty := .int) C hn hn2 i4 inW_X12 16 116 (by decide) rfl ⟨rfl, rfl, rfl, rfl⟩ (gW_of tm_5_66) (by decide +kernel) rfl rfl (fun _ => rfl) dX12_textNumber_273 rfl (fun M22 go_22 g_22 F_22 => ?_)
                  refine m_iload_n (pc' := 277) C dX12_textNumber_276 rfl 3 rfl rfl ?_
                  refine m_bipush (pc' := 279) (v := nI 45) C dX12_textNumber_277 (by decide) rfl ?_
                  refine m_icmp_ne (pc' := 282) (tgt := 288) C dX12_textNumber_279 (by decide) rfl (fun c_279 => ?_) (fun c_279 => ?_)
                  · have n_279 : ¬ (P.getD 0 0) = 45 := fun q => c_279 ((nI_eq (by omega) (by omega)).mpr q)
                    have h45 := n_279
                    refine m_lload (pc' := 290) C dX12_textNumber_288 7 rfl rfl ?_
                    refine m_lret C hrt0 hlk0 dX12_textNumber_290 ?_
                    have e1 : tDs P = ps := by unfold tDs; rw [← hb, ← hs, hds]
                    have hV : txtV P = lN (valN b2 ps) := by unfold txtV; rw [if_neg (by rw [hQ]; decide), e1, ← hb, if_neg h45]
                    have hO2 : txtO P = true := by unfold txtO; rw [if_neg (by rw [hQ]; decide), e1, ← hs]; exact hO
                    rw [hV, hO2]
                    exact ⟨rfl, go_22, g_22, ((i5.sub (by decide)).tr (F_22.sub (by decide)))⟩
                  · have n_279 : (P.getD 0 0) = 45 := (nI_eq (by omega) (by omega)).mp (Classical.not_not.mp c_279)
                    have h45 := n_279
                    refine m_lload (pc' := 284) C dX12_textNumber_282 7 rfl rfl ?_
                    refine m_lneg (pc' := 285) (v := -(lN (valN b2 ps))) C dX12_textNumber_284 rfl rfl ?_
                    refine m_goto (tgt := 290) C dX12_textNumber_285 (by decide) ?_
                    refine m_lret C hrt0 hlk0 dX12_textNumber_290 ?_
                    have e1 : tDs P = ps := by unfold tDs; rw [← hb, ← hs, hds]
                    have hV : txtV P = -(lN (valN b2 ps)) := by unfold txtV; rw [if_neg (by rw [hQ]; decide), e1, ← hb, if_pos h45]
                    have hO2 : txtO P = true := by unfold txtO; rw [if_neg (by rw [hQ]; decide), e1, ← hs]; exact hO
                    rw [hV, hO2]
                    exact ⟨rfl, go_22, g_22, ((i5.sub (by decide)).tr (F_22.sub (by decide)))⟩
            · have hdv : dvN (P.getD (s + ps.length) 0) < b2 := Classical.not_not.mp (fun q => c_214 ((dI_lt0 (by omega)).mpr q))
              refine m_lload (pc' := 219) C dX12_textNumber_217 7 rfl rfl ?_
              refine m_iload (pc' := 221) C dX12_textNumber_219 5 rfl rfl ?_
              refine m_i2l (pc' := 222) (v := lN b2) C dX12_textNumber_221 (nI_l (by omega)) rfl ?_
              refine m_lmul (pc' := 223) (v := lN (valN b2 ps * b2)) C dX12_textNumber_222 (lN_mul _ _) rfl ?_
              refine m_aload_n (pc' := 224) C dX12_textNumber_223 rfl 0 rfl rfl ?_
              refine m_iload_n (pc' := 225) C dX12_textNumber_224 rfl 1 rfl rfl ?_
              refine m_iload (pc' := 227) C dX12_textNumber_225 4 rfl rfl ?_
              refine m_callVi (pc' := 230) (As := [.int (nI ix), .int (nI (s + ps.length))]) (rest := [.long (lN (valN b2 ps * b2))]) C (kX12_textAt hI hn hn2 i4 xra_15 ha hxa (k := (s + ps.length)) (by omega)) (cwV 2 C.1.2.2.2.2 (goodV tm_6_15 tm_6_17 tp_61 tm_1_13 tm_6_18) rfl rfl rfl (by decide +kernel) ⟨by decide, by decide⟩) (by omega) i4 rfl rfl rfl (Nat.le_of_ble_eq_true rfl) dX12_textNumber_227 rfl ⟨by decide, by decide⟩ (fun x_23 N_23 q_23 => ?_)
              obtain ⟨e_23, E_23⟩ := q_23
              replace E_23 := E_23.symm
              subst E_23
              replace e_23 := e_23.symm
              subst e_23
              refine m_iload (pc' := 232) C dX12_textNumber_230 5 rfl rfl ?_
              refine m_callSi (pc' := 235) (As := [.int (nI (P.getD (s + ps.length) 0)), .int (nI b2)]) (rest := [.long (lN (valN b2 ps * b2))]) C (kX12_baseDigit hI (c := P.getD (s + ps.length) 0) (b := b2) (by omega) (by omega)) (cwS 2 C.1.2.2.2.2 (goodS tm_6_19 tm_6_20 tm_1_13 tm_6_21) rfl rfl rfl (by decide +kernel) ⟨by decide, by decide⟩) rfl rfl (Nat.le_of_ble_eq_true rfl) dX12_textNumber_232 rfl ⟨by decide, by decide⟩ (fun x_24 N_24 q_24 => ?_)
              obtain ⟨e_24, E_24⟩ := q_24
              replace E_24 := E_24.symm
              subst E_24
              replace e_24 := e_24.symm
              subst e_24
              refine m_i2l (pc' := 236) (v := lN (dvN (P.getD (s + ps.length) 0))) C dX12_textNumber_235 (by unfold dI; rw [if_pos hdv]; exact nI_l (by omega)) rfl ?_
              refine m_ladd (pc' := 237) (v := lN (valN b2 (ps ++ [dvN (P.getD (s + ps.length) 0)]))) C dX12_textNumber_236 (by rw [valN_s]; exact lN_add _ _) rfl ?_
              refine m_lstore (pc' := 239) (lv' := [(7, .long (lN (valN b2 (ps ++ [dvN (P.getD (s + ps.length) 0)])))), (0, .ref (ad 52)), (1, .int (nI ix)), (2, .int (nI P.length)), (3, .int (nI (P.getD 0 0))), (4, .int (nI (s + ps.length))), (5, .int (nI b2)), (6, .int (nI sm))]) C dX12_textNumber_237 (by decide) rfl rfl ?_
              refine m_iconst (pc' := 240) (v := nI 1) C dX12_textNumber_239 (by decide) rfl ?_
              refine m_istore (pc' := 242) (lv' := [(6, .int (nI 1)), (7, .long (lN (valN b2 (ps ++ [dvN (P.getD (s + ps.length) 0)])))), (0, .ref (ad 52)), (1, .int (nI ix)), (2, .int (nI P.length)), (3, .int (nI (P.getD 0 0))), (4, .int (nI (s + ps.length))), (5, .int (nI b2))]) C dX12_textNumber_240 (by decide) rfl rfl ?_
              refine m_iinc (pc' := 245) (v := nI (s + (ps ++ [dvN (P.getD (s + ps.length) 0)]).length)) (lv' := [(4, .int (nI (s + (ps ++ [dvN (P.getD (s + ps.length) 0)]).length))), (6, .int (nI 1)), (7, .long (lN (valN b2 (ps ++ [dvN (P.getD (s + ps.length) 0)])))), (0, .ref (ad 52)), (1, .int (nI ix)), (2, .int (nI P.length)), (3, .int (nI (P.getD 0 0))), (5, .int (nI b2))]) C dX12_textNumber_242 (k := 6) rfl (by rw [List.length_append, ← Nat.add_assoc]; exact nI_add _ _) (by decide) rfl rfl ?_
              refine m_goto (tgt := 196) C dX12_textNumber_245 (by decide) ?_
              refine m_lv [3, 4, 5, 6, 0, 7, 1, 2] rfl ?_
              exact ih (ps ++ [dvN (P.getD (s + ps.length) 0)], 1, Mk) (⟨by (try dsimp only); rw [i1, ldig_s n_199 hdv, List.append_assoc, List.length_append]; rfl, by (try dsimp only); rw [if_neg (by simp)], i4, i5⟩) (by simp only [List.length_append, List.length_singleton]; omega)
        refine m_aload_n (pc' := 92) C dX12_textNumber_91 rfl 3 rfl rfl ?_
        refine m_iload_n (pc' := 93) C dX12_textNumber_92 rfl 4 rfl rfl ?_
        refine m_iload (pc' := 95) C dX12_textNumber_93 2 rfl rfl ?_
        refine m_callVi (pc' := 98) (As := [.int (nI ix), .int (nI (tS0 P))]) (rest := []) C (kX12_textAt hI hn hn2 hro hra ha hxa (k := (tS0 P)) (by omega)) (cwV 2 C.1.2.2.2.2 (goodV tm_6_15 tm_6_17 tp_61 tm_1_13 tm_6_18) rfl rfl rfl (by decide +kernel) ⟨by decide, by decide⟩) (by omega) hro rfl rfl rfl (Nat.le_of_ble_eq_true rfl) dX12_textNumber_95 rfl ⟨by decide, by decide⟩ (fun x_25 N_25 q_25 => ?_)
        obtain ⟨e_25, E_25⟩ := q_25
        replace E_25 := E_25.symm
        subst E_25
        replace e_25 := e_25.symm
        subst e_25
        refine m_bipush (pc' := 100) (v := nI 48) C dX12_textNumber_98 (by decide) rfl ?_
        refine m_icmp_ne (pc' := 103) (tgt := 193) C dX12_textNumber_100 (by decide) rfl (fun c_100 => ?_) (fun c_100 => ?_)
        · have n_100 : ¬ (P.getD (tS0 P) 0) = 48 := fun q => c_100 ((nI_eq (by omega) (by omega)).mpr q)
          refine m_lv [3, 4, 5, 6, 2, 1, 0] rfl ?_
          exact J193 ((tS0 P), 10) (by unfold tS tB; rw [if_neg n_100, if_neg n_100]; exact ⟨rfl, rfl, by (try dsimp only); omega, by (try dsimp only); omega⟩)
        · have n_100 : (P.getD (tS0 P) 0) = 48 := (nI_eq (by omega) (by omega)).mp (Classical.not_not.mp c_100)
          refine m_cut (σ := Unit) (fun a => True) (fun a => M) 161 (fun a => [(0, .ref (ad 52)), (1, .int (nI ix)), (2, .int (nI P.length)), (3, .int (nI (P.getD 0 0))), (4, .int (nI (tS0 P))), (5, .int (nI 10)), (6, .int (nI 0))]) (fun a => [.int (bI (hexB P (tS0 P)))]) ?_ (fun J161 => ?_)
          · rintro zz hj
            try dsimp only at hj ⊢
            clear hj
            refine m_istore (pc' := 163) (lv' := [(7, .int (bI (hexB P (tS0 P)))), (0, .ref (ad 52)), (1, .int (nI ix)), (2, .int (nI P.length)), (3, .int (nI (P.getD 0 0))), (4, .int (nI (tS0 P))), (5, .int (nI 10)), (6, .int (nI 0))]) C dX12_textNumber_161 (by decide) rfl rfl ?_
            refine m_iload (pc' := 165) C dX12_textNumber_163 0 rfl rfl ?_
            refine m_if_eq (pc' := 168) (tgt := 173) C dX12_textNumber_165 (by decide) rfl (fun c_165 => ?_) (fun c_165 => ?_)
            · have hx9 := (bI_0 _).mp c_165
              refine m_bipush (pc' := 175) (v := nI 8) C dX12_textNumber_173 (by decide) rfl ?_
              refine m_istore (pc' := 177) (lv' := [(5, .int (nI 8)), (7, .int (bI (hexB P (tS0 P)))), (0, .ref (ad 52)), (1, .int (nI ix)), (2, .int (nI P.length)), (3, .int (nI (P.getD 0 0))), (4, .int (nI (tS0 P))), (6, .int (nI 0))]) C dX12_textNumber_175 (by decide) rfl rfl ?_
              refine m_iload (pc' := 179) C dX12_textNumber_177 1 rfl rfl ?_
              refine m_if_eq (pc' := 182) (tgt := 189) C dX12_textNumber_179 (by decide) rfl (fun c_179 => ?_) (fun c_179 => ?_)
              · refine m_iload (pc' := 191) C dX12_textNumber_189 6 rfl rfl ?_
                refine m_istore (pc' := 193) (lv' := [(4, .int (nI (tS0 P))), (5, .int (nI 8)), (7, .int (bI (hexB P (tS0 P)))), (0, .ref (ad 52)), (1, .int (nI ix)), (2, .int (nI P.length)), (3, .int (nI (P.getD 0 0))), (6, .int (nI 0))]) C dX12_textNumber_191 (by decide) rfl rfl ?_
                refine m_lv [3, 4, 5, 6, 0, 1, 7] rfl ?_
                exact J193 ((tS0 P), 8) (by unfold tS tB; rw [if_pos n_100, if_pos n_100, if_neg (by rw [hx9]; decide), if_neg (by rw [hx9]; decide)]; exact ⟨rfl, rfl, by (try dsimp only); omega, by (try dsimp only); omega⟩)
              · exact absurd hx9 (by rw [ts_of c_179]; decide)
            · have hx9 := ts_of c_165
              refine m_bipush (pc' := 170) (v := nI 16) C dX12_textNumber_168 (by decide) rfl ?_
              refine m_goto (tgt := 175) C dX12_textNumber_170 (by decide) ?_
              refine m_istore (pc' := 177) (lv' := [(5, .int (nI 16)), (7, .int (bI (hexB P (tS0 P)))), (0, .ref (ad 52)), (1, .int (nI ix)), (2, .int (nI P.length)), (3, .int (nI (P.getD 0 0))), (4, .int (nI (tS0 P))), (6, .int (nI 0))]) C dX12_textNumber_175 (by decide) rfl rfl ?_
              refine m_iload (pc' := 179) C dX12_textNumber_177 1 rfl rfl ?_
              refine m_if_eq (pc' := 182) (tgt := 189) C dX12_textNumber_179 (by decide) rfl (fun c_179 => ?_) (fun c_179 => ?_)
              · exact absurd hx9 (by rw [(bI_0 _).mp c_179]; decide)
              · refine m_iload (pc' := 184) C dX12_textNumber_182 6 rfl rfl ?_
                refine m_iconst (pc' := 185) (v := nI 2) C dX12_textNumber_184 (by decide) rfl ?_
                refine m_iadd (pc' := 186) (v := nI ((tS0 P) + 2)) C dX12_textNumber_185 (nI_add _ _) rfl ?_
                refine m_goto (tgt := 191) C dX12_textNumber_186 (by decide) ?_
                refine m_istore (pc' := 193) (lv' := [(4, .int (nI ((tS0 P) + 2))), (5, .int (nI 16)), (7, .int (bI (hexB P (tS0 P)))), (0, .ref (ad 52)), (1, .int (nI ix)), (2, .int (nI P.length)), (3, .int (nI (P.getD 0 0))), (6, .int (nI 0))]) C dX12_textNumber_191 (by decide) rfl rfl ?_
                refine m_lv [3, 4, 5, 6, 0, 1, 7] rfl ?_
                exact J193 (((tS0 P) + 2), 16) (by unfold tS tB; rw [if_pos n_100, if_pos n_100, if_pos hx9, if_pos hx9]; exact ⟨rfl, rfl, by (try dsimp only); omega, by (try dsimp only); omega⟩)
          refine m_aload_n (pc' := 104) C dX12_textNumber_103 rfl 3 rfl rfl ?_
          refine m_iload_n (pc' := 105) C dX12_textNumber_104 rfl 4 rfl rfl ?_
          refine m_iload (pc' := 107) C dX12_textNumber_105 2 rfl rfl ?_
          refine m_iconst (pc' := 108) (v := nI 1) C dX12_textNumber_107 (by decide) rfl ?_
          refine m_iadd (pc' := 109) (v := nI ((tS0 P) + 1)) C dX12_textNumber_108 (nI_add _ _) rfl ?_
          refine m_callVi (pc' := 112) (As := [.int (nI ix), .int (nI ((tS0 P) + 1))]) (rest := []) C (kX12_textAt hI hn hn2 hro hra ha hxa (k := ((tS0 P) + 1)) (by omega)) (cwV 2 C.1.2.2.2.2 (goodV tm_6_15 tm_6_17 tp_61 tm_1_13 tm_6_18) rfl rfl rfl (by decide +kernel) ⟨by decide, by decide⟩) (by omega) hro rfl rfl rfl (Nat.le_of_ble_eq_true rfl) dX12_textNumber_109 rfl ⟨by decide, by decide⟩ (fun x_26 N_26 q_26 => ?_)
          obtain ⟨e_26, E_26⟩ := q_26
          replace E_26 := E_26.symm
          subst E_26
          replace e_26 := e_26.symm
          subst e_26
          refine m_bipush (pc' := 114) (v := nI 120) C dX12_textNumber_112 (by decide) rfl ?_
          refine m_icmp_eq (pc' := 117) (tgt := 131) C dX12_textNumber_114 (by decide) rfl (fun c_114 => ?_) (fun c_114 => ?_)
          · have n_114 : (P.getD ((tS0 P) + 1) 0) = 120 := (nI_eq (by omega) (by omega)).mp c_114
            have hxx : P.getD (tS0 P + 1) 0 = 120 ∨ P.getD (tS0 P + 1) 0 = 88 := Or.inl n_114
            refine m_iload (pc' := 133) C dX12_textNumber_131 2 rfl rfl ?_
            refine m_iconst (pc' := 134) (v := nI 2) C dX12_textNumber_133 (by decide) rfl ?_
            refine m_iadd (pc' := 135) (v := nI ((tS0 P) + 2)) C dX12_textNumber_134 (nI_add _ _) rfl ?_
            refine m_iload_n (pc' := 136) C dX12_textNumber_135 rfl 5 rfl rfl ?_
            refine m_icmp_ge (pc' := 139) (tgt := 160) C dX12_textNumber_136 (by decide) rfl (fun c_136 => ?_) (fun c_136 => ?_)
            · have n_136 : P.length ≤ ((tS0 P) + 2) := (nI_leI (by omega) (by omega)).mp c_136
              have hz : hexB P (tS0 P) = false := hexB_out n_136
              refine m_iconst (pc' := 161) (v := bI (hexB P (tS0 P))) C dX12_textNumber_160 (by rw [hz]; rfl) rfl ?_
              refine m_lv [3, 4, 5, 6, 2, 1, 0] rfl ?_
              exact J161 () (trivial)
            · have n_136 : ((tS0 P) + 2) < P.length := Nat.lt_of_not_le (fun q => c_136 ((nI_leI (by omega) (by omega)).mpr q))
              refine m_aload_n (pc' := 140) C dX12_textNumber_139 rfl 3 rfl rfl ?_
              refine m_iload_n (pc' := 141) C dX12_textNumber_140 rfl 4 rfl rfl ?_
              refine m_iload (pc' := 143) C dX12_textNumber_141 2 rfl rfl ?_
              refine m_iconst (pc' := 144) (v := nI 2) C dX12_textNumber_143 (by decide) rfl ?_
              refine m_iadd (pc' := 145) (v := nI ((tS0 P) + 2)) C dX12_textNumber_144 (nI_add _ _) rfl ?_
              refine m_callVi (pc' := 148) (As := [.int (nI ix), .int (nI ((tS0 P) + 2))]) (rest := []) C (kX12_textAt hI hn hn2 hro hra ha hxa (k := ((tS0 P) + 2)) (by omega)) (cwV 2 C.1.2.2.2.2 (goodV tm_6_15 tm_6_17 tp_61 tm_1_13 tm_6_18) rfl rfl rfl (by decide +kernel) ⟨by decide, by decide⟩) (by omega) hro rfl rfl rfl (Nat.le_of_ble_eq_true rfl) dX12_textNumber_145 rfl ⟨by decide, by decide⟩ (fun x_27 N_27 q_27 => ?_)
              obtain ⟨e_27, E_27⟩ := q_27
              replace E_27 := E_27.symm
              subst E_27
              replace e_27 := e_27.symm
              subst e_27
              refine m_bipush (pc' := 150) (v := nI 16) C dX12_textNumber_148 (by decide) rfl ?_
              refine m_callSi (pc' := 153) (As := [.int (nI (P.getD ((tS0 P) + 2) 0)), .int (nI 16)]) (rest := []) C (kX12_baseDigit hI (c := P.getD (tS0 P + 2) 0) (b := 16) (by omega) (by omega)) (cwS 2 C.1.2.2.2.2 (goodS tm_6_19 tm_6_20 tm_1_13 tm_6_21) rfl rfl rfl (by decide +kernel) ⟨by decide, by decide⟩) rfl rfl (Nat.le_of_ble_eq_true rfl) dX12_textNumber_150 rfl ⟨by decide, by decide⟩ (fun x_28 N_28 q_28 => ?_)
              obtain ⟨e_28, E_28⟩ := q_28
              replace E_28 := E_28.symm
              subst E_28
              replace e_28 := e_28.symm
              subst e_28
              refine m_if_lt (pc' := 156) (tgt := 160) C dX12_textNumber_153 (by decide) rfl (fun c_153 => ?_) (fun c_153 => ?_)
              · have hz : hexB P (tS0 P) = false := hexB_f2 ((dI_lt0 (by decide)).mp c_153)
                refine m_iconst (pc' := 161) (v := bI (hexB P (tS0 P))) C dX12_textNumber_160 (by rw [hz]; rfl) rfl ?_
                refine m_lv [3, 4, 5, 6, 2, 1, 0] rfl ?_
                exact J161 () (trivial)
              · have hz : hexB P (tS0 P) = true := hexB_t hxx (Classical.not_not.mp (fun q => c_153 ((dI_lt0 (by decide)).mpr q)))
                refine m_iconst (pc' := 157) (v := bI (hexB P (tS0 P))) C dX12_textNumber_156 (by rw [hz]; rfl) rfl ?_
                refine m_goto (tgt := 161) C dX12_textNumber_157 (by decide) ?_
                refine m_lv [3, 4, 5, 6, 2, 1, 0] rfl ?_
                exact J161 () (trivial)
          · have n_114 : ¬ (P.getD ((tS0 P) + 1) 0) = 120 := fun q => c_114 ((nI_eq (by omega) (by omega)).mpr q)
            refine m_aload_n (pc' := 118) C dX12_textNumber_117 rfl 3 rfl rfl ?_
            refine m_iload_n (pc' := 119) C dX12_textNumber_118 rfl 4 rfl rfl ?_
            refine m_iload (pc' := 121) C dX12_textNumber_119 2 rfl rfl ?_
            refine m_iconst (pc' := 122) (v := nI 1) C dX12_textNumber_121 (by decide) rfl ?_
            refine m_iadd (pc' := 123) (v := nI ((tS0 P) + 1)) C dX12_textNumber_122 (nI_add _ _) rfl ?_
            refine m_callVi (pc' := 126) (As := [.int (nI ix), .int (nI ((tS0 P) + 1))]) (rest := []) C (kX12_textAt hI hn hn2 hro hra ha hxa (k := ((tS0 P) + 1)) (by omega)) (cwV 2 C.1.2.2.2.2 (goodV tm_6_15 tm_6_17 tp_61 tm_1_13 tm_6_18) rfl rfl rfl (by decide +kernel) ⟨by decide, by decide⟩) (by omega) hro rfl rfl rfl (Nat.le_of_ble_eq_true rfl) dX12_textNumber_123 rfl ⟨by decide, by decide⟩ (fun x_29 N_29 q_29 => ?_)
            obtain ⟨e_29, E_29⟩ := q_29
            replace E_29 := E_29.symm
            subst E_29
            replace e_29 := e_29.symm
            subst e_29
            refine m_bipush (pc' := 128) (v := nI 88) C dX12_textNumber_126 (by decide) rfl ?_
            refine m_icmp_ne (pc' := 131) (tgt := 160) C dX12_textNumber_128 (by decide) rfl (fun c_128 => ?_) (fun c_128 => ?_)
            · have n_128 : ¬ (P.getD ((tS0 P) + 1) 0) = 88 := fun q => c_128 ((nI_eq (by omega) (by omega)).mpr q)
              have hz : hexB P (tS0 P) = false := hexB_f1 n_114 n_128
              refine m_iconst (pc' := 161) (v := bI (hexB P (tS0 P))) C dX12_textNumber_160 (by rw [hz]; rfl) rfl ?_
              refine m_lv [3, 4, 5, 6, 2, 1, 0] rfl ?_
              exact J161 () (trivial)
            · have n_128 : (P.getD ((tS0 P) + 1) 0) = 88 := (nI_eq (by omega) (by omega)).mp (Classical.not_not.mp c_128)
              have hxx : P.getD (tS0 P + 1) 0 = 120 ∨ P.getD (tS0 P + 1) 0 = 88 := Or.inr n_128
              refine m_iload (pc' := 133) C dX12_textNumber_131 2 rfl rfl ?_
              refine m_iconst (pc' := 134) (v := nI 2) C dX12_textNumber_133 (by decide) rfl ?_
              refine m_iadd (pc' := 135) (v := nI ((tS0 P) + 2)) C dX12_textNumber_134 (nI_add _ _) rfl ?_
              refine m_iload_n (pc' := 136) C dX12_textNumber_135 rfl 5 rfl rfl ?_
              refine m_icmp_ge (pc' := 139) (tgt := 160) C dX12_textNumber_136 (by decide) rfl (fun c_136 => ?_) (fun c_136 => ?_)
              · have n_136 : P.length ≤ ((tS0 P) + 2) := (nI_leI (by omega) (by omega)).mp c_136
                have hz : hexB P (tS0 P) = false := hexB_out n_136
                refine m_iconst (pc' := 161) (v := bI (hexB P (tS0 P))) C dX12_textNumber_160 (by rw [hz]; rfl) rfl ?_
                refine m_lv [3, 4, 5, 6, 2, 1, 0] rfl ?_
                exact J161 () (trivial)
              · have n_136 : ((tS0 P) + 2) < P.length := Nat.lt_of_not_le (fun q => c_136 ((nI_leI (by omega) (by omega)).mpr q))
                refine m_aload_n (pc' := 140) C dX12_textNumber_139 rfl 3 rfl rfl ?_
                refine m_iload_n (pc' := 141) C dX12_textNumber_140 rfl 4 rfl rfl ?_
                refine m_iload (pc' := 143) C dX12_textNumber_141 2 rfl rfl ?_
                refine m_iconst (pc' := 144) (v := nI 2) C dX12_textNumber_143 (by decide) rfl ?_
                refine m_iadd (pc' := 145) (v := nI ((tS0 P) + 2)) C dX12_textNumber_144 (nI_add _ _) rfl ?_
                refine m_callVi (pc' := 148) (As := [.int (nI ix), .int (nI ((tS0 P) + 2))]) (rest := []) C (kX12_textAt hI hn hn2 hro hra ha hxa (k := ((tS0 P) + 2)) (by omega)) (cwV 2 C.1.2.2.2.2 (goodV tm_6_15 tm_6_17 tp_61 tm_1_13 tm_6_18) rfl rfl rfl (by decide +kernel) ⟨by decide, by decide⟩) (by omega) hro rfl rfl rfl (Nat.le_of_ble_eq_true rfl) dX12_textNumber_145 rfl ⟨by decide, by decide⟩ (fun x_30 N_30 q_30 => ?_)
                obtain ⟨e_30, E_30⟩ := q_30
                replace E_30 := E_30.symm
                subst E_30
                replace e_30 := e_30.symm
                subst e_30
                refine m_bipush (pc' := 150) (v := nI 16) C dX12_textNumber_148 (by decide) rfl ?_
                refine m_callSi (pc' := 153) (As := [.int (nI (P.getD ((tS0 P) + 2) 0)), .int (nI 16)]) (rest := []) C (kX12_baseDigit hI (c := P.getD (tS0 P + 2) 0) (b := 16) (by omega) (by omega)) (cwS 2 C.1.2.2.2.2 (goodS tm_6_19 tm_6_20 tm_1_13 tm_6_21) rfl rfl rfl (by decide +kernel) ⟨by decide, by decide⟩) rfl rfl (Nat.le_of_ble_eq_true rfl) dX12_textNumber_150 rfl ⟨by decide, by decide⟩ (fun x_31 N_31 q_31 => ?_)
                obtain ⟨e_31, E_31⟩ := q_31
                replace E_31 := E_31.symm
                subst E_31
                replace e_31 := e_31.symm
                subst e_31
                refine m_if_lt (pc' := 156) (tgt := 160) C dX12_textNumber_153 (by decide) rfl (fun c_153 => ?_) (fun c_153 => ?_)
                · have hz : hexB P (tS0 P) = false := hexB_f2 ((dI_lt0 (by decide)).mp c_153)
                  refine m_iconst (pc' := 161) (v := bI (hexB P (tS0 P))) C dX12_textNumber_160 (by rw [hz]; rfl) rfl ?_
                  refine m_lv [3, 4, 5, 6, 2, 1, 0] rfl ?_
                  exact J161 () (trivial)
                · have hz : hexB P (tS0 P) = true := hexB_t hxx (Classical.not_not.mp (fun q => c_153 ((dI_lt0 (by decide)).mpr q)))
                  refine m_iconst (pc' := 157) (v := bI (hexB P (tS0 P))) C dX12_textNumber_156 (by rw [hz]; rfl) rfl ?_
                  refine m_goto (tgt := 161) C dX12_textNumber_157 (by decide) ?_
                  refine m_lv [3, 4, 5, 6, 2, 1, 0] rfl ?_
                  exact J161 () (trivial)
      refine m_iload_n (pc' := 66) C dX12_textNumber_65 rfl 0 rfl rfl ?_
      refine m_bipush (pc' := 68) (v := nI 43) C dX12_textNumber_66 (by decide) rfl ?_
      refine m_icmp_eq (pc' := 71) (tgt := 77) C dX12_textNumber_68 (by decide) rfl (fun c_68 => ?_) (fun c_68 => ?_)
      · have n_68 : (P.getD 0 0) = 43 := (nI_eq (by omega) (by omega)).mp c_68
        have hz : tS0 P = 1 := by unfold tS0; rw [if_pos (Or.inl n_68)]
        refine m_iconst (pc' := 78) (v := nI (tS0 P)) C dX12_textNumber_77 (by rw [hz]; rfl) rfl ?_
        refine m_goto (tgt := 82) C dX12_textNumber_78 (by decide) ?_
        refine m_lv [2, 3, 1, 0] rfl ?_
        exact J82 () (trivial)
      · have n_68 : ¬ (P.getD 0 0) = 43 := fun q => c_68 ((nI_eq (by omega) (by omega)).mpr q)
        refine m_iload_n (pc' := 72) C dX12_textNumber_71 rfl 0 rfl rfl ?_
        refine m_bipush (pc' := 74) (v := nI 45) C dX12_textNumber_72 (by decide) rfl ?_
        refine m_icmp_ne (pc' := 77) (tgt := 81) C dX12_textNumber_74 (by decide) rfl (fun c_74 => ?_) (fun c_74 => ?_)
        · have n_74 : ¬ (P.getD 0 0) = 45 := fun q => c_74 ((nI_eq (by omega) (by omega)).mpr q)
          have hz : tS0 P = 0 := by unfold tS0; rw [if_neg (fun q => q.elim n_68 n_74)]
          refine m_iconst (pc' := 82) (v := nI (tS0 P)) C dX12_textNumber_81 (by rw [hz]; rfl) rfl ?_
          refine m_lv [2, 3, 1, 0] rfl ?_
          exact J82 () (trivial)
        · have n_74 : (P.getD 0 0) = 45 := (nI_eq (by omega) (by omega)).mp (Classical.not_not.mp c_74)
          have hz : tS0 P = 1 := by unfold tS0; rw [if_pos (Or.inr n_74)]
          refine m_iconst (pc' := 78) (v := nI (tS0 P)) C dX12_textNumber_77 (by rw [hz]; rfl) rfl ?_
          refine m_goto (tgt := 82) C dX12_textNumber_78 (by decide) ?_
          refine m_lv [2, 3, 1, 0] rfl ?_
          exact J82 () (trivial)
    · have n_23 : (P.getD 0 0) = 34 := (nI_eq (by omega) (by omega)).mp (Classical.not_not.mp c_23)
      have hQ : tQ P = true := by unfold tQ; rw [n_23, Bool.or_comm]; rfl
      refine m_aload_n (pc' := 27) C dX12_textNumber_26 rfl 2 rfl rfl ?_
      refine m_iload_n (pc' := 28) C dX12_textNumber_27 rfl 1 rfl rfl ?_
      refine m_iconst (pc' := 29) (v := nI 2) C dX12_textNumber_28 (by decide) rfl ?_
      refine m_icmp_ne (pc' := 32) (tgt := 39) C dX12_textNumber_29 (by decide) rfl (fun c_29 => ?_) (fun c_29 => ?_)
      · have n_29 : ¬ P.length = 2 := fun q => c_29 ((nI_eq (by omega) (by omega)).mpr q)
        refine m_aload_n (pc' := 40) C dX12_textNumber_39 rfl 2 rfl rfl ?_
        refine r_get C hn hro inW_X12 16 (by decide) ⟨rfl, rfl, rfl⟩ (gW_of tm_5_66) (r_at 16 rfl hod) dX12_textNumber_40 rfl ?_
        refine m_iconst (pc' := 44) (v := nI 1) C dX12_textNumber_43 (by decide) rfl ?_
        refine m_iadd (pc' := 45) (v := nI (od + 1)) C dX12_textNumber_44 (nI_add _ _) rfl ?_
        refine r_put (ty := .int) C hn hn2 hro inW_X12 16 116 (by decide) rfl ⟨rfl, rfl, rfl, rfl⟩ (gW_of tm_5_66) (by decide +kernel) rfl rfl (fun _ => rfl) dX12_textNumber_45 rfl (fun M32 go_32 g_32 F_32 => ?_)
        refine m_iload_n (pc' := 49) C dX12_textNumber_48 rfl 1 rfl rfl ?_
        refine m_iconst (pc' := 50) (v := nI 1) C dX12_textNumber_49 (by decide) rfl ?_
        refine m_icmp_le (pc' := 53) (tgt := 63) C dX12_textNumber_50 (by decide) rfl (fun c_50 => ?_) (fun c_50 => ?_)
        · have n_50 : P.length ≤ 1 := (nI_leI (by omega) (by omega)).mp c_50
          refine m_lconst (pc' := 64) (v := 0) C dX12_textNumber_63 (by decide) rfl ?_
          refine m_lret C hrt0 hlk0 dX12_textNumber_64 ?_
          have hV : txtV P = 0 := by unfold txtV; rw [if_pos hQ, if_neg (show ¬ 1 < P.length by omega)]
          have hO2 : txtO P = true := by unfold txtO; rw [if_pos hQ]; exact decide_eq_true n_29
          rw [hV, hO2]
          exact ⟨rfl, go_32, g_32, (F_32.sub (by decide))⟩
        · have n_50 : 1 < P.length := Nat.lt_of_not_le (fun q => c_50 ((nI_leI (by omega) (by omega)).mpr q))
          refine m_aload_n (pc' := 54) C dX12_textNumber_53 rfl 2 rfl rfl ?_
          refine m_iload_n (pc' := 55) C dX12_textNumber_54 rfl 3 rfl rfl ?_
          refine m_iconst (pc' := 56) (v := nI 1) C dX12_textNumber_55 (by decide) rfl ?_
          have xra_34 := hra.fr F_32 (by decide)
          refine m_callVi (pc' := 59) (As := [.int (nI ix), .int (nI 1)]) (rest := []) C (kX12_textAt hI hn hn2 go_32 xra_34 ha hxa (k := 1) (by omega)) (cwV 2 C.1.2.2.2.2 (goodV tm_6_15 tm_6_17 tp_61 tm_1_13 tm_6_18) rfl rfl rfl (by decide +kernel) ⟨by decide, by decide⟩) (by omega) go_32 rfl rfl rfl (Nat.le_of_ble_eq_true rfl) dX12_textNumber_56 rfl ⟨by decide, by decide⟩ (fun x_33 N_33 q_33 => ?_)
          obtain ⟨e_33, E_33⟩ := q_33
          replace E_33 := E_33.symm
          subst E_33
          replace e_33 := e_33.symm
          subst e_33
          refine m_i2l (pc' := 60) (v := lN (P.getD 1 0)) C dX12_textNumber_59 (nI_l (by have := gd_lt0 y4 1; omega)) rfl ?_
          refine m_goto (tgt := 64) C dX12_textNumber_60 (by decide) ?_
          refine m_lret C hrt0 hlk0 dX12_textNumber_64 ?_
          have hV : txtV P = lN (P.getD 1 0) := by unfold txtV; rw [if_pos hQ, if_pos (show 1 < P.length by omega)]
          have hO2 : txtO P = true := by unfold txtO; rw [if_pos hQ]; exact decide_eq_true n_29
          rw [hV, hO2]
          exact ⟨rfl, go_32, g_32, (F_32.sub (by decide))⟩
      · have n_29 : P.length = 2 := (nI_eq (by omega) (by omega)).mp (Classical.not_not.mp c_29)
        refine m_aload_n (pc' := 33) C dX12_textNumber_32 rfl 2 rfl rfl ?_
        refine r_get C hn hro inW_X12 16 (by decide) ⟨rfl, rfl, rfl⟩ (gW_of tm_5_66) (r_at 16 rfl hod) dX12_textNumber_33 rfl ?_
        refine m_goto (tgt := 45) C dX12_textNumber_36 (by decide) ?_
        refine r_put (ty := .int) C hn hn2 hro inW_X12 16 116 (by decide) rfl ⟨rfl, rfl, rfl, rfl⟩ (gW_of tm_5_66) (by decide +kernel) rfl rfl (fun _ => rfl) dX12_textNumber_45 rfl (fun M35 go_35 g_35 F_35 => ?_)
        refine m_iload_n (pc' := 49) C dX12_textNumber_48 rfl 1 rfl rfl ?_
        refine m_iconst (pc' := 50) (v := nI 1) C dX12_textNumber_49 (by decide) rfl ?_
        refine m_icmp_le (pc' := 53) (tgt := 63) C dX12_textNumber_50 (by decide) rfl (fun c_50 => ?_) (fun c_50 => ?_)
        · have n_50 : P.length ≤ 1 := (nI_leI (by omega) (by omega)).mp c_50
          refine m_lconst (pc' := 64) (v := 0) C dX12_textNumber_63 (by decide) rfl ?_
          refine m_lret C hrt0 hlk0 dX12_textNumber_64 ?_
          have hV : txtV P = 0 := by unfold txtV; rw [if_pos hQ, if_neg (show ¬ 1 < P.length by omega)]
          have hO2 : txtO P = false := by unfold txtO; rw [if_pos hQ]; exact decide_eq_false (fun z => z n_29)
          rw [hV, hO2]
          exact ⟨rfl, go_35, g_35, (F_35.sub (by decide))⟩
        · have n_50 : 1 < P.length := Nat.lt_of_not_le (fun q => c_50 ((nI_leI (by omega) (by omega)).mpr q))
          refine m_aload_n (pc' := 54) C dX12_textNumber_53 rfl 2 rfl rfl ?_
          refine m_iload_n (pc' := 55) C dX12_textNumber_54 rfl 3 rfl rfl ?_
          refine m_iconst (pc' := 56) (v := nI 1) C dX12_textNumber_55 (by decide) rfl ?_
          have xra_37 := hra.fr F_35 (by decide)
          refine m_callVi (pc' := 59) (As := [.int (nI ix), .int (nI 1)]) (rest := []) C (kX12_textAt hI hn hn2 go_35 xra_37 ha hxa (k := 1) (by omega)) (cwV 2 C.1.2.2.2.2 (goodV tm_6_15 tm_6_17 tp_61 tm_1_13 tm_6_18) rfl rfl rfl (by decide +kernel) ⟨by decide, by decide⟩) (by omega) go_35 rfl rfl rfl (Nat.le_of_ble_eq_true rfl) dX12_textNumber_56 rfl ⟨by decide, by decide⟩ (fun x_36 N_36 q_36 => ?_)
          obtain ⟨e_36, E_36⟩ := q_36
          replace E_36 := E_36.symm
          subst E_36
          replace e_36 := e_36.symm
          subst e_36
          refine m_i2l (pc' := 60) (v := lN (P.getD 1 0)) C dX12_textNumber_59 (nI_l (by have := gd_lt0 y4 1; omega)) rfl ?_
          refine m_goto (tgt := 64) C dX12_textNumber_60 (by decide) ?_
          refine m_lret C hrt0 hlk0 dX12_textNumber_64 ?_
          have hV : txtV P = lN (P.getD 1 0) := by unfold txtV; rw [if_pos hQ, if_pos (show 1 < P.length by omega)]
          have hO2 : txtO P = false := by unfold txtO; rw [if_pos hQ]; exact decide_eq_false (fun z => z n_29)
          rw [hV, hO2]
          exact ⟨rfl, go_35, g_35, (F_35.sub (by decide))⟩
