set_option maxHeartbeats 4000000 in
set_option maxRecDepth 100000 in
theorem kX12_readDirective {l : Launch} {D : va_G} {cy : Nat → ClassId} {ad : Nat → Nat} {n : Nat} {A : Nat → Prop} (hI : mI ad n A) {M : Nat → va_E} (hn : 63 ≤ n) (hn2 : n ≤ 100) (hro : rO ad M) {T : List Nat} (hln : isLn cy M T) {i : Nat} (hat : M 119 = gh (.int (nI i))) (hi : i ≤ 80) : mMi l yX12_readDirective (gW yX12_readDirective cX12_readDirective 4 (some .boolean)) { frames := 2, cells := 0, slots := 0, locals := 43 } D cy ad n A [.ref (ad 52)] M (fun res M' => res = bI (dirOk T i) ∧ rO ad M' ∧ M' 119 = gh (.int (nI (dP4 T i + 1))) ∧ M' 120 = gh (.int (bI (has 45 (flR (T.drop i))))) ∧ M' 121 = gh (.int (bI (has 43 (flR (T.drop i))))) ∧ M' 122 = gh (.int (bI (has 32 (flR (T.drop i))))) ∧ M' 123 = gh (.int (bI (has 35 (flR (T.drop i))))) ∧ M' 124 = gh (.int (bI (has 48 (flR (T.drop i))))) ∧ M' 125 = gh (.int (rWd T (dP1 T i))) ∧ M' 126 = gh (.int (rPc T (dP2 T i))) ∧ M' 127 = gh (.int (nI (lnB T (dP3 T i)))) ∧ M' 128 = gh (.int (nI (T.getD (dP4 T i) 0))) ∧ Fr [52, 119, 120, 121, 122, 123, 124, 125, 126, 127, 128] M M') := by
  have t1 := hln.1
  have tl : T.length ≤ 80 := hln.2.2.2.1
  refine m_entry (cc := cX12_readDirective) (maxL := 4) (ret := (some .boolean)) (own := RX12) (lv := [(0, .ref (ad 52))]) hI (by decide) rfl rfl (Nat.le_of_ble_eq_true rfl) rfl (fun pX eX sX mX aX bX tX cX C hrt0 hlk0 => ?_)
  refine m_aload_n (pc' := 1) C dX12_readDirective_0 rfl 0 rfl rfl ?_
  refine m_iconst (pc' := 2) (v := bI (has 45 [])) C dX12_readDirective_1 (by decide) rfl ?_
  refine r_put (ty := .boolean) C hn hn2 hro inW_X12 20 120 (by decide) rfl ⟨rfl, rfl, rfl, rfl⟩ (gW_of tm_5_70) (by decide +kernel) (nar_z _) (fit_z _) (fun _ => rfl) dX12_readDirective_2 rfl (fun M1 go_1 g_1 F_1 => ?_)
  refine m_aload_n (pc' := 6) C dX12_readDirective_5 rfl 0 rfl rfl ?_
  refine m_iconst (pc' := 7) (v := bI (has 43 [])) C dX12_readDirective_6 (by decide) rfl ?_
  refine r_put (ty := .boolean) C hn hn2 go_1 inW_X12 21 121 (by decide) rfl ⟨rfl, rfl, rfl, rfl⟩ (gW_of tm_5_71) (by decide +kernel) (nar_z _) (fit_z _) (fun _ => rfl) dX12_readDirective_7 rfl (fun M2 go_2 g_2 F_2 => ?_)
  refine m_aload_n (pc' := 11) C dX12_readDirective_10 rfl 0 rfl rfl ?_
  refine m_iconst (pc' := 12) (v := bI (has 32 [])) C dX12_readDirective_11 (by decide) rfl ?_
  refine r_put (ty := .boolean) C hn hn2 go_2 inW_X12 22 122 (by decide) rfl ⟨rfl, rfl, rfl, rfl⟩ (gW_of tm_5_72) (by decide +kernel) (nar_z _) (fit_z _) (fun _ => rfl) dX12_readDirective_12 rfl (fun M3 go_3 g_3 F_3 => ?_)
  refine m_aload_n (pc' := 16) C dX12_readDirective_15 rfl 0 rfl rfl ?_
  refine m_iconst (pc' := 17) (v := bI (has 35 [])) C dX12_readDirective_16 (by decide) rfl ?_
  refine r_put (ty := .boolean) C hn hn2 go_3 inW_X12 23 123 (by decide) rfl ⟨rfl, rfl, rfl, rfl⟩ (gW_of tm_5_73) (by decide +kernel) (nar_z _) (fit_z _) (fun _ => rfl) dX12_readDirective_17 rfl (fun M4 go_4 g_4 F_4 => ?_)
  refine m_aload_n (pc' := 21) C dX12_readDirective_20 rfl 0 rfl rfl ?_
  refine m_iconst (pc' := 22) (v := bI (has 48 [])) C dX12_readDirective_21 (by decide) rfl ?_
  refine r_put (ty := .boolean) C hn hn2 go_4 inW_X12 24 124 (by decide) rfl ⟨rfl, rfl, rfl, rfl⟩ (gW_of tm_5_74) (by decide +kernel) (nar_z _) (fit_z _) (fun _ => rfl) dX12_readDirective_22 rfl (fun M5 go_5 g_5 F_5 => ?_)
  refine m_iconst (pc' := 26) (v := bI true) C dX12_readDirective_25 (by decide) rfl ?_
  refine m_istore_n (pc' := 27) (lv' := [(1, .int (bI true)), (0, .ref (ad 52))]) C dX12_readDirective_26 rfl (by decide) rfl rfl ?_
  refine m_lv [1, 0] rfl ?_
  have ff19_6 : M1 119 = gh (.int (nI i)) := (F_1 119 (by decide)).trans hat
  have ff19_7 : M2 119 = gh (.int (nI i)) := (F_2 119 (by decide)).trans ff19_6
  have ff19_8 : M3 119 = gh (.int (nI i)) := (F_3 119 (by decide)).trans ff19_7
  have ff19_9 : M4 119 = gh (.int (nI i)) := (F_4 119 (by decide)).trans ff19_8
  have ff19_10 : M5 119 = gh (.int (nI i)) := (F_5 119 (by decide)).trans ff19_9
  have ff20_11 : M2 120 = gh (.int (bI (has 45 []))) := (F_2 120 (by decide)).trans g_1
  have ff20_12 : M3 120 = gh (.int (bI (has 45 []))) := (F_3 120 (by decide)).trans ff20_11
  have ff20_13 : M4 120 = gh (.int (bI (has 45 []))) := (F_4 120 (by decide)).trans ff20_12
  have ff20_14 : M5 120 = gh (.int (bI (has 45 []))) := (F_5 120 (by decide)).trans ff20_13
  have ff21_15 : M3 121 = gh (.int (bI (has 43 []))) := (F_3 121 (by decide)).trans g_2
  have ff21_16 : M4 121 = gh (.int (bI (has 43 []))) := (F_4 121 (by decide)).trans ff21_15
  have ff21_17 : M5 121 = gh (.int (bI (has 43 []))) := (F_5 121 (by decide)).trans ff21_16
  have ff22_18 : M4 122 = gh (.int (bI (has 32 []))) := (F_4 122 (by decide)).trans g_3
  have ff22_19 : M5 122 = gh (.int (bI (has 32 []))) := (F_5 122 (by decide)).trans ff22_18
  have ff23_20 : M5 123 = gh (.int (bI (has 35 []))) := (F_5 123 (by decide)).trans g_4
  refine m_loop (σ := Bool × List Nat × (Nat → va_E)) (fun a => a.2.2) (fun a => [(0, .ref (ad 52)), (1, .int (bI a.1))]) (fun a => flR (T.drop i) = a.2.1 ++ (if a.1 then flR (T.drop (i + a.2.1.length)) else []) ∧ rO ad a.2.2 ∧ a.2.2 119 = gh (.int (nI (i + a.2.1.length))) ∧ a.2.2 120 = gh (.int (bI (has 45 a.2.1))) ∧ a.2.2 121 = gh (.int (bI (has 43 a.2.1))) ∧ a.2.2 122 = gh (.int (bI (has 32 a.2.1))) ∧ a.2.2 123 = gh (.int (bI (has 35 a.2.1))) ∧ a.2.2 124 = gh (.int (bI (has 48 a.2.1))) ∧ Fr [52, 119, 120, 121, 122, 123, 124] M a.2.2) (fun a => (if a.1 then 1 else 0) + (T.length - (i + a.2.1.length))) (true, [], M5) (⟨rfl, go_5, ff19_10, ff20_14, ff21_17, ff22_19, ff23_20, g_5, (((((F_1.sub (by decide)).tr (F_2.sub (by decide))).tr (F_3.sub (by decide))).tr (F_4.sub (by decide))).tr (F_5.sub (by decide)))⟩) ?_
  rintro ⟨fgo, ps, Mk⟩ hinv ih
  dsimp only at hinv ih ⊢
  obtain ⟨i1, i2, i3, i4, i5, i6, i7, i8, i9⟩ := hinv
  have hpl : ps.length ≤ T.length - i := by have h9 := flR_len (T.drop i); rw [i1, List.length_append, List.length_drop] at h9; omega
  have hc8 := gd_lt0 t1 (i + ps.length)
  refine m_iload_n (pc' := 28) C dX12_readDirective_27 rfl 1 rfl rfl ?_
  refine m_if_eq (pc' := 31) (tgt := 210) C dX12_readDirective_28 (by decide) rfl (fun c_28 => ?_) (fun c_28 => ?_)
  · have hg0 : fgo = false := (bI_0 _).mp c_28
    have hfl9 : flR (T.drop i) = ps := by rw [i1, hg0]; exact List.append_nil _
    obtain ⟨p1, hp1⟩ : ∃ z, z = i + ps.length := ⟨_, rfl⟩
    rw [← hp1] at i3
    have hP1 : dP1 T i = p1 := by unfold dP1; rw [hfl9, hp1]
    have hc1 := gd_lt0 t1 p1
    refine m_cut (σ := (Nat → va_E)) (fun a => rO ad a ∧ a 119 = gh (.int (nI (wdE T p1))) ∧ a 125 = gh (.int (rWd T p1)) ∧ Fr [52, 119, 125] Mk a) (fun a => a) 255 (fun a => [(0, .ref (ad 52))]) (fun a => []) ?_ (fun J255 => ?_)
    · rintro Mj255 hj
      try dsimp only at hj ⊢
      obtain ⟨jro_255, jf19_255, jf25_255, jf_255⟩ := hj
      have b2 := wdE_le T p1
      have g2 := gd_lt0 t1 (wdE T p1)
      have g2b := gd_lt0 t1 (wdE T p1 + 1)
      refine m_cut (σ := (Nat → va_E)) (fun a => rO ad a ∧ a 119 = gh (.int (nI (prE T (wdE T p1)))) ∧ a 126 = gh (.int (rPc T (wdE T p1))) ∧ Fr [52, 119, 126] Mj255 a) (fun a => a) 323 (fun a => [(0, .ref (ad 52))]) (fun a => []) ?_ (fun J323 => ?_)
      · rintro Mj323 hj
        try dsimp only at hj ⊢
        obtain ⟨jro_323, jf19_323, jf26_323, jf_323⟩ := hj
        have b3 := prE_le T (wdE T p1)
        have g3 := gd_lt0 t1 (prE T (wdE T p1))
        have g3b := gd_lt0 t1 (prE T (wdE T p1) + 1)
        refine m_cut (σ := (Nat → va_E)) (fun a => rO ad a ∧ a 119 = gh (.int (nI (lnE T (prE T (wdE T p1))))) ∧ a 127 = gh (.int (nI (lnB T (prE T (wdE T p1))))) ∧ Fr [52, 119, 127] Mj323 a) (fun a => a) 444 (fun a => [(0, .ref (ad 52))]) (fun a => []) ?_ (fun J444 => ?_)
        · rintro Mj444 hj
          try dsimp only at hj ⊢
          obtain ⟨jro_444, jf19_444, jf27_444, jf_444⟩ := hj
          have b4 := lnE_le T (prE T (wdE T p1))
          have g4 := gd_lt0 t1 (lnE T (prE T (wdE T p1)))
          refine m_aload_n (pc' := 445) C dX12_readDirective_444 rfl 0 rfl rfl ?_
          refine m_aload_n (pc' := 446) C dX12_readDirective_445 rfl 0 rfl rfl ?_
          refine m_aload_n (pc' := 447) C dX12_readDirective_446 rfl 0 rfl rfl ?_
          refine r_get C hn jro_444 inW_X12 19 (by decide) ⟨rfl, rfl, rfl⟩ (gW_of tm_5_69) (r_at 19 rfl jf19_444) dX12_readDirective_447 rfl ?_
          have xln_22 := hln.fr i9 (by decide)
          have xln_23 := xln_22.fr jf_255 (by decide)
          have xln_24 := xln_23.fr jf_323 (by decide)
          have xln_25 := xln_24.fr jf_444 (by decide)
          refine m_callVi (pc' := 453) (As := [.int (nI (lnE T (prE T (wdE T p1))))]) (rest := [.ref (ad 52)]) C (kX12_charAt hI hn hn2 jro_444 xln_25 (i := (lnE T (prE T (wdE T p1)))) (by omega)) (cwV 1 C.1.2.2.2.2 (goodV tm_5_213 tm_5_215 tp_52 tm_1_13 tm_5_216) rfl rfl rfl (by decide +kernel) ⟨by decide, by decide⟩) (by omega) jro_444 rfl rfl rfl (Nat.le_of_ble_eq_true rfl) dX12_readDirective_450 rfl ⟨by decide, by decide⟩ (fun x_21 N_21 q_21 => ?_)
          obtain ⟨e_21, E_21⟩ := q_21
          replace E_21 := E_21.symm
          subst E_21
          replace e_21 := e_21.symm
          subst e_21
          refine r_put (ty := .char) C hn hn2 jro_444 inW_X12 28 128 (by decide) rfl ⟨rfl, rfl, rfl, rfl⟩ (gW_of tm_5_78) (by decide +kernel) (nar_c (by omega)) (fit_c (by omega)) (fun _ => rfl) dX12_readDirective_453 rfl (fun M26 go_26 g_26 F_26 => ?_)
          refine m_aload_n (pc' := 457) C dX12_readDirective_456 rfl 0 rfl rfl ?_
          refine m_dup (pc' := 458) C dX12_readDirective_457 rfl rfl ?_
          have ff19_27 : M26 119 = gh (.int (nI (lnE T (prE T (wdE T p1))))) := (F_26 119 (by decide)).trans jf19_444
          refine r_get C hn go_26 inW_X12 19 (by decide) ⟨rfl, rfl, rfl⟩ (gW_of tm_5_69) (r_at 19 rfl ff19_27) dX12_readDirective_458 rfl ?_
          refine m_iconst (pc' := 462) (v := nI 1) C dX12_readDirective_461 (by decide) rfl ?_
          refine m_iadd (pc' := 463) (v := nI ((lnE T (prE T (wdE T p1))) + 1)) C dX12_readDirective_462 (nI_add _ _) rfl ?_
          refine r_put (ty := .int) C hn hn2 go_26 inW_X12 19 119 (by decide) rfl ⟨rfl, rfl, rfl, rfl⟩ (gW_of tm_5_69) (by decide +kernel) rfl rfl (fun _ => rfl) dX12_readDirective_463 rfl (fun M28 go_28 g_28 F_28 => ?_)
          refine m_cut (σ := Unit) (fun a => True) (fun a => M28) 552 (fun a => [(0, .ref (ad 52))]) (fun a => [.int (bI (letC (T.getD (lnE T (prE T (wdE T p1))) 0)))]) ?_ (fun J552 => ?_)
          · rintro zz hj
            try dsimp only at hj ⊢
            clear hj
            refine m_iret C hrt0 hlk0 (nar_z _) dX12_readDirective_552 ?_
            have ff20_29 : Mj255 120 = gh (.int (bI (has 45 ps))) := (jf_255 120 (by decide)).trans i4
            have ff20_30 : Mj323 120 = gh (.int (bI (has 45 ps))) := (jf_323 120 (by decide)).trans ff20_29
            have ff20_31 : Mj444 120 = gh (.int (bI (has 45 ps))) := (jf_444 120 (by decide)).trans ff20_30
            have ff20_32 : M26 120 = gh (.int (bI (has 45 ps))) := (F_26 120 (by decide)).trans ff20_31
            have ff20_33 : M28 120 = gh (.int (bI (has 45 ps))) := (F_28 120 (by decide)).trans ff20_32
            have ff21_34 : Mj255 121 = gh (.int (bI (has 43 ps))) := (jf_255 121 (by decide)).trans i5
            have ff21_35 : Mj323 121 = gh (.int (bI (has 43 ps))) := (jf_323 121 (by decide)).trans ff21_34
            have ff21_36 : Mj444 121 = gh (.int (bI (has 43 ps))) := (jf_444 121 (by decide)).trans ff21_35
            have ff21_37 : M26 121 = gh (.int (bI (has 43 ps))) := (F_26 121 (by decide)).trans ff21_36
            have ff21_38 : M28 121 = gh (.int (bI (has 43 ps))) := (F_28 121 (by decide)).trans ff21_37
            have ff22_39 : Mj255 122 = gh (.int (bI (has 32 ps))) := (jf_255 122 (by decide)).trans i6
            have ff22_40 : Mj323 122 = gh (.int (bI (has 32 ps))) := (jf_323 122 (by decide)).trans ff22_39
            have ff22_41 : Mj444 122 = gh (.int (bI (has 32 ps))) := (jf_444 122 (by decide)).trans ff22_40
            have ff22_42 : M26 122 = gh (.int (bI (has 32 ps))) := (F_26 122 (by decide)).trans ff22_41
            have ff22_43 : M28 122 = gh (.int (bI (has 32 ps))) := (F_28 122 (by decide)).trans ff22_42
            have ff23_44 : Mj255 123 = gh (.int (bI (has 35 ps))) := (jf_255 123 (by decide)).trans i7
            have ff23_45 : Mj323 123 = gh (.int (bI (has 35 ps))) := (jf_323 123 (by decide)).trans ff23_44
            have ff23_46 : Mj444 123 = gh (.int (bI (has 35 ps))) := (jf_444 123 (by decide)).trans ff23_45
            have ff23_47 : M26 123 = gh (.int (bI (has 35 ps))) := (F_26 123 (by decide)).trans ff23_46
            have ff23_48 : M28 123 = gh (.int (bI (has 35 ps))) := (F_28 123 (by decide)).trans ff23_47
            have ff24_49 : Mj255 124 = gh (.int (bI (has 48 ps))) := (jf_255 124 (by decide)).trans i8
            have ff24_50 : Mj323 124 = gh (.int (bI (has 48 ps))) := (jf_323 124 (by decide)).trans ff24_49
            have ff24_51 : Mj444 124 = gh (.int (bI (has 48 ps))) := (jf_444 124 (by decide)).trans ff24_50
            have ff24_52 : M26 124 = gh (.int (bI (has 48 ps))) := (F_26 124 (by decide)).trans ff24_51
            have ff24_53 : M28 124 = gh (.int (bI (has 48 ps))) := (F_28 124 (by decide)).trans ff24_52
            have ff25_54 : Mj323 125 = gh (.int (rWd T p1)) := (jf_323 125 (by decide)).trans jf25_255
            have ff25_55 : Mj444 125 = gh (.int (rWd T p1)) := (jf_444 125 (by decide)).trans ff25_54
            have ff25_56 : M26 125 = gh (.int (rWd T p1)) := (F_26 125 (by decide)).trans ff25_55
            have ff25_57 : M28 125 = gh (.int (rWd T p1)) := (F_28 125 (by decide)).trans ff25_56
            have ff26_58 : Mj444 126 = gh (.int (rPc T (wdE T p1))) := (jf_444 126 (by decide)).trans jf26_323
            have ff26_59 : M26 126 = gh (.int (rPc T (wdE T p1))) := (F_26 126 (by decide)).trans ff26_58
            have ff26_60 : M28 126 = gh (.int (rPc T (wdE T p1))) := (F_28 126 (by decide)).trans ff26_59
            have ff27_61 : M26 127 = gh (.int (nI (lnB T (prE T (wdE T p1))))) := (F_26 127 (by decide)).trans jf27_444
            have ff27_62 : M28 127 = gh (.int (nI (lnB T (prE T (wdE T p1))))) := (F_28 127 (by decide)).trans ff27_61
            have ff28_63 : M28 128 = gh (.int (nI (T.getD (lnE T (prE T (wdE T p1))) 0))) := (F_28 128 (by decide)).trans g_26
            unfold dirOk dP4 dP3 dP2
            rw [hP1, hfl9]
            exact ⟨rfl, go_28, g_28, ff20_33, ff21_38, ff22_43, ff23_48, ff24_53, ff25_57, ff26_60, ff27_62, ff28_63, ((((((i9.sub (by decide)).tr (jf_255.sub (by decide))).tr (jf_323.sub (by decide))).tr (jf_444.sub (by decide))).tr (F_26.sub (by decide))).tr (F_28.sub (by decide)))⟩
          refine m_aload_n (pc' := 467) C dX12_readDirective_466 rfl 0 rfl rfl ?_
          have ff28_64 : M28 128 = gh (.int (nI (T.getD (lnE T (prE T (wdE T p1))) 0))) := (F_28 128 (by decide)).trans g_26
          refine r_get C hn go_28 inW_X12 28 (by decide) ⟨rfl, rfl, rfl⟩ (gW_of tm_5_78) (r_at 28 rfl ff28_64) dX12_readDirective_467 rfl ?_
          refine m_bipush (pc' := 472) (v := nI 100) C dX12_readDirective_470 (by decide) rfl ?_
          refine m_icmp_eq (pc' := 475) (tgt := 547) C dX12_readDirective_472 (by decide) rfl (fun c_472 => ?_) (fun c_472 => ?_)
          · have n_472 : (T.getD (lnE T (prE T (wdE T p1))) 0) = 100 := (nI_eq (by omega) (by omega)).mp c_472
            have hz : letC (T.getD (lnE T (prE T (wdE T p1))) 0) = true := by rw [n_472]; decide
            refine m_iconst (pc' := 548) (v := bI (letC (T.getD (lnE T (prE T (wdE T p1))) 0))) C dX12_readDirective_547 (by rw [hz]; first | done | rfl) rfl ?_
            refine m_goto (tgt := 552) C dX12_readDirective_548 (by decide) ?_
            refine m_lv [0] rfl ?_
            exact J552 () (trivial)
          · have n_472 : ¬ (T.getD (lnE T (prE T (wdE T p1))) 0) = 100 := fun q => c_472 ((nI_eq (by omega) (by omega)).mpr q)
            refine m_aload_n (pc' := 476) C dX12_readDirective_475 rfl 0 rfl rfl ?_
            refine r_get C hn go_28 inW_X12 28 (by decide) ⟨rfl, rfl, rfl⟩ (gW_of tm_5_78) (r_at 28 rfl ff28_64) dX12_readDirective_476 rfl ?_
            refine m_bipush (pc' := 481) (v := nI 105) C dX12_readDirective_479 (by decide) rfl ?_
            refine m_icmp_eq (pc' := 484) (tgt := 547) C dX12_readDirective_481 (by decide) rfl (fun c_481 => ?_) (fun c_481 => ?_)
            · have n_481 : (T.getD (lnE T (prE T (wdE T p1))) 0) = 105 := (nI_eq (by omega) (by omega)).mp c_481
              have hz : letC (T.getD (lnE T (prE T (wdE T p1))) 0) = true := by rw [n_481]; decide
              refine m_iconst (pc' := 548) (v := bI (letC (T.getD (lnE T (prE T (wdE T p1))) 0))) C dX12_readDirective_547 (by rw [hz]; first | done | rfl) rfl ?_
              refine m_goto (tgt := 552) C dX12_readDirective_548 (by decide) ?_
              refine m_lv [0] rfl ?_
              exact J552 () (trivial)
            · have n_481 : ¬ (T.getD (lnE T (prE T (wdE T p1))) 0) = 105 := fun q => c_481 ((nI_eq (by omega) (by omega)).mpr q)
              refine m_aload_n (pc' := 485) C dX12_readDirective_484 rfl 0 rfl rfl ?_
              refine r_get C hn go_28 inW_X12 28 (by decide) ⟨rfl, rfl, rfl⟩ (gW_of tm_5_78) (r_at 28 rfl ff28_64) dX12_readDirective_485 rfl ?_
              refine m_bipush (pc' := 490) (v := nI 117) C dX12_readDirective_488 (by decide) rfl ?_
              refine m_icmp_eq (pc' := 493) (tgt := 547) C dX12_readDirective_490 (by decide) rfl (fun c_490 => ?_) (fun c_490 => ?_)
              · have n_490 : (T.getD (lnE T (prE T (wdE T p1))) 0) = 117 := (nI_eq (by omega) (by omega)).mp c_490
                have hz : letC (T.getD (lnE T (prE T (wdE T p1))) 0) = true := by rw [n_490]; decide
                refine m_iconst (pc' := 548) (v := bI (letC (T.getD (lnE T (prE T (wdE T p1))) 0))) C dX12_readDirective_547 (by rw [hz]; first | done | rfl) rfl ?_
                refine m_goto (tgt := 552) C dX12_readDirective_548 (by decide) ?_
                refine m_lv [0] rfl ?_
                exact J552 () (trivial)
              · have n_490 : ¬ (T.getD (lnE T (prE T (wdE T p1))) 0) = 117 := fun q => c_490 ((nI_eq (by omega) (by omega)).mpr q)
                refine m_aload_n (pc' := 494) C dX12_readDirective_493 rfl 0 rfl rfl ?_
                refine r_get C hn go_28 inW_X12 28 (by decide) ⟨rfl, rfl, rfl⟩ (gW_of tm_5_78) (r_at 28 rfl ff28_64) dX12_readDirective_494 rfl ?_
                refine m_bipush (pc' := 499) (v := nI 111) C dX12_readDirective_497 (by decide) rfl ?_
                refine m_icmp_eq (pc' := 502) (tgt := 547) C dX12_readDirective_499 (by decide) rfl (fun c_499 => ?_) (fun c_499 => ?_)
                · have n_499 : (T.getD (lnE T (prE T (wdE T p1))) 0) = 111 := (nI_eq (by omega) (by omega)).mp c_499
                  have hz : letC (T.getD (lnE T (prE T (wdE T p1))) 0) = true := by rw [n_499]; decide
                  refine m_iconst (pc' := 548) (v := bI (letC (T.getD (lnE T (prE T (wdE T p1))) 0))) C dX12_readDirective_547 (by rw [hz]; first | done | rfl) rfl ?_
                  refine m_goto (tgt := 552) C dX12_readDirective_548 (by decide) ?_
                  refine m_lv [0] rfl ?_
                  exact J552 () (trivial)
                · have n_499 : ¬ (T.getD (lnE T (prE T (wdE T p1))) 0) = 111 := fun q => c_499 ((nI_eq (by omega) (by omega)).mpr q)
                  refine m_aload_n (pc' := 503) C dX12_readDirective_502 rfl 0 rfl rfl ?_
                  refine r_get C hn go_28 inW_X12 28 (by decide) ⟨rfl, rfl, rfl⟩ (gW_of tm_5_78) (r_at 28 rfl ff28_64) dX12_readDirective_503 rfl ?_
                  refine m_bipush (pc' := 508) (v := nI 120) C dX12_readDirective_506 (by decide) rfl ?_
                  refine m_icmp_eq (pc' := 511) (tgt := 547) C dX12_readDirective_508 (by decide) rfl (fun c_508 => ?_) (fun c_508 => ?_)
                  · have n_508 : (T.getD (lnE T (prE T (wdE T p1))) 0) = 120 := (nI_eq (by omega) (by omega)).mp c_508
                    have hz : letC (T.getD (lnE T (prE T (wdE T p1))) 0) = true := by rw [n_508]; decide
                    refine m_iconst (pc' := 548) (v := bI (letC (T.getD (lnE T (prE T (wdE T p1))) 0))) C dX12_readDirective_547 (by rw [hz]; first | done | rfl) rfl ?_
                    refine m_goto (tgt := 552) C dX12_readDirective_548 (by decide) ?_
                    refine m_lv [0] rfl ?_
                    exact J552 () (trivial)
                  · have n_508 : ¬ (T.getD (lnE T (prE T (wdE T p1))) 0) = 120 := fun q => c_508 ((nI_eq (by omega) (by omega)).mpr q)
                    refine m_aload_n (pc' := 512) C dX12_readDirective_511 rfl 0 rfl rfl ?_
                    refine r_get C hn go_28 inW_X12 28 (by decide) ⟨rfl, rfl, rfl⟩ (gW_of tm_5_78) (r_at 28 rfl ff28_64) dX12_readDirective_512 rfl ?_
                    refine m_bipush (pc' := 517) (v := nI 88) C dX12_readDirective_515 (by decide) rfl ?_
                    refine m_icmp_eq (pc' := 520) (tgt := 547) C dX12_readDirective_517 (by decide) rfl (fun c_517 => ?_) (fun c_517 => ?_)
                    · have n_517 : (T.getD (lnE T (prE T (wdE T p1))) 0) = 88 := (nI_eq (by omega) (by omega)).mp c_517
                      have hz : letC (T.getD (lnE T (prE T (wdE T p1))) 0) = true := by rw [n_517]; decide
                      refine m_iconst (pc' := 548) (v := bI (letC (T.getD (lnE T (prE T (wdE T p1))) 0))) C dX12_readDirective_547 (by rw [hz]; first | done | rfl) rfl ?_
                      refine m_goto (tgt := 552) C dX12_readDirective_548 (by decide) ?_
                      refine m_lv [0] rfl ?_
                      exact J552 () (trivial)
                    · have n_517 : ¬ (T.getD (lnE T (prE T (wdE T p1))) 0) = 88 := fun q => c_517 ((nI_eq (by omega) (by omega)).mpr q)
                      refine m_aload_n (pc' := 521) C dX12_readDirective_520 rfl 0 rfl rfl ?_
                      refine r_get C hn go_28 inW_X12 28 (by decide) ⟨rfl, rfl, rfl⟩ (gW_of tm_5_78) (r_at 28 rfl ff28_64) dX12_readDirective_521 rfl ?_
                      refine m_bipush (pc' := 526) (v := nI 99) C dX12_readDirective_524 (by decide) rfl ?_
                      refine m_icmp_eq (pc' := 529) (tgt := 547) C dX12_readDirective_526 (by decide) rfl (fun c_526 => ?_) (fun c_526 => ?_)
                      · have n_526 : (T.getD (lnE T (prE T (wdE T p1))) 0) = 99 := (nI_eq (by omega) (by omega)).mp c_526
                        have hz : letC (T.getD (lnE T (prE T (wdE T p1))) 0) = true := by rw [n_526]; decide
                        refine m_iconst (pc' := 548) (v := bI (letC (T.getD (lnE T (prE T (wdE T p1))) 0))) C dX12_readDirective_547 (by rw [hz]; first | done | rfl) rfl ?_
                        refine m_goto (tgt := 552) C dX12_readDirective_548 (by decide) ?_
                        refine m_lv [0] rfl ?_
                        exact J552 () (trivial)
                      · have n_526 : ¬ (T.getD (lnE T (prE T (wdE T p1))) 0) = 99 := fun q => c_526 ((nI_eq (by omega) (by omega)).mpr q)
                        refine m_aload_n (pc' := 530) C dX12_readDirective_529 rfl 0 rfl rfl ?_
                        refine r_get C hn go_28 inW_X12 28 (by decide) ⟨rfl, rfl, rfl⟩ (gW_of tm_5_78) (r_at 28 rfl ff28_64) dX12_readDirective_530 rfl ?_
                        refine m_bipush (pc' := 535) (v := nI 115) C dX12_readDirective_533 (by decide) rfl ?_
                        refine m_icmp_eq (pc' := 538) (tgt := 547) C dX12_readDirective_535 (by decide) rfl (fun c_535 => ?_) (fun c_535 => ?_)
                        · have n_535 : (T.getD (lnE T (prE T (wdE T p1))) 0) = 115 := (nI_eq (by omega) (by omega)).mp c_535
                          have hz : letC (T.getD (lnE T (prE T (wdE T p1))) 0) = true := by rw [n_535]; decide
                          refine m_iconst (pc' := 548) (v := bI (letC (T.getD (lnE T (prE T (wdE T p1))) 0))) C dX12_readDirective_547 (by rw [hz]; first | done | rfl) rfl ?_
                          refine m_goto (tgt := 552) C dX12_readDirective_548 (by decide) ?_
                          refine m_lv [0] rfl ?_
                          exact J552 () (trivial)
                        · have n_535 : ¬ (T.getD (lnE T (prE T (wdE T p1))) 0) = 115 := fun q => c_535 ((nI_eq (by omega) (by omega)).mpr q)
                          refine m_aload_n (pc' := 539) C dX12_readDirective_538 rfl 0 rfl rfl ?_
                          refine r_get C hn go_28 inW_X12 28 (by decide) ⟨rfl, rfl, rfl⟩ (gW_of tm_5_78) (r_at 28 rfl ff28_64) dX12_readDirective_539 rfl ?_
                          refine m_bipush (pc' := 544) (v := nI 98) C dX12_readDirective_542 (by decide) rfl ?_
                          refine m_icmp_ne (pc' := 547) (tgt := 551) C dX12_readDirective_544 (by decide) rfl (fun c_544 => ?_) (fun c_544 => ?_)
                          · have n_544 : ¬ (T.getD (lnE T (prE T (wdE T p1))) 0) = 98 := fun q => c_544 ((nI_eq (by omega) (by omega)).mpr q)
                            have hz : letC (T.getD (lnE T (prE T (wdE T p1))) 0) = false := by unfold letC; simp only [beq_eq_false_iff_ne.mpr n_472, beq_eq_false_iff_ne.mpr n_481, beq_eq_false_iff_ne.mpr n_490, beq_eq_false_iff_ne.mpr n_499, beq_eq_false_iff_ne.mpr n_508, beq_eq_false_iff_ne.mpr n_517, beq_eq_false_iff_ne.mpr n_526, beq_eq_false_iff_ne.mpr n_535, beq_eq_false_iff_ne.mpr n_544]; rfl
                            refine m_iconst (pc' := 552) (v := bI (letC (T.getD (lnE T (prE T (wdE T p1))) 0))) C dX12_readDirective_551 (by rw [hz]; first | done | rfl) rfl ?_
                            refine m_lv [0] rfl ?_
                            exact J552 () (trivial)
                          · have n_544 : (T.getD (lnE T (prE T (wdE T p1))) 0) = 98 := (nI_eq (by omega) (by omega)).mp (Classical.not_not.mp c_544)
                            have hz : letC (T.getD (lnE T (prE T (wdE T p1))) 0) = true := by rw [n_544]; decide
                            refine m_iconst (pc' := 548) (v := bI (letC (T.getD (lnE T (prE T (wdE T p1))) 0))) C dX12_readDirective_547 (by rw [hz]; first | done | rfl) rfl ?_
                            refine m_goto (tgt := 552) C dX12_readDirective_548 (by decide) ?_
                            refine m_lv [0] rfl ?_
                            exact J552 () (trivial)
        refine m_aload_n (pc' := 324) C dX12_readDirective_323 rfl 0 rfl rfl ?_
        refine m_bipush (pc' := 326) (v := nI 32) C dX12_readDirective_324 (by decide) rfl ?_
        refine r_put (ty := .int) C hn hn2 jro_323 inW_X12 27 127 (by decide) rfl ⟨rfl, rfl, rfl, rfl⟩ (gW_of tm_5_77) (by decide +kernel) rfl rfl (fun _ => rfl) dX12_readDirective_326 rfl (fun M65 go_65 g_65 F_65 => ?_)
        refine m_aload_n (pc' := 330) C dX12_readDirective_329 rfl 0 rfl rfl ?_
        refine m_aload_n (pc' := 331) C dX12_readDirective_330 rfl 0 rfl rfl ?_
        have ff19_66 : M65 119 = gh (.int (nI (prE T (wdE T p1)))) := (F_65 119 (by decide)).trans jf19_323
        refine r_get C hn go_65 inW_X12 19 (by decide) ⟨rfl, rfl, rfl⟩ (gW_of tm_5_69) (r_at 19 rfl ff19_66) dX12_readDirective_331 rfl ?_
        have xln_68 := hln.fr i9 (by decide)
        have xln_69 := xln_68.fr jf_255 (by decide)
        have xln_70 := xln_69.fr jf_323 (by decide)
        have xln_71 := xln_70.fr F_65 (by decide)
        refine m_callVi (pc' := 337) (As := [.int (nI (prE T (wdE T p1)))]) (rest := []) C (kX12_charAt hI hn hn2 go_65 xln_71 (i := (prE T (wdE T p1))) (by omega)) (cwV 1 C.1.2.2.2.2 (goodV tm_5_213 tm_5_215 tp_52 tm_1_13 tm_5_216) rfl rfl rfl (by decide +kernel) ⟨by decide, by decide⟩) (by omega) go_65 rfl rfl rfl (Nat.le_of_ble_eq_true rfl) dX12_readDirective_334 rfl ⟨by decide, by decide⟩ (fun x_67 N_67 q_67 => ?_)
        obtain ⟨e_67, E_67⟩ := q_67
        replace E_67 := E_67.symm
        subst E_67
        replace e_67 := e_67.symm
        subst e_67
        refine m_istore_n (pc' := 338) (lv' := [(2, .int (nI (T.getD (prE T (wdE T p1)) 0))), (0, .ref (ad 52))]) C dX12_readDirective_337 rfl (by decide) rfl rfl ?_
        refine m_iload_n (pc' := 339) C dX12_readDirective_338 rfl 0 rfl rfl ?_
        refine m_bipush (pc' := 341) (v := nI 104) C dX12_readDirective_339 (by decide) rfl ?_
        refine m_icmp_eq (pc' := 344) (tgt := 350) C dX12_readDirective_341 (by decide) rfl (fun c_341 => ?_) (fun c_341 => ?_)
        · have n_341 : (T.getD (prE T (wdE T p1)) 0) = 104 := (nI_eq (by omega) (by omega)).mp c_341
          have hhl : T.getD (prE T (wdE T p1)) 0 = 104 ∨ T.getD (prE T (wdE T p1)) 0 = 108 := Or.inl n_341
          refine m_aload_n (pc' := 351) C dX12_readDirective_350 rfl 1 rfl rfl ?_
          refine m_aload_n (pc' := 352) C dX12_readDirective_351 rfl 1 rfl rfl ?_
          refine r_get C hn go_65 inW_X12 19 (by decide) ⟨rfl, rfl, rfl⟩ (gW_of tm_5_69) (r_at 19 rfl ff19_66) dX12_readDirective_352 rfl ?_
          refine m_iconst (pc' := 356) (v := nI 1) C dX12_readDirective_355 (by decide) rfl ?_
          refine m_iadd (pc' := 357) (v := nI ((prE T (wdE T p1)) + 1)) C dX12_readDirective_356 (nI_add _ _) rfl ?_
          refine m_callVi (pc' := 360) (As := [.int (nI ((prE T (wdE T p1)) + 1))]) (rest := []) C (kX12_charAt hI hn hn2 go_65 xln_71 (i := ((prE T (wdE T p1)) + 1)) (by omega)) (cwV 1 C.1.2.2.2.2 (goodV tm_5_213 tm_5_215 tp_52 tm_1_13 tm_5_216) rfl rfl rfl (by decide +kernel) ⟨by decide, by decide⟩) (by omega) go_65 rfl rfl rfl (Nat.le_of_ble_eq_true rfl) dX12_readDirective_357 rfl ⟨by decide, by decide⟩ (fun x_72 N_72 q_72 => ?_)
          obtain ⟨e_72, E_72⟩ := q_72
          replace E_72 := E_72.symm
          subst E_72
          replace e_72 := e_72.symm
          subst e_72
          refine m_iload_n (pc' := 361) C dX12_readDirective_360 rfl 0 rfl rfl ?_
          refine m_icmp_ne (pc' := 364) (tgt := 368) C dX12_readDirective_361 (by decide) rfl (fun c_361 => ?_) (fun c_361 => ?_)
          · have n_361 : ¬ (T.getD ((prE T (wdE T p1)) + 1) 0) = (T.getD (prE T (wdE T p1)) 0) := fun q => c_361 ((nI_eq (by omega) (by omega)).mpr q)
            refine m_iconst (pc' := 369) (v := nI 0) C dX12_readDirective_368 (by decide) rfl ?_
            refine m_istore_n (pc' := 370) (lv' := [(3, .int (nI 0)), (2, .int (nI (T.getD (prE T (wdE T p1)) 0))), (0, .ref (ad 52))]) C dX12_readDirective_369 rfl (by decide) rfl rfl ?_
            refine m_aload_n (pc' := 371) C dX12_readDirective_370 rfl 2 rfl rfl ?_
            refine m_iload_n (pc' := 372) C dX12_readDirective_371 rfl 1 rfl rfl ?_
            refine m_bipush (pc' := 374) (v := nI 108) C dX12_readDirective_372 (by decide) rfl ?_
            refine m_icmp_ne (pc' := 377) (tgt := 382) C dX12_readDirective_374 (by decide) rfl (fun c_374 => ?_) (fun c_374 => ?_)
            · have n_374 : ¬ (T.getD (prE T (wdE T p1)) 0) = 108 := fun q => c_374 ((nI_eq (by omega) (by omega)).mpr q)
              refine m_iload_n (pc' := 383) C dX12_readDirective_382 rfl 0 rfl rfl ?_
              refine m_if_eq (pc' := 386) (tgt := 391) C dX12_readDirective_383 (by decide) rfl (fun c_383 => ?_) (fun c_383 => ?_)
              · refine m_bipush (pc' := 393) (v := nI 16) C dX12_readDirective_391 (by decide) rfl ?_
                refine r_put (ty := .int) C hn hn2 go_65 inW_X12 27 127 (by decide) rfl ⟨rfl, rfl, rfl, rfl⟩ (gW_of tm_5_77) (by decide +kernel) rfl rfl (fun _ => rfl) dX12_readDirective_393 rfl (fun M73 go_73 g_73 F_73 => ?_)
                refine m_aload_n (pc' := 397) C dX12_readDirective_396 rfl 2 rfl rfl ?_
                refine m_iload_n (pc' := 398) C dX12_readDirective_397 rfl 0 rfl rfl ?_
                refine m_if_eq (pc' := 401) (tgt := 410) C dX12_readDirective_398 (by decide) rfl (fun c_398 => ?_) (fun c_398 => ?_)
                · refine m_aload_n (pc' := 411) C dX12_readDirective_410 rfl 2 rfl rfl ?_
                  have ff19_74 : M73 119 = gh (.int (nI (prE T (wdE T p1)))) := (F_73 119 (by decide)).trans ff19_66
                  refine r_get C hn go_73 inW_X12 19 (by decide) ⟨rfl, rfl, rfl⟩ (gW_of tm_5_69) (r_at 19 rfl ff19_74) dX12_readDirective_411 rfl ?_
                  refine m_iconst (pc' := 415) (v := nI 1) C dX12_readDirective_414 (by decide) rfl ?_
                  refine m_iadd (pc' := 416) (v := nI ((prE T (wdE T p1)) + 1)) C dX12_readDirective_415 (nI_add _ _) rfl ?_
                  refine r_put (ty := .int) C hn hn2 go_73 inW_X12 19 119 (by decide) rfl ⟨rfl, rfl, rfl, rfl⟩ (gW_of tm_5_69) (by decide +kernel) rfl rfl (fun _ => rfl) dX12_readDirective_416 rfl (fun M75 go_75 g_75 F_75 => ?_)
                  refine m_goto (tgt := 444) C dX12_readDirective_419 (by decide) ?_
                  have ff27_76 : M75 127 = gh (.int (nI 16)) := (F_75 127 (by decide)).trans g_73
                  refine m_lv [2] rfl ?_
                  exact J444 M75 (⟨go_75, by unfold lnE; rw [if_pos hhl, if_neg n_361]; exact g_75, by unfold lnB; rw [if_pos n_341, if_neg (show ¬ T.getD (prE T (wdE T p1) + 1) 0 = 104 by omega)]; exact ff27_76, (((F_65.sub (by decide)).tr (F_73.sub (by decide))).tr (F_75.sub (by decide)))⟩)
                · exact absurd (by decide) c_398
              · exact absurd (by decide) c_383
            · have n_374 : (T.getD (prE T (wdE T p1)) 0) = 108 := (nI_eq (by omega) (by omega)).mp (Classical.not_not.mp c_374)
              exact absurd n_374 (by omega)
          · have n_361 : (T.getD ((prE T (wdE T p1)) + 1) 0) = (T.getD (prE T (wdE T p1)) 0) := (nI_eq (by omega) (by omega)).mp (Classical.not_not.mp c_361)
            refine m_iconst (pc' := 365) (v := nI 1) C dX12_readDirective_364 (by decide) rfl ?_
            refine m_goto (tgt := 369) C dX12_readDirective_365 (by decide) ?_
            refine m_istore_n (pc' := 370) (lv' := [(3, .int (nI 1)), (2, .int (nI (T.getD (prE T (wdE T p1)) 0))), (0, .ref (ad 52))]) C dX12_readDirective_369 rfl (by decide) rfl rfl ?_
            refine m_aload_n (pc' := 371) C dX12_readDirective_370 rfl 2 rfl rfl ?_
            refine m_iload_n (pc' := 372) C dX12_readDirective_371 rfl 1 rfl rfl ?_
            refine m_bipush (pc' := 374) (v := nI 108) C dX12_readDirective_372 (by decide) rfl ?_
            refine m_icmp_ne (pc' := 377) (tgt := 382) C dX12_readDirective_374 (by decide) rfl (fun c_374 => ?_) (fun c_374 => ?_)
            · have n_374 : ¬ (T.getD (prE T (wdE T p1)) 0) = 108 := fun q => c_374 ((nI_eq (by omega) (by omega)).mpr q)
              refine m_iload_n (pc' := 383) C dX12_readDirective_382 rfl 0 rfl rfl ?_
              refine m_if_eq (pc' := 386) (tgt := 391) C dX12_readDirective_383 (by decide) rfl (fun c_383 => ?_) (fun c_383 => ?_)
              · exact absurd c_383 (by decide)
              · refine m_bipush (pc' := 388) (v := nI 8) C dX12_readDirective_386 (by decide) rfl ?_
                refine m_goto (tgt := 393) C dX12_readDirective_388 (by decide) ?_
                refine r_put (ty := .int) C hn hn2 go_65 inW_X12 27 127 (by decide) rfl ⟨rfl, rfl, rfl, rfl⟩ (gW_of tm_5_77) (by decide +kernel) rfl rfl (fun _ => rfl) dX12_readDirective_393 rfl (fun M77 go_77 g_77 F_77 => ?_)
                refine m_aload_n (pc' := 397) C dX12_readDirective_396 rfl 2 rfl rfl ?_
                refine m_iload_n (pc' := 398) C dX12_readDirective_397 rfl 0 rfl rfl ?_
                refine m_if_eq (pc' := 401) (tgt := 410) C dX12_readDirective_398 (by decide) rfl (fun c_398 => ?_) (fun c_398 => ?_)
                · exact absurd c_398 (by decide)
                · refine m_aload_n (pc' := 402) C dX12_readDirective_401 rfl 2 rfl rfl ?_
                  have ff19_78 : M77 119 = gh (.int (nI (prE T (wdE T p1)))) := (F_77 119 (by decide)).trans ff19_66
                  refine r_get C hn go_77 inW_X12 19 (by decide) ⟨rfl, rfl, rfl⟩ (gW_of tm_5_69) (r_at 19 rfl ff19_78) dX12_readDirective_402 rfl ?_
                  refine m_iconst (pc' := 406) (v := nI 2) C dX12_readDirective_405 (by decide) rfl ?_
                  refine m_iadd (pc' := 407) (v := nI ((prE T (wdE T p1)) + 2)) C dX12_readDirective_406 (nI_add _ _) rfl ?_
                  refine m_goto (tgt := 416) C dX12_readDirective_407 (by decide) ?_
                  refine r_put (ty := .int) C hn hn2 go_77 inW_X12 19 119 (by decide) rfl ⟨rfl, rfl, rfl, rfl⟩ (gW_of tm_5_69) (by decide +kernel) rfl rfl (fun _ => rfl) dX12_readDirective_416 rfl (fun M79 go_79 g_79 F_79 => ?_)
                  refine m_goto (tgt := 444) C dX12_readDirective_419 (by decide) ?_
                  have ff27_80 : M79 127 = gh (.int (nI 8)) := (F_79 127 (by decide)).trans g_77
                  refine m_lv [2] rfl ?_
                  exact J444 M79 (⟨go_79, by unfold lnE; rw [if_pos hhl, if_pos n_361]; exact g_79, by unfold lnB; rw [if_pos n_341, if_pos (show T.getD (prE T (wdE T p1) + 1) 0 = 104 by omega)]; exact ff27_80, (((F_65.sub (by decide)).tr (F_77.sub (by decide))).tr (F_79.sub (by decide)))⟩)
            · have n_374 : (T.getD (prE T (wdE T p1)) 0) = 108 := (nI_eq (by omega) (by omega)).mp (Classical.not_not.mp c_374)
              exact absurd n_374 (by omega)
        · have n_341 : ¬ (T.getD (prE T (wdE T p1)) 0) = 104 := fun q => c_341 ((nI_eq (by omega) (by omega)).mpr q)
          refine m_iload_n (pc' := 345) C dX12_readDirective_344 rfl 0 rfl rfl ?_
          refine m_bipush (pc' := 347) (v := nI 108) C dX12_readDirective_345 (by decide) rfl ?_
          refine m_icmp_ne (pc' := 350) (tgt := 422) C dX12_readDirective_347 (by decide) rfl (fun c_347 => ?_) (fun c_347 => ?_)
          · have n_347 : ¬ (T.getD (prE T (wdE T p1)) 0) = 108 := fun q => c_347 ((nI_eq (by omega) (by omega)).mpr q)
            refine m_iload_n (pc' := 423) C dX12_readDirective_422 rfl 0 rfl rfl ?_
            refine m_bipush (pc' := 425) (v := nI 106) C dX12_readDirective_423 (by decide) rfl ?_
            refine m_icmp_ne (pc' := 428) (tgt := 444) C dX12_readDirective_425 (by decide) rfl (fun c_425 => ?_) (fun c_425 => ?_)
            · have n_425 : ¬ (T.getD (prE T (wdE T p1)) 0) = 106 := fun q => c_425 ((nI_eq (by omega) (by omega)).mpr q)
              refine m_lv [1] rfl ?_
              exact J444 M65 (⟨go_65, by unfold lnE; rw [if_neg (fun q => q.elim n_341 n_347), if_neg n_425]; exact ff19_66, by unfold lnB; rw [if_neg n_341, if_neg (fun q => q.elim n_347 n_425)]; exact g_65, (F_65.sub (by decide))⟩)
            · have n_425 : (T.getD (prE T (wdE T p1)) 0) = 106 := (nI_eq (by omega) (by omega)).mp (Classical.not_not.mp c_425)
              refine m_aload_n (pc' := 429) C dX12_readDirective_428 rfl 1 rfl rfl ?_
              refine m_bipush (pc' := 431) (v := nI 64) C dX12_readDirective_429 (by decide) rfl ?_
              refine r_put (ty := .int) C hn hn2 go_65 inW_X12 27 127 (by decide) rfl ⟨rfl, rfl, rfl, rfl⟩ (gW_of tm_5_77) (by decide +kernel) rfl rfl (fun _ => rfl) dX12_readDirective_431 rfl (fun M81 go_81 g_81 F_81 => ?_)
              refine m_aload_n (pc' := 435) C dX12_readDirective_434 rfl 1 rfl rfl ?_
              refine m_dup (pc' := 436) C dX12_readDirective_435 rfl rfl ?_
              have ff19_82 : M81 119 = gh (.int (nI (prE T (wdE T p1)))) := (F_81 119 (by decide)).trans ff19_66
              refine r_get C hn go_81 inW_X12 19 (by decide) ⟨rfl, rfl, rfl⟩ (gW_of tm_5_69) (r_at 19 rfl ff19_82) dX12_readDirective_436 rfl ?_
              refine m_iconst (pc' := 440) (v := nI 1) C dX12_readDirective_439 (by decide) rfl ?_
              refine m_iadd (pc' := 441) (v := nI ((prE T (wdE T p1)) + 1)) C dX12_readDirective_440 (nI_add _ _) rfl ?_
              refine r_put (ty := .int) C hn hn2 go_81 inW_X12 19 119 (by decide) rfl ⟨rfl, rfl, rfl, rfl⟩ (gW_of tm_5_69) (by decide +kernel) rfl rfl (fun _ => rfl) dX12_readDirective_441 rfl (fun M83 go_83 g_83 F_83 => ?_)
              have ff27_84 : M83 127 = gh (.int (nI 64)) := (F_83 127 (by decide)).trans g_81
              refine m_lv [1] rfl ?_
              exact J444 M83 (⟨go_83, by unfold lnE; rw [if_neg (fun q => q.elim n_341 n_347), if_pos n_425]; exact g_83, by unfold lnB; rw [if_neg n_341, if_pos (Or.inr n_425)]; exact ff27_84, (((F_65.sub (by decide)).tr (F_81.sub (by decide))).tr (F_83.sub (by decide)))⟩)
          · have n_347 : (T.getD (prE T (wdE T p1)) 0) = 108 := (nI_eq (by omega) (by omega)).mp (Classical.not_not.mp c_347)
            have hhl : T.getD (prE T (wdE T p1)) 0 = 104 ∨ T.getD (prE T (wdE T p1)) 0 = 108 := Or.inr n_347
            refine m_aload_n (pc' := 351) C dX12_readDirective_350 rfl 1 rfl rfl ?_
            refine m_aload_n (pc' := 352) C dX12_readDirective_351 rfl 1 rfl rfl ?_
            refine r_get C hn go_65 inW_X12 19 (by decide) ⟨rfl, rfl, rfl⟩ (gW_of tm_5_69) (r_at 19 rfl ff19_66) dX12_readDirective_352 rfl ?_
            refine m_iconst (pc' := 356) (v := nI 1) C dX12_readDirective_355 (by decide) rfl ?_
            refine m_iadd (pc' := 357) (v := nI ((prE T (wdE T p1)) + 1)) C dX12_readDirective_356 (nI_add _ _) rfl ?_
            refine m_callVi (pc' := 360) (As := [.int (nI ((prE T (wdE T p1)) + 1))]) (rest := []) C (kX12_charAt hI hn hn2 go_65 xln_71 (i := ((prE T (wdE T p1)) + 1)) (by omega)) (cwV 1 C.1.2.2.2.2 (goodV tm_5_213 tm_5_215 tp_52 tm_1_13 tm_5_216) rfl rfl rfl (by decide +kernel) ⟨by decide, by decide⟩) (by omega) go_65 rfl rfl rfl (Nat.le_of_ble_eq_true rfl) dX12_readDirective_357 rfl ⟨by decide, by decide⟩ (fun x_85 N_85 q_85 => ?_)
            obtain ⟨e_85, E_85⟩ := q_85
            replace E_85 := E_85.symm
            subst E_85
            replace e_85 := e_85.symm
            subst e_85
            refine m_iload_n (pc' := 361) C dX12_readDirective_360 rfl 0 rfl rfl ?_
            refine m_icmp_ne (pc' := 364) (tgt := 368) C dX12_readDirective_361 (by decide) rfl (fun c_361 => ?_) (fun c_361 => ?_)
            · have n_361 : ¬ (T.getD ((prE T (wdE T p1)) + 1) 0) = (T.getD (prE T (wdE T p1)) 0) := fun q => c_361 ((nI_eq (by omega) (by omega)).mpr q)
              refine m_iconst (pc' := 369) (v := nI 0) C dX12_readDirective_368 (by decide) rfl ?_
              refine m_istore_n (pc' := 370) (lv' := [(3, .int (nI 0)), (2, .int (nI (T.getD (prE T (wdE T p1)) 0))), (0, .ref (ad 52))]) C dX12_readDirective_369 rfl (by decide) rfl rfl ?_
              refine m_aload_n (pc' := 371) C dX12_readDirective_370 rfl 2 rfl rfl ?_
              refine m_iload_n (pc' := 372) C dX12_readDirective_371 rfl 1 rfl rfl ?_
              refine m_bipush (pc' := 374) (v := nI 108) C dX12_readDirective_372 (by decide) rfl ?_
              refine m_icmp_ne (pc' := 377) (tgt := 382) C dX12_readDirective_374 (by decide) rfl (fun c_374 => ?_) (fun c_374 => ?_)
              · have n_374 : ¬ (T.getD (prE T (wdE T p1)) 0) = 108 := fun q => c_374 ((nI_eq (by omega) (by omega)).mpr q)
                exact absurd n_347 n_374
              · have n_374 : (T.getD (prE T (wdE T p1)) 0) = 108 := (nI_eq (by omega) (by omega)).mp (Classical.not_not.mp c_374)
                refine m_bipush (pc' := 379) (v := nI 64) C dX12_readDirective_377 (by decide) rfl ?_
                refine m_goto (tgt := 393) C dX12_readDirective_379 (by decide) ?_
                refine r_put (ty := .int) C hn hn2 go_65 inW_X12 27 127 (by decide) rfl ⟨rfl, rfl, rfl, rfl⟩ (gW_of tm_5_77) (by decide +kernel) rfl rfl (fun _ => rfl) dX12_readDirective_393 rfl (fun M86 go_86 g_86 F_86 => ?_)
                refine m_aload_n (pc' := 397) C dX12_readDirective_396 rfl 2 rfl rfl ?_
                refine m_iload_n (pc' := 398) C dX12_readDirective_397 rfl 0 rfl rfl ?_
                refine m_if_eq (pc' := 401) (tgt := 410) C dX12_readDirective_398 (by decide) rfl (fun c_398 => ?_) (fun c_398 => ?_)
                · refine m_aload_n (pc' := 411) C dX12_readDirective_410 rfl 2 rfl rfl ?_
                  have ff19_87 : M86 119 = gh (.int (nI (prE T (wdE T p1)))) := (F_86 119 (by decide)).trans ff19_66
                  refine r_get C hn go_86 inW_X12 19 (by decide) ⟨rfl, rfl, rfl⟩ (gW_of tm_5_69) (r_at 19 rfl ff19_87) dX12_readDirective_411 rfl ?_
                  refine m_iconst (pc' := 415) (v := nI 1) C dX12_readDirective_414 (by decide) rfl ?_
                  refine m_iadd (pc' := 416) (v := nI ((prE T (wdE T p1)) + 1)) C dX12_readDirective_415 (nI_add _ _) rfl ?_
                  refine r_put (ty := .int) C hn hn2 go_86 inW_X12 19 119 (by decide) rfl ⟨rfl, rfl, rfl, rfl⟩ (gW_of tm_5_69) (by decide +kernel) rfl rfl (fun _ => rfl) dX12_readDirective_416 rfl (fun M88 go_88 g_88 F_88 => ?_)
                  refine m_goto (tgt := 444) C dX12_readDirective_419 (by decide) ?_
                  have ff27_89 : M88 127 = gh (.int (nI 64)) := (F_88 127 (by decide)).trans g_86
                  refine m_lv [2] rfl ?_
                  exact J444 M88 (⟨go_88, by unfold lnE; rw [if_pos hhl, if_neg n_361]; exact g_88, by unfold lnB; rw [if_neg n_341, if_pos (Or.inl n_347)]; exact ff27_89, (((F_65.sub (by decide)).tr (F_86.sub (by decide))).tr (F_88.sub (by decide)))⟩)
                · exact absurd (by decide) c_398
            · have n_361 : (T.getD ((prE T (wdE T p1)) + 1) 0) = (T.getD (prE T (wdE T p1)) 0) := (nI_eq (by omega) (by omega)).mp (Classical.not_not.mp c_361)
              refine m_iconst (pc' := 365) (v := nI 1) C dX12_readDirective_364 (by decide) rfl ?_
              refine m_goto (tgt := 369) C dX12_readDirective_365 (by decide) ?_
              refine m_istore_n (pc' := 370) (lv' := [(3, .int (nI 1)), (2, .int (nI (T.getD (prE T (wdE T p1)) 0))), (0, .ref (ad 52))]) C dX12_readDirective_369 rfl (by decide) rfl rfl ?_
              refine m_aload_n (pc' := 371) C dX12_readDirective_370 rfl 2 rfl rfl ?_
              refine m_iload_n (pc' := 372) C dX12_readDirective_371 rfl 1 rfl rfl ?_
              refine m_bipush (pc' := 374) (v := nI 108) C dX12_readDirective_372 (by decide) rfl ?_
              refine m_icmp_ne (pc' := 377) (tgt := 382) C dX12_readDirective_374 (by decide) rfl (fun c_374 => ?_) (fun c_374 => ?_)
              · have n_374 : ¬ (T.getD (prE T (wdE T p1)) 0) = 108 := fun q => c_374 ((nI_eq (by omega) (by omega)).mpr q)
                exact absurd n_347 n_374
              · have n_374 : (T.getD (prE T (wdE T p1)) 0) = 108 := (nI_eq (by omega) (by omega)).mp (Classical.not_not.mp c_374)
                refine m_bipush (pc' := 379) (v := nI 64) C dX12_readDirective_377 (by decide) rfl ?_
                refine m_goto (tgt := 393) C dX12_readDirective_379 (by decide) ?_
                refine r_put (ty := .int) C hn hn2 go_65 inW_X12 27 127 (by decide) rfl ⟨rfl, rfl, rfl, rfl⟩ (gW_of tm_5_77) (by decide +kernel) rfl rfl (fun _ => rfl) dX12_readDirective_393 rfl (fun M90 go_90 g_90 F_90 => ?_)
                refine m_aload_n (pc' := 397) C dX12_readDirective_396 rfl 2 rfl rfl ?_
                refine m_iload_n (pc' := 398) C dX12_readDirective_397 rfl 0 rfl rfl ?_
                refine m_if_eq (pc' := 401) (tgt := 410) C dX12_readDirective_398 (by decide) rfl (fun c_398 => ?_) (fun c_398 => ?_)
                · exact absurd c_398 (by decide)
                · refine m_aload_n (pc' := 402) C dX12_readDirective_401 rfl 2 rfl rfl ?_
                  have ff19_91 : M90 119 = gh (.int (nI (prE T (wdE T p1)))) := (F_90 119 (by decide)).trans ff19_66
                  refine r_get C hn go_90 inW_X12 19 (by decide) ⟨rfl, rfl, rfl⟩ (gW_of tm_5_69) (r_at 19 rfl ff19_91) dX12_readDirective_402 rfl ?_
                  refine m_iconst (pc' := 406) (v := nI 2) C dX12_readDirective_405 (by decide) rfl ?_
                  refine m_iadd (pc' := 407) (v := nI ((prE T (wdE T p1)) + 2)) C dX12_readDirective_406 (nI_add _ _) rfl ?_
                  refine m_goto (tgt := 416) C dX12_readDirective_407 (by decide) ?_
                  refine r_put (ty := .int) C hn hn2 go_90 inW_X12 19 119 (by decide) rfl ⟨rfl, rfl, rfl, rfl⟩ (gW_of tm_5_69) (by decide +kernel) rfl rfl (fun _ => rfl) dX12_readDirective_416 rfl (fun M92 go_92 g_92 F_92 => ?_)
                  refine m_goto (tgt := 444) C dX12_readDirective_419 (by decide) ?_
                  have ff27_93 : M92 127 = gh (.int (nI 64)) := (F_92 127 (by decide)).trans g_90
                  refine m_lv [2] rfl ?_
                  exact J444 M92 (⟨go_92, by unfold lnE; rw [if_pos hhl, if_pos n_361]; exact g_92, by unfold lnB; rw [if_neg n_341, if_pos (Or.inl n_347)]; exact ff27_93, (((F_65.sub (by decide)).tr (F_90.sub (by decide))).tr (F_92.sub (by decide)))⟩)
      refine m_aload_n (pc' := 256) C dX12_readDirective_255 rfl 0 rfl rfl ?_
      refine m_iconst (pc' := 257) (v := (-1)) C dX12_readDirective_256 (by decide) rfl ?_
      refine r_put (ty := .int) C hn hn2 jro_255 inW_X12 26 126 (by decide) rfl ⟨rfl, rfl, rfl, rfl⟩ (gW_of tm_5_76) (by decide +kernel) rfl rfl (fun _ => rfl) dX12_readDirective_257 rfl (fun M94 go_94 g_94 F_94 => ?_)
      refine m_aload_n (pc' := 261) C dX12_readDirective_260 rfl 0 rfl rfl ?_
      refine m_aload_n (pc' := 262) C dX12_readDirective_261 rfl 0 rfl rfl ?_
      have ff19_95 : M94 119 = gh (.int (nI (wdE T p1))) := (F_94 119 (by decide)).trans jf19_255
      refine r_get C hn go_94 inW_X12 19 (by decide) ⟨rfl, rfl, rfl⟩ (gW_of tm_5_69) (r_at 19 rfl ff19_95) dX12_readDirective_262 rfl ?_
      have xln_97 := hln.fr i9 (by decide)
      have xln_98 := xln_97.fr jf_255 (by decide)
      have xln_99 := xln_98.fr F_94 (by decide)
      refine m_callVi (pc' := 268) (As := [.int (nI (wdE T p1))]) (rest := []) C (kX12_charAt hI hn hn2 go_94 xln_99 (i := (wdE T p1)) (by omega)) (cwV 1 C.1.2.2.2.2 (goodV tm_5_213 tm_5_215 tp_52 tm_1_13 tm_5_216) rfl rfl rfl (by decide +kernel) ⟨by decide, by decide⟩) (by omega) go_94 rfl rfl rfl (Nat.le_of_ble_eq_true rfl) dX12_readDirective_265 rfl ⟨by decide, by decide⟩ (fun x_96 N_96 q_96 => ?_)
      obtain ⟨e_96, E_96⟩ := q_96
      replace E_96 := E_96.symm
      subst E_96
      replace e_96 := e_96.symm
      subst e_96
      refine m_bipush (pc' := 270) (v := nI 46) C dX12_readDirective_268 (by decide) rfl ?_
      refine m_icmp_ne (pc' := 273) (tgt := 323) C dX12_readDirective_270 (by decide) rfl (fun c_270 => ?_) (fun c_270 => ?_)
      · have n_270 : ¬ (T.getD (wdE T p1) 0) = 46 := fun q => c_270 ((nI_eq (by omega) (by omega)).mpr q)
        refine m_lv [0] rfl ?_
        exact J323 M94 (⟨go_94, by unfold prE; rw [if_neg n_270]; exact ff19_95, by unfold rPc; rw [if_neg n_270]; exact g_94, (F_94.sub (by decide))⟩)
      · have n_270 : (T.getD (wdE T p1) 0) = 46 := (nI_eq (by omega) (by omega)).mp (Classical.not_not.mp c_270)
        refine m_aload_n (pc' := 274) C dX12_readDirective_273 rfl 0 rfl rfl ?_
        refine m_dup (pc' := 275) C dX12_readDirective_274 rfl rfl ?_
        refine r_get C hn go_94 inW_X12 19 (by decide) ⟨rfl, rfl, rfl⟩ (gW_of tm_5_69) (r_at 19 rfl ff19_95) dX12_readDirective_275 rfl ?_
        refine m_iconst (pc' := 279) (v := nI 1) C dX12_readDirective_278 (by decide) rfl ?_
        refine m_iadd (pc' := 280) (v := nI ((wdE T p1) + 1)) C dX12_readDirective_279 (nI_add _ _) rfl ?_
        refine r_put (ty := .int) C hn hn2 go_94 inW_X12 19 119 (by decide) rfl ⟨rfl, rfl, rfl, rfl⟩ (gW_of tm_5_69) (by decide +kernel) rfl rfl (fun _ => rfl) dX12_readDirective_280 rfl (fun M100 go_100 g_100 F_100 => ?_)
        refine m_aload_n (pc' := 284) C dX12_readDirective_283 rfl 0 rfl rfl ?_
        refine m_aload_n (pc' := 285) C dX12_readDirective_284 rfl 0 rfl rfl ?_
        refine r_get C hn go_100 inW_X12 19 (by decide) ⟨rfl, rfl, rfl⟩ (gW_of tm_5_69) (r_at 19 rfl g_100) dX12_readDirective_285 rfl ?_
        have xln_102 := xln_99.fr F_100 (by decide)
        refine m_callVi (pc' := 291) (As := [.int (nI ((wdE T p1) + 1))]) (rest := []) C (kX12_charAt hI hn hn2 go_100 xln_102 (i := ((wdE T p1) + 1)) (by omega)) (cwV 1 C.1.2.2.2.2 (goodV tm_5_213 tm_5_215 tp_52 tm_1_13 tm_5_216) rfl rfl rfl (by decide +kernel) ⟨by decide, by decide⟩) (by omega) go_100 rfl rfl rfl (Nat.le_of_ble_eq_true rfl) dX12_readDirective_288 rfl ⟨by decide, by decide⟩ (fun x_101 N_101 q_101 => ?_)
        obtain ⟨e_101, E_101⟩ := q_101
        replace E_101 := E_101.symm
        subst E_101
        replace e_101 := e_101.symm
        subst e_101
        refine m_bipush (pc' := 293) (v := nI 42) C dX12_readDirective_291 (by decide) rfl ?_
        refine m_icmp_ne (pc' := 296) (tgt := 315) C dX12_readDirective_293 (by decide) rfl (fun c_293 => ?_) (fun c_293 => ?_)
        · have n_293 : ¬ (T.getD ((wdE T p1) + 1) 0) = 42 := fun q => c_293 ((nI_eq (by omega) (by omega)).mpr q)
          refine m_aload_n (pc' := 316) C dX12_readDirective_315 rfl 0 rfl rfl ?_
          refine m_aload_n (pc' := 317) C dX12_readDirective_316 rfl 0 rfl rfl ?_
          refine m_callVi (pc' := 320) (As := []) (rest := [.ref (ad 52)]) C (kX12_readTwo hI hn hn2 go_100 xln_102 g_100 (by omega)) (cwV 0 C.1.2.2.2.2 (goodV tm_5_227 tm_5_229 tp_54 tm_1_13 tm_5_230) rfl rfl rfl (by decide +kernel) ⟨by decide, by decide⟩) (by omega) go_100 rfl rfl rfl (Nat.le_of_ble_eq_true rfl) dX12_readDirective_317 rfl ⟨by decide, by decide⟩ (fun x_103 M103 q_103 => ?_)
          obtain ⟨e_103, pro_103, pf19_103, F_103⟩ := q_103
          replace e_103 := e_103.symm
          subst e_103
          refine r_put (ty := .int) C hn hn2 pro_103 inW_X12 26 126 (by decide) rfl ⟨rfl, rfl, rfl, rfl⟩ (gW_of tm_5_76) (by decide +kernel) rfl rfl (fun _ => rfl) dX12_readDirective_320 rfl (fun M104 go_104 g_104 F_104 => ?_)
          have ff19_105 : M104 119 = gh (.int (nI (((wdE T p1) + 1) + (dg2 T ((wdE T p1) + 1)).length))) := (F_104 119 (by decide)).trans pf19_103
          refine m_lv [0] rfl ?_
          exact J323 M104 (⟨go_104, by unfold prE; rw [if_pos n_270, if_neg n_293]; exact ff19_105, by unfold rPc; rw [if_pos n_270, if_neg n_293]; exact g_104, ((((F_94.sub (by decide)).tr (F_100.sub (by decide))).tr (F_103.sub (by decide))).tr (F_104.sub (by decide)))⟩)
        · have n_293 : (T.getD ((wdE T p1) + 1) 0) = 42 := (nI_eq (by omega) (by omega)).mp (Classical.not_not.mp c_293)
          refine m_aload_n (pc' := 297) C dX12_readDirective_296 rfl 0 rfl rfl ?_
          refine m_bipush (pc' := 299) (v := (-3)) C dX12_readDirective_297 (by decide) rfl ?_
          refine r_put (ty := .int) C hn hn2 go_100 inW_X12 26 126 (by decide) rfl ⟨rfl, rfl, rfl, rfl⟩ (gW_of tm_5_76) (by decide +kernel) rfl rfl (fun _ => rfl) dX12_readDirective_299 rfl (fun M106 go_106 g_106 F_106 => ?_)
          refine m_aload_n (pc' := 303) C dX12_readDirective_302 rfl 0 rfl rfl ?_
          refine m_dup (pc' := 304) C dX12_readDirective_303 rfl rfl ?_
          have ff19_107 : M106 119 = gh (.int (nI ((wdE T p1) + 1))) := (F_106 119 (by decide)).trans g_100
          refine r_get C hn go_106 inW_X12 19 (by decide) ⟨rfl, rfl, rfl⟩ (gW_of tm_5_69) (r_at 19 rfl ff19_107) dX12_readDirective_304 rfl ?_
          refine m_iconst (pc' := 308) (v := nI 1) C dX12_readDirective_307 (by decide) rfl ?_
          refine m_iadd (pc' := 309) (v := nI (wdE T p1 + 2)) C dX12_readDirective_308 (nI_add _ _) rfl ?_
          refine r_put (ty := .int) C hn hn2 go_106 inW_X12 19 119 (by decide) rfl ⟨rfl, rfl, rfl, rfl⟩ (gW_of tm_5_69) (by decide +kernel) rfl rfl (fun _ => rfl) dX12_readDirective_309 rfl (fun M108 go_108 g_108 F_108 => ?_)
          refine m_goto (tgt := 323) C dX12_readDirective_312 (by decide) ?_
          have ff26_109 : M108 126 = gh (.int ((-3))) := (F_108 126 (by decide)).trans g_106
          refine m_lv [0] rfl ?_
          exact J323 M108 (⟨go_108, by unfold prE; rw [if_pos n_270, if_pos n_293]; exact g_108, by unfold rPc; rw [if_pos n_270, if_pos n_293]; exact ff26_109, ((((F_94.sub (by decide)).tr (F_100.sub (by decide))).tr (F_106.sub (by decide))).tr (F_108.sub (by decide)))⟩)
    refine m_aload_n (pc' := 211) C dX12_readDirective_210 rfl 0 rfl rfl ?_
    refine m_iconst (pc' := 212) (v := nI 0) C dX12_readDirective_211 (by decide) rfl ?_
    refine r_put (ty := .int) C hn hn2 i2 inW_X12 25 125 (by decide) rfl ⟨rfl, rfl, rfl, rfl⟩ (gW_of tm_5_75) (by decide +kernel) rfl rfl (fun _ => rfl) dX12_readDirective_212 rfl (fun M110 go_110 g_110 F_110 => ?_)
    refine m_aload_n (pc' := 216) C dX12_readDirective_215 rfl 0 rfl rfl ?_
    refine m_aload_n (pc' := 217) C dX12_readDirective_216 rfl 0 rfl rfl ?_
    have ff19_111 : M110 119 = gh (.int (nI p1)) := (F_110 119 (by decide)).trans i3
    refine r_get C hn go_110 inW_X12 19 (by decide) ⟨rfl, rfl, rfl⟩ (gW_of tm_5_69) (r_at 19 rfl ff19_111) dX12_readDirective_217 rfl ?_
    have xln_113 := hln.fr i9 (by decide)
    have xln_114 := xln_113.fr F_110 (by decide)
    refine m_callVi (pc' := 223) (As := [.int (nI p1)]) (rest := []) C (kX12_charAt hI hn hn2 go_110 xln_114 (i := p1) (by omega)) (cwV 1 C.1.2.2.2.2 (goodV tm_5_213 tm_5_215 tp_52 tm_1_13 tm_5_216) rfl rfl rfl (by decide +kernel) ⟨by decide, by decide⟩) (by omega) go_110 rfl rfl rfl (Nat.le_of_ble_eq_true rfl) dX12_readDirective_220 rfl ⟨by decide, by decide⟩ (fun x_112 N_112 q_112 => ?_)
    obtain ⟨e_112, E_112⟩ := q_112
    replace E_112 := E_112.symm
    subst E_112
    replace e_112 := e_112.symm
    subst e_112
    refine m_bipush (pc' := 225) (v := nI 42) C dX12_readDirective_223 (by decide) rfl ?_
    refine m_icmp_ne (pc' := 228) (tgt := 247) C dX12_readDirective_225 (by decide) rfl (fun c_225 => ?_) (fun c_225 => ?_)
    · have n_225 : ¬ (T.getD p1 0) = 42 := fun q => c_225 ((nI_eq (by omega) (by omega)).mpr q)
      refine m_aload_n (pc' := 248) C dX12_readDirective_247 rfl 0 rfl rfl ?_
      refine m_aload_n (pc' := 249) C dX12_readDirective_248 rfl 0 rfl rfl ?_
      refine m_callVi (pc' := 252) (As := []) (rest := [.ref (ad 52)]) C (kX12_readTwo hI hn hn2 go_110 xln_114 ff19_111 (by omega)) (cwV 0 C.1.2.2.2.2 (goodV tm_5_227 tm_5_229 tp_54 tm_1_13 tm_5_230) rfl rfl rfl (by decide +kernel) ⟨by decide, by decide⟩) (by omega) go_110 rfl rfl rfl (Nat.le_of_ble_eq_true rfl) dX12_readDirective_249 rfl ⟨by decide, by decide⟩ (fun x_115 M115 q_115 => ?_)
      obtain ⟨e_115, pro_115, pf19_115, F_115⟩ := q_115
      replace e_115 := e_115.symm
      subst e_115
      refine r_put (ty := .int) C hn hn2 pro_115 inW_X12 25 125 (by decide) rfl ⟨rfl, rfl, rfl, rfl⟩ (gW_of tm_5_75) (by decide +kernel) rfl rfl (fun _ => rfl) dX12_readDirective_252 rfl (fun M116 go_116 g_116 F_116 => ?_)
      have ff19_117 : M116 119 = gh (.int (nI (p1 + (dg2 T p1).length))) := (F_116 119 (by decide)).trans pf19_115
      refine m_lv [0] rfl ?_
      exact J255 M116 (⟨go_116, by unfold wdE; rw [if_neg n_225]; exact ff19_117, by unfold rWd; rw [if_neg n_225]; exact g_116, (((F_110.sub (by decide)).tr (F_115.sub (by decide))).tr (F_116.sub (by decide)))⟩)
    · have n_225 : (T.getD p1 0) = 42 := (nI_eq (by omega) (by omega)).mp (Classical.not_not.mp c_225)
      refine m_aload_n (pc' := 229) C dX12_readDirective_228 rfl 0 rfl rfl ?_
      refine m_bipush (pc' := 231) (v := (-2)) C dX12_readDirective_229 (by decide) rfl ?_
      refine r_put (ty := .int) C hn hn2 go_110 inW_X12 25 125 (by decide) rfl ⟨rfl, rfl, rfl, rfl⟩ (gW_of tm_5_75) (by decide +kernel) rfl rfl (fun _ => rfl) dX12_readDirective_231 rfl (fun M118 go_118 g_118 F_118 => ?_)
      refine m_aload_n (pc' := 235) C dX12_readDirective_234 rfl 0 rfl rfl ?_
      refine m_dup (pc' := 236) C dX12_readDirective_235 rfl rfl ?_
      have ff19_119 : M118 119 = gh (.int (nI p1)) := (F_118 119 (by decide)).trans ff19_111
      refine r_get C hn go_118 inW_X12 19 (by decide) ⟨rfl, rfl, rfl⟩ (gW_of tm_5_69) (r_at 19 rfl ff19_119) dX12_readDirective_236 rfl ?_
      refine m_iconst (pc' := 240) (v := nI 1) C dX12_readDirective_239 (by decide) rfl ?_
      refine m_iadd (pc' := 241) (v := nI (p1 + 1)) C dX12_readDirective_240 (nI_add _ _) rfl ?_
      refine r_put (ty := .int) C hn hn2 go_118 inW_X12 19 119 (by decide) rfl ⟨rfl, rfl, rfl, rfl⟩ (gW_of tm_5_69) (by decide +kernel) rfl rfl (fun _ => rfl) dX12_readDirective_241 rfl (fun M120 go_120 g_120 F_120 => ?_)
      refine m_goto (tgt := 255) C dX12_readDirective_244 (by decide) ?_
      have ff25_121 : M120 125 = gh (.int ((-2))) := (F_120 125 (by decide)).trans g_118
      refine m_lv [0] rfl ?_
      exact J255 M120 (⟨go_120, by unfold wdE; rw [if_pos n_225]; exact g_120, by unfold rWd; rw [if_pos n_225]; exact ff25_121, (((F_110.sub (by decide)).tr (F_118.sub (by decide))).tr (F_120.sub (by decide)))⟩)
  · have hg1 : fgo = true := ts_of c_28
    rw [hg1, if_pos rfl] at i1
    refine m_aload_n (pc' := 32) C dX12_readDirective_31 rfl 0 rfl rfl ?_
    refine m_aload_n (pc' := 33) C dX12_readDirective_32 rfl 0 rfl rfl ?_
    refine r_get C hn i2 inW_X12 19 (by decide) ⟨rfl, rfl, rfl⟩ (gW_of tm_5_69) (r_at 19 rfl i3) dX12_readDirective_33 rfl ?_
    have xln_123 := hln.fr i9 (by decide)
    refine m_callVi (pc' := 39) (As := [.int (nI (i + ps.length))]) (rest := []) C (kX12_charAt hI hn hn2 i2 xln_123 (i := (i + ps.length)) (by omega)) (cwV 1 C.1.2.2.2.2 (goodV tm_5_213 tm_5_215 tp_52 tm_1_13 tm_5_216) rfl rfl rfl (by decide +kernel) ⟨by decide, by decide⟩) (by omega) i2 rfl rfl rfl (Nat.le_of_ble_eq_true rfl) dX12_readDirective_36 rfl ⟨by decide, by decide⟩ (fun x_122 N_122 q_122 => ?_)
    obtain ⟨e_122, E_122⟩ := q_122
    replace E_122 := E_122.symm
    subst E_122
    replace e_122 := e_122.symm
    subst e_122
    refine m_istore_n (pc' := 40) (lv' := [(2, .int (nI (T.getD (i + ps.length) 0))), (0, .ref (ad 52)), (1, .int (bI fgo))]) C dX12_readDirective_39 rfl (by decide) rfl rfl ?_
    refine m_aload_n (pc' := 41) C dX12_readDirective_40 rfl 1 rfl rfl ?_
    refine m_cut (σ := Unit) (fun a => True) (fun a => Mk) 59 (fun a => [(2, .int (nI (T.getD (i + ps.length) 0))), (0, .ref (ad 52))]) (fun a => [.int (bI (has 45 ps || (T.getD (i + ps.length) 0 == 45))), .ref (ad 52)]) ?_ (fun J59 => ?_)
    · rintro zz hj
      try dsimp only at hj ⊢
      clear hj
      refine r_put (ty := .boolean) C hn hn2 i2 inW_X12 20 120 (by decide) rfl ⟨rfl, rfl, rfl, rfl⟩ (gW_of tm_5_70) (by decide +kernel) (nar_z _) (fit_z _) (fun _ => rfl) dX12_readDirective_59 rfl (fun M124 go_124 g_124 F_124 => ?_)
      refine m_aload_n (pc' := 63) C dX12_readDirective_62 rfl 1 rfl rfl ?_
      refine m_cut (σ := Unit) (fun a => True) (fun a => M124) 81 (fun a => [(2, .int (nI (T.getD (i + ps.length) 0))), (0, .ref (ad 52))]) (fun a => [.int (bI (has 43 ps || (T.getD (i + ps.length) 0 == 43))), .ref (ad 52)]) ?_ (fun J81 => ?_)
      · rintro zz hj
        try dsimp only at hj ⊢
        clear hj
        refine r_put (ty := .boolean) C hn hn2 go_124 inW_X12 21 121 (by decide) rfl ⟨rfl, rfl, rfl, rfl⟩ (gW_of tm_5_71) (by decide +kernel) (nar_z _) (fit_z _) (fun _ => rfl) dX12_readDirective_81 rfl (fun M125 go_125 g_125 F_125 => ?_)
        refine m_aload_n (pc' := 85) C dX12_readDirective_84 rfl 1 rfl rfl ?_
        refine m_cut (σ := Unit) (fun a => True) (fun a => M125) 103 (fun a => [(2, .int (nI (T.getD (i + ps.length) 0))), (0, .ref (ad 52))]) (fun a => [.int (bI (has 32 ps || (T.getD (i + ps.length) 0 == 32))), .ref (ad 52)]) ?_ (fun J103 => ?_)
        · rintro zz hj
          try dsimp only at hj ⊢
          clear hj
          refine r_put (ty := .boolean) C hn hn2 go_125 inW_X12 22 122 (by decide) rfl ⟨rfl, rfl, rfl, rfl⟩ (gW_of tm_5_72) (by decide +kernel) (nar_z _) (fit_z _) (fun _ => rfl) dX12_readDirective_103 rfl (fun M126 go_126 g_126 F_126 => ?_)
          refine m_aload_n (pc' := 107) C dX12_readDirective_106 rfl 1 rfl rfl ?_
          refine m_cut (σ := Unit) (fun a => True) (fun a => M126) 125 (fun a => [(2, .int (nI (T.getD (i + ps.length) 0))), (0, .ref (ad 52))]) (fun a => [.int (bI (has 35 ps || (T.getD (i + ps.length) 0 == 35))), .ref (ad 52)]) ?_ (fun J125 => ?_)
          · rintro zz hj
            try dsimp only at hj ⊢
            clear hj
            refine r_put (ty := .boolean) C hn hn2 go_126 inW_X12 23 123 (by decide) rfl ⟨rfl, rfl, rfl, rfl⟩ (gW_of tm_5_73) (by decide +kernel) (nar_z _) (fit_z _) (fun _ => rfl) dX12_readDirective_125 rfl (fun M127 go_127 g_127 F_127 => ?_)
            refine m_aload_n (pc' := 129) C dX12_readDirective_128 rfl 1 rfl rfl ?_
            refine m_cut (σ := Unit) (fun a => True) (fun a => M127) 147 (fun a => [(2, .int (nI (T.getD (i + ps.length) 0))), (0, .ref (ad 52))]) (fun a => [.int (bI (has 48 ps || (T.getD (i + ps.length) 0 == 48))), .ref (ad 52)]) ?_ (fun J147 => ?_)
            · rintro zz hj
              try dsimp only at hj ⊢
              clear hj
              refine r_put (ty := .boolean) C hn hn2 go_127 inW_X12 24 124 (by decide) rfl ⟨rfl, rfl, rfl, rfl⟩ (gW_of tm_5_74) (by decide +kernel) (nar_z _) (fit_z _) (fun _ => rfl) dX12_readDirective_147 rfl (fun M128 go_128 g_128 F_128 => ?_)
              refine m_cut (σ := Unit) (fun a => True) (fun a => M128) 185 (fun a => [(2, .int (nI (T.getD (i + ps.length) 0))), (0, .ref (ad 52))]) (fun a => [.int (bI (flC (T.getD (i + ps.length) 0)))]) ?_ (fun J185 => ?_)
              · rintro zz hj
                try dsimp only at hj ⊢
                clear hj
                refine m_istore_n (pc' := 186) (lv' := [(1, .int (bI (flC (T.getD (i + ps.length) 0)))), (2, .int (nI (T.getD (i + ps.length) 0))), (0, .ref (ad 52))]) C dX12_readDirective_185 rfl (by decide) rfl rfl ?_
                refine m_aload_n (pc' := 187) C dX12_readDirective_186 rfl 2 rfl rfl ?_
                refine m_iload_n (pc' := 188) C dX12_readDirective_187 rfl 0 rfl rfl ?_
                refine m_if_eq (pc' := 191) (tgt := 200) C dX12_readDirective_188 (by decide) rfl (fun c_188 => ?_) (fun c_188 => ?_)
                · have hz := (bI_0 _).mp c_188
                  have hn5 := flC_f hz
                  have hq45 : (has 45 ps || (T.getD (i + ps.length) 0 == 45)) = has 45 ps := by rw [beq_eq_false_iff_ne.mpr hn5.1, Bool.or_false]
                  have hq43 : (has 43 ps || (T.getD (i + ps.length) 0 == 43)) = has 43 ps := by rw [beq_eq_false_iff_ne.mpr hn5.2.1, Bool.or_false]
                  have hq32 : (has 32 ps || (T.getD (i + ps.length) 0 == 32)) = has 32 ps := by rw [beq_eq_false_iff_ne.mpr hn5.2.2.1, Bool.or_false]
                  have hq35 : (has 35 ps || (T.getD (i + ps.length) 0 == 35)) = has 35 ps := by rw [beq_eq_false_iff_ne.mpr hn5.2.2.2.1, Bool.or_false]
                  have hq48 : (has 48 ps || (T.getD (i + ps.length) 0 == 48)) = has 48 ps := by rw [beq_eq_false_iff_ne.mpr hn5.2.2.2.2, Bool.or_false]
                  refine m_aload_n (pc' := 201) C dX12_readDirective_200 rfl 2 rfl rfl ?_
                  have ff19_129 : M124 119 = gh (.int (nI (i + ps.length))) := (F_124 119 (by decide)).trans i3
                  have ff19_130 : M125 119 = gh (.int (nI (i + ps.length))) := (F_125 119 (by decide)).trans ff19_129
                  have ff19_131 : M126 119 = gh (.int (nI (i + ps.length))) := (F_126 119 (by decide)).trans ff19_130
                  have ff19_132 : M127 119 = gh (.int (nI (i + ps.length))) := (F_127 119 (by decide)).trans ff19_131
                  have ff19_133 : M128 119 = gh (.int (nI (i + ps.length))) := (F_128 119 (by decide)).trans ff19_132
                  refine r_get C hn go_128 inW_X12 19 (by decide) ⟨rfl, rfl, rfl⟩ (gW_of tm_5_69) (r_at 19 rfl ff19_133) dX12_readDirective_201 rfl ?_
                  refine r_put (ty := .int) C hn hn2 go_128 inW_X12 19 119 (by decide) rfl ⟨rfl, rfl, rfl, rfl⟩ (gW_of tm_5_69) (by decide +kernel) rfl rfl (fun _ => rfl) dX12_readDirective_204 rfl (fun M134 go_134 g_134 F_134 => ?_)
                  refine m_goto (tgt := 27) C dX12_readDirective_207 (by decide) ?_
                  have ff20_135 : M125 120 = gh (.int (bI (has 45 ps || (T.getD (i + ps.length) 0 == 45)))) := (F_125 120 (by decide)).trans g_124
                  have ff20_136 : M126 120 = gh (.int (bI (has 45 ps || (T.getD (i + ps.length) 0 == 45)))) := (F_126 120 (by decide)).trans ff20_135
                  have ff20_137 : M127 120 = gh (.int (bI (has 45 ps || (T.getD (i + ps.length) 0 == 45)))) := (F_127 120 (by decide)).trans ff20_136
                  have ff20_138 : M128 120 = gh (.int (bI (has 45 ps || (T.getD (i + ps.length) 0 == 45)))) := (F_128 120 (by decide)).trans ff20_137
                  have ff20_139 : M134 120 = gh (.int (bI (has 45 ps || (T.getD (i + ps.length) 0 == 45)))) := (F_134 120 (by decide)).trans ff20_138
                  have ff21_140 : M126 121 = gh (.int (bI (has 43 ps || (T.getD (i + ps.length) 0 == 43)))) := (F_126 121 (by decide)).trans g_125
                  have ff21_141 : M127 121 = gh (.int (bI (has 43 ps || (T.getD (i + ps.length) 0 == 43)))) := (F_127 121 (by decide)).trans ff21_140
                  have ff21_142 : M128 121 = gh (.int (bI (has 43 ps || (T.getD (i + ps.length) 0 == 43)))) := (F_128 121 (by decide)).trans ff21_141
                  have ff21_143 : M134 121 = gh (.int (bI (has 43 ps || (T.getD (i + ps.length) 0 == 43)))) := (F_134 121 (by decide)).trans ff21_142
                  have ff22_144 : M127 122 = gh (.int (bI (has 32 ps || (T.getD (i + ps.length) 0 == 32)))) := (F_127 122 (by decide)).trans g_126
                  have ff22_145 : M128 122 = gh (.int (bI (has 32 ps || (T.getD (i + ps.length) 0 == 32)))) := (F_128 122 (by decide)).trans ff22_144
                  have ff22_146 : M134 122 = gh (.int (bI (has 32 ps || (T.getD (i + ps.length) 0 == 32)))) := (F_134 122 (by decide)).trans ff22_145
                  have ff23_147 : M128 123 = gh (.int (bI (has 35 ps || (T.getD (i + ps.length) 0 == 35)))) := (F_128 123 (by decide)).trans g_127
                  have ff23_148 : M134 123 = gh (.int (bI (has 35 ps || (T.getD (i + ps.length) 0 == 35)))) := (F_134 123 (by decide)).trans ff23_147
                  have ff24_149 : M134 124 = gh (.int (bI (has 48 ps || (T.getD (i + ps.length) 0 == 48)))) := (F_134 124 (by decide)).trans g_128
                  refine m_lv [2, 0] rfl ?_
                  exact ih (flC (T.getD (i + ps.length) 0), ps, M134) (⟨by (try dsimp only); rw [i1, hz]; rcases Nat.lt_or_ge (i + ps.length) T.length with q | q; rw [flR_n q hz]; rfl; rw [flR_e q]; rfl, go_134, g_134, by (try dsimp only); rw [← hq45]; exact ff20_139, by (try dsimp only); rw [← hq43]; exact ff21_143, by (try dsimp only); rw [← hq32]; exact ff22_146, by (try dsimp only); rw [← hq35]; exact ff23_148, by (try dsimp only); rw [← hq48]; exact ff24_149, ((((((i9.tr (F_124.sub (by decide))).tr (F_125.sub (by decide))).tr (F_126.sub (by decide))).tr (F_127.sub (by decide))).tr (F_128.sub (by decide))).tr (F_134.sub (by decide)))⟩) (by simp only; rw [hz, hg1, if_pos rfl, if_neg (by decide)]; omega)
                · have hz := ts_of c_188
                  have hin := flC_in hz
                  refine m_aload_n (pc' := 192) C dX12_readDirective_191 rfl 2 rfl rfl ?_
                  have ff19_150 : M124 119 = gh (.int (nI (i + ps.length))) := (F_124 119 (by decide)).trans i3
                  have ff19_151 : M125 119 = gh (.int (nI (i + ps.length))) := (F_125 119 (by decide)).trans ff19_150
                  have ff19_152 : M126 119 = gh (.int (nI (i + ps.length))) := (F_126 119 (by decide)).trans ff19_151
                  have ff19_153 : M127 119 = gh (.int (nI (i + ps.length))) := (F_127 119 (by decide)).trans ff19_152
                  have ff19_154 : M128 119 = gh (.int (nI (i + ps.length))) := (F_128 119 (by decide)).trans ff19_153
                  refine r_get C hn go_128 inW_X12 19 (by decide) ⟨rfl, rfl, rfl⟩ (gW_of tm_5_69) (r_at 19 rfl ff19_154) dX12_readDirective_192 rfl ?_
                  refine m_iconst (pc' := 196) (v := nI 1) C dX12_readDirective_195 (by decide) rfl ?_
                  refine m_iadd (pc' := 197) (v := nI (i + (ps.length + 1))) C dX12_readDirective_196 (by rw [← Nat.add_assoc]; exact nI_add _ _) rfl ?_
                  refine m_goto (tgt := 204) C dX12_readDirective_197 (by decide) ?_
                  refine r_put (ty := .int) C hn hn2 go_128 inW_X12 19 119 (by decide) rfl ⟨rfl, rfl, rfl, rfl⟩ (gW_of tm_5_69) (by decide +kernel) rfl rfl (fun _ => rfl) dX12_readDirective_204 rfl (fun M155 go_155 g_155 F_155 => ?_)
                  refine m_goto (tgt := 27) C dX12_readDirective_207 (by decide) ?_
                  have ff20_156 : M125 120 = gh (.int (bI (has 45 ps || (T.getD (i + ps.length) 0 == 45)))) := (F_125 120 (by decide)).trans g_124
                  have ff20_157 : M126 120 = gh (.int (bI (has 45 ps || (T.getD (i + ps.length) 0 == 45)))) := (F_126 120 (by decide)).trans ff20_156
                  have ff20_158 : M127 120 = gh (.int (bI (has 45 ps || (T.getD (i + ps.length) 0 == 45)))) := (F_127 120 (by decide)).trans ff20_157
                  have ff20_159 : M128 120 = gh (.int (bI (has 45 ps || (T.getD (i + ps.length) 0 == 45)))) := (F_128 120 (by decide)).trans ff20_158
                  have ff20_160 : M155 120 = gh (.int (bI (has 45 ps || (T.getD (i + ps.length) 0 == 45)))) := (F_155 120 (by decide)).trans ff20_159
                  have ff21_161 : M126 121 = gh (.int (bI (has 43 ps || (T.getD (i + ps.length) 0 == 43)))) := (F_126 121 (by decide)).trans g_125
                  have ff21_162 : M127 121 = gh (.int (bI (has 43 ps || (T.getD (i + ps.length) 0 == 43)))) := (F_127 121 (by decide)).trans ff21_161
                  have ff21_163 : M128 121 = gh (.int (bI (has 43 ps || (T.getD (i + ps.length) 0 == 43)))) := (F_128 121 (by decide)).trans ff21_162
                  have ff21_164 : M155 121 = gh (.int (bI (has 43 ps || (T.getD (i + ps.length) 0 == 43)))) := (F_155 121 (by decide)).trans ff21_163
                  have ff22_165 : M127 122 = gh (.int (bI (has 32 ps || (T.getD (i + ps.length) 0 == 32)))) := (F_127 122 (by decide)).trans g_126
                  have ff22_166 : M128 122 = gh (.int (bI (has 32 ps || (T.getD (i + ps.length) 0 == 32)))) := (F_128 122 (by decide)).trans ff22_165
                  have ff22_167 : M155 122 = gh (.int (bI (has 32 ps || (T.getD (i + ps.length) 0 == 32)))) := (F_155 122 (by decide)).trans ff22_166
                  have ff23_168 : M128 123 = gh (.int (bI (has 35 ps || (T.getD (i + ps.length) 0 == 35)))) := (F_128 123 (by decide)).trans g_127
                  have ff23_169 : M155 123 = gh (.int (bI (has 35 ps || (T.getD (i + ps.length) 0 == 35)))) := (F_155 123 (by decide)).trans ff23_168
                  have ff24_170 : M155 124 = gh (.int (bI (has 48 ps || (T.getD (i + ps.length) 0 == 48)))) := (F_155 124 (by decide)).trans g_128
                  refine m_lv [2, 0] rfl ?_
                  exact ih (flC (T.getD (i + ps.length) 0), ps ++ [T.getD (i + ps.length) 0], M155) (⟨by (try dsimp only); rw [i1, hz, if_pos rfl, flR_s hin hz, List.append_assoc, List.length_append]; rfl, go_155, by (try dsimp only); rw [List.length_append]; exact g_155, by (try dsimp only); rw [has_s]; exact ff20_160, by (try dsimp only); rw [has_s]; exact ff21_164, by (try dsimp only); rw [has_s]; exact ff22_167, by (try dsimp only); rw [has_s]; exact ff23_169, by (try dsimp only); rw [has_s]; exact ff24_170, ((((((i9.tr (F_124.sub (by decide))).tr (F_125.sub (by decide))).tr (F_126.sub (by decide))).tr (F_127.sub (by decide))).tr (F_128.sub (by decide))).tr (F_155.sub (by decide)))⟩) (by simp only [List.length_append, List.length_singleton]; rw [hz, hg1, if_pos rfl]; omega)
              refine m_iload_n (pc' := 151) C dX12_readDirective_150 rfl 0 rfl rfl ?_
              refine m_bipush (pc' := 153) (v := nI 45) C dX12_readDirective_151 (by decide) rfl ?_
              refine m_icmp_eq (pc' := 156) (tgt := 180) C dX12_readDirective_153 (by decide) rfl (fun c_153 => ?_) (fun c_153 => ?_)
              · have n_153 : (T.getD (i + ps.length) 0) = 45 := (nI_eq (by omega) (by omega)).mp c_153
                have hz : flC (T.getD (i + ps.length) 0) = true := by rw [n_153]; decide
                refine m_iconst (pc' := 181) (v := bI (flC (T.getD (i + ps.length) 0))) C dX12_readDirective_180 (by rw [hz]; first | done | rfl) rfl ?_
                refine m_goto (tgt := 185) C dX12_readDirective_181 (by decide) ?_
                refine m_lv [0, 1] rfl ?_
                exact J185 () (trivial)
              · have n_153 : ¬ (T.getD (i + ps.length) 0) = 45 := fun q => c_153 ((nI_eq (by omega) (by omega)).mpr q)
                refine m_iload_n (pc' := 157) C dX12_readDirective_156 rfl 0 rfl rfl ?_
                refine m_bipush (pc' := 159) (v := nI 43) C dX12_readDirective_157 (by decide) rfl ?_
                refine m_icmp_eq (pc' := 162) (tgt := 180) C dX12_readDirective_159 (by decide) rfl (fun c_159 => ?_) (fun c_159 => ?_)
                · have n_159 : (T.getD (i + ps.length) 0) = 43 := (nI_eq (by omega) (by omega)).mp c_159
                  have hz : flC (T.getD (i + ps.length) 0) = true := by rw [n_159]; decide
                  refine m_iconst (pc' := 181) (v := bI (flC (T.getD (i + ps.length) 0))) C dX12_readDirective_180 (by rw [hz]; first | done | rfl) rfl ?_
                  refine m_goto (tgt := 185) C dX12_readDirective_181 (by decide) ?_
                  refine m_lv [0, 1] rfl ?_
                  exact J185 () (trivial)
                · have n_159 : ¬ (T.getD (i + ps.length) 0) = 43 := fun q => c_159 ((nI_eq (by omega) (by omega)).mpr q)
                  refine m_iload_n (pc' := 163) C dX12_readDirective_162 rfl 0 rfl rfl ?_
                  refine m_bipush (pc' := 165) (v := nI 32) C dX12_readDirective_163 (by decide) rfl ?_
                  refine m_icmp_eq (pc' := 168) (tgt := 180) C dX12_readDirective_165 (by decide) rfl (fun c_165 => ?_) (fun c_165 => ?_)
                  · have n_165 : (T.getD (i + ps.length) 0) = 32 := (nI_eq (by omega) (by omega)).mp c_165
                    have hz : flC (T.getD (i + ps.length) 0) = true := by rw [n_165]; decide
                    refine m_iconst (pc' := 181) (v := bI (flC (T.getD (i + ps.length) 0))) C dX12_readDirective_180 (by rw [hz]; first | done | rfl) rfl ?_
                    refine m_goto (tgt := 185) C dX12_readDirective_181 (by decide) ?_
                    refine m_lv [0, 1] rfl ?_
                    exact J185 () (trivial)
                  · have n_165 : ¬ (T.getD (i + ps.length) 0) = 32 := fun q => c_165 ((nI_eq (by omega) (by omega)).mpr q)
                    refine m_iload_n (pc' := 169) C dX12_readDirective_168 rfl 0 rfl rfl ?_
                    refine m_bipush (pc' := 171) (v := nI 35) C dX12_readDirective_169 (by decide) rfl ?_
                    refine m_icmp_eq (pc' := 174) (tgt := 180) C dX12_readDirective_171 (by decide) rfl (fun c_171 => ?_) (fun c_171 => ?_)
                    · have n_171 : (T.getD (i + ps.length) 0) = 35 := (nI_eq (by omega) (by omega)).mp c_171
                      have hz : flC (T.getD (i + ps.length) 0) = true := by rw [n_171]; decide
                      refine m_iconst (pc' := 181) (v := bI (flC (T.getD (i + ps.length) 0))) C dX12_readDirective_180 (by rw [hz]; first | done | rfl) rfl ?_
                      refine m_goto (tgt := 185) C dX12_readDirective_181 (by decide) ?_
                      refine m_lv [0, 1] rfl ?_
                      exact J185 () (trivial)
                    · have n_171 : ¬ (T.getD (i + ps.length) 0) = 35 := fun q => c_171 ((nI_eq (by omega) (by omega)).mpr q)
                      refine m_iload_n (pc' := 175) C dX12_readDirective_174 rfl 0 rfl rfl ?_
                      refine m_bipush (pc' := 177) (v := nI 48) C dX12_readDirective_175 (by decide) rfl ?_
                      refine m_icmp_ne (pc' := 180) (tgt := 184) C dX12_readDirective_177 (by decide) rfl (fun c_177 => ?_) (fun c_177 => ?_)
                      · have n_177 : ¬ (T.getD (i + ps.length) 0) = 48 := fun q => c_177 ((nI_eq (by omega) (by omega)).mpr q)
                        have hz : flC (T.getD (i + ps.length) 0) = false := by unfold flC; simp only [beq_eq_false_iff_ne.mpr n_153, beq_eq_false_iff_ne.mpr n_159, beq_eq_false_iff_ne.mpr n_165, beq_eq_false_iff_ne.mpr n_171, beq_eq_false_iff_ne.mpr n_177]; rfl
                        refine m_iconst (pc' := 185) (v := bI (flC (T.getD (i + ps.length) 0))) C dX12_readDirective_184 (by rw [hz]; first | done | rfl) rfl ?_
                        refine m_lv [0, 1] rfl ?_
                        exact J185 () (trivial)
                      · have n_177 : (T.getD (i + ps.length) 0) = 48 := (nI_eq (by omega) (by omega)).mp (Classical.not_not.mp c_177)
                        have hz : flC (T.getD (i + ps.length) 0) = true := by rw [n_177]; decide
                        refine m_iconst (pc' := 181) (v := bI (flC (T.getD (i + ps.length) 0))) C dX12_readDirective_180 (by rw [hz]; first | done | rfl) rfl ?_
                        refine m_goto (tgt := 185) C dX12_readDirective_181 (by decide) ?_
                        refine m_lv [0, 1] rfl ?_
                        exact J185 () (trivial)
            refine m_aload_n (pc' := 130) C dX12_readDirective_129 rfl 1 rfl rfl ?_
            have ff24_171 : M124 124 = gh (.int (bI (has 48 ps))) := (F_124 124 (by decide)).trans i8
            have ff24_172 : M125 124 = gh (.int (bI (has 48 ps))) := (F_125 124 (by decide)).trans ff24_171
            have ff24_173 : M126 124 = gh (.int (bI (has 48 ps))) := (F_126 124 (by decide)).trans ff24_172
            have ff24_174 : M127 124 = gh (.int (bI (has 48 ps))) := (F_127 124 (by decide)).trans ff24_173
            refine r_get C hn go_127 inW_X12 24 (by decide) ⟨rfl, rfl, rfl⟩ (gW_of tm_5_74) (r_at 24 rfl ff24_174) dX12_readDirective_130 rfl ?_
            refine m_if_ne (pc' := 136) (tgt := 142) C dX12_readDirective_133 (by decide) rfl (fun c_133 => ?_) (fun c_133 => ?_)
            · have hz : (has 48 ps || (T.getD (i + ps.length) 0 == 48)) = true := by rw [ts_of c_133]; rfl
              refine m_iconst (pc' := 143) (v := bI (has 48 ps || (T.getD (i + ps.length) 0 == 48))) C dX12_readDirective_142 (by rw [hz]; first | done | rfl) rfl ?_
              refine m_goto (tgt := 147) C dX12_readDirective_143 (by decide) ?_
              refine m_lv [0, 1] rfl ?_
              exact J147 () (trivial)
            · have hy : has 48 ps = false := (bI_0 _).mp (Classical.not_not.mp c_133)
              refine m_iload_n (pc' := 137) C dX12_readDirective_136 rfl 0 rfl rfl ?_
              refine m_bipush (pc' := 139) (v := nI 48) C dX12_readDirective_137 (by decide) rfl ?_
              refine m_icmp_ne (pc' := 142) (tgt := 146) C dX12_readDirective_139 (by decide) rfl (fun c_139 => ?_) (fun c_139 => ?_)
              · have n_139 : ¬ (T.getD (i + ps.length) 0) = 48 := fun q => c_139 ((nI_eq (by omega) (by omega)).mpr q)
                have hz : (has 48 ps || (T.getD (i + ps.length) 0 == 48)) = false := by rw [hy, beq_eq_false_iff_ne.mpr n_139]; rfl
                refine m_iconst (pc' := 147) (v := bI (has 48 ps || (T.getD (i + ps.length) 0 == 48))) C dX12_readDirective_146 (by rw [hz]; first | done | rfl) rfl ?_
                refine m_lv [0, 1] rfl ?_
                exact J147 () (trivial)
              · have n_139 : (T.getD (i + ps.length) 0) = 48 := (nI_eq (by omega) (by omega)).mp (Classical.not_not.mp c_139)
                have hz : (has 48 ps || (T.getD (i + ps.length) 0 == 48)) = true := by rw [n_139, Bool.or_comm]; rfl
                refine m_iconst (pc' := 143) (v := bI (has 48 ps || (T.getD (i + ps.length) 0 == 48))) C dX12_readDirective_142 (by rw [hz]; first | done | rfl) rfl ?_
                refine m_goto (tgt := 147) C dX12_readDirective_143 (by decide) ?_
                refine m_lv [0, 1] rfl ?_
                exact J147 () (trivial)
          refine m_aload_n (pc' := 108) C dX12_readDirective_107 rfl 1 rfl rfl ?_
          have ff23_175 : M124 123 = gh (.int (bI (has 35 ps))) := (F_124 123 (by decide)).trans i7
          have ff23_176 : M125 123 = gh (.int (bI (has 35 ps))) := (F_125 123 (by decide)).trans ff23_175
          have ff23_177 : M126 123 = gh (.int (bI (has 35 ps))) := (F_126 123 (by decide)).trans ff23_176
          refine r_get C hn go_126 inW_X12 23 (by decide) ⟨rfl, rfl, rfl⟩ (gW_of tm_5_73) (r_at 23 rfl ff23_177) dX12_readDirective_108 rfl ?_
          refine m_if_ne (pc' := 114) (tgt := 120) C dX12_readDirective_111 (by decide) rfl (fun c_111 => ?_) (fun c_111 => ?_)
          · have hz : (has 35 ps || (T.getD (i + ps.length) 0 == 35)) = true := by rw [ts_of c_111]; rfl
            refine m_iconst (pc' := 121) (v := bI (has 35 ps || (T.getD (i + ps.length) 0 == 35))) C dX12_readDirective_120 (by rw [hz]; first | done | rfl) rfl ?_
            refine m_goto (tgt := 125) C dX12_readDirective_121 (by decide) ?_
            refine m_lv [0, 1] rfl ?_
            exact J125 () (trivial)
          · have hy : has 35 ps = false := (bI_0 _).mp (Classical.not_not.mp c_111)
            refine m_iload_n (pc' := 115) C dX12_readDirective_114 rfl 0 rfl rfl ?_
            refine m_bipush (pc' := 117) (v := nI 35) C dX12_readDirective_115 (by decide) rfl ?_
            refine m_icmp_ne (pc' := 120) (tgt := 124) C dX12_readDirective_117 (by decide) rfl (fun c_117 => ?_) (fun c_117 => ?_)
            · have n_117 : ¬ (T.getD (i + ps.length) 0) = 35 := fun q => c_117 ((nI_eq (by omega) (by omega)).mpr q)
              have hz : (has 35 ps || (T.getD (i + ps.length) 0 == 35)) = false := by rw [hy, beq_eq_false_iff_ne.mpr n_117]; rfl
              refine m_iconst (pc' := 125) (v := bI (has 35 ps || (T.getD (i + ps.length) 0 == 35))) C dX12_readDirective_124 (by rw [hz]; first | done | rfl) rfl ?_
              refine m_lv [0, 1] rfl ?_
              exact J125 () (trivial)
            · have n_117 : (T.getD (i + ps.length) 0) = 35 := (nI_eq (by omega) (by omega)).mp (Classical.not_not.mp c_117)
              have hz : (has 35 ps || (T.getD (i + ps.length) 0 == 35)) = true := by rw [n_117, Bool.or_comm]; rfl
              refine m_iconst (pc' := 121) (v := bI (has 35 ps || (T.getD (i + ps.length) 0 == 35))) C dX12_readDirective_120 (by rw [hz]; first | done | rfl) rfl ?_
              refine m_goto (tgt := 125) C dX12_readDirective_121 (by decide) ?_
              refine m_lv [0, 1] rfl ?_
              exact J125 () (trivial)
        refine m_aload_n (pc' := 86) C dX12_readDirective_85 rfl 1 rfl rfl ?_
        have ff22_178 : M124 122 = gh (.int (bI (has 32 ps))) := (F_124 122 (by decide)).trans i6
        have ff22_179 : M125 122 = gh (.int (bI (has 32 ps))) := (F_125 122 (by decide)).trans ff22_178
        refine r_get C hn go_125 inW_X12 22 (by decide) ⟨rfl, rfl, rfl⟩ (gW_of tm_5_72) (r_at 22 rfl ff22_179) dX12_readDirective_86 rfl ?_
        refine m_if_ne (pc' := 92) (tgt := 98) C dX12_readDirective_89 (by decide) rfl (fun c_89 => ?_) (fun c_89 => ?_)
        · have hz : (has 32 ps || (T.getD (i + ps.length) 0 == 32)) = true := by rw [ts_of c_89]; rfl
          refine m_iconst (pc' := 99) (v := bI (has 32 ps || (T.getD (i + ps.length) 0 == 32))) C dX12_readDirective_98 (by rw [hz]; first | done | rfl) rfl ?_
          refine m_goto (tgt := 103) C dX12_readDirective_99 (by decide) ?_
          refine m_lv [0, 1] rfl ?_
          exact J103 () (trivial)
        · have hy : has 32 ps = false := (bI_0 _).mp (Classical.not_not.mp c_89)
          refine m_iload_n (pc' := 93) C dX12_readDirective_92 rfl 0 rfl rfl ?_
          refine m_bipush (pc' := 95) (v := nI 32) C dX12_readDirective_93 (by decide) rfl ?_
          refine m_icmp_ne (pc' := 98) (tgt := 102) C dX12_readDirective_95 (by decide) rfl (fun c_95 => ?_) (fun c_95 => ?_)
          · have n_95 : ¬ (T.getD (i + ps.length) 0) = 32 := fun q => c_95 ((nI_eq (by omega) (by omega)).mpr q)
            have hz : (has 32 ps || (T.getD (i + ps.length) 0 == 32)) = false := by rw [hy, beq_eq_false_iff_ne.mpr n_95]; rfl
            refine m_iconst (pc' := 103) (v := bI (has 32 ps || (T.getD (i + ps.length) 0 == 32))) C dX12_readDirective_102 (by rw [hz]; first | done | rfl) rfl ?_
            refine m_lv [0, 1] rfl ?_
            exact J103 () (trivial)
          · have n_95 : (T.getD (i + ps.length) 0) = 32 := (nI_eq (by omega) (by omega)).mp (Classical.not_not.mp c_95)
            have hz : (has 32 ps || (T.getD (i + ps.length) 0 == 32)) = true := by rw [n_95, Bool.or_comm]; rfl
            refine m_iconst (pc' := 99) (v := bI (has 32 ps || (T.getD (i + ps.length) 0 == 32))) C dX12_readDirective_98 (by rw [hz]; first | done | rfl) rfl ?_
            refine m_goto (tgt := 103) C dX12_readDirective_99 (by decide) ?_
            refine m_lv [0, 1] rfl ?_
            exact J103 () (trivial)
      refine m_aload_n (pc' := 64) C dX12_readDirective_63 rfl 1 rfl rfl ?_
      have ff21_180 : M124 121 = gh (.int (bI (has 43 ps))) := (F_124 121 (by decide)).trans i5
      refine r_get C hn go_124 inW_X12 21 (by decide) ⟨rfl, rfl, rfl⟩ (gW_of tm_5_71) (r_at 21 rfl ff21_180) dX12_readDirective_64 rfl ?_
      refine m_if_ne (pc' := 70) (tgt := 76) C dX12_readDirective_67 (by decide) rfl (fun c_67 => ?_) (fun c_67 => ?_)
      · have hz : (has 43 ps || (T.getD (i + ps.length) 0 == 43)) = true := by rw [ts_of c_67]; rfl
        refine m_iconst (pc' := 77) (v := bI (has 43 ps || (T.getD (i + ps.length) 0 == 43))) C dX12_readDirective_76 (by rw [hz]; first | done | rfl) rfl ?_
        refine m_goto (tgt := 81) C dX12_readDirective_77 (by decide) ?_
        refine m_lv [0, 1] rfl ?_
        exact J81 () (trivial)
      · have hy : has 43 ps = false := (bI_0 _).mp (Classical.not_not.mp c_67)
        refine m_iload_n (pc' := 71) C dX12_readDirective_70 rfl 0 rfl rfl ?_
        refine m_bipush (pc' := 73) (v := nI 43) C dX12_readDirective_71 (by decide) rfl ?_
        refine m_icmp_ne (pc' := 76) (tgt := 80) C dX12_readDirective_73 (by decide) rfl (fun c_73 => ?_) (fun c_73 => ?_)
        · have n_73 : ¬ (T.getD (i + ps.length) 0) = 43 := fun q => c_73 ((nI_eq (by omega) (by omega)).mpr q)
          have hz : (has 43 ps || (T.getD (i + ps.length) 0 == 43)) = false := by rw [hy, beq_eq_false_iff_ne.mpr n_73]; rfl
          refine m_iconst (pc' := 81) (v := bI (has 43 ps || (T.getD (i + ps.length) 0 == 43))) C dX12_readDirective_80 (by rw [hz]; first | done | rfl) rfl ?_
          refine m_lv [0, 1] rfl ?_
          exact J81 () (trivial)
        · have n_73 : (T.getD (i + ps.length) 0) = 43 := (nI_eq (by omega) (by omega)).mp (Classical.not_not.mp c_73)
          have hz : (has 43 ps || (T.getD (i + ps.length) 0 == 43)) = true := by rw [n_73, Bool.or_comm]; rfl
          refine m_iconst (pc' := 77) (v := bI (has 43 ps || (T.getD (i + ps.length) 0 == 43))) C dX12_readDirective_76 (by rw [hz]; first | done | rfl) rfl ?_
          refine m_goto (tgt := 81) C dX12_readDirective_77 (by decide) ?_
          refine m_lv [0, 1] rfl ?_
          exact J81 () (trivial)
    refine m_aload_n (pc' := 42) C dX12_readDirective_41 rfl 1 rfl rfl ?_
    refine r_get C hn i2 inW_X12 20 (by decide) ⟨rfl, rfl, rfl⟩ (gW_of tm_5_70) (r_at 20 rfl i4) dX12_readDirective_42 rfl ?_
    refine m_if_ne (pc' := 48) (tgt := 54) C dX12_readDirective_45 (by decide) rfl (fun c_45 => ?_) (fun c_45 => ?_)
    · have hz : (has 45 ps || (T.getD (i + ps.length) 0 == 45)) = true := by rw [ts_of c_45]; rfl
      refine m_iconst (pc' := 55) (v := bI (has 45 ps || (T.getD (i + ps.length) 0 == 45))) C dX12_readDirective_54 (by rw [hz]; first | done | rfl) rfl ?_
      refine m_goto (tgt := 59) C dX12_readDirective_55 (by decide) ?_
      refine m_lv [0, 1] rfl ?_
      exact J59 () (trivial)
    · have hy : has 45 ps = false := (bI_0 _).mp (Classical.not_not.mp c_45)
      refine m_iload_n (pc' := 49) C dX12_readDirective_48 rfl 0 rfl rfl ?_
      refine m_bipush (pc' := 51) (v := nI 45) C dX12_readDirective_49 (by decide) rfl ?_
      refine m_icmp_ne (pc' := 54) (tgt := 58) C dX12_readDirective_51 (by decide) rfl (fun c_51 => ?_) (fun c_51 => ?_)
      · have n_51 : ¬ (T.getD (i + ps.length) 0) = 45 := fun q => c_51 ((nI_eq (by omega) (by omega)).mpr q)
        have hz : (has 45 ps || (T.getD (i + ps.length) 0 == 45)) = false := by rw [hy, beq_eq_false_iff_ne.mpr n_51]; rfl
        refine m_iconst (pc' := 59) (v := bI (has 45 ps || (T.getD (i + ps.length) 0 == 45))) C dX12_readDirective_58 (by rw [hz]; first | done | rfl) rfl ?_
        refine m_lv [0, 1] rfl ?_
        exact J59 () (trivial)
      · have n_51 : (T.getD (i + ps.length) 0) = 45 := (nI_eq (by omega) (by omega)).mp (Classical.not_not.mp c_51)
        have hz : (has 45 ps || (T.getD (i + ps.length) 0 == 45)) = true := by rw [n_51, Bool.or_comm]; rfl
        refine m_iconst (pc' := 55) (v := bI (has 45 ps || (T.getD (i + ps.length) 0 == 45))) C dX12_readDirective_54 (by rw [hz]; first | done | rfl) rfl ?_
        refine m_goto (tgt := 59) C dX12_readDirective_55 (by decide) ?_
        refine m_lv [0, 1] rfl ?_
        exact J59 () (trivial)
