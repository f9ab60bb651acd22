set_option maxHeartbeats 4000000 in
set_option maxRecDepth 100000 in
theorem kX12_printOnce {l : Launch} {D : va_G} {cy : Nat → ClassId} {ad : Nat → Nat} {n : Nat} {A : Nat → Prop} (hI : mI ad n A) {M : Nat → va_E} (hn : 63 ≤ n) (hn2 : n ≤ 100) (hro : rO ad M) {T : List Nat} (hln : isLn cy M T) {xs : Nat → Arg} {cnt : Nat} (hra : isRA cy M xs cnt) {od tk0 : Nat} (hod : M 116 = gh (.int (nI od))) (hnx : M 117 = gh (.int (nI tk0))) {e0 : Bool} (he : M 118 = gh (.int (bI e0))) {W : List Nat} (hrw : isRw cy M W) {L : List Nat} (hdg : isDg cy M L) {lim : Nat} {O : List Nat} (hout : isOut cy M lim O) (htk : tk0 ≤ cnt) (hflt : fltF T 80 0 = none) : mMv l yX12_printOnce (gW yX12_printOnce cX12_printOnce 2 none) { frames := 5, cells := 0, slots := 0, locals := 125 } D cy ad n A [.ref (ad 52)] M (fun M' => rO ad M' ∧ isOut cy M' lim (O ++ (oRun T xs cnt 80 e0 0 tk0).1) ∧ M' 117 = gh (.int (nI (oRun T xs cnt 80 e0 0 tk0).2.1)) ∧ M' 116 = gh (.int (nI (od + (oRun T xs cnt 80 e0 0 tk0).2.2.1))) ∧ M' 118 = gh (.int (bI (oRun T xs cnt 80 e0 0 tk0).2.2.2)) ∧ (∃ W, isRw cy M' W) ∧ (∃ D, isDg cy M' D) ∧ Fr [52, 59, 60, 61, 111, 113, 116, 117, 118, 119, 120, 121, 122, 123, 124, 125, 126, 127, 128, 130, 132] M M') := by
  obtain ⟨t1, t2, t3, t4, g, t5, t6⟩ := id hln
  refine m_entry (cc := cX12_printOnce) (maxL := 2) (ret := none) (own := RX12) (lv := [(0, .ref (ad 52))]) hI (by decide) rfl rfl (Nat.le_of_ble_eq_true rfl) rfl (fun pX eX sX mX aX bX tX cX C hrt0 hlk0 => ?_)
  refine m_aload_n (pc' := 1) C dX12_printOnce_0 rfl 0 rfl rfl ?_
  refine m_iconst (pc' := 2) (v := nI 0) C dX12_printOnce_1 (by decide) rfl ?_
  refine r_put (ty := .int) C hn hn2 hro inW_X12 19 119 (by decide) rfl ⟨rfl, rfl, rfl, rfl⟩ (gW_of tm_5_69) (by decide +kernel) rfl rfl (fun _ => rfl) dX12_printOnce_2 rfl (fun M1 go_1 g_1 F_1 => ?_)
  refine m_lv [0] rfl ?_
  have ff18_2 : M1 118 = gh (.int (bI e0)) := (F_1 118 (by decide)).trans he
  have ff17_3 : M1 117 = gh (.int (nI tk0)) := (F_1 117 (by decide)).trans hnx
  have ff16_4 : M1 116 = gh (.int (nI od)) := (F_1 116 (by decide)).trans hod
  have xout_5 := hout.fr F_1 (by decide)
  have xrw_6 := hrw.fr F_1 (by decide)
  have xdg_7 := hdg.fr F_1 (by decide)
  refine m_loop (σ := Nat × Nat × Nat × Nat × Bool × List Nat × (Nat → va_E)) (fun a => a.2.2.2.2.2.2) (fun a => [(0, .ref (ad 52))]) (fun a => (oRun T xs cnt 80 e0 0 tk0).1 = a.2.2.2.2.2.1 ++ (oRun T xs cnt (80 - a.1) a.2.2.2.2.1 a.2.1 a.2.2.1).1 ∧ (oRun T xs cnt 80 e0 0 tk0).2.1 = (oRun T xs cnt (80 - a.1) a.2.2.2.2.1 a.2.1 a.2.2.1).2.1 ∧ (oRun T xs cnt 80 e0 0 tk0).2.2.1 = a.2.2.2.1 + (oRun T xs cnt (80 - a.1) a.2.2.2.2.1 a.2.1 a.2.2.1).2.2.1 ∧ (oRun T xs cnt 80 e0 0 tk0).2.2.2 = (oRun T xs cnt (80 - a.1) a.2.2.2.2.1 a.2.1 a.2.2.1).2.2.2 ∧ (a.1 ≤ a.2.1 ∧ a.2.1 ≤ 200 ∧ a.2.2.1 ≤ cnt ∧ fltF T (80 - a.1) a.2.1 = none) ∧ rO ad a.2.2.2.2.2.2 ∧ a.2.2.2.2.2.2 119 = gh (.int (nI a.2.1)) ∧ a.2.2.2.2.2.2 118 = gh (.int (bI a.2.2.2.2.1)) ∧ a.2.2.2.2.2.2 117 = gh (.int (nI a.2.2.1)) ∧ a.2.2.2.2.2.2 116 = gh (.int (nI (od + a.2.2.2.1))) ∧ isOut cy a.2.2.2.2.2.2 lim (O ++ a.2.2.2.2.2.1) ∧ (∃ W, isRw cy a.2.2.2.2.2.2 W) ∧ (∃ D, isDg cy a.2.2.2.2.2.2 D) ∧ Fr [52, 59, 60, 61, 111, 113, 116, 117, 118, 119, 120, 121, 122, 123, 124, 125, 126, 127, 128, 130, 132] M a.2.2.2.2.2.2) (fun a => 80 - a.1) (0, 0, tk0, 0, e0, [], M1) (⟨rfl, rfl, by dsimp only; rw [Nat.zero_add], rfl, ⟨Nat.le_refl _, Nat.zero_le _, htk, hflt⟩, go_1, g_1, ff18_2, ff17_3, ff16_4, by dsimp only; rw [List.append_nil]; exact xout_5, ⟨_, xrw_6⟩, ⟨_, xdg_7⟩, (F_1.sub (by decide))⟩) ?_
  rintro ⟨k, i, tk, s, e, R, Mk⟩ hinv ih
  dsimp only at hinv ih ⊢
  obtain ⟨i1, i2, i3, i4, ⟨i5, i6, i7, i8⟩, q0, q1, q2, q3, q4, q5, ⟨W, q6⟩, ⟨L, q7⟩, q9⟩ := hinv
  have hc8 := gd_lt0 t1 i
  have hc9 := gd_lt0 t1 (i + 1)
  have hre := rEe_le T (i + 1)
  have hdp := dP4_le T (i + 1)
  have hcd := gd_lt0 t1 (dP4 T (i + 1))
  refine m_aload_n (pc' := 6) C dX12_printOnce_5 rfl 0 rfl rfl ?_
  refine r_get C hn q0 inW_X12 19 (by decide) ⟨rfl, rfl, rfl⟩ (gW_of tm_5_69) (r_at 19 rfl q1) dX12_printOnce_6 rfl ?_
  refine m_aload_n (pc' := 10) C dX12_printOnce_9 rfl 0 rfl rfl ?_
  have ff2_8 : Mk 102 = gh (.int (nI T.length)) := (q9 102 (by decide)).trans t3
  refine r_get C hn q0 inW_X12 2 (by decide) ⟨rfl, rfl, rfl⟩ (gW_of tm_5_52) (r_at 2 rfl ff2_8) dX12_printOnce_10 rfl ?_
  refine m_icmp_ge (pc' := 16) (tgt := 118) C dX12_printOnce_13 (by decide) rfl (fun c_13 => ?_) (fun c_13 => ?_)
  · have n_13 : T.length ≤ i := (nI_leI (by omega) (by omega)).mp c_13
    have hdone : oRun T xs cnt (80 - k) e i tk = ([], tk, 0, e) := by cases h9 : 80 - k with | zero => rfl | succ f => rw [oRun, if_pos (Or.inl (by omega))]
    refine m_vret C hrt0 hlk0 dX12_printOnce_118 ?_
    rw [hdone] at i1 i2 i3 i4
    dsimp only at i1 i2 i3 i4
    rw [List.append_nil] at i1
    rw [Nat.add_zero] at i3
    rw [i1, i2, i3, i4]
    exact ⟨q0, q5, q3, q4, q2, ⟨_, q6⟩, ⟨_, q7⟩, q9⟩
  · have n_13 : i < T.length := Nat.lt_of_not_le (fun q => c_13 ((nI_leI (by omega) (by omega)).mpr q))
    refine m_aload_n (pc' := 17) C dX12_printOnce_16 rfl 0 rfl rfl ?_
    refine r_get C hn q0 inW_X12 18 (by decide) ⟨rfl, rfl, rfl⟩ (gW_of tm_5_68) (r_at 18 rfl q2) dX12_printOnce_17 rfl ?_
    refine m_if_ne (pc' := 23) (tgt := 118) C dX12_printOnce_20 (by decide) rfl (fun c_20 => ?_) (fun c_20 => ?_)
    · have he1 : e = true := ts_of c_20
      have hdone : oRun T xs cnt (80 - k) e i tk = ([], tk, 0, e) := by cases h9 : 80 - k with | zero => rfl | succ f => rw [oRun, if_pos (Or.inr he1)]
      refine m_vret C hrt0 hlk0 dX12_printOnce_118 ?_
      rw [hdone] at i1 i2 i3 i4
      dsimp only at i1 i2 i3 i4
      rw [List.append_nil] at i1
      rw [Nat.add_zero] at i3
      rw [i1, i2, i3, i4]
      exact ⟨q0, q5, q3, q4, q2, ⟨_, q6⟩, ⟨_, q7⟩, q9⟩
    · have he0 : e = false := (bI_0 _).mp (Classical.not_not.mp c_20)
      have hgo : ¬ (T.length ≤ i ∨ e = true) := fun q => q.elim (fun q => by omega) (fun q => by rw [he0] at q; cases q)
      have hne : ¬ pcI T i = -1 := flt_go n_13 (f := 80 - (k + 1)) (by rw [← show 80 - k = (80 - (k + 1)) + 1 by omega]; exact i8)
      refine m_aload_n (pc' := 24) C dX12_printOnce_23 rfl 0 rfl rfl ?_
      refine r_get C hn q0 inW_X12 1 (by decide) ⟨rfl, rfl, rfl⟩ (gW_of tm_5_51) rfl dX12_printOnce_24 rfl ?_
      refine m_aload_n (pc' := 28) C dX12_printOnce_27 rfl 0 rfl rfl ?_
      refine r_get C hn q0 inW_X12 19 (by decide) ⟨rfl, rfl, rfl⟩ (gW_of tm_5_69) (r_at 19 rfl q1) dX12_printOnce_28 rfl ?_
      have f53_9 : Mk 53 = .inl (cy 0, 80, .inl (fun i => nI (g i))) := (q9 53 (by decide)).trans t5
      refine m_cald (pc' := 32) (v := nI (T.getD i 0)) C 53 (by omega) f53_9 (vp_in_nI (by omega) (by decide)) (by rw [nI_clamp (by omega), t6 _ n_13]) dX12_printOnce_31 rfl ?_
      refine m_istore_n (pc' := 33) (lv' := [(1, .int (nI (T.getD i 0))), (0, .ref (ad 52))]) C dX12_printOnce_32 rfl (by decide) rfl rfl ?_
      refine m_aload_n (pc' := 34) C dX12_printOnce_33 rfl 1 rfl rfl ?_
      refine m_dup (pc' := 35) C dX12_printOnce_34 rfl rfl ?_
      refine r_get C hn q0 inW_X12 19 (by decide) ⟨rfl, rfl, rfl⟩ (gW_of tm_5_69) (r_at 19 rfl q1) dX12_printOnce_35 rfl ?_
      refine m_iconst (pc' := 39) (v := nI 1) C dX12_printOnce_38 (by decide) rfl ?_
      refine m_iadd (pc' := 40) (v := nI (i + 1)) C dX12_printOnce_39 (nI_add _ _) rfl ?_
      refine r_put (ty := .int) C hn hn2 q0 inW_X12 19 119 (by decide) rfl ⟨rfl, rfl, rfl, rfl⟩ (gW_of tm_5_69) (by decide +kernel) rfl rfl (fun _ => rfl) dX12_printOnce_40 rfl (fun M10 go_10 g_10 F_10 => ?_)
      refine m_iload_n (pc' := 44) C dX12_printOnce_43 rfl 0 rfl rfl ?_
      refine m_bipush (pc' := 46) (v := nI 92) C dX12_printOnce_44 (by decide) rfl ?_
      refine m_icmp_ne (pc' := 49) (tgt := 60) C dX12_printOnce_46 (by decide) rfl (fun c_46 => ?_) (fun c_46 => ?_)
      · have n_46 : ¬ (T.getD i 0) = 92 := fun q => c_46 ((nI_eq (by omega) (by omega)).mpr q)
        refine m_iload_n (pc' := 61) C dX12_printOnce_60 rfl 0 rfl rfl ?_
        refine m_bipush (pc' := 63) (v := nI 37) C dX12_printOnce_61 (by decide) rfl ?_
        refine m_icmp_eq (pc' := 66) (tgt := 74) C dX12_printOnce_63 (by decide) rfl (fun c_63 => ?_) (fun c_63 => ?_)
        · have n_63 : (T.getD i 0) = 37 := (nI_eq (by omega) (by omega)).mp c_63
          refine m_aload_n (pc' := 75) C dX12_printOnce_74 rfl 1 rfl rfl ?_
          refine m_aload_n (pc' := 76) C dX12_printOnce_75 rfl 1 rfl rfl ?_
          refine r_get C hn go_10 inW_X12 19 (by decide) ⟨rfl, rfl, rfl⟩ (gW_of tm_5_69) (r_at 19 rfl g_10) dX12_printOnce_76 rfl ?_
          have xln_12 := hln.fr q9 (by decide)
          have xln_13 := xln_12.fr F_10 (by decide)
          refine m_callVi (pc' := 82) (As := [.int (nI (i + 1))]) (rest := []) C (kX12_charAt hI hn hn2 go_10 xln_13 (i := (i + 1)) (by omega)) (cwV 1 C.1.2.2.2.2 (goodV tm_5_213 tm_5_215 tp_52 tm_1_13 tm_5_216) rfl rfl rfl (by decide +kernel) ⟨by decide, by decide⟩) (by omega) go_10 rfl rfl rfl (Nat.le_of_ble_eq_true rfl) dX12_printOnce_79 rfl ⟨by decide, by decide⟩ (fun x_11 N_11 q_11 => ?_)
          obtain ⟨e_11, E_11⟩ := q_11
          replace E_11 := E_11.symm
          subst E_11
          replace e_11 := e_11.symm
          subst e_11
          refine m_bipush (pc' := 84) (v := nI 37) C dX12_printOnce_82 (by decide) rfl ?_
          refine m_icmp_ne (pc' := 87) (tgt := 106) C dX12_printOnce_84 (by decide) rfl (fun c_84 => ?_) (fun c_84 => ?_)
          · have n_84 : ¬ (T.getD (i + 1) 0) = 37 := fun q => c_84 ((nI_eq (by omega) (by omega)).mpr q)
            have hdok := pc_dir n_63 n_84 hne
            have hpc : pcI T i = nI (dP4 T (i + 1) + 1) := pcI_d n_63 n_84 hdok
            have hcl : (pcI T i).toNatClampNeg = dP4 T (i + 1) + 1 := by rw [hpc, nI_clamp (by omega)]
            have hfl2 : fltF T (80 - k) i = fltF T (80 - (k + 1)) (dP4 T (i + 1) + 1) := by rw [show 80 - k = (80 - (k + 1)) + 1 by omega]; exact fltF_s n_13 (by omega) hpc
            have hstep : oRun T xs cnt (80 - (k + 1) + 1) e i tk = ((dDir T xs cnt (i + 1) tk).1 ++ (oRun T xs cnt (80 - (k + 1)) (e || (dDir T xs cnt (i + 1) tk).2.2.2) (dP4 T (i + 1) + 1) (dDir T xs cnt (i + 1) tk).2.1).1, (oRun T xs cnt (80 - (k + 1)) (e || (dDir T xs cnt (i + 1) tk).2.2.2) (dP4 T (i + 1) + 1) (dDir T xs cnt (i + 1) tk).2.1).2.1, (dDir T xs cnt (i + 1) tk).2.2.1 + (oRun T xs cnt (80 - (k + 1)) (e || (dDir T xs cnt (i + 1) tk).2.2.2) (dP4 T (i + 1) + 1) (dDir T xs cnt (i + 1) tk).2.1).2.2.1, (oRun T xs cnt (80 - (k + 1)) (e || (dDir T xs cnt (i + 1) tk).2.2.2) (dP4 T (i + 1) + 1) (dDir T xs cnt (i + 1) tk).2.1).2.2.2) := by rw [oRun, if_neg hgo, if_neg hne, if_neg n_46, if_pos ⟨n_63, n_84⟩, hcl]
            refine m_aload_n (pc' := 107) C dX12_printOnce_106 rfl 1 rfl rfl ?_
            refine m_callVi (pc' := 110) (As := []) (rest := []) C (kX12_readDirective hI hn hn2 go_10 xln_13 g_10 (by omega)) (cwV 0 C.1.2.2.2.2 (goodV tm_5_223 tm_5_225 tp_53 tm_1_13 tm_5_226) rfl rfl rfl (by decide +kernel) ⟨by decide, by decide⟩) (by omega) go_10 rfl rfl rfl (Nat.le_of_ble_eq_true rfl) dX12_printOnce_107 rfl ⟨by decide, by decide⟩ (fun x_14 M14 q_14 => ?_)
            obtain ⟨e_14, pro_14, pf19_14, pf20_14, pf21_14, pf22_14, pf23_14, pf24_14, pf25_14, pf26_14, pf27_14, pf28_14, F_14⟩ := q_14
            replace e_14 := e_14.symm
            subst e_14
            refine m_pop (pc' := 111) C dX12_printOnce_110 rfl rfl ?_
            refine m_aload_n (pc' := 112) C dX12_printOnce_111 rfl 1 rfl rfl ?_
            have xra_15 := hra.fr q9 (by decide)
            have xra_16 := xra_15.fr F_10 (by decide)
            have xra_17 := xra_16.fr F_14 (by decide)
            have ff16_18 : M10 116 = gh (.int (nI (od + s))) := (F_10 116 (by decide)).trans q4
            have ff16_19 : M14 116 = gh (.int (nI (od + s))) := (F_14 116 (by decide)).trans ff16_18
            have ff17_20 : M10 117 = gh (.int (nI tk)) := (F_10 117 (by decide)).trans q3
            have ff17_21 : M14 117 = gh (.int (nI tk)) := (F_14 117 (by decide)).trans ff17_20
            have ff18_22 : M10 118 = gh (.int (bI e)) := (F_10 118 (by decide)).trans q2
            have ff18_23 : M14 118 = gh (.int (bI e)) := (F_14 118 (by decide)).trans ff18_22
            have xrw_24 := q6.fr F_10 (by decide)
            have xrw_25 := xrw_24.fr F_14 (by decide)
            have xdg_26 := q7.fr F_10 (by decide)
            have xdg_27 := xdg_26.fr F_14 (by decide)
            have xout_28 := q5.fr F_10 (by decide)
            have xout_29 := xout_28.fr F_14 (by decide)
            rw [rWd_eq] at pf25_14
            rw [rPc_eq] at pf26_14
            refine m_callVv (pc' := 115) (As := []) (rest := []) C (kX12_printDirective hI hn hn2 pro_14 xra_17 ff16_19 ff17_21 ff18_23 xrw_25 xdg_27 xout_29 pf20_14 pf21_14 pf22_14 pf23_14 pf24_14 pf25_14 pf26_14 pf27_14 pf28_14 (by omega) (lnB_in _ _) (by omega) (wdN_lt _ _) (prP_99 _ _)) (cwV 0 C.1.2.2.2.2 (goodV tm_6_3 tm_6_5 tp_58 tm_1_13 tm_6_6) rfl rfl rfl (by decide +kernel) ⟨by decide, by decide⟩) (by omega) pro_14 rfl rfl rfl (Nat.le_of_ble_eq_true rfl) dX12_printOnce_112 rfl ⟨by decide, by decide⟩ (fun M30 q_30 => ?_)
            obtain ⟨pro_30, pout_30, pf17_30, pf16_30, pf18_30, ⟨W_30, prw_30⟩, ⟨D_30, pdg_30⟩, F_30⟩ := q_30
            rw [← dir_ch hdok] at pout_30
            rw [← dir_ch hdok] at pf17_30
            rw [← dir_ch hdok] at pf16_30
            rw [← dir_ch hdok] at pf18_30
            change isOut cy M30 lim ((O ++ R) ++ (dDir T xs cnt (i + 1) tk).1) at pout_30
            refine m_goto (tgt := 5) C dX12_printOnce_115 (by decide) ?_
            have ff19_31 : M30 119 = gh (.int (nI (dP4 T (i + 1) + 1))) := (F_30 119 (by decide)).trans pf19_14
            refine m_lv [1] rfl ?_
            exact ih (k + 1, (dP4 T (i + 1) + 1), (dDir T xs cnt (i + 1) tk).2.1, s + (dDir T xs cnt (i + 1) tk).2.2.1, (e || (dDir T xs cnt (i + 1) tk).2.2.2), R ++ (dDir T xs cnt (i + 1) tk).1, M30) (⟨by rw [i1, show 80 - k = (80 - (k + 1)) + 1 by omega, hstep, List.append_assoc], by rw [i2, show 80 - k = (80 - (k + 1)) + 1 by omega, hstep], by rw [i3, show 80 - k = (80 - (k + 1)) + 1 by omega, hstep, Nat.add_assoc], by rw [i4, show 80 - k = (80 - (k + 1)) + 1 by omega, hstep], ⟨by (try dsimp only); omega, by (try dsimp only); omega, dRun_le i7, by (try dsimp only); rw [← hfl2]; exact i8⟩, pro_30, ff19_31, pf18_30, pf17_30, by (try dsimp only); rw [← Nat.add_assoc]; exact pf16_30, by (try dsimp only); rw [← List.append_assoc]; exact pout_30, ⟨_, prw_30⟩, ⟨_, pdg_30⟩, (((q9.tr (F_10.sub (by decide))).tr (F_14.sub (by decide))).tr (F_30.sub (by decide)))⟩) (by simp only; omega)
          · have n_84 : (T.getD (i + 1) 0) = 37 := (nI_eq (by omega) (by omega)).mp (Classical.not_not.mp c_84)
            have hpc : pcI T i = nI (i + 2) := pcI_p n_63 n_84
            have hcl : (pcI T i).toNatClampNeg = i + 2 := by rw [hpc, nI_clamp (by omega)]
            have hfl2 : fltF T (80 - k) i = fltF T (80 - (k + 1)) (i + 2) := by rw [show 80 - k = (80 - (k + 1)) + 1 by omega]; exact fltF_s n_13 (by omega) hpc
            have hstep : oRun T xs cnt (80 - (k + 1) + 1) e i tk = (T.getD i 0 :: (oRun T xs cnt (80 - (k + 1)) e (i + 2) tk).1, (oRun T xs cnt (80 - (k + 1)) e (i + 2) tk).2) := by rw [oRun, if_neg hgo, if_neg hne, if_neg n_46, if_neg (fun q => q.2 n_84), hcl]
            refine m_aload_n (pc' := 88) C dX12_printOnce_87 rfl 1 rfl rfl ?_
            refine m_dup (pc' := 89) C dX12_printOnce_88 rfl rfl ?_
            refine r_get C hn go_10 inW_X12 19 (by decide) ⟨rfl, rfl, rfl⟩ (gW_of tm_5_69) (r_at 19 rfl g_10) dX12_printOnce_89 rfl ?_
            refine m_iconst (pc' := 93) (v := nI 1) C dX12_printOnce_92 (by decide) rfl ?_
            refine m_iadd (pc' := 94) (v := nI (i + 2)) C dX12_printOnce_93 (nI_add _ _) rfl ?_
            refine r_put (ty := .int) C hn hn2 go_10 inW_X12 19 119 (by decide) rfl ⟨rfl, rfl, rfl, rfl⟩ (gW_of tm_5_69) (by decide +kernel) rfl rfl (fun _ => rfl) dX12_printOnce_94 rfl (fun M32 go_32 g_32 F_32 => ?_)
            refine m_aload_n (pc' := 98) C dX12_printOnce_97 rfl 1 rfl rfl ?_
            refine m_bipush (pc' := 100) (v := nI (T.getD i 0)) C dX12_printOnce_98 (by rw [n_63]; rfl) rfl ?_
            have xout_34 := q5.fr F_10 (by decide)
            have xout_35 := xout_34.fr F_32 (by decide)
            refine m_callVv (pc' := 103) (As := [.int (nI (T.getD i 0))]) (rest := []) C (kX12_put hI hn hn2 go_32 xout_35 (x := T.getD i 0) hc8) (cwV 1 C.1.2.2.2.2 (goodV tm_5_239 tm_6_1 tp_57 tm_1_13 tm_6_2) rfl rfl rfl (by decide +kernel) ⟨by decide, by decide⟩) (by omega) go_32 rfl rfl rfl (Nat.le_of_ble_eq_true rfl) dX12_printOnce_100 rfl ⟨by decide, by decide⟩ (fun M33 q_33 => ?_)
            obtain ⟨pro_33, pout_33, F_33⟩ := q_33
            refine m_goto (tgt := 115) C dX12_printOnce_103 (by decide) ?_
            refine m_goto (tgt := 5) C dX12_printOnce_115 (by decide) ?_
            have ff19_36 : M33 119 = gh (.int (nI (i + 2))) := (F_33 119 (by decide)).trans g_32
            have ff18_37 : M10 118 = gh (.int (bI e)) := (F_10 118 (by decide)).trans q2
            have ff18_38 : M32 118 = gh (.int (bI e)) := (F_32 118 (by decide)).trans ff18_37
            have ff18_39 : M33 118 = gh (.int (bI e)) := (F_33 118 (by decide)).trans ff18_38
            have ff17_40 : M10 117 = gh (.int (nI tk)) := (F_10 117 (by decide)).trans q3
            have ff17_41 : M32 117 = gh (.int (nI tk)) := (F_32 117 (by decide)).trans ff17_40
            have ff17_42 : M33 117 = gh (.int (nI tk)) := (F_33 117 (by decide)).trans ff17_41
            have ff16_43 : M10 116 = gh (.int (nI (od + s))) := (F_10 116 (by decide)).trans q4
            have ff16_44 : M32 116 = gh (.int (nI (od + s))) := (F_32 116 (by decide)).trans ff16_43
            have ff16_45 : M33 116 = gh (.int (nI (od + s))) := (F_33 116 (by decide)).trans ff16_44
            have xrw_46 := q6.fr F_10 (by decide)
            have xrw_47 := xrw_46.fr F_32 (by decide)
            have xrw_48 := xrw_47.fr F_33 (by decide)
            have xdg_49 := q7.fr F_10 (by decide)
            have xdg_50 := xdg_49.fr F_32 (by decide)
            have xdg_51 := xdg_50.fr F_33 (by decide)
            refine m_lv [1] rfl ?_
            exact ih (k + 1, (i + 2), tk, s, e, R ++ [T.getD i 0], M33) (⟨by rw [i1, show 80 - k = (80 - (k + 1)) + 1 by omega, hstep, app1], by rw [i2, show 80 - k = (80 - (k + 1)) + 1 by omega, hstep], by rw [i3, show 80 - k = (80 - (k + 1)) + 1 by omega, hstep], by rw [i4, show 80 - k = (80 - (k + 1)) + 1 by omega, hstep], ⟨by (try dsimp only); omega, by (try dsimp only); omega, i7, by (try dsimp only); rw [← hfl2]; exact i8⟩, pro_33, ff19_36, ff18_39, ff17_42, ff16_45, by (try dsimp only); rw [← List.append_assoc]; exact pout_33, ⟨_, xrw_48⟩, ⟨_, xdg_51⟩, (((q9.tr (F_10.sub (by decide))).tr (F_32.sub (by decide))).tr (F_33.sub (by decide)))⟩) (by simp only; omega)
        · have n_63 : ¬ (T.getD i 0) = 37 := fun q => c_63 ((nI_eq (by omega) (by omega)).mpr q)
          have hpc : pcI T i = nI (i + 1) := pcI_o n_46 n_63
          have hcl : (pcI T i).toNatClampNeg = i + 1 := by rw [hpc, nI_clamp (by omega)]
          have hfl2 : fltF T (80 - k) i = fltF T (80 - (k + 1)) (i + 1) := by rw [show 80 - k = (80 - (k + 1)) + 1 by omega]; exact fltF_s n_13 (by omega) hpc
          have hstep : oRun T xs cnt (80 - (k + 1) + 1) e i tk = (T.getD i 0 :: (oRun T xs cnt (80 - (k + 1)) e (i + 1) tk).1, (oRun T xs cnt (80 - (k + 1)) e (i + 1) tk).2) := by rw [oRun, if_neg hgo, if_neg hne, if_neg n_46, if_neg (fun q => n_63 q.1), hcl]
          refine m_aload_n (pc' := 67) C dX12_printOnce_66 rfl 1 rfl rfl ?_
          refine m_iload_n (pc' := 68) C dX12_printOnce_67 rfl 0 rfl rfl ?_
          have xout_53 := q5.fr F_10 (by decide)
          refine m_callVv (pc' := 71) (As := [.int (nI (T.getD i 0))]) (rest := []) C (kX12_put hI hn hn2 go_10 xout_53 (x := T.getD i 0) hc8) (cwV 1 C.1.2.2.2.2 (goodV tm_5_239 tm_6_1 tp_57 tm_1_13 tm_6_2) rfl rfl rfl (by decide +kernel) ⟨by decide, by decide⟩) (by omega) go_10 rfl rfl rfl (Nat.le_of_ble_eq_true rfl) dX12_printOnce_68 rfl ⟨by decide, by decide⟩ (fun M52 q_52 => ?_)
          obtain ⟨pro_52, pout_52, F_52⟩ := q_52
          refine m_goto (tgt := 115) C dX12_printOnce_71 (by decide) ?_
          refine m_goto (tgt := 5) C dX12_printOnce_115 (by decide) ?_
          have ff19_54 : M52 119 = gh (.int (nI (i + 1))) := (F_52 119 (by decide)).trans g_10
          have ff18_55 : M10 118 = gh (.int (bI e)) := (F_10 118 (by decide)).trans q2
          have ff18_56 : M52 118 = gh (.int (bI e)) := (F_52 118 (by decide)).trans ff18_55
          have ff17_57 : M10 117 = gh (.int (nI tk)) := (F_10 117 (by decide)).trans q3
          have ff17_58 : M52 117 = gh (.int (nI tk)) := (F_52 117 (by decide)).trans ff17_57
          have ff16_59 : M10 116 = gh (.int (nI (od + s))) := (F_10 116 (by decide)).trans q4
          have ff16_60 : M52 116 = gh (.int (nI (od + s))) := (F_52 116 (by decide)).trans ff16_59
          have xrw_61 := q6.fr F_10 (by decide)
          have xrw_62 := xrw_61.fr F_52 (by decide)
          have xdg_63 := q7.fr F_10 (by decide)
          have xdg_64 := xdg_63.fr F_52 (by decide)
          refine m_lv [1] rfl ?_
          exact ih (k + 1, (i + 1), tk, s, e, R ++ [T.getD i 0], M52) (⟨by rw [i1, show 80 - k = (80 - (k + 1)) + 1 by omega, hstep, app1], by rw [i2, show 80 - k = (80 - (k + 1)) + 1 by omega, hstep], by rw [i3, show 80 - k = (80 - (k + 1)) + 1 by omega, hstep], by rw [i4, show 80 - k = (80 - (k + 1)) + 1 by omega, hstep], ⟨by (try dsimp only); omega, by (try dsimp only); omega, i7, by (try dsimp only); rw [← hfl2]; exact i8⟩, pro_52, ff19_54, ff18_56, ff17_58, ff16_60, by (try dsimp only); rw [← List.append_assoc]; exact pout_52, ⟨_, xrw_62⟩, ⟨_, xdg_64⟩, ((q9.tr (F_10.sub (by decide))).tr (F_52.sub (by decide)))⟩) (by simp only; omega)
      · have n_46 : (T.getD i 0) = 92 := (nI_eq (by omega) (by omega)).mp (Classical.not_not.mp c_46)
        have hok := pc_esc n_46 hne
        have hpc : pcI T i = nI (rEe T (i + 1)) := pcI_e n_46 hok
        have hcl : (pcI T i).toNatClampNeg = rEe T (i + 1) := by rw [hpc, nI_clamp (by omega)]
        have hfl2 : fltF T (80 - k) i = fltF T (80 - (k + 1)) (rEe T (i + 1)) := by rw [show 80 - k = (80 - (k + 1)) + 1 by omega]; exact fltF_s n_13 (by omega) hpc
        have hstep : oRun T xs cnt (80 - (k + 1) + 1) e i tk = ((escV T (i + 1) % 256) :: (oRun T xs cnt (80 - (k + 1)) e (rEe T (i + 1)) tk).1, (oRun T xs cnt (80 - (k + 1)) e (rEe T (i + 1)) tk).2) := by rw [oRun, if_neg hgo, if_neg hne, if_pos n_46, hcl]
        refine m_aload_n (pc' := 50) C dX12_printOnce_49 rfl 1 rfl rfl ?_
        refine m_aload_n (pc' := 51) C dX12_printOnce_50 rfl 1 rfl rfl ?_
        have xln_66 := hln.fr q9 (by decide)
        have xln_67 := xln_66.fr F_10 (by decide)
        refine m_callVi (pc' := 54) (As := []) (rest := [.ref (ad 52)]) C (kX12_readEscape hI hn hn2 go_10 xln_67 g_10 (by omega)) (cwV 0 C.1.2.2.2.2 (goodV tm_5_209 tm_5_211 tp_51 tm_1_13 tm_5_212) rfl rfl rfl (by decide +kernel) ⟨by decide, by decide⟩) (by omega) go_10 rfl rfl rfl (Nat.le_of_ble_eq_true rfl) dX12_printOnce_51 rfl ⟨by decide, by decide⟩ (fun x_65 M65 q_65 => ?_)
        obtain ⟨e_65, pro_65, pf19_65, F_65⟩ := q_65
        replace e_65 : x_65 = nI (escV T (i + 1) % 256) := e_65.trans (rE_ok hok).1
        replace e_65 := e_65.symm
        subst e_65
        have xout_69 := q5.fr F_10 (by decide)
        have xout_70 := xout_69.fr F_65 (by decide)
        refine m_callVv (pc' := 57) (As := [.int (nI (escV T (i + 1) % 256))]) (rest := []) C (kX12_put hI hn hn2 pro_65 xout_70 (x := (escV T (i + 1) % 256)) (by first | decide | omega)) (cwV 1 C.1.2.2.2.2 (goodV tm_5_239 tm_6_1 tp_57 tm_1_13 tm_6_2) rfl rfl rfl (by decide +kernel) ⟨by decide, by decide⟩) (by omega) pro_65 rfl rfl rfl (Nat.le_of_ble_eq_true rfl) dX12_printOnce_54 rfl ⟨by decide, by decide⟩ (fun M68 q_68 => ?_)
        obtain ⟨pro_68, pout_68, F_68⟩ := q_68
        refine m_goto (tgt := 115) C dX12_printOnce_57 (by decide) ?_
        refine m_goto (tgt := 5) C dX12_printOnce_115 (by decide) ?_
        have ff19_71 : M68 119 = gh (.int (nI (rEe T (i + 1)))) := (F_68 119 (by decide)).trans pf19_65
        have ff18_72 : M10 118 = gh (.int (bI e)) := (F_10 118 (by decide)).trans q2
        have ff18_73 : M65 118 = gh (.int (bI e)) := (F_65 118 (by decide)).trans ff18_72
        have ff18_74 : M68 118 = gh (.int (bI e)) := (F_68 118 (by decide)).trans ff18_73
        have ff17_75 : M10 117 = gh (.int (nI tk)) := (F_10 117 (by decide)).trans q3
        have ff17_76 : M65 117 = gh (.int (nI tk)) := (F_65 117 (by decide)).trans ff17_75
        have ff17_77 : M68 117 = gh (.int (nI tk)) := (F_68 117 (by decide)).trans ff17_76
        have ff16_78 : M10 116 = gh (.int (nI (od + s))) := (F_10 116 (by decide)).trans q4
        have ff16_79 : M65 116 = gh (.int (nI (od + s))) := (F_65 116 (by decide)).trans ff16_78
        have ff16_80 : M68 116 = gh (.int (nI (od + s))) := (F_68 116 (by decide)).trans ff16_79
        have xrw_81 := q6.fr F_10 (by decide)
        have xrw_82 := xrw_81.fr F_65 (by decide)
        have xrw_83 := xrw_82.fr F_68 (by decide)
        have xdg_84 := q7.fr F_10 (by decide)
        have xdg_85 := xdg_84.fr F_65 (by decide)
        have xdg_86 := xdg_85.fr F_68 (by decide)
        refine m_lv [1] rfl ?_
        exact ih (k + 1, (rEe T (i + 1)), tk, s, e, R ++ [escV T (i + 1) % 256], M68) (⟨by rw [i1, show 80 - k = (80 - (k + 1)) + 1 by omega, hstep, app1], by rw [i2, show 80 - k = (80 - (k + 1)) + 1 by omega, hstep], by rw [i3, show 80 - k = (80 - (k + 1)) + 1 by omega, hstep], by rw [i4, show 80 - k = (80 - (k + 1)) + 1 by omega, hstep], ⟨by (try dsimp only); omega, by (try dsimp only); omega, i7, by (try dsimp only); rw [← hfl2]; exact i8⟩, pro_68, ff19_71, ff18_74, ff17_77, ff16_80, by (try dsimp only); rw [← List.append_assoc]; exact pout_68, ⟨_, xrw_83⟩, ⟨_, xdg_86⟩, (((q9.tr (F_10.sub (by decide))).tr (F_65.sub (by decide))).tr (F_68.sub (by decide)))⟩) (by simp only; omega)
set_option maxHeartbeats 4000000 in
set_option maxRecDepth 100000 in
theorem kX12_print {l : Launch} {D : va_G} {cy : Nat → ClassId} {ad : Nat → Nat} {n : Nat} {A : Nat → Prop} (hI : mI ad n A) {M : Nat → va_E} (hn : 63 ≤ n) (hn2 : n ≤ 100) {T : List Nat} {xs : Nat → Arg} {cnt lim : Nat} {O B : List Nat} {fp ot : Int32} (hM : isM cy ad M T xs cnt lim O B fp ot)  : mMi l yX12_print (gW yX12_print cX12_print 3 (some .int)) { frames := 6, cells := 0, slots := 0, locals := 146 } D cy ad n A [.ref (ad 52)] M (fun res M' => res = ptI T xs cnt lim ∧ M' 100 = gh (.int (nI (0))) ∧ isM cy ad M' T xs cnt lim (ptO T xs cnt lim O) B (fltI (fltF T 80 0)) (ptN T xs cnt lim ot) ∧ Fr refS M M') := by
  obtain ⟨hro, hln, hra, hout, hby, h14, h15, ⟨W, hrw⟩, ⟨L, hdg⟩, gf, hfd⟩ := hM
  obtain ⟨t1, t2, t3, t4, g, t5, t6⟩ := id hln
  have tl : T.length ≤ 80 := hln.2.2.2.1
  refine m_entry (cc := cX12_print) (maxL := 3) (ret := (some .int)) (own := RX12) (lv := [(0, .ref (ad 52))]) hI (by decide) rfl rfl (Nat.le_of_ble_eq_true rfl) rfl (fun pX eX sX mX aX bX tX cX C hrt0 hlk0 => ?_)
  refine m_aload_n (pc' := 1) C dX12_print_0 rfl 0 rfl rfl ?_
  refine m_iconst (pc' := 2) (v := nI 0) C dX12_print_1 (by decide) rfl ?_
  refine r_put (ty := .int) C hn hn2 hro inW_X12 0 100 (by decide) rfl ⟨rfl, rfl, rfl, rfl⟩ (gW_of tm_5_50) (by decide +kernel) rfl rfl (fun _ => rfl) dX12_print_2 rfl (fun M1 go_1 g_1 F_1 => ?_)
  refine m_aload_n (pc' := 6) C dX12_print_5 rfl 0 rfl rfl ?_
  refine m_aload_n (pc' := 7) C dX12_print_6 rfl 0 rfl rfl ?_
  have xln_3 := hln.fr F_1 (by decide)
  refine m_callVi (pc' := 10) (As := []) (rest := [.ref (ad 52)]) C (kX12_badAt hI hn hn2 go_1 xln_3 ) (cwV 0 C.1.2.2.2.2 (goodV tm_5_205 tm_5_207 tp_50 tm_1_13 tm_5_208) rfl rfl rfl (by decide +kernel) ⟨by decide, by decide⟩) (by omega) go_1 rfl rfl rfl (Nat.le_of_ble_eq_true rfl) dX12_print_7 rfl ⟨by decide, by decide⟩ (fun x_2 M2 q_2 => ?_)
  obtain ⟨e_2, pro_2, F_2⟩ := q_2
  replace e_2 := e_2.symm
  subst e_2
  refine r_put (ty := .int) C hn hn2 pro_2 inW_X12 14 114 (by decide) rfl ⟨rfl, rfl, rfl, rfl⟩ (gW_of tm_5_64) (by decide +kernel) rfl rfl (fun _ => rfl) dX12_print_10 rfl (fun M4 go_4 g_4 F_4 => ?_)
  refine m_aload_n (pc' := 14) C dX12_print_13 rfl 0 rfl rfl ?_
  refine r_get C hn go_4 inW_X12 14 (by decide) ⟨rfl, rfl, rfl⟩ (gW_of tm_5_64) (r_at 14 rfl g_4) dX12_print_14 rfl ?_
  refine m_if_lt (pc' := 20) (tgt := 23) C dX12_print_17 (by decide) rfl (fun c_17 => ?_) (fun c_17 => ?_)
  · have hflt : fltF T 80 0 = none := (flt_lt0 tl).mp c_17
    refine m_aload_n (pc' := 24) C dX12_print_23 rfl 0 rfl rfl ?_
    have xoutR_6 := hout.fr F_1 (by decide)
    have xoutR_7 := xoutR_6.fr F_2 (by decide)
    have xoutR_8 := xoutR_7.fr F_4 (by decide)
    refine m_callVv (pc' := 27) (As := []) (rest := []) C (kX12_begin hI hn hn2 go_4 xoutR_8 ) (cwV 0 C.1.2.2.2.2 (goodV tm_5_231 tm_5_233 tp_55 tm_1_13 tm_5_234) rfl rfl rfl (by decide +kernel) ⟨by decide, by decide⟩) (by omega) go_4 rfl rfl rfl (Nat.le_of_ble_eq_true rfl) dX12_print_24 rfl ⟨by decide, by decide⟩ (fun M5 q_5 => ?_)
    obtain ⟨pro_5, pout_5, F_5⟩ := q_5
    refine m_aload_n (pc' := 28) C dX12_print_27 rfl 0 rfl rfl ?_
    refine m_iconst (pc' := 29) (v := nI 0) C dX12_print_28 (by decide) rfl ?_
    refine r_put (ty := .int) C hn hn2 pro_5 inW_X12 17 117 (by decide) rfl ⟨rfl, rfl, rfl, rfl⟩ (gW_of tm_5_67) (by decide +kernel) rfl rfl (fun _ => rfl) dX12_print_29 rfl (fun M9 go_9 g_9 F_9 => ?_)
    refine m_aload_n (pc' := 33) C dX12_print_32 rfl 0 rfl rfl ?_
    refine m_iconst (pc' := 34) (v := bI false) C dX12_print_33 (by decide) rfl ?_
    refine r_put (ty := .boolean) C hn hn2 go_9 inW_X12 18 118 (by decide) rfl ⟨rfl, rfl, rfl, rfl⟩ (gW_of tm_5_68) (by decide +kernel) (nar_z _) (fit_z _) (fun _ => rfl) dX12_print_34 rfl (fun M10 go_10 g_10 F_10 => ?_)
    refine m_aload_n (pc' := 38) C dX12_print_37 rfl 0 rfl rfl ?_
    refine m_iconst (pc' := 39) (v := nI 0) C dX12_print_38 (by decide) rfl ?_
    refine r_put (ty := .int) C hn hn2 go_10 inW_X12 16 116 (by decide) rfl ⟨rfl, rfl, rfl, rfl⟩ (gW_of tm_5_66) (by decide +kernel) rfl rfl (fun _ => rfl) dX12_print_39 rfl (fun M11 go_11 g_11 F_11 => ?_)
    refine m_iconst (pc' := 43) (v := bI true) C dX12_print_42 (by decide) rfl ?_
    refine m_istore_n (pc' := 44) (lv' := [(1, .int (bI true)), (0, .ref (ad 52))]) C dX12_print_43 rfl (by decide) rfl rfl ?_
    refine m_lv [1, 0] rfl ?_
    have ff18_12 : M11 118 = gh (.int (bI false)) := (F_11 118 (by decide)).trans g_10
    have ff17_13 : M10 117 = gh (.int (nI 0)) := (F_10 117 (by decide)).trans g_9
    have ff17_14 : M11 117 = gh (.int (nI 0)) := (F_11 117 (by decide)).trans ff17_13
    have xout_15 := pout_5.fr F_9 (by decide)
    have xout_16 := xout_15.fr F_10 (by decide)
    have xout_17 := xout_16.fr F_11 (by decide)
    have xrw_18 := hrw.fr F_1 (by decide)
    have xrw_19 := xrw_18.fr F_2 (by decide)
    have xrw_20 := xrw_19.fr F_4 (by decide)
    have xrw_21 := xrw_20.fr F_5 (by decide)
    have xrw_22 := xrw_21.fr F_9 (by decide)
    have xrw_23 := xrw_22.fr F_10 (by decide)
    have xrw_24 := xrw_23.fr F_11 (by decide)
    have xdg_25 := hdg.fr F_1 (by decide)
    have xdg_26 := xdg_25.fr F_2 (by decide)
    have xdg_27 := xdg_26.fr F_4 (by decide)
    have xdg_28 := xdg_27.fr F_5 (by decide)
    have xdg_29 := xdg_28.fr F_9 (by decide)
    have xdg_30 := xdg_29.fr F_10 (by decide)
    have xdg_31 := xdg_30.fr F_11 (by decide)
    have ff0_32 : M2 100 = gh (.int (nI 0)) := (F_2 100 (by decide)).trans g_1
    have ff0_33 : M4 100 = gh (.int (nI 0)) := (F_4 100 (by decide)).trans ff0_32
    have ff0_34 : M5 100 = gh (.int (nI 0)) := (F_5 100 (by decide)).trans ff0_33
    have ff0_35 : M9 100 = gh (.int (nI 0)) := (F_9 100 (by decide)).trans ff0_34
    have ff0_36 : M10 100 = gh (.int (nI 0)) := (F_10 100 (by decide)).trans ff0_35
    have ff0_37 : M11 100 = gh (.int (nI 0)) := (F_11 100 (by decide)).trans ff0_36
    have ff14_38 : M5 114 = gh (.int (fltI (fltF T 80 0))) := (F_5 114 (by decide)).trans g_4
    have ff14_39 : M9 114 = gh (.int (fltI (fltF T 80 0))) := (F_9 114 (by decide)).trans ff14_38
    have ff14_40 : M10 114 = gh (.int (fltI (fltF T 80 0))) := (F_10 114 (by decide)).trans ff14_39
    have ff14_41 : M11 114 = gh (.int (fltI (fltF T 80 0))) := (F_11 114 (by decide)).trans ff14_40
    refine m_loop (σ := Nat × Nat × Nat × Bool × List Nat × Bool × (Nat → va_E)) (fun a => a.2.2.2.2.2.2) (fun a => [(0, .ref (ad 52)), (1, .int (bI a.2.2.2.2.2.1))]) (fun a => (pRun T xs cnt 9 0).1 = a.2.2.2.2.1 ++ (if (a.2.2.2.2.2.1 && !a.2.2.2.1) = true then (pRun T xs cnt (9 - a.1) a.2.1).1 else []) ∧ (pRun T xs cnt 9 0).2.1 = a.2.2.1 + (if (a.2.2.2.2.2.1 && !a.2.2.2.1) = true then (pRun T xs cnt (9 - a.1) a.2.1).2.1 else 0) ∧ (a.2.1 ≤ cnt ∧ (a.2.2.2.2.2.1 = true → a.1 ≤ a.2.1 ∧ (a.1 = 0 ∨ a.2.1 < cnt))) ∧ rO ad a.2.2.2.2.2.2 ∧ a.2.2.2.2.2.2 118 = gh (.int (bI a.2.2.2.1)) ∧ a.2.2.2.2.2.2 117 = gh (.int (nI a.2.1)) ∧ a.2.2.2.2.2.2 116 = gh (.int (nI a.2.2.1)) ∧ isOut cy a.2.2.2.2.2.2 lim a.2.2.2.2.1 ∧ (∃ W, isRw cy a.2.2.2.2.2.2 W) ∧ (∃ D, isDg cy a.2.2.2.2.2.2 D) ∧ a.2.2.2.2.2.2 100 = gh (.int (nI 0)) ∧ a.2.2.2.2.2.2 114 = gh (.int (fltI (fltF T 80 0))) ∧ Fr [52, 59, 60, 61, 100, 111, 113, 114, 116, 117, 118, 119, 120, 121, 122, 123, 124, 125, 126, 127, 128, 130, 132] M a.2.2.2.2.2.2) (fun a => if a.2.2.2.2.2.1 = true then 1 + (cnt - a.2.1) else 0) (0, 0, 0, false, [], true, M11) (⟨rfl, by dsimp only; rw [Nat.zero_add]; rfl, ⟨Nat.zero_le _, fun _ => ⟨Nat.le_refl _, Or.inl rfl⟩⟩, go_11, ff18_12, ff17_14, g_11, xout_17, ⟨_, xrw_24⟩, ⟨_, xdg_31⟩, ff0_37, ff14_41, (((((((F_1.sub (by decide)).tr (F_2.sub (by decide))).tr (F_4.sub (by decide))).tr (F_5.sub (by decide))).tr (F_9.sub (by decide))).tr (F_10.sub (by decide))).tr (F_11.sub (by decide)))⟩) ?_
    rintro ⟨f, tk, s, e, R, mr, Mk⟩ hinv ih
    dsimp only at hinv ih ⊢
    obtain ⟨i1, i2, ⟨i6, i7⟩, q0, q2, q3, q4, q5, ⟨W, q6⟩, ⟨L, q7⟩, q10, q11, q9⟩ := hinv
    refine m_iload_n (pc' := 45) C dX12_print_44 rfl 1 rfl rfl ?_
    refine m_if_eq (pc' := 48) (tgt := 92) C dX12_print_45 (by decide) rfl (fun c_45 => ?_) (fun c_45 => ?_)
    · have hR : (pRun T xs cnt 9 0).1 = R := by rw [i1, if_neg (by rw [(bI_0 _).mp c_45]; simp)]; exact List.append_nil _
      have hS : (pRun T xs cnt 9 0).2.1 = s := by rw [i2, if_neg (by rw [(bI_0 _).mp c_45]; simp), Nat.add_zero]
      refine m_aload_n (pc' := 93) C dX12_print_92 rfl 0 rfl rfl ?_
      refine r_get C hn q0 inW_X12 13 (by decide) ⟨rfl, rfl, rfl⟩ (gW_of tm_5_63) (r_at 13 rfl q5.2.2.2.2.1) dX12_print_93 rfl ?_
      refine m_if_ne (pc' := 99) (tgt := 107) C dX12_print_96 (by decide) rfl (fun c_96 => ?_) (fun c_96 => ?_)
      · have hov := of_decide_eq_true (ts_of c_96)
        refine m_aload_n (pc' := 108) C dX12_print_107 rfl 0 rfl rfl ?_
        refine m_callVi (pc' := 111) (As := []) (rest := []) C (kX12_end hI hn hn2 q0 q5 ) (cwV 0 C.1.2.2.2.2 (goodV tm_6_68 tm_6_70 tp_71 tm_1_13 tm_6_71) rfl rfl rfl (by decide +kernel) ⟨by decide, by decide⟩) (by omega) q0 rfl rfl rfl (Nat.le_of_ble_eq_true rfl) dX12_print_108 rfl ⟨by decide, by decide⟩ (fun x_42 M42 q_42 => ?_)
        obtain ⟨e_42, pro_42, poutR_42, F_42⟩ := q_42
        replace e_42 := e_42.symm
        subst e_42
        refine m_iret C hrt0 hlk0 rfl dX12_print_111 ?_
        have xln_43 := hln.fr q9 (by decide)
        have xln_44 := xln_43.fr F_42 (by decide)
        have xra_45 := hra.fr q9 (by decide)
        have xra_46 := xra_45.fr F_42 (by decide)
        have xby_47 := hby.fr q9 (by decide)
        have xby_48 := xby_47.fr F_42 (by decide)
        have ff14_49 : M42 114 = gh (.int (fltI (fltF T 80 0))) := (F_42 114 (by decide)).trans q11
        have ff15_50 : Mk 115 = gh (.int (ot)) := (q9 115 (by decide)).trans h15
        have ff15_51 : M42 115 = gh (.int (ot)) := (F_42 115 (by decide)).trans ff15_50
        have xrw_52 := q6.fr F_42 (by decide)
        have xdg_53 := q7.fr F_42 (by decide)
        have f62_54 : Mk 62 = .inl (cy 1, 2000, .inl (fun i => nI (gf i))) := (q9 62 (by decide)).trans hfd
        have f62_55 : M42 62 = .inl (cy 1, 2000, .inl (fun i => nI (gf i))) := (F_42 62 (by decide)).trans f62_54
        have ff0_56 : M42 100 = gh (.int (nI 0)) := (F_42 100 (by decide)).trans q10
        unfold ptI ptO ptN
        rw [if_pos hflt, if_pos hflt, hR, hS, if_neg (fun q => q.2 hov)]
        exact ⟨rfl, ff0_56, ⟨pro_42, xln_44, xra_46, poutR_42, xby_48, ff14_49, ff15_51, ⟨_, xrw_52⟩, ⟨_, xdg_53⟩, ⟨_, f62_55⟩⟩, ((q9.sub (by decide)).tr (F_42.sub (by decide)))⟩
      · have hov : ¬ lim < R.length := of_decide_eq_false ((bI_0 _).mp (Classical.not_not.mp c_96))
        refine m_aload_n (pc' := 100) C dX12_print_99 rfl 0 rfl rfl ?_
        refine m_aload_n (pc' := 101) C dX12_print_100 rfl 0 rfl rfl ?_
        refine r_get C hn q0 inW_X12 16 (by decide) ⟨rfl, rfl, rfl⟩ (gW_of tm_5_66) (r_at 16 rfl q4) dX12_print_101 rfl ?_
        refine r_put (ty := .int) C hn hn2 q0 inW_X12 15 115 (by decide) rfl ⟨rfl, rfl, rfl, rfl⟩ (gW_of tm_5_65) (by decide +kernel) rfl rfl (fun _ => rfl) dX12_print_104 rfl (fun M57 go_57 g_57 F_57 => ?_)
        refine m_aload_n (pc' := 108) C dX12_print_107 rfl 0 rfl rfl ?_
        have xout_59 := q5.fr F_57 (by decide)
        refine m_callVi (pc' := 111) (As := []) (rest := []) C (kX12_end hI hn hn2 go_57 xout_59 ) (cwV 0 C.1.2.2.2.2 (goodV tm_6_68 tm_6_70 tp_71 tm_1_13 tm_6_71) rfl rfl rfl (by decide +kernel) ⟨by decide, by decide⟩) (by omega) go_57 rfl rfl rfl (Nat.le_of_ble_eq_true rfl) dX12_print_108 rfl ⟨by decide, by decide⟩ (fun x_58 M58 q_58 => ?_)
        obtain ⟨e_58, pro_58, poutR_58, F_58⟩ := q_58
        replace e_58 := e_58.symm
        subst e_58
        refine m_iret C hrt0 hlk0 rfl dX12_print_111 ?_
        have xln_60 := hln.fr q9 (by decide)
        have xln_61 := xln_60.fr F_57 (by decide)
        have xln_62 := xln_61.fr F_58 (by decide)
        have xra_63 := hra.fr q9 (by decide)
        have xra_64 := xra_63.fr F_57 (by decide)
        have xra_65 := xra_64.fr F_58 (by decide)
        have xby_66 := hby.fr q9 (by decide)
        have xby_67 := xby_66.fr F_57 (by decide)
        have xby_68 := xby_67.fr F_58 (by decide)
        have ff14_69 : M57 114 = gh (.int (fltI (fltF T 80 0))) := (F_57 114 (by decide)).trans q11
        have ff14_70 : M58 114 = gh (.int (fltI (fltF T 80 0))) := (F_58 114 (by decide)).trans ff14_69
        have ff15_71 : M58 115 = gh (.int (nI s)) := (F_58 115 (by decide)).trans g_57
        have xrw_72 := q6.fr F_57 (by decide)
        have xrw_73 := xrw_72.fr F_58 (by decide)
        have xdg_74 := q7.fr F_57 (by decide)
        have xdg_75 := xdg_74.fr F_58 (by decide)
        have f62_76 : Mk 62 = .inl (cy 1, 2000, .inl (fun i => nI (gf i))) := (q9 62 (by decide)).trans hfd
        have f62_77 : M57 62 = .inl (cy 1, 2000, .inl (fun i => nI (gf i))) := (F_57 62 (by decide)).trans f62_76
        have f62_78 : M58 62 = .inl (cy 1, 2000, .inl (fun i => nI (gf i))) := (F_58 62 (by decide)).trans f62_77
        have ff0_79 : M57 100 = gh (.int (nI 0)) := (F_57 100 (by decide)).trans q10
        have ff0_80 : M58 100 = gh (.int (nI 0)) := (F_58 100 (by decide)).trans ff0_79
        unfold ptI ptO ptN
        rw [if_pos hflt, if_pos hflt, hR, hS, if_pos ⟨hflt, hov⟩]
        exact ⟨rfl, ff0_80, ⟨pro_58, xln_62, xra_65, poutR_58, xby_68, ff14_70, ff15_71, ⟨_, xrw_73⟩, ⟨_, xdg_75⟩, ⟨_, f62_78⟩⟩, (((q9.sub (by decide)).tr (F_57.sub (by decide))).tr (F_58.sub (by decide)))⟩
    · refine m_aload_n (pc' := 49) C dX12_print_48 rfl 0 rfl rfl ?_
      refine r_get C hn q0 inW_X12 18 (by decide) ⟨rfl, rfl, rfl⟩ (gW_of tm_5_68) (r_at 18 rfl q2) dX12_print_49 rfl ?_
      refine m_if_ne (pc' := 55) (tgt := 92) C dX12_print_52 (by decide) rfl (fun c_52 => ?_) (fun c_52 => ?_)
      · have hR : (pRun T xs cnt 9 0).1 = R := by rw [i1, if_neg (by rw [ts_of c_52, Bool.not_true, Bool.and_false]; decide)]; exact List.append_nil _
        have hS : (pRun T xs cnt 9 0).2.1 = s := by rw [i2, if_neg (by rw [ts_of c_52, Bool.not_true, Bool.and_false]; decide), Nat.add_zero]
        refine m_aload_n (pc' := 93) C dX12_print_92 rfl 0 rfl rfl ?_
        refine r_get C hn q0 inW_X12 13 (by decide) ⟨rfl, rfl, rfl⟩ (gW_of tm_5_63) (r_at 13 rfl q5.2.2.2.2.1) dX12_print_93 rfl ?_
        refine m_if_ne (pc' := 99) (tgt := 107) C dX12_print_96 (by decide) rfl (fun c_96 => ?_) (fun c_96 => ?_)
        · have hov := of_decide_eq_true (ts_of c_96)
          refine m_aload_n (pc' := 108) C dX12_print_107 rfl 0 rfl rfl ?_
          refine m_callVi (pc' := 111) (As := []) (rest := []) C (kX12_end hI hn hn2 q0 q5 ) (cwV 0 C.1.2.2.2.2 (goodV tm_6_68 tm_6_70 tp_71 tm_1_13 tm_6_71) rfl rfl rfl (by decide +kernel) ⟨by decide, by decide⟩) (by omega) q0 rfl rfl rfl (Nat.le_of_ble_eq_true rfl) dX12_print_108 rfl ⟨by decide, by decide⟩ (fun x_81 M81 q_81 => ?_)
          obtain ⟨e_81, pro_81, poutR_81, F_81⟩ := q_81
          replace e_81 := e_81.symm
          subst e_81
          refine m_iret C hrt0 hlk0 rfl dX12_print_111 ?_
          have xln_82 := hln.fr q9 (by decide)
          have xln_83 := xln_82.fr F_81 (by decide)
          have xra_84 := hra.fr q9 (by decide)
          have xra_85 := xra_84.fr F_81 (by decide)
          have xby_86 := hby.fr q9 (by decide)
          have xby_87 := xby_86.fr F_81 (by decide)
          have ff14_88 : M81 114 = gh (.int (fltI (fltF T 80 0))) := (F_81 114 (by decide)).trans q11
          have ff15_89 : Mk 115 = gh (.int (ot)) := (q9 115 (by decide)).trans h15
          have ff15_90 : M81 115 = gh (.int (ot)) := (F_81 115 (by decide)).trans ff15_89
          have xrw_91 := q6.fr F_81 (by decide)
          have xdg_92 := q7.fr F_81 (by decide)
          have f62_93 : Mk 62 = .inl (cy 1, 2000, .inl (fun i => nI (gf i))) := (q9 62 (by decide)).trans hfd
          have f62_94 : M81 62 = .inl (cy 1, 2000, .inl (fun i => nI (gf i))) := (F_81 62 (by decide)).trans f62_93
          have ff0_95 : M81 100 = gh (.int (nI 0)) := (F_81 100 (by decide)).trans q10
          unfold ptI ptO ptN
          rw [if_pos hflt, if_pos hflt, hR, hS, if_neg (fun q => q.2 hov)]
          exact ⟨rfl, ff0_95, ⟨pro_81, xln_83, xra_85, poutR_81, xby_87, ff14_88, ff15_90, ⟨_, xrw_91⟩, ⟨_, xdg_92⟩, ⟨_, f62_94⟩⟩, ((q9.sub (by decide)).tr (F_81.sub (by decide)))⟩
        · have hov : ¬ lim < R.length := of_decide_eq_false ((bI_0 _).mp (Classical.not_not.mp c_96))
          refine m_aload_n (pc' := 100) C dX12_print_99 rfl 0 rfl rfl ?_
          refine m_aload_n (pc' := 101) C dX12_print_100 rfl 0 rfl rfl ?_
          refine r_get C hn q0 inW_X12 16 (by decide) ⟨rfl, rfl, rfl⟩ (gW_of tm_5_66) (r_at 16 rfl q4) dX12_print_101 rfl ?_
          refine r_put (ty := .int) C hn hn2 q0 inW_X12 15 115 (by decide) rfl ⟨rfl, rfl, rfl, rfl⟩ (gW_of tm_5_65) (by decide +kernel) rfl rfl (fun _ => rfl) dX12_print_104 rfl (fun M96 go_96 g_96 F_96 => ?_)
          refine m_aload_n (pc' := 108) C dX12_print_107 rfl 0 rfl rfl ?_
          have xout_98 := q5.fr F_96 (by decide)
          refine m_callVi (pc' := 111) (As := []) (rest := []) C (kX12_end hI hn hn2 go_96 xout_98 ) (cwV 0 C.1.2.2.2.2 (goodV tm_6_68 tm_6_70 tp_71 tm_1_13 tm_6_71) rfl rfl rfl (by decide +kernel) ⟨by decide, by decide⟩) (by omega) go_96 rfl rfl rfl (Nat.le_of_ble_eq_true rfl) dX12_print_108 rfl ⟨by decide, by decide⟩ (fun x_97 M97 q_97 => ?_)
          obtain ⟨e_97, pro_97, poutR_97, F_97⟩ := q_97
          replace e_97 := e_97.symm
          subst e_97
          refine m_iret C hrt0 hlk0 rfl dX12_print_111 ?_
          have xln_99 := hln.fr q9 (by decide)
          have xln_100 := xln_99.fr F_96 (by decide)
          have xln_101 := xln_100.fr F_97 (by decide)
          have xra_102 := hra.fr q9 (by decide)
          have xra_103 := xra_102.fr F_96 (by decide)
          have xra_104 := xra_103.fr F_97 (by decide)
          have xby_105 := hby.fr q9 (by decide)
          have xby_106 := xby_105.fr F_96 (by decide)
          have xby_107 := xby_106.fr F_97 (by decide)
          have ff14_108 : M96 114 = gh (.int (fltI (fltF T 80 0))) := (F_96 114 (by decide)).trans q11
          have ff14_109 : M97 114 = gh (.int (fltI (fltF T 80 0))) := (F_97 114 (by decide)).trans ff14_108
          have ff15_110 : M97 115 = gh (.int (nI s)) := (F_97 115 (by decide)).trans g_96
          have xrw_111 := q6.fr F_96 (by decide)
          have xrw_112 := xrw_111.fr F_97 (by decide)
          have xdg_113 := q7.fr F_96 (by decide)
          have xdg_114 := xdg_113.fr F_97 (by decide)
          have f62_115 : Mk 62 = .inl (cy 1, 2000, .inl (fun i => nI (gf i))) := (q9 62 (by decide)).trans hfd
          have f62_116 : M96 62 = .inl (cy 1, 2000, .inl (fun i => nI (gf i))) := (F_96 62 (by decide)).trans f62_115
          have f62_117 : M97 62 = .inl (cy 1, 2000, .inl (fun i => nI (gf i))) := (F_97 62 (by decide)).trans f62_116
          have ff0_118 : M96 100 = gh (.int (nI 0)) := (F_96 100 (by decide)).trans q10
          have ff0_119 : M97 100 = gh (.int (nI 0)) := (F_97 100 (by decide)).trans ff0_118
          unfold ptI ptO ptN
          rw [if_pos hflt, if_pos hflt, hR, hS, if_pos ⟨hflt, hov⟩]
          exact ⟨rfl, ff0_119, ⟨pro_97, xln_101, xra_104, poutR_97, xby_107, ff14_109, ff15_110, ⟨_, xrw_112⟩, ⟨_, xdg_114⟩, ⟨_, f62_117⟩⟩, (((q9.sub (by decide)).tr (F_96.sub (by decide))).tr (F_97.sub (by decide)))⟩
      · have hmr := ts_of c_45
        have hen : e = false := (bI_0 _).mp (Classical.not_not.mp c_52)
        obtain ⟨i5, i5b⟩ := i7 hmr
        have hc8 := hra.1
        have hf9 : f < 9 := by omega
        rw [hmr, hen, if_pos (by decide), show 9 - f = (9 - (f + 1)) + 1 by omega] at i1 i2
        subst hen
        refine m_aload_n (pc' := 56) C dX12_print_55 rfl 0 rfl rfl ?_
        refine r_get C hn q0 inW_X12 17 (by decide) ⟨rfl, rfl, rfl⟩ (gW_of tm_5_67) (r_at 17 rfl q3) dX12_print_56 rfl ?_
        refine m_istore_n (pc' := 60) (lv' := [(2, .int (nI tk)), (0, .ref (ad 52)), (1, .int (bI mr))]) C dX12_print_59 rfl (by decide) rfl rfl ?_
        refine m_aload_n (pc' := 61) C dX12_print_60 rfl 1 rfl rfl ?_
        have xln_121 := hln.fr q9 (by decide)
        have xra_122 := hra.fr q9 (by decide)
        refine m_callVv (pc' := 64) (As := []) (rest := []) C (kX12_printOnce hI hn hn2 q0 xln_121 xra_122 q4 q3 q2 q6 q7 q5 (by omega) hflt) (cwV 0 C.1.2.2.2.2 (goodV tm_5_235 tm_5_237 tp_56 tm_1_13 tm_5_238) rfl rfl rfl (by decide +kernel) ⟨by decide, by decide⟩) (by omega) q0 rfl rfl rfl (Nat.le_of_ble_eq_true rfl) dX12_print_61 rfl ⟨by decide, by decide⟩ (fun M120 q_120 => ?_)
        obtain ⟨pro_120, pout_120, pf17_120, pf16_120, pf18_120, ⟨W_120, prw_120⟩, ⟨D_120, pdg_120⟩, F_120⟩ := q_120
        have hle : (oRun T xs cnt 80 false 0 tk).2.1 ≤ cnt := oRun_le 80 false 0 tk i6
        refine m_aload_n (pc' := 65) C dX12_print_64 rfl 1 rfl rfl ?_
        refine r_get C hn pro_120 inW_X12 17 (by decide) ⟨rfl, rfl, rfl⟩ (gW_of tm_5_67) (r_at 17 rfl pf17_120) dX12_print_65 rfl ?_
        refine m_aload_n (pc' := 69) C dX12_print_68 rfl 1 rfl rfl ?_
        have ff3_123 : Mk 103 = gh (.int (nI cnt)) := (q9 103 (by decide)).trans hra.2.1
        have ff3_124 : M120 103 = gh (.int (nI cnt)) := (F_120 103 (by decide)).trans ff3_123
        refine r_get C hn pro_120 inW_X12 3 (by decide) ⟨rfl, rfl, rfl⟩ (gW_of tm_5_53) (r_at 3 rfl ff3_124) dX12_print_69 rfl ?_
        refine m_icmp_ge (pc' := 75) (tgt := 87) C dX12_print_72 (by decide) rfl (fun c_72 => ?_) (fun c_72 => ?_)
        · have n_72 : cnt ≤ ((oRun T xs cnt 80 false 0 tk).2.1) := (nI_leI (by omega) (by omega)).mp c_72
          have hC3 : (false = true → f + 1 ≤ (oRun T xs cnt 80 false 0 tk).2.1 ∧ (f + 1 = 0 ∨ (oRun T xs cnt 80 false 0 tk).2.1 < cnt)) := fun q => by cases q
          have hno : ¬ (tk < (oRun T xs cnt 80 false 0 tk).2.1 ∧ (oRun T xs cnt 80 false 0 tk).2.1 < cnt ∧ (oRun T xs cnt 80 false 0 tk).2.2.2 = false) := fun q => by omega
          rw [pRun_last hno] at i1 i2
          have hA : (pRun T xs cnt 9 0).1 = (R ++ (oRun T xs cnt 80 false 0 tk).1) ++ (if (false && !(oRun T xs cnt 80 false 0 tk).2.2.2) = true then (pRun T xs cnt (9 - (f + 1)) (oRun T xs cnt 80 false 0 tk).2.1).1 else []) := by rw [i1, if_neg (by simp), List.append_nil]
          have hB : (pRun T xs cnt 9 0).2.1 = (s + (oRun T xs cnt 80 false 0 tk).2.2.1) + (if (false && !(oRun T xs cnt 80 false 0 tk).2.2.2) = true then (pRun T xs cnt (9 - (f + 1)) (oRun T xs cnt 80 false 0 tk).2.1).2.1 else 0) := by rw [i2, if_neg (by simp), Nat.add_zero]
          refine m_iconst (pc' := 88) (v := bI false) C dX12_print_87 (by decide) rfl ?_
          refine m_istore_n (pc' := 89) (lv' := [(1, .int (bI false)), (2, .int (nI tk)), (0, .ref (ad 52))]) C dX12_print_88 rfl (by decide) rfl rfl ?_
          refine m_goto (tgt := 44) C dX12_print_89 (by decide) ?_
          have ff0_125 : M120 100 = gh (.int (nI 0)) := (F_120 100 (by decide)).trans q10
          have ff14_126 : M120 114 = gh (.int (fltI (fltF T 80 0))) := (F_120 114 (by decide)).trans q11
          refine m_lv [2, 0] rfl ?_
          exact ih (f + 1, (oRun T xs cnt 80 false 0 tk).2.1, s + (oRun T xs cnt 80 false 0 tk).2.2.1, (oRun T xs cnt 80 false 0 tk).2.2.2, R ++ (oRun T xs cnt 80 false 0 tk).1, false, M120) (⟨hA, hB, ⟨hle, hC3⟩, pro_120, pf18_120, pf17_120, pf16_120, pout_120, ⟨_, prw_120⟩, ⟨_, pdg_120⟩, ff0_125, ff14_126, (q9.tr (F_120.sub (by decide)))⟩) (by show (if false = true then 1 + (cnt - (oRun T xs cnt 80 false 0 tk).2.1) else 0) < (if mr = true then 1 + (cnt - tk) else 0); rw [if_pos hmr, if_neg (by decide)]; omega)
        · have n_72 : ((oRun T xs cnt 80 false 0 tk).2.1) < cnt := Nat.lt_of_not_le (fun q => c_72 ((nI_leI (by omega) (by omega)).mpr q))
          refine m_aload_n (pc' := 76) C dX12_print_75 rfl 1 rfl rfl ?_
          refine r_get C hn pro_120 inW_X12 17 (by decide) ⟨rfl, rfl, rfl⟩ (gW_of tm_5_67) (r_at 17 rfl pf17_120) dX12_print_76 rfl ?_
          refine m_iload_n (pc' := 80) C dX12_print_79 rfl 0 rfl rfl ?_
          refine m_icmp_le (pc' := 83) (tgt := 87) C dX12_print_80 (by decide) rfl (fun c_80 => ?_) (fun c_80 => ?_)
          · have n_80 : ((oRun T xs cnt 80 false 0 tk).2.1) ≤ tk := (nI_leI (by omega) (by omega)).mp c_80
            have hC3 : (false = true → f + 1 ≤ (oRun T xs cnt 80 false 0 tk).2.1 ∧ (f + 1 = 0 ∨ (oRun T xs cnt 80 false 0 tk).2.1 < cnt)) := fun q => by cases q
            have hno : ¬ (tk < (oRun T xs cnt 80 false 0 tk).2.1 ∧ (oRun T xs cnt 80 false 0 tk).2.1 < cnt ∧ (oRun T xs cnt 80 false 0 tk).2.2.2 = false) := fun q => by omega
            rw [pRun_last hno] at i1 i2
            have hA : (pRun T xs cnt 9 0).1 = (R ++ (oRun T xs cnt 80 false 0 tk).1) ++ (if (false && !(oRun T xs cnt 80 false 0 tk).2.2.2) = true then (pRun T xs cnt (9 - (f + 1)) (oRun T xs cnt 80 false 0 tk).2.1).1 else []) := by rw [i1, if_neg (by simp), List.append_nil]
            have hB : (pRun T xs cnt 9 0).2.1 = (s + (oRun T xs cnt 80 false 0 tk).2.2.1) + (if (false && !(oRun T xs cnt 80 false 0 tk).2.2.2) = true then (pRun T xs cnt (9 - (f + 1)) (oRun T xs cnt 80 false 0 tk).2.1).2.1 else 0) := by rw [i2, if_neg (by simp), Nat.add_zero]
            refine m_iconst (pc' := 88) (v := bI false) C dX12_print_87 (by decide) rfl ?_
            refine m_istore_n (pc' := 89) (lv' := [(1, .int (bI false)), (2, .int (nI tk)), (0, .ref (ad 52))]) C dX12_print_88 rfl (by decide) rfl rfl ?_
            refine m_goto (tgt := 44) C dX12_print_89 (by decide) ?_
            have ff0_127 : M120 100 = gh (.int (nI 0)) := (F_120 100 (by decide)).trans q10
            have ff14_128 : M120 114 = gh (.int (fltI (fltF T 80 0))) := (F_120 114 (by decide)).trans q11
            refine m_lv [2, 0] rfl ?_
            exact ih (f + 1, (oRun T xs cnt 80 false 0 tk).2.1, s + (oRun T xs cnt 80 false 0 tk).2.2.1, (oRun T xs cnt 80 false 0 tk).2.2.2, R ++ (oRun T xs cnt 80 false 0 tk).1, false, M120) (⟨hA, hB, ⟨hle, hC3⟩, pro_120, pf18_120, pf17_120, pf16_120, pout_120, ⟨_, prw_120⟩, ⟨_, pdg_120⟩, ff0_127, ff14_128, (q9.tr (F_120.sub (by decide)))⟩) (by show (if false = true then 1 + (cnt - (oRun T xs cnt 80 false 0 tk).2.1) else 0) < (if mr = true then 1 + (cnt - tk) else 0); rw [if_pos hmr, if_neg (by decide)]; omega)
          · have n_80 : tk < ((oRun T xs cnt 80 false 0 tk).2.1) := Nat.lt_of_not_le (fun q => c_80 ((nI_leI (by omega) (by omega)).mpr q))
            have hC3 : (true = true → f + 1 ≤ (oRun T xs cnt 80 false 0 tk).2.1 ∧ (f + 1 = 0 ∨ (oRun T xs cnt 80 false 0 tk).2.1 < cnt)) := fun _ => ⟨by omega, Or.inr n_72⟩
            have hAB : (pRun T xs cnt 9 0).1 = (R ++ (oRun T xs cnt 80 false 0 tk).1) ++ (if (true && !(oRun T xs cnt 80 false 0 tk).2.2.2) = true then (pRun T xs cnt (9 - (f + 1)) (oRun T xs cnt 80 false 0 tk).2.1).1 else []) ∧ (pRun T xs cnt 9 0).2.1 = (s + (oRun T xs cnt 80 false 0 tk).2.2.1) + (if (true && !(oRun T xs cnt 80 false 0 tk).2.2.2) = true then (pRun T xs cnt (9 - (f + 1)) (oRun T xs cnt 80 false 0 tk).2.1).2.1 else 0) := by
              cases h9 : (oRun T xs cnt 80 false 0 tk).2.2.2 with
              | false =>
                rw [pRun_more ⟨n_80, n_72, h9⟩] at i1 i2
                rw [if_pos (by decide), if_pos (by decide), i1, i2]
                exact ⟨(List.append_assoc _ _ _).symm, (Nat.add_assoc _ _ _).symm⟩
              | true =>
                rw [pRun_last (tk := tk) (fun q => by rw [h9] at q; exact absurd q.2.2 (by decide))] at i1 i2
                rw [if_neg (by decide), if_neg (by decide), List.append_nil, Nat.add_zero, i1, i2]
                exact ⟨rfl, rfl⟩
            obtain ⟨hA, hB⟩ := hAB
            refine m_iconst (pc' := 84) (v := bI true) C dX12_print_83 (by decide) rfl ?_
            refine m_goto (tgt := 88) C dX12_print_84 (by decide) ?_
            refine m_istore_n (pc' := 89) (lv' := [(1, .int (bI true)), (2, .int (nI tk)), (0, .ref (ad 52))]) C dX12_print_88 rfl (by decide) rfl rfl ?_
            refine m_goto (tgt := 44) C dX12_print_89 (by decide) ?_
            have ff0_129 : M120 100 = gh (.int (nI 0)) := (F_120 100 (by decide)).trans q10
            have ff14_130 : M120 114 = gh (.int (fltI (fltF T 80 0))) := (F_120 114 (by decide)).trans q11
            refine m_lv [2, 0] rfl ?_
            exact ih (f + 1, (oRun T xs cnt 80 false 0 tk).2.1, s + (oRun T xs cnt 80 false 0 tk).2.2.1, (oRun T xs cnt 80 false 0 tk).2.2.2, R ++ (oRun T xs cnt 80 false 0 tk).1, true, M120) (⟨hA, hB, ⟨hle, hC3⟩, pro_120, pf18_120, pf17_120, pf16_120, pout_120, ⟨_, prw_120⟩, ⟨_, pdg_120⟩, ff0_129, ff14_130, (q9.tr (F_120.sub (by decide)))⟩) (by show (if true = true then 1 + (cnt - (oRun T xs cnt 80 false 0 tk).2.1) else 0) < (if mr = true then 1 + (cnt - tk) else 0); rw [if_pos hmr, if_pos rfl]; omega)
  · have hflt : ¬ fltF T 80 0 = none := fun q => c_17 ((flt_lt0 tl).mpr q)
    refine m_bipush (pc' := 22) (v := (-2)) C dX12_print_20 (by decide) rfl ?_
    refine m_iret C hrt0 hlk0 rfl dX12_print_22 ?_
    have xln_131 := xln_3.fr F_2 (by decide)
    have xln_132 := xln_131.fr F_4 (by decide)
    have xra_133 := hra.fr F_1 (by decide)
    have xra_134 := xra_133.fr F_2 (by decide)
    have xra_135 := xra_134.fr F_4 (by decide)
    have xoutR_136 := hout.fr F_1 (by decide)
    have xoutR_137 := xoutR_136.fr F_2 (by decide)
    have xoutR_138 := xoutR_137.fr F_4 (by decide)
    have xby_139 := hby.fr F_1 (by decide)
    have xby_140 := xby_139.fr F_2 (by decide)
    have xby_141 := xby_140.fr F_4 (by decide)
    have ff15_142 : M1 115 = gh (.int (ot)) := (F_1 115 (by decide)).trans h15
    have ff15_143 : M2 115 = gh (.int (ot)) := (F_2 115 (by decide)).trans ff15_142
    have ff15_144 : M4 115 = gh (.int (ot)) := (F_4 115 (by decide)).trans ff15_143
    have xrw_145 := hrw.fr F_1 (by decide)
    have xrw_146 := xrw_145.fr F_2 (by decide)
    have xrw_147 := xrw_146.fr F_4 (by decide)
    have xdg_148 := hdg.fr F_1 (by decide)
    have xdg_149 := xdg_148.fr F_2 (by decide)
    have xdg_150 := xdg_149.fr F_4 (by decide)
    have f62_151 : M1 62 = .inl (cy 1, 2000, .inl (fun i => nI (gf i))) := (F_1 62 (by decide)).trans hfd
    have f62_152 : M2 62 = .inl (cy 1, 2000, .inl (fun i => nI (gf i))) := (F_2 62 (by decide)).trans f62_151
    have f62_153 : M4 62 = .inl (cy 1, 2000, .inl (fun i => nI (gf i))) := (F_4 62 (by decide)).trans f62_152
    have ff0_154 : M2 100 = gh (.int (nI 0)) := (F_2 100 (by decide)).trans g_1
    have ff0_155 : M4 100 = gh (.int (nI 0)) := (F_4 100 (by decide)).trans ff0_154
    unfold ptI ptO ptN
    rw [if_neg hflt, if_neg hflt, if_neg (fun q => hflt q.1)]
    exact ⟨rfl, ff0_155, ⟨go_4, xln_132, xra_135, xoutR_138, xby_141, g_4, ff15_144, ⟨_, xrw_147⟩, ⟨_, xdg_150⟩, ⟨_, f62_153⟩⟩, (((F_1.sub (by decide)).tr (F_2.sub (by decide))).tr (F_4.sub (by decide)))⟩
