set_option maxHeartbeats 4000000 in
set_option maxRecDepth 100000 in
theorem kX12_number {l : Launch} {D : va_G} {cy : Nat → ClassId} {ad : Nat → Nat} {n : Nat} {A : Nat → Prop} (hI : mI ad n A) {M : Nat → va_E} (hn : 63 ≤ n) (hn2 : n ≤ 100) {T : List Nat} {xs : Nat → Arg} {cnt lim : Nat} {O B : List Nat} {fp ot : Int32} (hM : isM cy ad M T xs cnt lim O B fp ot) (x : Int64) : mMi l yX12_number (gW yX12_number cX12_number 3 (some .int)) { frames := 1, cells := 0, slots := 0, locals := 21 } D cy ad n A [.ref (ad 52), .long x] M (fun res M' => (nuK cnt = 0 → res = nI (cnt + 1)) ∧ M' 100 = gh (.int (nI (nuK cnt))) ∧ isM cy ad M' T (sel (nuK cnt) (va_up xs cnt (.inl x)) xs) (sel (nuK cnt) (cnt + 1) cnt) lim O B fp ot ∧ Fr refS M M') := by
  obtain ⟨hro, hln, hra, hout, hby, h14, h15, ⟨W, hrw⟩, ⟨L, hdg⟩, gf, hfd⟩ := hM
  obtain ⟨a1, a2, b, f, z, g, a3, a4, a5, a6, a7⟩ := id hra
  refine m_entry (cc := cX12_number) (maxL := 3) (ret := (some .int)) (own := RX12) (lv := [(0, .ref (ad 52)), (1, .long (x))]) hI (by decide) rfl rfl (Nat.le_of_ble_eq_true rfl) rfl (fun pX eX sX mX aX bX tX cX C hrt0 hlk0 => ?_)
  refine m_aload_n (pc' := 1) C dX12_number_0 rfl 0 rfl rfl ?_
  refine m_cut (σ := Int32) (fun a => a = nI (nuK cnt)) (fun a => M) 15 (fun a => [(0, .ref (ad 52)), (1, .long (x))]) (fun a => [.int (a), .ref (ad 52)]) ?_ (fun J15 => ?_)
  · rintro y9 hj
    try dsimp only at hj ⊢
    subst hj
    have hKb : nuK cnt ≤ 2 := by unfold nuK; (repeat' split) <;> omega
    refine m_callVi (pc' := 18) (As := [.int (nI (nuK cnt))]) (rest := []) C (kX12_refused hI hn hn2 hro (k := (nuK cnt)) (by omega)) (cwV 1 C.1.2.2.2.2 (goodV tm_5_174 tm_5_176 tp_49 tm_1_13 tm_5_177) rfl rfl rfl (by decide +kernel) ⟨by decide, by decide⟩) (by omega) hro rfl rfl rfl (Nat.le_of_ble_eq_true rfl) dX12_number_15 rfl ⟨by decide, by decide⟩ (fun x_1 M1 q_1 => ?_)
    obtain ⟨e_1, pro_1, pf0_1, F_1⟩ := q_1
    replace e_1 := e_1.symm
    subst e_1
    refine m_if_eq (pc' := 21) (tgt := 23) C dX12_number_18 (by decide) rfl (fun c_18 => ?_) (fun c_18 => ?_)
    · have hK : nuK cnt = 0 := by have := of_decide_eq_false ((bI_0 _).mp c_18); omega
      have hlt : cnt < 8 := by unfold nuK at hK; split at hK <;> omega
      refine m_aload_n (pc' := 24) C dX12_number_23 rfl 0 rfl rfl ?_
      refine r_get C hn pro_1 inW_X12 4 (by decide) ⟨rfl, rfl, rfl⟩ (gW_of tm_5_54) rfl dX12_number_24 rfl ?_
      refine m_aload_n (pc' := 28) C dX12_number_27 rfl 0 rfl rfl ?_
      have ff3_2 : M1 103 = gh (.int (nI cnt)) := (F_1 103 (by decide)).trans a2
      refine r_get C hn pro_1 inW_X12 3 (by decide) ⟨rfl, rfl, rfl⟩ (gW_of tm_5_53) (r_at 3 rfl ff3_2) dX12_number_28 rfl ?_
      refine m_iconst (pc' := 32) (v := bI false) C dX12_number_31 (by decide) rfl ?_
      have f54_3 : M1 54 = .inl (cy 3, 8, .inl (fun i => bI (b i))) := (F_1 54 (by decide)).trans a3
      refine m_zast (pc' := 33) (E' := .inl (cy 3, 8, .inl (fun i => bI (va_up b cnt false i)))) C 54 (by omega) f54_3 (vp_in_nI (by omega) (by decide)) (by rw [nI_clamp (by omega), nar_bv, upd_bI]) dX12_number_32 rfl (fun M4 g_4 F_4 => ?_)
      refine m_aload_n (pc' := 34) C dX12_number_33 rfl 0 rfl rfl ?_
      have ro_5 := pro_1.fr F_4 (by decide)
      refine r_get C hn ro_5 inW_X12 5 (by decide) ⟨rfl, rfl, rfl⟩ (gW_of tm_5_55) rfl dX12_number_34 rfl ?_
      refine m_aload_n (pc' := 38) C dX12_number_37 rfl 0 rfl rfl ?_
      have ff3_6 : M4 103 = gh (.int (nI cnt)) := (F_4 103 (by decide)).trans ff3_2
      refine r_get C hn ro_5 inW_X12 3 (by decide) ⟨rfl, rfl, rfl⟩ (gW_of tm_5_53) (r_at 3 rfl ff3_6) dX12_number_38 rfl ?_
      refine m_lload_n (pc' := 42) C dX12_number_41 rfl 1 rfl rfl ?_
      have f55_7 : M1 55 = .inl (cy 2, 8, .inr (.inl f)) := (F_1 55 (by decide)).trans a4
      have f55_8 : M4 55 = .inl (cy 2, 8, .inr (.inl f)) := (F_4 55 (by decide)).trans f55_7
      refine m_last (pc' := 43) (E' := .inl (cy 2, 8, .inr (.inl (va_up f cnt x)))) C 55 (by omega) f55_8 (vp_in_nI (by omega) (by decide)) (by rw [nI_clamp (by omega)]; rfl) dX12_number_42 rfl (fun M9 g_9 F_9 => ?_)
      refine m_aload_n (pc' := 44) C dX12_number_43 rfl 0 rfl rfl ?_
      refine m_dup (pc' := 45) C dX12_number_44 rfl rfl ?_
      have ro_10 := ro_5.fr F_9 (by decide)
      have ff3_11 : M9 103 = gh (.int (nI cnt)) := (F_9 103 (by decide)).trans ff3_6
      refine r_get C hn ro_10 inW_X12 3 (by decide) ⟨rfl, rfl, rfl⟩ (gW_of tm_5_53) (r_at 3 rfl ff3_11) dX12_number_45 rfl ?_
      refine m_iconst (pc' := 49) (v := nI 1) C dX12_number_48 (by decide) rfl ?_
      refine m_iadd (pc' := 50) (v := nI (cnt + 1)) C dX12_number_49 (nI_add _ _) rfl ?_
      refine r_put (ty := .int) C hn hn2 ro_10 inW_X12 3 103 (by decide) rfl ⟨rfl, rfl, rfl, rfl⟩ (gW_of tm_5_53) (by decide +kernel) rfl rfl (fun _ => rfl) dX12_number_50 rfl (fun M12 go_12 g_12 F_12 => ?_)
      refine m_aload_n (pc' := 54) C dX12_number_53 rfl 0 rfl rfl ?_
      refine r_get C hn go_12 inW_X12 3 (by decide) ⟨rfl, rfl, rfl⟩ (gW_of tm_5_53) (r_at 3 rfl g_12) dX12_number_54 rfl ?_
      refine m_iret C hrt0 hlk0 rfl dX12_number_57 ?_
      have f54_13 : M9 54 = .inl (cy 3, 8, .inl (fun i => bI (va_up b cnt false i))) := (F_9 54 (by decide)).trans g_4
      have f54_14 : M12 54 = .inl (cy 3, 8, .inl (fun i => bI (va_up b cnt false i))) := (F_12 54 (by decide)).trans f54_13
      have f55_15 : M12 55 = .inl (cy 2, 8, .inr (.inl (va_up f cnt x))) := (F_12 55 (by decide)).trans g_9
      have f56_16 : M1 56 = .inl (cy 1, 8, .inl (fun i => nI (z i))) := (F_1 56 (by decide)).trans a5
      have f56_17 : M4 56 = .inl (cy 1, 8, .inl (fun i => nI (z i))) := (F_4 56 (by decide)).trans f56_16
      have f56_18 : M9 56 = .inl (cy 1, 8, .inl (fun i => nI (z i))) := (F_9 56 (by decide)).trans f56_17
      have f56_19 : M12 56 = .inl (cy 1, 8, .inl (fun i => nI (z i))) := (F_12 56 (by decide)).trans f56_18
      have f57_20 : M1 57 = .inl (cy 0, 640, .inl (fun i => nI (g i))) := (F_1 57 (by decide)).trans a6
      have f57_21 : M4 57 = .inl (cy 0, 640, .inl (fun i => nI (g i))) := (F_4 57 (by decide)).trans f57_20
      have f57_22 : M9 57 = .inl (cy 0, 640, .inl (fun i => nI (g i))) := (F_9 57 (by decide)).trans f57_21
      have f57_23 : M12 57 = .inl (cy 0, 640, .inl (fun i => nI (g i))) := (F_12 57 (by decide)).trans f57_22
      have hra9 : isRA cy M12 (va_up xs cnt (.inl x)) (cnt + 1) := isRA.addN hlt a7 g_12 f54_14 f55_15 f56_19 f57_23
      have xln_24 := hln.fr F_1 (by decide)
      have xln_25 := xln_24.fr F_4 (by decide)
      have xln_26 := xln_25.fr F_9 (by decide)
      have xln_27 := xln_26.fr F_12 (by decide)
      have xoutR_28 := hout.fr F_1 (by decide)
      have xoutR_29 := xoutR_28.fr F_4 (by decide)
      have xoutR_30 := xoutR_29.fr F_9 (by decide)
      have xoutR_31 := xoutR_30.fr F_12 (by decide)
      have xby_32 := hby.fr F_1 (by decide)
      have xby_33 := xby_32.fr F_4 (by decide)
      have xby_34 := xby_33.fr F_9 (by decide)
      have xby_35 := xby_34.fr F_12 (by decide)
      have ff14_36 : M1 114 = gh (.int (fp)) := (F_1 114 (by decide)).trans h14
      have ff14_37 : M4 114 = gh (.int (fp)) := (F_4 114 (by decide)).trans ff14_36
      have ff14_38 : M9 114 = gh (.int (fp)) := (F_9 114 (by decide)).trans ff14_37
      have ff14_39 : M12 114 = gh (.int (fp)) := (F_12 114 (by decide)).trans ff14_38
      have ff15_40 : M1 115 = gh (.int (ot)) := (F_1 115 (by decide)).trans h15
      have ff15_41 : M4 115 = gh (.int (ot)) := (F_4 115 (by decide)).trans ff15_40
      have ff15_42 : M9 115 = gh (.int (ot)) := (F_9 115 (by decide)).trans ff15_41
      have ff15_43 : M12 115 = gh (.int (ot)) := (F_12 115 (by decide)).trans ff15_42
      have xrw_44 := hrw.fr F_1 (by decide)
      have xrw_45 := xrw_44.fr F_4 (by decide)
      have xrw_46 := xrw_45.fr F_9 (by decide)
      have xrw_47 := xrw_46.fr F_12 (by decide)
      have xdg_48 := hdg.fr F_1 (by decide)
      have xdg_49 := xdg_48.fr F_4 (by decide)
      have xdg_50 := xdg_49.fr F_9 (by decide)
      have xdg_51 := xdg_50.fr F_12 (by decide)
      have f62_52 : M1 62 = .inl (cy 1, 2000, .inl (fun i => nI (gf i))) := (F_1 62 (by decide)).trans hfd
      have f62_53 : M4 62 = .inl (cy 1, 2000, .inl (fun i => nI (gf i))) := (F_4 62 (by decide)).trans f62_52
      have f62_54 : M9 62 = .inl (cy 1, 2000, .inl (fun i => nI (gf i))) := (F_9 62 (by decide)).trans f62_53
      have f62_55 : M12 62 = .inl (cy 1, 2000, .inl (fun i => nI (gf i))) := (F_12 62 (by decide)).trans f62_54
      have ff0_56 : M4 100 = gh (.int (nI (nuK cnt))) := (F_4 100 (by decide)).trans pf0_1
      have ff0_57 : M9 100 = gh (.int (nI (nuK cnt))) := (F_9 100 (by decide)).trans ff0_56
      have ff0_58 : M12 100 = gh (.int (nI (nuK cnt))) := (F_12 100 (by decide)).trans ff0_57
      simp only [sel0 hK]
      exact ⟨(fun _ => by first | trivial | rfl), ff0_58, ⟨go_12, xln_27, hra9, xoutR_31, xby_35, ff14_39, ff15_43, ⟨_, xrw_47⟩, ⟨_, xdg_51⟩, ⟨_, f62_55⟩⟩, ((((F_1.sub (by decide)).tr (F_4.sub (by decide))).tr (F_9.sub (by decide))).tr (F_12.sub (by decide)))⟩
    · have hK : ¬ nuK cnt = 0 := by have := of_decide_eq_true (ts_of c_18); omega
      refine m_iconst (pc' := 22) (v := nI 0) C dX12_number_21 (by decide) rfl ?_
      refine m_iret C hrt0 hlk0 rfl dX12_number_22 ?_
      have xln_59 := hln.fr F_1 (by decide)
      have xra_60 := hra.fr F_1 (by decide)
      have xoutR_61 := hout.fr F_1 (by decide)
      have xby_62 := hby.fr F_1 (by decide)
      have ff14_63 : M1 114 = gh (.int (fp)) := (F_1 114 (by decide)).trans h14
      have ff15_64 : M1 115 = gh (.int (ot)) := (F_1 115 (by decide)).trans h15
      have xrw_65 := hrw.fr F_1 (by decide)
      have xdg_66 := hdg.fr F_1 (by decide)
      have f62_67 : M1 62 = .inl (cy 1, 2000, .inl (fun i => nI (gf i))) := (F_1 62 (by decide)).trans hfd
      simp only [sel1 hK]
      exact ⟨(fun q => absurd q hK), pf0_1, ⟨pro_1, xln_59, xra_60, xoutR_61, xby_62, ff14_63, ff15_64, ⟨_, xrw_65⟩, ⟨_, xdg_66⟩, ⟨_, f62_67⟩⟩, (F_1.sub (by decide))⟩
  refine m_aload_n (pc' := 2) C dX12_number_1 rfl 0 rfl rfl ?_
  refine r_get C hn hro inW_X12 3 (by decide) ⟨rfl, rfl, rfl⟩ (gW_of tm_5_53) (r_at 3 rfl a2) dX12_number_2 rfl ?_
  refine m_bipush (pc' := 7) (v := nI 8) C dX12_number_5 (by decide) rfl ?_
  refine m_icmp_ne (pc' := 10) (tgt := 14) C dX12_number_7 (by decide) rfl (fun c_7 => ?_) (fun c_7 => ?_)
  · have n_7 : ¬ cnt = 8 := fun q => c_7 ((nI_eq (by omega) (by omega)).mpr q)
    refine m_iconst (pc' := 15) (v := nI 0) C dX12_number_14 (by decide) rfl ?_
    refine m_lv [0, 1] rfl ?_
    exact J15 (nI 0) (by unfold nuK; rw [if_neg n_7])
  · have n_7 : cnt = 8 := (nI_eq (by omega) (by omega)).mp (Classical.not_not.mp c_7)
    refine m_iconst (pc' := 11) (v := nI 1) C dX12_number_10 (by decide) rfl ?_
    refine m_goto (tgt := 15) C dX12_number_11 (by decide) ?_
    refine m_lv [0, 1] rfl ?_
    exact J15 (nI 1) (by unfold nuK; rw [if_pos n_7])
set_option maxHeartbeats 4000000 in
set_option maxRecDepth 100000 in
theorem kX12_text {l : Launch} {D : va_G} {cy : Nat → ClassId} {ad : Nat → Nat} {n : Nat} {A : Nat → Prop} (hI : mI ad n A) {M : Nat → va_E} (hn : 63 ≤ n) (hn2 : n ≤ 100) {T : List Nat} {xs : Nat → Arg} {cnt lim : Nat} {O B : List Nat} {fp ot : Int32} (hM : isM cy ad M T xs cnt lim O B fp ot)  : mMi l yX12_text (gW yX12_text cX12_text 2 (some .int)) { frames := 1, cells := 0, slots := 0, locals := 21 } D cy ad n A [.ref (ad 52)] M (fun res M' => (nuK cnt = 0 → res = nI (cnt + 1)) ∧ M' 100 = gh (.int (nI (nuK cnt))) ∧ isM cy ad M' (sel (nuK cnt) [] T) (sel (nuK cnt) (va_up xs cnt (.inr T)) xs) (sel (nuK cnt) (cnt + 1) cnt) lim O B fp ot ∧ Fr refS M M') := by
  obtain ⟨hro, hln, hra, hout, hby, h14, h15, ⟨W, hrw⟩, ⟨L, hdg⟩, gf, hfd⟩ := hM
  obtain ⟨a1, a2, b, f, z, g, a3, a4, a5, a6, a7⟩ := id hra
  obtain ⟨t1, t2, t3, t4, tg, t5, t6⟩ := id hln
  refine m_entry (cc := cX12_text) (maxL := 2) (ret := (some .int)) (own := RX12) (lv := [(0, .ref (ad 52))]) hI (by decide) rfl rfl (Nat.le_of_ble_eq_true rfl) rfl (fun pX eX sX mX aX bX tX cX C hrt0 hlk0 => ?_)
  refine m_aload_n (pc' := 1) C dX12_text_0 rfl 0 rfl rfl ?_
  refine m_cut (σ := Int32) (fun a => a = nI (nuK cnt)) (fun a => M) 15 (fun a => [(0, .ref (ad 52))]) (fun a => [.int (a), .ref (ad 52)]) ?_ (fun J15 => ?_)
  · rintro y9 hj
    try dsimp only at hj ⊢
    subst hj
    have hKb : nuK cnt ≤ 2 := by unfold nuK; (repeat' split) <;> omega
    refine m_callVi (pc' := 18) (As := [.int (nI (nuK cnt))]) (rest := []) C (kX12_refused hI hn hn2 hro (k := (nuK cnt)) (by omega)) (cwV 1 C.1.2.2.2.2 (goodV tm_5_174 tm_5_176 tp_49 tm_1_13 tm_5_177) rfl rfl rfl (by decide +kernel) ⟨by decide, by decide⟩) (by omega) hro rfl rfl rfl (Nat.le_of_ble_eq_true rfl) dX12_text_15 rfl ⟨by decide, by decide⟩ (fun x_1 M1 q_1 => ?_)
    obtain ⟨e_1, pro_1, pf0_1, F_1⟩ := q_1
    replace e_1 := e_1.symm
    subst e_1
    refine m_if_eq (pc' := 21) (tgt := 23) C dX12_text_18 (by decide) rfl (fun c_18 => ?_) (fun c_18 => ?_)
    · have hK : nuK cnt = 0 := by have := of_decide_eq_false ((bI_0 _).mp c_18); omega
      have hlt : cnt < 8 := by unfold nuK at hK; split at hK <;> omega
      refine m_aload_n (pc' := 24) C dX12_text_23 rfl 0 rfl rfl ?_
      refine r_get C hn pro_1 inW_X12 4 (by decide) ⟨rfl, rfl, rfl⟩ (gW_of tm_5_54) rfl dX12_text_24 rfl ?_
      refine m_aload_n (pc' := 28) C dX12_text_27 rfl 0 rfl rfl ?_
      have ff3_2 : M1 103 = gh (.int (nI cnt)) := (F_1 103 (by decide)).trans a2
      refine r_get C hn pro_1 inW_X12 3 (by decide) ⟨rfl, rfl, rfl⟩ (gW_of tm_5_53) (r_at 3 rfl ff3_2) dX12_text_28 rfl ?_
      refine m_iconst (pc' := 32) (v := bI true) C dX12_text_31 (by decide) rfl ?_
      have f54_3 : M1 54 = .inl (cy 3, 8, .inl (fun i => bI (b i))) := (F_1 54 (by decide)).trans a3
      refine m_zast (pc' := 33) (E' := .inl (cy 3, 8, .inl (fun i => bI (va_up b cnt true i)))) C 54 (by omega) f54_3 (vp_in_nI (by omega) (by decide)) (by rw [nI_clamp (by omega), nar_bv, upd_bI]) dX12_text_32 rfl (fun M4 g_4 F_4 => ?_)
      refine m_aload_n (pc' := 34) C dX12_text_33 rfl 0 rfl rfl ?_
      have ro_5 := pro_1.fr F_4 (by decide)
      refine r_get C hn ro_5 inW_X12 6 (by decide) ⟨rfl, rfl, rfl⟩ (gW_of tm_5_56) rfl dX12_text_34 rfl ?_
      refine m_aload_n (pc' := 38) C dX12_text_37 rfl 0 rfl rfl ?_
      have ff3_6 : M4 103 = gh (.int (nI cnt)) := (F_4 103 (by decide)).trans ff3_2
      refine r_get C hn ro_5 inW_X12 3 (by decide) ⟨rfl, rfl, rfl⟩ (gW_of tm_5_53) (r_at 3 rfl ff3_6) dX12_text_38 rfl ?_
      refine m_aload_n (pc' := 42) C dX12_text_41 rfl 0 rfl rfl ?_
      have ff2_7 : M1 102 = gh (.int (nI T.length)) := (F_1 102 (by decide)).trans t3
      have ff2_8 : M4 102 = gh (.int (nI T.length)) := (F_4 102 (by decide)).trans ff2_7
      refine r_get C hn ro_5 inW_X12 2 (by decide) ⟨rfl, rfl, rfl⟩ (gW_of tm_5_52) (r_at 2 rfl ff2_8) dX12_text_42 rfl ?_
      have f56_9 : M1 56 = .inl (cy 1, 8, .inl (fun i => nI (z i))) := (F_1 56 (by decide)).trans a5
      have f56_10 : M4 56 = .inl (cy 1, 8, .inl (fun i => nI (z i))) := (F_4 56 (by decide)).trans f56_9
      refine m_iast (pc' := 46) (E' := .inl (cy 1, 8, .inl (fun i => nI (va_up z cnt T.length i)))) C 56 (by omega) f56_10 (vp_in_nI (by omega) (by decide)) (by rw [nI_clamp (by omega), upd_nI]) dX12_text_45 rfl (fun M11 g_11 F_11 => ?_)
      refine m_iconst (pc' := 47) (v := nI 0) C dX12_text_46 (by decide) rfl ?_
      refine m_istore_n (pc' := 48) (lv' := [(1, .int (nI 0)), (0, .ref (ad 52))]) C dX12_text_47 rfl (by decide) rfl rfl ?_
      refine m_lv [1, 0] rfl ?_
      have f54_12 : M11 54 = .inl (cy 3, 8, .inl (fun i => bI (va_up b cnt true i))) := (F_11 54 (by decide)).trans g_4
      have ff0_13 : M4 100 = gh (.int (nI (nuK cnt))) := (F_4 100 (by decide)).trans pf0_1
      have ff0_14 : M11 100 = gh (.int (nI (nuK cnt))) := (F_11 100 (by decide)).trans ff0_13
      have f57_15 : M1 57 = .inl (cy 0, 640, .inl (fun i => nI (g i))) := (F_1 57 (by decide)).trans a6
      have f57_16 : M4 57 = .inl (cy 0, 640, .inl (fun i => nI (g i))) := (F_4 57 (by decide)).trans f57_15
      have f57_17 : M11 57 = .inl (cy 0, 640, .inl (fun i => nI (g i))) := (F_11 57 (by decide)).trans f57_16
      have ro_18 := ro_5.fr F_11 (by decide)
      refine m_loop (σ := Nat × (Nat → Nat) × (Nat → va_E)) (fun a => a.2.2) (fun a => [(0, .ref (ad 52)), (1, .int (nI a.1))]) (fun a => a.1 ≤ T.length ∧ a.2.2 54 = .inl (cy 3, 8, .inl (fun i => bI (va_up b cnt true i))) ∧ a.2.2 56 = .inl (cy 1, 8, .inl (fun i => nI (va_up z cnt T.length i))) ∧ a.2.2 100 = gh (.int (nI (nuK cnt))) ∧ a.2.2 57 = .inl (cy 0, 640, .inl (fun i => nI (a.2.1 i))) ∧ (∀ m, m < 80 * cnt → a.2.1 m = g m) ∧ (∀ i, i < a.1 → a.2.1 (80 * cnt + i) = T.getD i 0) ∧ rO ad a.2.2 ∧ Fr [52, 54, 56, 57, 100] M a.2.2) (fun a => T.length - a.1) (0, g, M11) (⟨Nat.zero_le _, f54_12, g_11, ff0_14, f57_17, (fun _ _ => rfl), (fun i hi => by cases hi), ro_18, (((F_1.sub (by decide)).tr (F_4.sub (by decide))).tr (F_11.sub (by decide)))⟩) ?_
      rintro ⟨k, q, Mk⟩ hinv ih
      dsimp only at hinv ih ⊢
      obtain ⟨i0, i1, i2, i3, i5, i6, i7, i4, i8⟩ := hinv
      have hc8 := gd_lt0 t1 k
      refine m_iload_n (pc' := 49) C dX12_text_48 rfl 1 rfl rfl ?_
      refine m_aload_n (pc' := 50) C dX12_text_49 rfl 0 rfl rfl ?_
      have ff2_19 : Mk 102 = gh (.int (nI T.length)) := (i8 102 (by decide)).trans t3
      refine r_get C hn i4 inW_X12 2 (by decide) ⟨rfl, rfl, rfl⟩ (gW_of tm_5_52) (r_at 2 rfl ff2_19) dX12_text_50 rfl ?_
      refine m_icmp_ge (pc' := 56) (tgt := 82) C dX12_text_53 (by decide) rfl (fun c_53 => ?_) (fun c_53 => ?_)
      · have n_53 : T.length ≤ k := (nI_leI (by omega) (by omega)).mp c_53
        refine m_aload_n (pc' := 83) C dX12_text_82 rfl 0 rfl rfl ?_
        refine m_iconst (pc' := 84) (v := nI 0) C dX12_text_83 (by decide) rfl ?_
        refine r_put (ty := .int) C hn hn2 i4 inW_X12 2 102 (by decide) rfl ⟨rfl, rfl, rfl, rfl⟩ (gW_of tm_5_52) (by decide +kernel) rfl rfl (fun _ => rfl) dX12_text_84 rfl (fun M20 go_20 g_20 F_20 => ?_)
        refine m_aload_n (pc' := 88) C dX12_text_87 rfl 0 rfl rfl ?_
        refine m_dup (pc' := 89) C dX12_text_88 rfl rfl ?_
        have ff3_21 : Mk 103 = gh (.int (nI cnt)) := (i8 103 (by decide)).trans a2
        have ff3_22 : M20 103 = gh (.int (nI cnt)) := (F_20 103 (by decide)).trans ff3_21
        refine r_get C hn go_20 inW_X12 3 (by decide) ⟨rfl, rfl, rfl⟩ (gW_of tm_5_53) (r_at 3 rfl ff3_22) dX12_text_89 rfl ?_
        refine m_iconst (pc' := 93) (v := nI 1) C dX12_text_92 (by decide) rfl ?_
        refine m_iadd (pc' := 94) (v := nI (cnt + 1)) C dX12_text_93 (nI_add _ _) rfl ?_
        refine r_put (ty := .int) C hn hn2 go_20 inW_X12 3 103 (by decide) rfl ⟨rfl, rfl, rfl, rfl⟩ (gW_of tm_5_53) (by decide +kernel) rfl rfl (fun _ => rfl) dX12_text_94 rfl (fun M23 go_23 g_23 F_23 => ?_)
        refine m_aload_n (pc' := 98) C dX12_text_97 rfl 0 rfl rfl ?_
        refine r_get C hn go_23 inW_X12 3 (by decide) ⟨rfl, rfl, rfl⟩ (gW_of tm_5_53) (r_at 3 rfl g_23) dX12_text_98 rfl ?_
        refine m_iret C hrt0 hlk0 rfl dX12_text_101 ?_
        have f54_24 : M20 54 = .inl (cy 3, 8, .inl (fun i => bI (va_up b cnt true i))) := (F_20 54 (by decide)).trans i1
        have f54_25 : M23 54 = .inl (cy 3, 8, .inl (fun i => bI (va_up b cnt true i))) := (F_23 54 (by decide)).trans f54_24
        have f55_26 : Mk 55 = .inl (cy 2, 8, .inr (.inl f)) := (i8 55 (by decide)).trans a4
        have f55_27 : M20 55 = .inl (cy 2, 8, .inr (.inl f)) := (F_20 55 (by decide)).trans f55_26
        have f55_28 : M23 55 = .inl (cy 2, 8, .inr (.inl f)) := (F_23 55 (by decide)).trans f55_27
        have f56_29 : M20 56 = .inl (cy 1, 8, .inl (fun i => nI (va_up z cnt T.length i))) := (F_20 56 (by decide)).trans i2
        have f56_30 : M23 56 = .inl (cy 1, 8, .inl (fun i => nI (va_up z cnt T.length i))) := (F_23 56 (by decide)).trans f56_29
        have f57_31 : M20 57 = .inl (cy 0, 640, .inl (fun i => nI (q i))) := (F_20 57 (by decide)).trans i5
        have f57_32 : M23 57 = .inl (cy 0, 640, .inl (fun i => nI (q i))) := (F_23 57 (by decide)).trans f57_31
        have hk9 : k = T.length := by omega
        subst hk9
        have hra9 : isRA cy M23 (va_up xs cnt (.inr T)) (cnt + 1) := isRA.addT hlt a7 t4 t1 t2 i6 i7 g_23 f54_25 f55_28 f56_30 f57_32
        have ff2_33 : M23 102 = gh (.int (nI 0)) := (F_23 102 (by decide)).trans g_20
        have hln9 : isLn cy M23 [] := isLn.nil hln (S := [52, 54, 56, 57, 100, 102, 103]) (((i8.sub (by decide)).tr (F_20.sub (by decide))).tr (F_23.sub (by decide))) (by decide) ff2_33
        have xoutR_34 := hout.fr i8 (by decide)
        have xoutR_35 := xoutR_34.fr F_20 (by decide)
        have xoutR_36 := xoutR_35.fr F_23 (by decide)
        have xby_37 := hby.fr i8 (by decide)
        have xby_38 := xby_37.fr F_20 (by decide)
        have xby_39 := xby_38.fr F_23 (by decide)
        have ff14_40 : Mk 114 = gh (.int (fp)) := (i8 114 (by decide)).trans h14
        have ff14_41 : M20 114 = gh (.int (fp)) := (F_20 114 (by decide)).trans ff14_40
        have ff14_42 : M23 114 = gh (.int (fp)) := (F_23 114 (by decide)).trans ff14_41
        have ff15_43 : Mk 115 = gh (.int (ot)) := (i8 115 (by decide)).trans h15
        have ff15_44 : M20 115 = gh (.int (ot)) := (F_20 115 (by decide)).trans ff15_43
        have ff15_45 : M23 115 = gh (.int (ot)) := (F_23 115 (by decide)).trans ff15_44
        have xrw_46 := hrw.fr i8 (by decide)
        have xrw_47 := xrw_46.fr F_20 (by decide)
        have xrw_48 := xrw_47.fr F_23 (by decide)
        have xdg_49 := hdg.fr i8 (by decide)
        have xdg_50 := xdg_49.fr F_20 (by decide)
        have xdg_51 := xdg_50.fr F_23 (by decide)
        have f62_52 : Mk 62 = .inl (cy 1, 2000, .inl (fun i => nI (gf i))) := (i8 62 (by decide)).trans hfd
        have f62_53 : M20 62 = .inl (cy 1, 2000, .inl (fun i => nI (gf i))) := (F_20 62 (by decide)).trans f62_52
        have f62_54 : M23 62 = .inl (cy 1, 2000, .inl (fun i => nI (gf i))) := (F_23 62 (by decide)).trans f62_53
        have ff0_55 : M20 100 = gh (.int (nI (nuK cnt))) := (F_20 100 (by decide)).trans i3
        have ff0_56 : M23 100 = gh (.int (nI (nuK cnt))) := (F_23 100 (by decide)).trans ff0_55
        simp only [sel0 hK]
        exact ⟨(fun _ => by first | trivial | rfl), ff0_56, ⟨go_23, hln9, hra9, xoutR_36, xby_39, ff14_42, ff15_45, ⟨_, xrw_48⟩, ⟨_, xdg_51⟩, ⟨_, f62_54⟩⟩, (((i8.sub (by decide)).tr (F_20.sub (by decide))).tr (F_23.sub (by decide)))⟩
      · have n_53 : k < T.length := Nat.lt_of_not_le (fun q => c_53 ((nI_leI (by omega) (by omega)).mpr q))
        refine m_aload_n (pc' := 57) C dX12_text_56 rfl 0 rfl rfl ?_
        refine r_get C hn i4 inW_X12 7 (by decide) ⟨rfl, rfl, rfl⟩ (gW_of tm_5_57) rfl dX12_text_57 rfl ?_
        refine m_bipush (pc' := 62) (v := nI 80) C dX12_text_60 (by decide) rfl ?_
        refine m_aload_n (pc' := 63) C dX12_text_62 rfl 0 rfl rfl ?_
        have ff3_57 : Mk 103 = gh (.int (nI cnt)) := (i8 103 (by decide)).trans a2
        refine r_get C hn i4 inW_X12 3 (by decide) ⟨rfl, rfl, rfl⟩ (gW_of tm_5_53) (r_at 3 rfl ff3_57) dX12_text_63 rfl ?_
        refine m_imul (pc' := 67) (v := nI (80 * cnt)) C dX12_text_66 (pk_mul _ _) rfl ?_
        refine m_iload_n (pc' := 68) C dX12_text_67 rfl 1 rfl rfl ?_
        refine m_iadd (pc' := 69) (v := nI ((80 * cnt) + k)) C dX12_text_68 (nI_add _ _) rfl ?_
        refine m_aload_n (pc' := 70) C dX12_text_69 rfl 0 rfl rfl ?_
        refine r_get C hn i4 inW_X12 1 (by decide) ⟨rfl, rfl, rfl⟩ (gW_of tm_5_51) rfl dX12_text_70 rfl ?_
        refine m_iload_n (pc' := 74) C dX12_text_73 rfl 1 rfl rfl ?_
        have f53_58 : Mk 53 = .inl (cy 0, 80, .inl (fun i => nI (tg i))) := (i8 53 (by decide)).trans t5
        refine m_cald (pc' := 75) (v := nI (T.getD k 0)) C 53 (by omega) f53_58 (vp_in_nI (by omega) (by decide)) (by rw [nI_clamp (by omega), t6 _ n_53]) dX12_text_74 rfl ?_
        refine m_cast (pc' := 76) (E' := .inl (cy 0, 640, .inl (fun i => nI (va_up q (80 * cnt + k) (T.getD k 0) i)))) C 57 (by omega) i5 (vp_in_nI (by omega) (by decide)) (by rw [nI_clamp (by omega), nar_cv (by omega), upd_nI]) dX12_text_75 rfl (fun M59 g_59 F_59 => ?_)
        refine m_iinc (pc' := 79) (v := nI (k + 1)) (lv' := [(1, .int (nI (k + 1))), (0, .ref (ad 52))]) C dX12_text_76 (k := 1) rfl (nI_add _ _) (by decide) rfl rfl ?_
        refine m_goto (tgt := 48) C dX12_text_79 (by decide) ?_
        have ro_60 := i4.fr F_59 (by decide)
        have f54_61 : M59 54 = .inl (cy 3, 8, .inl (fun i => bI (va_up b cnt true i))) := (F_59 54 (by decide)).trans i1
        have f56_62 : M59 56 = .inl (cy 1, 8, .inl (fun i => nI (va_up z cnt T.length i))) := (F_59 56 (by decide)).trans i2
        have ff0_63 : M59 100 = gh (.int (nI (nuK cnt))) := (F_59 100 (by decide)).trans i3
        refine m_lv [1, 0] rfl ?_
        exact ih (k + 1, va_up q (80 * cnt + k) (T.getD k 0), M59) (⟨by (try dsimp only); omega, f54_61, f56_62, ff0_63, g_59, (by intro m hm; (try dsimp only); rw [va_up_ne _ _ (by omega)]; exact i6 m hm), (by intro i hi; (try dsimp only); by_cases e : i = k; rw [e, va_up_self]; rw [va_up_ne _ _ (by omega)]; exact i7 i (by (try dsimp only at hi); omega)), ro_60, (i8.tr (F_59.sub (by decide)))⟩) (by simp only; omega)
    · have hK : ¬ nuK cnt = 0 := by have := of_decide_eq_true (ts_of c_18); omega
      refine m_iconst (pc' := 22) (v := nI 0) C dX12_text_21 (by decide) rfl ?_
      refine m_iret C hrt0 hlk0 rfl dX12_text_22 ?_
      have xln_64 := hln.fr F_1 (by decide)
      have xra_65 := hra.fr F_1 (by decide)
      have xoutR_66 := hout.fr F_1 (by decide)
      have xby_67 := hby.fr F_1 (by decide)
      have ff14_68 : M1 114 = gh (.int (fp)) := (F_1 114 (by decide)).trans h14
      have ff15_69 : M1 115 = gh (.int (ot)) := (F_1 115 (by decide)).trans h15
      have xrw_70 := hrw.fr F_1 (by decide)
      have xdg_71 := hdg.fr F_1 (by decide)
      have f62_72 : M1 62 = .inl (cy 1, 2000, .inl (fun i => nI (gf i))) := (F_1 62 (by decide)).trans hfd
      simp only [sel1 hK]
      exact ⟨(fun q => absurd q hK), pf0_1, ⟨pro_1, xln_64, xra_65, xoutR_66, xby_67, ff14_68, ff15_69, ⟨_, xrw_70⟩, ⟨_, xdg_71⟩, ⟨_, f62_72⟩⟩, (F_1.sub (by decide))⟩
  refine m_aload_n (pc' := 2) C dX12_text_1 rfl 0 rfl rfl ?_
  refine r_get C hn hro inW_X12 3 (by decide) ⟨rfl, rfl, rfl⟩ (gW_of tm_5_53) (r_at 3 rfl a2) dX12_text_2 rfl ?_
  refine m_bipush (pc' := 7) (v := nI 8) C dX12_text_5 (by decide) rfl ?_
  refine m_icmp_ne (pc' := 10) (tgt := 14) C dX12_text_7 (by decide) rfl (fun c_7 => ?_) (fun c_7 => ?_)
  · have n_7 : ¬ cnt = 8 := fun q => c_7 ((nI_eq (by omega) (by omega)).mpr q)
    refine m_iconst (pc' := 15) (v := nI 0) C dX12_text_14 (by decide) rfl ?_
    refine m_lv [0] rfl ?_
    exact J15 (nI 0) (by unfold nuK; rw [if_neg n_7])
  · have n_7 : cnt = 8 := (nI_eq (by omega) (by omega)).mp (Classical.not_not.mp c_7)
    refine m_iconst (pc' := 11) (v := nI 1) C dX12_text_10 (by decide) rfl ?_
    refine m_goto (tgt := 15) C dX12_text_11 (by decide) ?_
    refine m_lv [0] rfl ?_
    exact J15 (nI 1) (by unfold nuK; rw [if_pos n_7])
set_option maxHeartbeats 4000000 in
set_option maxRecDepth 100000 in
theorem kX12_room {l : Launch} {D : va_G} {cy : Nat → ClassId} {ad : Nat → Nat} {n : Nat} {A : Nat → Prop} (hI : mI ad n A) {M : Nat → va_E} (hn : 63 ≤ n) (hn2 : n ≤ 100) {T : List Nat} {xs : Nat → Arg} {cnt lim : Nat} {O B : List Nat} {fp ot : Int32} (hM : isM cy ad M T xs cnt lim O B fp ot) (x : Int32) : mMv l yX12_room (gW yX12_room cX12_room 2 none) { frames := 1, cells := 0, slots := 0, locals := 22 } D cy ad n A [.ref (ad 52), .int x] M (fun M' => M' 100 = gh (.int (nI (rmK x))) ∧ isM cy ad M' T xs cnt (sel (rmK x) (cl x) lim) (sel (rmK x) [] O) B fp ot ∧ Fr refS M M') := by
  obtain ⟨hro, hln, hra, hout, hby, h14, h15, ⟨W, hrw⟩, ⟨L, hdg⟩, gf, hfd⟩ := hM
  refine m_entry (cc := cX12_room) (maxL := 2) (ret := none) (own := RX12) (lv := [(0, .ref (ad 52)), (1, .int (x))]) hI (by decide) rfl rfl (Nat.le_of_ble_eq_true rfl) rfl (fun pX eX sX mX aX bX tX cX C hrt0 hlk0 => ?_)
  refine m_aload_n (pc' := 1) C dX12_room_0 rfl 0 rfl rfl ?_
  refine m_cut (σ := Int32) (fun a => a = nI (rmK x)) (fun a => M) 17 (fun a => [(0, .ref (ad 52)), (1, .int (x))]) (fun a => [.int (a), .ref (ad 52)]) ?_ (fun J17 => ?_)
  · rintro y9 hj
    try dsimp only at hj ⊢
    subst hj
    have hKb : rmK x ≤ 2 := by unfold rmK; (repeat' split) <;> omega
    refine m_callVi (pc' := 20) (As := [.int (nI (rmK x))]) (rest := []) C (kX12_refused hI hn hn2 hro (k := (rmK x)) (by omega)) (cwV 1 C.1.2.2.2.2 (goodV tm_5_174 tm_5_176 tp_49 tm_1_13 tm_5_177) rfl rfl rfl (by decide +kernel) ⟨by decide, by decide⟩) (by omega) hro rfl rfl rfl (Nat.le_of_ble_eq_true rfl) dX12_room_17 rfl ⟨by decide, by decide⟩ (fun x_1 M1 q_1 => ?_)
    obtain ⟨e_1, pro_1, pf0_1, F_1⟩ := q_1
    replace e_1 := e_1.symm
    subst e_1
    refine m_if_eq (pc' := 23) (tgt := 24) C dX12_room_20 (by decide) rfl (fun c_20 => ?_) (fun c_20 => ?_)
    · have hK : rmK x = 0 := by have := of_decide_eq_false ((bI_0 _).mp c_20); omega
      have hx0 : ¬ (x < 0 ∨ 2000 < cl x) := by unfold rmK at hK; split at hK; omega; assumption
      have hxe := of_nn (fun z => hx0 (Or.inl z))
      have hxl : cl x ≤ 2000 := Nat.le_of_not_lt (fun z => hx0 (Or.inr z))
      refine m_aload_n (pc' := 25) C dX12_room_24 rfl 0 rfl rfl ?_
      refine m_iload_n (pc' := 26) C dX12_room_25 rfl 1 rfl rfl ?_
      refine r_put (ty := .int) C hn hn2 pro_1 inW_X12 10 110 (by decide) rfl ⟨rfl, rfl, rfl, rfl⟩ (gW_of tm_5_60) (by decide +kernel) rfl rfl (fun _ => rfl) dX12_room_26 rfl (fun M2 go_2 g_2 F_2 => ?_)
      refine m_aload_n (pc' := 30) C dX12_room_29 rfl 0 rfl rfl ?_
      refine m_iconst (pc' := 31) (v := nI 0) C dX12_room_30 (by decide) rfl ?_
      refine r_put (ty := .int) C hn hn2 go_2 inW_X12 11 111 (by decide) rfl ⟨rfl, rfl, rfl, rfl⟩ (gW_of tm_5_61) (by decide +kernel) rfl rfl (fun _ => rfl) dX12_room_31 rfl (fun M3 go_3 g_3 F_3 => ?_)
      refine m_vret C hrt0 hlk0 dX12_room_34 ?_
      have ff10_4 : M3 110 = gh (.int (x)) := (F_3 110 (by decide)).trans g_2
      have hout9 : isOutR cy M3 (cl x) [] := isOutR.room hout (S := [52, 100, 110, 111]) (((F_1.sub (by decide)).tr (F_2.sub (by decide))).tr (F_3.sub (by decide))) (by decide) hxl (by rw [← hxe]; exact ff10_4) g_3
      have xln_5 := hln.fr F_1 (by decide)
      have xln_6 := xln_5.fr F_2 (by decide)
      have xln_7 := xln_6.fr F_3 (by decide)
      have xra_8 := hra.fr F_1 (by decide)
      have xra_9 := xra_8.fr F_2 (by decide)
      have xra_10 := xra_9.fr F_3 (by decide)
      have xby_11 := hby.fr F_1 (by decide)
      have xby_12 := xby_11.fr F_2 (by decide)
      have xby_13 := xby_12.fr F_3 (by decide)
      have ff14_14 : M1 114 = gh (.int (fp)) := (F_1 114 (by decide)).trans h14
      have ff14_15 : M2 114 = gh (.int (fp)) := (F_2 114 (by decide)).trans ff14_14
      have ff14_16 : M3 114 = gh (.int (fp)) := (F_3 114 (by decide)).trans ff14_15
      have ff15_17 : M1 115 = gh (.int (ot)) := (F_1 115 (by decide)).trans h15
      have ff15_18 : M2 115 = gh (.int (ot)) := (F_2 115 (by decide)).trans ff15_17
      have ff15_19 : M3 115 = gh (.int (ot)) := (F_3 115 (by decide)).trans ff15_18
      have xrw_20 := hrw.fr F_1 (by decide)
      have xrw_21 := xrw_20.fr F_2 (by decide)
      have xrw_22 := xrw_21.fr F_3 (by decide)
      have xdg_23 := hdg.fr F_1 (by decide)
      have xdg_24 := xdg_23.fr F_2 (by decide)
      have xdg_25 := xdg_24.fr F_3 (by decide)
      have f62_26 : M1 62 = .inl (cy 1, 2000, .inl (fun i => nI (gf i))) := (F_1 62 (by decide)).trans hfd
      have f62_27 : M2 62 = .inl (cy 1, 2000, .inl (fun i => nI (gf i))) := (F_2 62 (by decide)).trans f62_26
      have f62_28 : M3 62 = .inl (cy 1, 2000, .inl (fun i => nI (gf i))) := (F_3 62 (by decide)).trans f62_27
      have ff0_29 : M2 100 = gh (.int (nI (rmK x))) := (F_2 100 (by decide)).trans pf0_1
      have ff0_30 : M3 100 = gh (.int (nI (rmK x))) := (F_3 100 (by decide)).trans ff0_29
      simp only [sel0 hK]
      exact ⟨ff0_30, ⟨go_3, xln_7, xra_10, hout9, xby_13, ff14_16, ff15_19, ⟨_, xrw_22⟩, ⟨_, xdg_25⟩, ⟨_, f62_28⟩⟩, (((F_1.sub (by decide)).tr (F_2.sub (by decide))).tr (F_3.sub (by decide)))⟩
    · have hK : ¬ rmK x = 0 := by have := of_decide_eq_true (ts_of c_20); omega
      refine m_vret C hrt0 hlk0 dX12_room_23 ?_
      have xln_31 := hln.fr F_1 (by decide)
      have xra_32 := hra.fr F_1 (by decide)
      have xoutR_33 := hout.fr F_1 (by decide)
      have xby_34 := hby.fr F_1 (by decide)
      have ff14_35 : M1 114 = gh (.int (fp)) := (F_1 114 (by decide)).trans h14
      have ff15_36 : M1 115 = gh (.int (ot)) := (F_1 115 (by decide)).trans h15
      have xrw_37 := hrw.fr F_1 (by decide)
      have xdg_38 := hdg.fr F_1 (by decide)
      have f62_39 : M1 62 = .inl (cy 1, 2000, .inl (fun i => nI (gf i))) := (F_1 62 (by decide)).trans hfd
      simp only [sel1 hK]
      exact ⟨pf0_1, ⟨pro_1, xln_31, xra_32, xoutR_33, xby_34, ff14_35, ff15_36, ⟨_, xrw_37⟩, ⟨_, xdg_38⟩, ⟨_, f62_39⟩⟩, (F_1.sub (by decide))⟩
  refine m_iload_n (pc' := 2) C dX12_room_1 rfl 1 rfl rfl ?_
  refine m_iconst (pc' := 3) (v := 0) C dX12_room_2 (by decide) rfl ?_
  refine m_sipush (pc' := 6) (v := nI 2000) C dX12_room_3 (by decide) rfl ?_
  refine m_callSi (pc' := 9) (As := [.int (x), .int (0), .int (nI 2000)]) (rest := [.ref (ad 52)]) C (kX12_isIn hI x 0 (nI 2000)) (cwS 3 C.1.2.2.2.2 (goodS tm_5_198 tm_5_199 tm_1_13 tm_5_200) rfl rfl rfl (by decide +kernel) ⟨by decide, by decide⟩) rfl rfl (Nat.le_of_ble_eq_true rfl) dX12_room_6 rfl ⟨by decide, by decide⟩ (fun x_40 N_40 q_40 => ?_)
  obtain ⟨e_40, E_40⟩ := q_40
  replace E_40 := E_40.symm
  subst E_40
  replace e_40 := e_40.symm
  subst e_40
  refine m_if_eq (pc' := 12) (tgt := 16) C dX12_room_9 (by decide) rfl (fun c_9 => ?_) (fun c_9 => ?_)
  · have hq := of_decide_eq_false ((bI_0 _).mp c_9)
    rw [in_range (by omega)] at hq
    have hq := Classical.not_not.mp hq
    refine m_iconst (pc' := 17) (v := nI 1) C dX12_room_16 (by decide) rfl ?_
    refine m_lv [0, 1] rfl ?_
    exact J17 (nI 1) (by unfold rmK; rw [if_pos hq])
  · have hq := of_decide_eq_true (ts_of c_9)
    rw [in_range (by omega)] at hq
    refine m_iconst (pc' := 13) (v := nI 0) C dX12_room_12 (by decide) rfl ?_
    refine m_goto (tgt := 17) C dX12_room_13 (by decide) ?_
    refine m_lv [0, 1] rfl ?_
    exact J17 (nI 0) (by unfold rmK; rw [if_neg hq])
set_option maxHeartbeats 4000000 in
set_option maxRecDepth 100000 in
theorem kX12_cut {l : Launch} {D : va_G} {cy : Nat → ClassId} {ad : Nat → Nat} {n : Nat} {A : Nat → Prop} (hI : mI ad n A) {M : Nat → va_E} (hn : 63 ≤ n) (hn2 : n ≤ 100) {T : List Nat} {xs : Nat → Arg} {cnt lim : Nat} {O B : List Nat} {fp ot : Int32} (hM : isM cy ad M T xs cnt lim O B fp ot) (x : Int32) : mMi l yX12_cut (gW yX12_cut cX12_cut 3 (some .int)) { frames := 1, cells := 0, slots := 0, locals := 22 } D cy ad n A [.ref (ad 52), .int x] M (fun res M' => (cuK B x = 0 → res = nI (B.length - cl x)) ∧ M' 100 = gh (.int (nI (cuK B x))) ∧ isM cy ad M' T xs cnt lim O (sel (cuK B x) (B.take (cl x)) B) fp ot ∧ Fr refS M M') := by
  obtain ⟨hro, hln, hra, hout, hby, h14, h15, ⟨W, hrw⟩, ⟨L, hdg⟩, gf, hfd⟩ := hM
  have hl2 : B.length ≤ 256 := hby.2.2.1
  refine m_entry (cc := cX12_cut) (maxL := 3) (ret := (some .int)) (own := RX12) (lv := [(0, .ref (ad 52)), (1, .int (x))]) hI (by decide) rfl rfl (Nat.le_of_ble_eq_true rfl) rfl (fun pX eX sX mX aX bX tX cX C hrt0 hlk0 => ?_)
  refine m_aload_n (pc' := 1) C dX12_cut_0 rfl 0 rfl rfl ?_
  refine m_cut (σ := Int32) (fun a => a = nI (cuK B x)) (fun a => M) 18 (fun a => [(0, .ref (ad 52)), (1, .int (x))]) (fun a => [.int (a), .ref (ad 52)]) ?_ (fun J18 => ?_)
  · rintro y9 hj
    try dsimp only at hj ⊢
    subst hj
    have hKb : cuK B x ≤ 2 := by unfold cuK; (repeat' split) <;> omega
    refine m_callVi (pc' := 21) (As := [.int (nI (cuK B x))]) (rest := []) C (kX12_refused hI hn hn2 hro (k := (cuK B x)) (by omega)) (cwV 1 C.1.2.2.2.2 (goodV tm_5_174 tm_5_176 tp_49 tm_1_13 tm_5_177) rfl rfl rfl (by decide +kernel) ⟨by decide, by decide⟩) (by omega) hro rfl rfl rfl (Nat.le_of_ble_eq_true rfl) dX12_cut_18 rfl ⟨by decide, by decide⟩ (fun x_1 M1 q_1 => ?_)
    obtain ⟨e_1, pro_1, pf0_1, F_1⟩ := q_1
    replace e_1 := e_1.symm
    subst e_1
    refine m_if_eq (pc' := 24) (tgt := 26) C dX12_cut_21 (by decide) rfl (fun c_21 => ?_) (fun c_21 => ?_)
    · have hK : cuK B x = 0 := by have := of_decide_eq_false ((bI_0 _).mp c_21); omega
      have hx0 : ¬ (x < 0 ∨ B.length < cl x) := by unfold cuK at hK; split at hK; omega; assumption
      have hxe := of_nn (fun z => hx0 (Or.inl z))
      have hxl : cl x ≤ B.length := Nat.le_of_not_lt (fun z => hx0 (Or.inr z))
      refine m_aload_n (pc' := 27) C dX12_cut_26 rfl 0 rfl rfl ?_
      have ff8_2 : M1 108 = gh (.int (nI B.length)) := (F_1 108 (by decide)).trans hby.2.1
      refine r_get C hn pro_1 inW_X12 8 (by decide) ⟨rfl, rfl, rfl⟩ (gW_of tm_5_58) (r_at 8 rfl ff8_2) dX12_cut_27 rfl ?_
      refine m_iload_n (pc' := 31) C dX12_cut_30 rfl 1 rfl rfl ?_
      refine m_isub (pc' := 32) (v := nI (B.length - cl x)) C dX12_cut_31 (by have h9 := pk_sub hxl; rw [← hxe] at h9; exact h9) rfl ?_
      refine m_istore_n (pc' := 33) (lv' := [(2, .int (nI (B.length - cl x))), (0, .ref (ad 52)), (1, .int (x))]) C dX12_cut_32 rfl (by decide) rfl rfl ?_
      refine m_aload_n (pc' := 34) C dX12_cut_33 rfl 1 rfl rfl ?_
      refine m_iload_n (pc' := 35) C dX12_cut_34 rfl 2 rfl rfl ?_
      refine r_put (ty := .int) C hn hn2 pro_1 inW_X12 8 108 (by decide) rfl ⟨rfl, rfl, rfl, rfl⟩ (gW_of tm_5_58) (by decide +kernel) rfl rfl (fun _ => rfl) dX12_cut_35 rfl (fun M3 go_3 g_3 F_3 => ?_)
      refine m_iload_n (pc' := 39) C dX12_cut_38 rfl 0 rfl rfl ?_
      refine m_iret C hrt0 hlk0 rfl dX12_cut_39 ?_
      have hby9 : isBy cy M3 (B.take (cl x)) := isBy.cut hby (S := [52, 100, 108]) ((F_1.sub (by decide)).tr (F_3.sub (by decide))) (by decide) hxl (by rw [← hxe]; exact g_3)
      have xln_4 := hln.fr F_1 (by decide)
      have xln_5 := xln_4.fr F_3 (by decide)
      have xra_6 := hra.fr F_1 (by decide)
      have xra_7 := xra_6.fr F_3 (by decide)
      have xoutR_8 := hout.fr F_1 (by decide)
      have xoutR_9 := xoutR_8.fr F_3 (by decide)
      have ff14_10 : M1 114 = gh (.int (fp)) := (F_1 114 (by decide)).trans h14
      have ff14_11 : M3 114 = gh (.int (fp)) := (F_3 114 (by decide)).trans ff14_10
      have ff15_12 : M1 115 = gh (.int (ot)) := (F_1 115 (by decide)).trans h15
      have ff15_13 : M3 115 = gh (.int (ot)) := (F_3 115 (by decide)).trans ff15_12
      have xrw_14 := hrw.fr F_1 (by decide)
      have xrw_15 := xrw_14.fr F_3 (by decide)
      have xdg_16 := hdg.fr F_1 (by decide)
      have xdg_17 := xdg_16.fr F_3 (by decide)
      have f62_18 : M1 62 = .inl (cy 1, 2000, .inl (fun i => nI (gf i))) := (F_1 62 (by decide)).trans hfd
      have f62_19 : M3 62 = .inl (cy 1, 2000, .inl (fun i => nI (gf i))) := (F_3 62 (by decide)).trans f62_18
      have ff0_20 : M3 100 = gh (.int (nI (cuK B x))) := (F_3 100 (by decide)).trans pf0_1
      simp only [sel0 hK]
      exact ⟨(fun _ => by first | trivial | rfl), ff0_20, ⟨go_3, xln_5, xra_7, xoutR_9, hby9, ff14_11, ff15_13, ⟨_, xrw_15⟩, ⟨_, xdg_17⟩, ⟨_, f62_19⟩⟩, ((F_1.sub (by decide)).tr (F_3.sub (by decide)))⟩
    · have hK : ¬ cuK B x = 0 := by have := of_decide_eq_true (ts_of c_21); omega
      refine m_iconst (pc' := 25) (v := nI 0) C dX12_cut_24 (by decide) rfl ?_
      refine m_iret C hrt0 hlk0 rfl dX12_cut_25 ?_
      have xln_21 := hln.fr F_1 (by decide)
      have xra_22 := hra.fr F_1 (by decide)
      have xoutR_23 := hout.fr F_1 (by decide)
      have xby_24 := hby.fr F_1 (by decide)
      have ff14_25 : M1 114 = gh (.int (fp)) := (F_1 114 (by decide)).trans h14
      have ff15_26 : M1 115 = gh (.int (ot)) := (F_1 115 (by decide)).trans h15
      have xrw_27 := hrw.fr F_1 (by decide)
      have xdg_28 := hdg.fr F_1 (by decide)
      have f62_29 : M1 62 = .inl (cy 1, 2000, .inl (fun i => nI (gf i))) := (F_1 62 (by decide)).trans hfd
      simp only [sel1 hK]
      exact ⟨(fun q => absurd q hK), pf0_1, ⟨pro_1, xln_21, xra_22, xoutR_23, xby_24, ff14_25, ff15_26, ⟨_, xrw_27⟩, ⟨_, xdg_28⟩, ⟨_, f62_29⟩⟩, (F_1.sub (by decide))⟩
  refine m_iload_n (pc' := 2) C dX12_cut_1 rfl 1 rfl rfl ?_
  refine m_iconst (pc' := 3) (v := 0) C dX12_cut_2 (by decide) rfl ?_
  refine m_aload_n (pc' := 4) C dX12_cut_3 rfl 0 rfl rfl ?_
  refine r_get C hn hro inW_X12 8 (by decide) ⟨rfl, rfl, rfl⟩ (gW_of tm_5_58) (r_at 8 rfl hby.2.1) dX12_cut_4 rfl ?_
  refine m_callSi (pc' := 10) (As := [.int (x), .int (0), .int (nI B.length)]) (rest := [.ref (ad 52)]) C (kX12_isIn hI x 0 (nI B.length)) (cwS 3 C.1.2.2.2.2 (goodS tm_5_198 tm_5_199 tm_1_13 tm_5_200) rfl rfl rfl (by decide +kernel) ⟨by decide, by decide⟩) rfl rfl (Nat.le_of_ble_eq_true rfl) dX12_cut_7 rfl ⟨by decide, by decide⟩ (fun x_30 N_30 q_30 => ?_)
  obtain ⟨e_30, E_30⟩ := q_30
  replace E_30 := E_30.symm
  subst E_30
  replace e_30 := e_30.symm
  subst e_30
  refine m_if_eq (pc' := 13) (tgt := 17) C dX12_cut_10 (by decide) rfl (fun c_10 => ?_) (fun c_10 => ?_)
  · have hq := of_decide_eq_false ((bI_0 _).mp c_10)
    rw [in_range (by omega)] at hq
    have hq := Classical.not_not.mp hq
    refine m_iconst (pc' := 18) (v := nI 1) C dX12_cut_17 (by decide) rfl ?_
    refine m_lv [0, 1] rfl ?_
    exact J18 (nI 1) (by unfold cuK; rw [if_pos hq])
  · have hq := of_decide_eq_true (ts_of c_10)
    rw [in_range (by omega)] at hq
    refine m_iconst (pc' := 14) (v := nI 0) C dX12_cut_13 (by decide) rfl ?_
    refine m_goto (tgt := 18) C dX12_cut_14 (by decide) ?_
    refine m_lv [0, 1] rfl ?_
    exact J18 (nI 0) (by unfold cuK; rw [if_neg hq])
set_option maxHeartbeats 4000000 in
set_option maxRecDepth 100000 in
theorem kX12_trim {l : Launch} {D : va_G} {cy : Nat → ClassId} {ad : Nat → Nat} {n : Nat} {A : Nat → Prop} (hI : mI ad n A) {M : Nat → va_E} (hn : 63 ≤ n) (hn2 : n ≤ 100) {T : List Nat} {xs : Nat → Arg} {cnt lim : Nat} {O B : List Nat} {fp ot : Int32} (hM : isM cy ad M T xs cnt lim O B fp ot) (x : Int32) : mMi l yX12_trim (gW yX12_trim cX12_trim 3 (some .int)) { frames := 1, cells := 0, slots := 0, locals := 22 } D cy ad n A [.ref (ad 52), .int x] M (fun res M' => (cuK O x = 0 → res = nI (O.length - cl x)) ∧ M' 100 = gh (.int (nI (cuK O x))) ∧ isM cy ad M' T xs cnt lim (sel (cuK O x) (O.take (cl x)) O) B fp ot ∧ Fr refS M M') := by
  obtain ⟨hro, hln, hra, hout, hby, h14, h15, ⟨W, hrw⟩, ⟨L, hdg⟩, gf, hfd⟩ := hM
  have hl2 : O.length ≤ 2000 := Nat.le_trans hout.2.1 hout.1
  refine m_entry (cc := cX12_trim) (maxL := 3) (ret := (some .int)) (own := RX12) (lv := [(0, .ref (ad 52)), (1, .int (x))]) hI (by decide) rfl rfl (Nat.le_of_ble_eq_true rfl) rfl (fun pX eX sX mX aX bX tX cX C hrt0 hlk0 => ?_)
  refine m_aload_n (pc' := 1) C dX12_trim_0 rfl 0 rfl rfl ?_
  refine m_cut (σ := Int32) (fun a => a = nI (cuK O x)) (fun a => M) 18 (fun a => [(0, .ref (ad 52)), (1, .int (x))]) (fun a => [.int (a), .ref (ad 52)]) ?_ (fun J18 => ?_)
  · rintro y9 hj
    try dsimp only at hj ⊢
    subst hj
    have hKb : cuK O x ≤ 2 := by unfold cuK; (repeat' split) <;> omega
    refine m_callVi (pc' := 21) (As := [.int (nI (cuK O x))]) (rest := []) C (kX12_refused hI hn hn2 hro (k := (cuK O x)) (by omega)) (cwV 1 C.1.2.2.2.2 (goodV tm_5_174 tm_5_176 tp_49 tm_1_13 tm_5_177) rfl rfl rfl (by decide +kernel) ⟨by decide, by decide⟩) (by omega) hro rfl rfl rfl (Nat.le_of_ble_eq_true rfl) dX12_trim_18 rfl ⟨by decide, by decide⟩ (fun x_1 M1 q_1 => ?_)
    obtain ⟨e_1, pro_1, pf0_1, F_1⟩ := q_1
    replace e_1 := e_1.symm
    subst e_1
    refine m_if_eq (pc' := 24) (tgt := 26) C dX12_trim_21 (by decide) rfl (fun c_21 => ?_) (fun c_21 => ?_)
    · have hK : cuK O x = 0 := by have := of_decide_eq_false ((bI_0 _).mp c_21); omega
      have hx0 : ¬ (x < 0 ∨ O.length < cl x) := by unfold cuK at hK; split at hK; omega; assumption
      have hxe := of_nn (fun z => hx0 (Or.inl z))
      have hxl : cl x ≤ O.length := Nat.le_of_not_lt (fun z => hx0 (Or.inr z))
      refine m_aload_n (pc' := 27) C dX12_trim_26 rfl 0 rfl rfl ?_
      have ff11_2 : M1 111 = gh (.int (nI O.length)) := (F_1 111 (by decide)).trans hout.2.2.2.2.1
      refine r_get C hn pro_1 inW_X12 11 (by decide) ⟨rfl, rfl, rfl⟩ (gW_of tm_5_61) (r_at 11 rfl ff11_2) dX12_trim_27 rfl ?_
      refine m_iload_n (pc' := 31) C dX12_trim_30 rfl 1 rfl rfl ?_
      refine m_isub (pc' := 32) (v := nI (O.length - cl x)) C dX12_trim_31 (by have h9 := pk_sub hxl; rw [← hxe] at h9; exact h9) rfl ?_
      refine m_istore_n (pc' := 33) (lv' := [(2, .int (nI (O.length - cl x))), (0, .ref (ad 52)), (1, .int (x))]) C dX12_trim_32 rfl (by decide) rfl rfl ?_
      refine m_aload_n (pc' := 34) C dX12_trim_33 rfl 1 rfl rfl ?_
      refine m_iload_n (pc' := 35) C dX12_trim_34 rfl 2 rfl rfl ?_
      refine r_put (ty := .int) C hn hn2 pro_1 inW_X12 11 111 (by decide) rfl ⟨rfl, rfl, rfl, rfl⟩ (gW_of tm_5_61) (by decide +kernel) rfl rfl (fun _ => rfl) dX12_trim_35 rfl (fun M3 go_3 g_3 F_3 => ?_)
      refine m_iload_n (pc' := 39) C dX12_trim_38 rfl 0 rfl rfl ?_
      refine m_iret C hrt0 hlk0 rfl dX12_trim_39 ?_
      have hout9 : isOutR cy M3 lim (O.take (cl x)) := isOutR.cut hout (S := [52, 100, 111]) ((F_1.sub (by decide)).tr (F_3.sub (by decide))) (by decide) hxl (by rw [← hxe]; exact g_3)
      have xln_4 := hln.fr F_1 (by decide)
      have xln_5 := xln_4.fr F_3 (by decide)
      have xra_6 := hra.fr F_1 (by decide)
      have xra_7 := xra_6.fr F_3 (by decide)
      have xby_8 := hby.fr F_1 (by decide)
      have xby_9 := xby_8.fr F_3 (by decide)
      have ff14_10 : M1 114 = gh (.int (fp)) := (F_1 114 (by decide)).trans h14
      have ff14_11 : M3 114 = gh (.int (fp)) := (F_3 114 (by decide)).trans ff14_10
      have ff15_12 : M1 115 = gh (.int (ot)) := (F_1 115 (by decide)).trans h15
      have ff15_13 : M3 115 = gh (.int (ot)) := (F_3 115 (by decide)).trans ff15_12
      have xrw_14 := hrw.fr F_1 (by decide)
      have xrw_15 := xrw_14.fr F_3 (by decide)
      have xdg_16 := hdg.fr F_1 (by decide)
      have xdg_17 := xdg_16.fr F_3 (by decide)
      have f62_18 : M1 62 = .inl (cy 1, 2000, .inl (fun i => nI (gf i))) := (F_1 62 (by decide)).trans hfd
      have f62_19 : M3 62 = .inl (cy 1, 2000, .inl (fun i => nI (gf i))) := (F_3 62 (by decide)).trans f62_18
      have ff0_20 : M3 100 = gh (.int (nI (cuK O x))) := (F_3 100 (by decide)).trans pf0_1
      simp only [sel0 hK]
      exact ⟨(fun _ => by first | trivial | rfl), ff0_20, ⟨go_3, xln_5, xra_7, hout9, xby_9, ff14_11, ff15_13, ⟨_, xrw_15⟩, ⟨_, xdg_17⟩, ⟨_, f62_19⟩⟩, ((F_1.sub (by decide)).tr (F_3.sub (by decide)))⟩
    · have hK : ¬ cuK O x = 0 := by have := of_decide_eq_true (ts_of c_21); omega
      refine m_iconst (pc' := 25) (v := nI 0) C dX12_trim_24 (by decide) rfl ?_
      refine m_iret C hrt0 hlk0 rfl dX12_trim_25 ?_
      have xln_21 := hln.fr F_1 (by decide)
      have xra_22 := hra.fr F_1 (by decide)
      have xoutR_23 := hout.fr F_1 (by decide)
      have xby_24 := hby.fr F_1 (by decide)
      have ff14_25 : M1 114 = gh (.int (fp)) := (F_1 114 (by decide)).trans h14
      have ff15_26 : M1 115 = gh (.int (ot)) := (F_1 115 (by decide)).trans h15
      have xrw_27 := hrw.fr F_1 (by decide)
      have xdg_28 := hdg.fr F_1 (by decide)
      have f62_29 : M1 62 = .inl (cy 1, 2000, .inl (fun i => nI (gf i))) := (F_1 62 (by decide)).trans hfd
      simp only [sel1 hK]
      exact ⟨(fun q => absurd q hK), pf0_1, ⟨pro_1, xln_21, xra_22, xoutR_23, xby_24, ff14_25, ff15_26, ⟨_, xrw_27⟩, ⟨_, xdg_28⟩, ⟨_, f62_29⟩⟩, (F_1.sub (by decide))⟩
  refine m_iload_n (pc' := 2) C dX12_trim_1 rfl 1 rfl rfl ?_
  refine m_iconst (pc' := 3) (v := 0) C dX12_trim_2 (by decide) rfl ?_
  refine m_aload_n (pc' := 4) C dX12_trim_3 rfl 0 rfl rfl ?_
  refine r_get C hn hro inW_X12 11 (by decide) ⟨rfl, rfl, rfl⟩ (gW_of tm_5_61) (r_at 11 rfl hout.2.2.2.2.1) dX12_trim_4 rfl ?_
  refine m_callSi (pc' := 10) (As := [.int (x), .int (0), .int (nI O.length)]) (rest := [.ref (ad 52)]) C (kX12_isIn hI x 0 (nI O.length)) (cwS 3 C.1.2.2.2.2 (goodS tm_5_198 tm_5_199 tm_1_13 tm_5_200) rfl rfl rfl (by decide +kernel) ⟨by decide, by decide⟩) rfl rfl (Nat.le_of_ble_eq_true rfl) dX12_trim_7 rfl ⟨by decide, by decide⟩ (fun x_30 N_30 q_30 => ?_)
  obtain ⟨e_30, E_30⟩ := q_30
  replace E_30 := E_30.symm
  subst E_30
  replace e_30 := e_30.symm
  subst e_30
  refine m_if_eq (pc' := 13) (tgt := 17) C dX12_trim_10 (by decide) rfl (fun c_10 => ?_) (fun c_10 => ?_)
  · have hq := of_decide_eq_false ((bI_0 _).mp c_10)
    rw [in_range (by omega)] at hq
    have hq := Classical.not_not.mp hq
    refine m_iconst (pc' := 18) (v := nI 1) C dX12_trim_17 (by decide) rfl ?_
    refine m_lv [0, 1] rfl ?_
    exact J18 (nI 1) (by unfold cuK; rw [if_pos hq])
  · have hq := of_decide_eq_true (ts_of c_10)
    rw [in_range (by omega)] at hq
    refine m_iconst (pc' := 14) (v := nI 0) C dX12_trim_13 (by decide) rfl ?_
    refine m_goto (tgt := 18) C dX12_trim_14 (by decide) ?_
    refine m_lv [0, 1] rfl ?_
    exact J18 (nI 0) (by unfold cuK; rw [if_neg hq])
set_option maxHeartbeats 4000000 in
set_option maxRecDepth 100000 in
theorem kX12_patch {l : Launch} {D : va_G} {cy : Nat → ClassId} {ad : Nat → Nat} {n : Nat} {A : Nat → Prop} (hI : mI ad n A) {M : Nat → va_E} (hn : 63 ≤ n) (hn2 : n ≤ 100) {T : List Nat} {xs : Nat → Arg} {cnt lim : Nat} {O B : List Nat} {fp ot : Int32} (hM : isM cy ad M T xs cnt lim O B fp ot) (x y : Int32) : mMi l yX12_patch (gW yX12_patch cX12_patch 4 (some .int)) { frames := 1, cells := 0, slots := 0, locals := 22 } D cy ad n A [.ref (ad 52), .int x, .int y] M (fun res M' => (paK O x y = 0 → res = rowAt O x) ∧ M' 100 = gh (.int (nI (paK O x y))) ∧ isM cy ad M' T xs cnt lim (sel (paK O x y) (O.set (cl x) (lowb y)) O) B fp ot ∧ Fr refS M M') := by
  obtain ⟨hro, hln, hra, hout, hby, h14, h15, ⟨W, hrw⟩, ⟨L, hdg⟩, gf, hfd⟩ := hM
  obtain ⟨h1, h0, h2, -, -, -, h6, g, h7, h8⟩ := id hout
  refine m_entry (cc := cX12_patch) (maxL := 4) (ret := (some .int)) (own := RX12) (lv := [(0, .ref (ad 52)), (1, .int (x)), (2, .int (y))]) hI (by decide) rfl rfl (Nat.le_of_ble_eq_true rfl) rfl (fun pX eX sX mX aX bX tX cX C hrt0 hlk0 => ?_)
  refine m_aload_n (pc' := 1) C dX12_patch_0 rfl 0 rfl rfl ?_
  refine m_cut (σ := Int32) (fun a => a = nI (paK O x y)) (fun a => M) 35 (fun a => [(0, .ref (ad 52)), (1, .int (x)), (2, .int (y))]) (fun a => [.int (a), .ref (ad 52)]) ?_ (fun J35 => ?_)
  · rintro y9 hj
    try dsimp only at hj ⊢
    subst hj
    have hKb : paK O x y ≤ 2 := by unfold paK; (repeat' split) <;> omega
    refine m_callVi (pc' := 38) (As := [.int (nI (paK O x y))]) (rest := []) C (kX12_refused hI hn hn2 hro (k := (paK O x y)) (by omega)) (cwV 1 C.1.2.2.2.2 (goodV tm_5_174 tm_5_176 tp_49 tm_1_13 tm_5_177) rfl rfl rfl (by decide +kernel) ⟨by decide, by decide⟩) (by omega) hro rfl rfl rfl (Nat.le_of_ble_eq_true rfl) dX12_patch_35 rfl ⟨by decide, by decide⟩ (fun x_1 M1 q_1 => ?_)
    obtain ⟨e_1, pro_1, pf0_1, F_1⟩ := q_1
    replace e_1 := e_1.symm
    subst e_1
    refine m_if_eq (pc' := 41) (tgt := 43) C dX12_patch_38 (by decide) rfl (fun c_38 => ?_) (fun c_38 => ?_)
    · have hK : paK O x y = 0 := by have := of_decide_eq_false ((bI_0 _).mp c_38); omega
      have hq : 0 ≤ x ∧ x < nI O.length := by
        unfold paK at hK
        split at hK
        · omega
        · exact Classical.not_not.mp (by assumption)
      have hy : ¬ (y < 0 ∨ 255 < cl y) := by
        unfold paK at hK
        rw [if_neg (Classical.not_not.mpr hq)] at hK
        split at hK
        · omega
        · assumption
      have hye := of_nn (fun z => hy (Or.inl z))
      have hyl : cl y ≤ 255 := Nat.le_of_not_lt (fun z => hy (Or.inr z))
      have hylo := lowb_cl (fun z => hy (Or.inl z)) hyl
      have hxe := of_nn (Int32.not_lt.mpr hq.1)
      have hxl : cl x < O.length := by have h9 := hq.2; rw [hxe] at h9; exact (nI_ltI (clamp_lt x) (by omega)).mp h9
      refine m_aload_n (pc' := 44) C dX12_patch_43 rfl 0 rfl rfl ?_
      refine r_get C hn pro_1 inW_X12 12 (by decide) ⟨rfl, rfl, rfl⟩ (gW_of tm_5_62) rfl dX12_patch_44 rfl ?_
      refine m_iload_n (pc' := 48) C dX12_patch_47 rfl 1 rfl rfl ?_
      have f59_2 : M1 59 = .inl (cy 0, 2000, .inl (fun i => nI (g i))) := (F_1 59 (by decide)).trans h7
      refine m_cald (pc' := 49) (v := nI (O.getD (cl x) 0)) C 59 (by omega) f59_2 (by rw [hxe]; exact vp_in_nI (by omega) (by decide)) (by show nI (g (cl x)) = _; rw [h8 _ hxl]) dX12_patch_48 rfl ?_
      refine m_istore_n (pc' := 50) (lv' := [(3, .int (nI (O.getD (cl x) 0))), (0, .ref (ad 52)), (1, .int (x)), (2, .int (y))]) C dX12_patch_49 rfl (by decide) rfl rfl ?_
      refine m_aload_n (pc' := 51) C dX12_patch_50 rfl 1 rfl rfl ?_
      refine r_get C hn pro_1 inW_X12 12 (by decide) ⟨rfl, rfl, rfl⟩ (gW_of tm_5_62) rfl dX12_patch_51 rfl ?_
      refine m_iload_n (pc' := 55) C dX12_patch_54 rfl 2 rfl rfl ?_
      refine m_iload_n (pc' := 56) C dX12_patch_55 rfl 3 rfl rfl ?_
      refine m_i2c (pc' := 57) (v := nI (lowb y)) C dX12_patch_56 (by have h9 := i2c_nI (k := cl y) (by omega); rw [← hye] at h9; rw [hylo, ← hye]; exact h9) rfl ?_
      refine m_cast (pc' := 58) (E' := .inl (cy 0, 2000, .inl (fun i => nI (va_up g (cl x) (lowb y) i)))) C 59 (by omega) f59_2 (by rw [hxe]; exact vp_in_nI (by omega) (by decide)) (by rw [nar_cv (by omega), upd_nI]) dX12_patch_57 rfl (fun M3 g_3 F_3 => ?_)
      refine m_iload_n (pc' := 59) C dX12_patch_58 rfl 0 rfl rfl ?_
      refine m_iret C hrt0 hlk0 rfl dX12_patch_59 ?_
      have hout9 : isOutR cy M3 lim (O.set (cl x) (lowb y)) := isOutR.put hout (S := [52, 59, 100]) ((F_1.sub (by decide)).tr (F_3.sub (by decide))) (by decide) (by omega) h8 g_3
      have ro_4 := pro_1.fr F_3 (by decide)
      have xln_5 := hln.fr F_1 (by decide)
      have xln_6 := xln_5.fr F_3 (by decide)
      have xra_7 := hra.fr F_1 (by decide)
      have xra_8 := xra_7.fr F_3 (by decide)
      have xby_9 := hby.fr F_1 (by decide)
      have xby_10 := xby_9.fr F_3 (by decide)
      have ff14_11 : M1 114 = gh (.int (fp)) := (F_1 114 (by decide)).trans h14
      have ff14_12 : M3 114 = gh (.int (fp)) := (F_3 114 (by decide)).trans ff14_11
      have ff15_13 : M1 115 = gh (.int (ot)) := (F_1 115 (by decide)).trans h15
      have ff15_14 : M3 115 = gh (.int (ot)) := (F_3 115 (by decide)).trans ff15_13
      have xrw_15 := hrw.fr F_1 (by decide)
      have xrw_16 := xrw_15.fr F_3 (by decide)
      have xdg_17 := hdg.fr F_1 (by decide)
      have xdg_18 := xdg_17.fr F_3 (by decide)
      have f62_19 : M1 62 = .inl (cy 1, 2000, .inl (fun i => nI (gf i))) := (F_1 62 (by decide)).trans hfd
      have f62_20 : M3 62 = .inl (cy 1, 2000, .inl (fun i => nI (gf i))) := (F_3 62 (by decide)).trans f62_19
      have ff0_21 : M3 100 = gh (.int (nI (paK O x y))) := (F_3 100 (by decide)).trans pf0_1
      simp only [sel0 hK]
      exact ⟨(fun _ => by unfold rowAt; rw [if_pos hq]), ff0_21, ⟨ro_4, xln_6, xra_8, hout9, xby_10, ff14_12, ff15_14, ⟨_, xrw_16⟩, ⟨_, xdg_18⟩, ⟨_, f62_20⟩⟩, ((F_1.sub (by decide)).tr (F_3.sub (by decide)))⟩
    · have hK : ¬ paK O x y = 0 := by have := of_decide_eq_true (ts_of c_38); omega
      refine m_iconst (pc' := 42) (v := nI 0) C dX12_patch_41 (by decide) rfl ?_
      refine m_iret C hrt0 hlk0 rfl dX12_patch_42 ?_
      have xln_22 := hln.fr F_1 (by decide)
      have xra_23 := hra.fr F_1 (by decide)
      have xoutR_24 := hout.fr F_1 (by decide)
      have xby_25 := hby.fr F_1 (by decide)
      have ff14_26 : M1 114 = gh (.int (fp)) := (F_1 114 (by decide)).trans h14
      have ff15_27 : M1 115 = gh (.int (ot)) := (F_1 115 (by decide)).trans h15
      have xrw_28 := hrw.fr F_1 (by decide)
      have xdg_29 := hdg.fr F_1 (by decide)
      have f62_30 : M1 62 = .inl (cy 1, 2000, .inl (fun i => nI (gf i))) := (F_1 62 (by decide)).trans hfd
      simp only [sel1 hK]
      exact ⟨(fun q => absurd q hK), pf0_1, ⟨pro_1, xln_22, xra_23, xoutR_24, xby_25, ff14_26, ff15_27, ⟨_, xrw_28⟩, ⟨_, xdg_29⟩, ⟨_, f62_30⟩⟩, (F_1.sub (by decide))⟩
  refine m_iload_n (pc' := 2) C dX12_patch_1 rfl 1 rfl rfl ?_
  refine m_iconst (pc' := 3) (v := 0) C dX12_patch_2 (by decide) rfl ?_
  refine m_aload_n (pc' := 4) C dX12_patch_3 rfl 0 rfl rfl ?_
  refine r_get C hn hro inW_X12 11 (by decide) ⟨rfl, rfl, rfl⟩ (gW_of tm_5_61) (r_at 11 rfl hout.2.2.2.2.1) dX12_patch_4 rfl ?_
  refine m_iconst (pc' := 8) (v := nI 1) C dX12_patch_7 (by decide) rfl ?_
  refine m_isub (pc' := 9) (v := (nI O.length) - (nI 1)) C dX12_patch_8 rfl rfl ?_
  refine m_callSi (pc' := 12) (As := [.int (x), .int (0), .int ((nI O.length) - (nI 1))]) (rest := [.ref (ad 52)]) C (kX12_isIn hI x 0 ((nI O.length) - (nI 1))) (cwS 3 C.1.2.2.2.2 (goodS tm_5_198 tm_5_199 tm_1_13 tm_5_200) rfl rfl rfl (by decide +kernel) ⟨by decide, by decide⟩) rfl rfl (Nat.le_of_ble_eq_true rfl) dX12_patch_9 rfl ⟨by decide, by decide⟩ (fun x_31 N_31 q_31 => ?_)
  obtain ⟨e_31, E_31⟩ := q_31
  replace E_31 := E_31.symm
  subst E_31
  replace e_31 := e_31.symm
  subst e_31
  refine m_if_ne (pc' := 15) (tgt := 19) C dX12_patch_12 (by decide) rfl (fun c_12 => ?_) (fun c_12 => ?_)
  · have hq := of_decide_eq_true (ts_of c_12)
    rw [in_size (by omega)] at hq
    refine m_iload_n (pc' := 20) C dX12_patch_19 rfl 2 rfl rfl ?_
    refine m_iconst (pc' := 21) (v := 0) C dX12_patch_20 (by decide) rfl ?_
    refine m_sipush (pc' := 24) (v := nI 255) C dX12_patch_21 (by decide) rfl ?_
    refine m_callSi (pc' := 27) (As := [.int (y), .int (0), .int (nI 255)]) (rest := [.ref (ad 52)]) C (kX12_isIn hI y 0 (nI 255)) (cwS 3 C.1.2.2.2.2 (goodS tm_5_198 tm_5_199 tm_1_13 tm_5_200) rfl rfl rfl (by decide +kernel) ⟨by decide, by decide⟩) rfl rfl (Nat.le_of_ble_eq_true rfl) dX12_patch_24 rfl ⟨by decide, by decide⟩ (fun x_32 N_32 q_32 => ?_)
    obtain ⟨e_32, E_32⟩ := q_32
    replace E_32 := E_32.symm
    subst E_32
    replace e_32 := e_32.symm
    subst e_32
    refine m_if_ne (pc' := 30) (tgt := 34) C dX12_patch_27 (by decide) rfl (fun c_27 => ?_) (fun c_27 => ?_)
    · have hy := of_decide_eq_true (ts_of c_27)
      rw [in_range (by omega)] at hy
      refine m_iconst (pc' := 35) (v := nI 0) C dX12_patch_34 (by decide) rfl ?_
      refine m_lv [0, 1, 2] rfl ?_
      exact J35 (nI 0) (by unfold paK; rw [if_neg (Classical.not_not.mpr hq), if_neg hy])
    · have hy := of_decide_eq_false ((bI_0 _).mp (Classical.not_not.mp c_27))
      rw [in_range (by omega)] at hy
      have hy := Classical.not_not.mp hy
      refine m_iconst (pc' := 31) (v := nI 2) C dX12_patch_30 (by decide) rfl ?_
      refine m_goto (tgt := 35) C dX12_patch_31 (by decide) ?_
      refine m_lv [0, 1, 2] rfl ?_
      exact J35 (nI 2) (by unfold paK; rw [if_neg (Classical.not_not.mpr hq), if_pos hy])
  · have hq := of_decide_eq_false ((bI_0 _).mp (Classical.not_not.mp c_12))
    rw [in_size (by omega)] at hq
    refine m_iconst (pc' := 16) (v := nI 1) C dX12_patch_15 (by decide) rfl ?_
    refine m_goto (tgt := 35) C dX12_patch_16 (by decide) ?_
    refine m_lv [0, 1, 2] rfl ?_
    exact J35 (nI 1) (by unfold paK; rw [if_pos hq])
set_option maxHeartbeats 4000000 in
set_option maxRecDepth 100000 in
theorem kX12_feed {l : Launch} {D : va_G} {cy : Nat → ClassId} {ad : Nat → Nat} {n : Nat} {A : Nat → Prop} (hI : mI ad n A) {M : Nat → va_E} (hn : 63 ≤ n) (hn2 : n ≤ 100) {T : List Nat} {xs : Nat → Arg} {cnt lim : Nat} {O B : List Nat} {fp ot : Int32} (hM : isM cy ad M T xs cnt lim O B fp ot) (x p1 p2 p3 p4 : Int32) : mMi l yX12_feed (gW yX12_feed cX12_feed 8 (some .int)) { frames := 1, cells := 0, slots := 0, locals := 22 } D cy ad n A [.ref (ad 52), .int x, .int p1, .int p2, .int p3, .int p4] M (fun res M' => (fdK B x = 0 → res = nI (B.length + cl x)) ∧ M' 100 = gh (.int (nI (fdK B x))) ∧ isM cy ad M' T xs cnt lim O (sel (fdK B x) (B ++ fd4 (cl x) p1 p2 p3 p4) B) fp ot ∧ Fr refS M M') := by
  obtain ⟨hro, hln, hra, hout, hby, h14, h15, ⟨W, hrw⟩, ⟨L, hdg⟩, gf, hfd⟩ := hM
  have hl2 : B.length ≤ 256 := hby.2.2.1
  refine m_entry (cc := cX12_feed) (maxL := 8) (ret := (some .int)) (own := RX12) (lv := [(0, .ref (ad 52)), (1, .int (x)), (2, .int (p1)), (3, .int (p2)), (4, .int (p3)), (5, .int (p4))]) hI (by decide) rfl rfl (Nat.le_of_ble_eq_true rfl) rfl (fun pX eX sX mX aX bX tX cX C hrt0 hlk0 => ?_)
  refine m_aload_n (pc' := 1) C dX12_feed_0 rfl 0 rfl rfl ?_
  refine m_cut (σ := Int32) (fun a => a = nI (fdK B x)) (fun a => M) 32 (fun a => [(0, .ref (ad 52)), (1, .int (x)), (2, .int (p1)), (3, .int (p2)), (4, .int (p3)), (5, .int (p4))]) (fun a => [.int (a), .ref (ad 52)]) ?_ (fun J32 => ?_)
  · rintro y9 hj
    try dsimp only at hj ⊢
    subst hj
    have hKb : fdK B x ≤ 2 := by unfold fdK; (repeat' split) <;> omega
    refine m_callVi (pc' := 35) (As := [.int (nI (fdK B x))]) (rest := []) C (kX12_refused hI hn hn2 hro (k := (fdK B x)) (by omega)) (cwV 1 C.1.2.2.2.2 (goodV tm_5_174 tm_5_176 tp_49 tm_1_13 tm_5_177) rfl rfl rfl (by decide +kernel) ⟨by decide, by decide⟩) (by omega) hro rfl rfl rfl (Nat.le_of_ble_eq_true rfl) dX12_feed_32 rfl ⟨by decide, by decide⟩ (fun x_1 M1 q_1 => ?_)
    obtain ⟨e_1, pro_1, pf0_1, F_1⟩ := q_1
    replace e_1 := e_1.symm
    subst e_1
    refine m_if_eq (pc' := 38) (tgt := 40) C dX12_feed_35 (by decide) rfl (fun c_35 => ?_) (fun c_35 => ?_)
    · have hK : fdK B x = 0 := by have := of_decide_eq_false ((bI_0 _).mp c_35); omega
      have hq : ¬ (x < 0 ∨ 16 < cl x) := by
        unfold fdK at hK
        split at hK
        · omega
        · assumption
      have hxs : B.length + cl x ≤ 256 := by
        unfold fdK at hK
        rw [if_neg hq] at hK
        split at hK <;> omega
      have hxe := of_nn (fun z => hq (Or.inl z))
      have hxl : cl x ≤ 16 := Nat.le_of_not_lt (fun z => hq (Or.inr z))
      refine m_iconst (pc' := 41) (v := nI 0) C dX12_feed_40 (by decide) rfl ?_
      refine m_istore (pc' := 43) (lv' := [(6, .int (nI 0)), (0, .ref (ad 52)), (1, .int (x)), (2, .int (p1)), (3, .int (p2)), (4, .int (p3)), (5, .int (p4))]) C dX12_feed_41 (by decide) rfl rfl ?_
      refine m_lv [1, 2, 3, 4, 5, 6, 0] rfl ?_
      have xby_2 := hby.fr F_1 (by decide)
      refine m_loop (σ := Nat × (Nat → va_E)) (fun a => a.2) (fun a => [(0, .ref (ad 52)), (1, .int (x)), (2, .int (p1)), (3, .int (p2)), (4, .int (p3)), (5, .int (p4)), (6, .int (nI a.1))]) (fun a => a.1 ≤ cl x ∧ a.2 100 = gh (.int (nI (fdK B x))) ∧ isBy cy a.2 (B ++ (fdL p1 p2 p3 p4).take a.1) ∧ rO ad a.2 ∧ Fr [52, 58, 100, 108] M a.2) (fun a => cl x - a.1) (0, M1) (⟨Nat.zero_le _, pf0_1, by (try dsimp only); rw [List.take_zero, List.append_nil]; exact xby_2, pro_1, (F_1.sub (by decide))⟩) ?_
      rintro ⟨k, Mk⟩ hinv ih
      dsimp only at hinv ih ⊢
      obtain ⟨i0, i3, i5, i4, i8⟩ := hinv
      have hBl : (B ++ (fdL p1 p2 p3 p4).take k).length = B.length + k := by rw [List.length_append, List.length_take, fdL_len]; omega
      refine m_iload (pc' := 45) C dX12_feed_43 6 rfl rfl ?_
      refine m_iload_n (pc' := 46) C dX12_feed_45 rfl 1 rfl rfl ?_
      refine m_icmp_ge (pc' := 49) (tgt := 128) C dX12_feed_46 (by decide) rfl (fun c_46 => ?_) (fun c_46 => ?_)
      · have n_46 : cl x ≤ k := (le_clamp (by omega)).mp c_46
        refine m_aload_n (pc' := 129) C dX12_feed_128 rfl 0 rfl rfl ?_
        refine r_get C hn i4 inW_X12 8 (by decide) ⟨rfl, rfl, rfl⟩ (gW_of tm_5_58) (r_at 8 rfl i5.2.1) dX12_feed_129 rfl ?_
        refine m_iret C hrt0 hlk0 rfl dX12_feed_132 ?_
        have hk9 : k = cl x := by omega
        subst hk9
        rw [← fdL_eq hxl] at i5 hBl
        have xln_3 := hln.fr i8 (by decide)
        have xra_4 := hra.fr i8 (by decide)
        have xoutR_5 := hout.fr i8 (by decide)
        have ff14_6 : Mk 114 = gh (.int (fp)) := (i8 114 (by decide)).trans h14
        have ff15_7 : Mk 115 = gh (.int (ot)) := (i8 115 (by decide)).trans h15
        have xrw_8 := hrw.fr i8 (by decide)
        have xdg_9 := hdg.fr i8 (by decide)
        have f62_10 : Mk 62 = .inl (cy 1, 2000, .inl (fun i => nI (gf i))) := (i8 62 (by decide)).trans hfd
        simp only [sel0 hK]
        exact ⟨(fun _ => by rw [List.length_append, List.length_take, fdL_len]; congr 1; omega), i3, ⟨i4, xln_3, xra_4, xoutR_5, i5, ff14_6, ff15_7, ⟨_, xrw_8⟩, ⟨_, xdg_9⟩, ⟨_, f62_10⟩⟩, (i8.sub (by decide))⟩
      · have n_46 : k < cl x := Nat.lt_of_not_le (fun z => c_46 ((le_clamp (by omega)).mpr z))
        obtain ⟨y1, y2, y3, g, y4, y5⟩ := id i5
        have hk4 : k % 4 < 4 := Nat.mod_lt _ (by decide)
        have hw8 := wby_lt (fdw p1 p2 p3 p4 k) (k % 4)
        refine m_cut (σ := Int32) (fun a => a = fdw p1 p2 p3 p4 k) (fun a => Mk) 84 (fun a => [(0, .ref (ad 52)), (1, .int (x)), (2, .int (p1)), (3, .int (p2)), (4, .int (p3)), (5, .int (p4)), (6, .int (nI k))]) (fun a => [.int (a)]) ?_ (fun J84 => ?_)
        · rintro y9 hj
          try dsimp only at hj ⊢
          subst hj
          refine m_istore (pc' := 86) (lv' := [(7, .int (fdw p1 p2 p3 p4 k)), (0, .ref (ad 52)), (1, .int (x)), (2, .int (p1)), (3, .int (p2)), (4, .int (p3)), (5, .int (p4)), (6, .int (nI k))]) C dX12_feed_84 (by decide) rfl rfl ?_
          refine m_aload_n (pc' := 87) C dX12_feed_86 rfl 1 rfl rfl ?_
          refine r_get C hn i4 inW_X12 9 (by decide) ⟨rfl, rfl, rfl⟩ (gW_of tm_5_59) rfl dX12_feed_87 rfl ?_
          refine m_aload_n (pc' := 91) C dX12_feed_90 rfl 1 rfl rfl ?_
          refine r_get C hn i4 inW_X12 8 (by decide) ⟨rfl, rfl, rfl⟩ (gW_of tm_5_58) (r_at 8 rfl i5.2.1) dX12_feed_91 rfl ?_
          refine m_iload (pc' := 96) C dX12_feed_94 0 rfl rfl ?_
          refine m_bipush (pc' := 98) (v := nI 24) C dX12_feed_96 (by decide) rfl ?_
          refine m_bipush (pc' := 100) (v := nI 8) C dX12_feed_98 (by decide) rfl ?_
          refine m_iload (pc' := 102) C dX12_feed_100 7 rfl rfl ?_
          refine m_iconst (pc' := 103) (v := nI 4) C dX12_feed_102 (by decide) rfl ?_
          refine m_irem (pc' := 104) (v := nI (k % 4)) C dX12_feed_103 (by decide) (irem4 k (by omega)) rfl ?_
          refine m_imul (pc' := 105) (v := nI (8 * (k % 4))) C dX12_feed_104 (pk_mul _ _) rfl ?_
          refine m_isub (pc' := 106) (v := nI (24 - 8 * (k % 4))) C dX12_feed_105 (by rw [nI8m _ hk4]) rfl ?_
          refine m_ishr (pc' := 107) (v := (fdw p1 p2 p3 p4 k) >>> ((nI (24 - 8 * (k % 4))) &&& 31)) C dX12_feed_106 rfl rfl ?_
          refine m_sipush (pc' := 110) (v := nI 255) C dX12_feed_107 (by decide) rfl ?_
          refine m_iand (pc' := 111) (v := nI (wby (fdw p1 p2 p3 p4 k) (k % 4))) C dX12_feed_110 (sar_wby _ hk4) rfl ?_
          refine m_iast (pc' := 112) (E' := .inl (cy 1, 256, .inl (fun i => nI (va_up g (B ++ (fdL p1 p2 p3 p4).take k).length (wby (fdw p1 p2 p3 p4 k) (k % 4)) i)))) C 58 (by omega) y4 (vp_in_nI (by omega) (by decide)) (by rw [nI_clamp (by omega), upd_nI]) dX12_feed_111 rfl (fun M11 g_11 F_11 => ?_)
          refine m_aload_n (pc' := 113) C dX12_feed_112 rfl 1 rfl rfl ?_
          refine m_dup (pc' := 114) C dX12_feed_113 rfl rfl ?_
          have ro_12 := i4.fr F_11 (by decide)
          have ff8_13 : M11 108 = gh (.int (nI (B ++ (fdL p1 p2 p3 p4).take k).length)) := (F_11 108 (by decide)).trans i5.2.1
          refine r_get C hn ro_12 inW_X12 8 (by decide) ⟨rfl, rfl, rfl⟩ (gW_of tm_5_58) (r_at 8 rfl ff8_13) dX12_feed_114 rfl ?_
          refine m_iconst (pc' := 118) (v := nI 1) C dX12_feed_117 (by decide) rfl ?_
          refine m_iadd (pc' := 119) (v := nI ((B ++ (fdL p1 p2 p3 p4).take k).length + 1)) C dX12_feed_118 (nI_add _ _) rfl ?_
          refine r_put (ty := .int) C hn hn2 ro_12 inW_X12 8 108 (by decide) rfl ⟨rfl, rfl, rfl, rfl⟩ (gW_of tm_5_58) (by decide +kernel) rfl rfl (fun _ => rfl) dX12_feed_119 rfl (fun M14 go_14 g_14 F_14 => ?_)
          refine m_iinc (pc' := 125) (v := nI (k + 1)) (lv' := [(6, .int (nI (k + 1))), (7, .int (fdw p1 p2 p3 p4 k)), (0, .ref (ad 52)), (1, .int (x)), (2, .int (p1)), (3, .int (p2)), (4, .int (p3)), (5, .int (p4))]) C dX12_feed_122 (k := 7) rfl (nI_add _ _) (by decide) rfl rfl ?_
          refine m_goto (tgt := 43) C dX12_feed_125 (by decide) ?_
          have f58_15 : M14 58 = .inl (cy 1, 256, .inl (fun i => nI (va_up g (B ++ (fdL p1 p2 p3 p4).take k).length (wby (fdw p1 p2 p3 p4 k) (k % 4)) i))) := (F_14 58 (by decide)).trans g_11
          have ff0_16 : M11 100 = gh (.int (nI (fdK B x))) := (F_11 100 (by decide)).trans i3
          have ff0_17 : M14 100 = gh (.int (nI (fdK B x))) := (F_14 100 (by decide)).trans ff0_16
          refine m_lv [2, 3, 4, 5, 6, 7, 0] rfl ?_
          exact ih (k + 1, M14) (⟨by (try dsimp only); omega, ff0_17, by (try dsimp only); rw [fdL_s (by omega), ← List.append_assoc]; exact isBy.push y1 hw8 g_14 f58_15 (by omega) y5, go_14, ((i8.tr (F_11.sub (by decide))).tr (F_14.sub (by decide)))⟩) (by simp only; omega)
        refine m_iload (pc' := 51) C dX12_feed_49 6 rfl rfl ?_
        refine m_iconst (pc' := 52) (v := nI 4) C dX12_feed_51 (by decide) rfl ?_
        refine m_icmp_ge (pc' := 55) (tgt := 59) C dX12_feed_52 (by decide) rfl (fun c_52 => ?_) (fun c_52 => ?_)
        · have n_52 : 4 ≤ k := (nI_leI (by omega) (by omega)).mp c_52
          refine m_iload (pc' := 61) C dX12_feed_59 6 rfl rfl ?_
          refine m_bipush (pc' := 63) (v := nI 8) C dX12_feed_61 (by decide) rfl ?_
          refine m_icmp_ge (pc' := 66) (tgt := 70) C dX12_feed_63 (by decide) rfl (fun c_63 => ?_) (fun c_63 => ?_)
          · have n_63 : 8 ≤ k := (nI_leI (by omega) (by omega)).mp c_63
            refine m_iload (pc' := 72) C dX12_feed_70 6 rfl rfl ?_
            refine m_bipush (pc' := 74) (v := nI 12) C dX12_feed_72 (by decide) rfl ?_
            refine m_icmp_ge (pc' := 77) (tgt := 82) C dX12_feed_74 (by decide) rfl (fun c_74 => ?_) (fun c_74 => ?_)
            · have n_74 : 12 ≤ k := (nI_leI (by omega) (by omega)).mp c_74
              refine m_iload (pc' := 84) C dX12_feed_82 5 rfl rfl ?_
              refine m_lv [0, 1, 2, 3, 4, 5, 6] rfl ?_
              exact J84 p4 (by unfold fdw; rw [if_neg (by omega), if_neg (by omega), if_neg (by omega)])
            · have n_74 : k < 12 := Nat.lt_of_not_le (fun q => c_74 ((nI_leI (by omega) (by omega)).mpr q))
              refine m_iload (pc' := 79) C dX12_feed_77 4 rfl rfl ?_
              refine m_goto (tgt := 84) C dX12_feed_79 (by decide) ?_
              refine m_lv [0, 1, 2, 3, 4, 5, 6] rfl ?_
              exact J84 p3 (by unfold fdw; rw [if_neg (by omega), if_neg (by omega), if_pos n_74])
          · have n_63 : k < 8 := Nat.lt_of_not_le (fun q => c_63 ((nI_leI (by omega) (by omega)).mpr q))
            refine m_iload_n (pc' := 67) C dX12_feed_66 rfl 3 rfl rfl ?_
            refine m_goto (tgt := 84) C dX12_feed_67 (by decide) ?_
            refine m_lv [0, 1, 2, 3, 4, 5, 6] rfl ?_
            exact J84 p2 (by unfold fdw; rw [if_neg (by omega), if_pos n_63])
        · have n_52 : k < 4 := Nat.lt_of_not_le (fun q => c_52 ((nI_leI (by omega) (by omega)).mpr q))
          refine m_iload_n (pc' := 56) C dX12_feed_55 rfl 2 rfl rfl ?_
          refine m_goto (tgt := 84) C dX12_feed_56 (by decide) ?_
          refine m_lv [0, 1, 2, 3, 4, 5, 6] rfl ?_
          exact J84 p1 (by unfold fdw; rw [if_pos n_52])
    · have hK : ¬ fdK B x = 0 := by have := of_decide_eq_true (ts_of c_35); omega
      refine m_iconst (pc' := 39) (v := nI 0) C dX12_feed_38 (by decide) rfl ?_
      refine m_iret C hrt0 hlk0 rfl dX12_feed_39 ?_
      have xln_18 := hln.fr F_1 (by decide)
      have xra_19 := hra.fr F_1 (by decide)
      have xoutR_20 := hout.fr F_1 (by decide)
      have xby_21 := hby.fr F_1 (by decide)
      have ff14_22 : M1 114 = gh (.int (fp)) := (F_1 114 (by decide)).trans h14
      have ff15_23 : M1 115 = gh (.int (ot)) := (F_1 115 (by decide)).trans h15
      have xrw_24 := hrw.fr F_1 (by decide)
      have xdg_25 := hdg.fr F_1 (by decide)
      have f62_26 : M1 62 = .inl (cy 1, 2000, .inl (fun i => nI (gf i))) := (F_1 62 (by decide)).trans hfd
      simp only [sel1 hK]
      exact ⟨(fun q => absurd q hK), pf0_1, ⟨pro_1, xln_18, xra_19, xoutR_20, xby_21, ff14_22, ff15_23, ⟨_, xrw_24⟩, ⟨_, xdg_25⟩, ⟨_, f62_26⟩⟩, (F_1.sub (by decide))⟩
  refine m_iload_n (pc' := 2) C dX12_feed_1 rfl 1 rfl rfl ?_
  refine m_iconst (pc' := 3) (v := 0) C dX12_feed_2 (by decide) rfl ?_
  refine m_bipush (pc' := 5) (v := nI 16) C dX12_feed_3 (by decide) rfl ?_
  refine m_callSi (pc' := 8) (As := [.int (x), .int (0), .int (nI 16)]) (rest := [.ref (ad 52)]) C (kX12_isIn hI x 0 (nI 16)) (cwS 3 C.1.2.2.2.2 (goodS tm_5_198 tm_5_199 tm_1_13 tm_5_200) rfl rfl rfl (by decide +kernel) ⟨by decide, by decide⟩) rfl rfl (Nat.le_of_ble_eq_true rfl) dX12_feed_5 rfl ⟨by decide, by decide⟩ (fun x_27 N_27 q_27 => ?_)
  obtain ⟨e_27, E_27⟩ := q_27
  replace E_27 := E_27.symm
  subst E_27
  replace e_27 := e_27.symm
  subst e_27
  refine m_if_ne (pc' := 11) (tgt := 15) C dX12_feed_8 (by decide) rfl (fun c_8 => ?_) (fun c_8 => ?_)
  · have hq := of_decide_eq_true (ts_of c_8)
    rw [in_range (by omega)] at hq
    have hxe := of_nn (fun z => hq (Or.inl z))
    have hxl : cl x ≤ 16 := Nat.le_of_not_lt (fun z => hq (Or.inr z))
    refine m_aload_n (pc' := 16) C dX12_feed_15 rfl 0 rfl rfl ?_
    refine r_get C hn hro inW_X12 8 (by decide) ⟨rfl, rfl, rfl⟩ (gW_of tm_5_58) (r_at 8 rfl hby.2.1) dX12_feed_16 rfl ?_
    refine m_iload_n (pc' := 20) C dX12_feed_19 rfl 1 rfl rfl ?_
    refine m_iadd (pc' := 21) (v := nI (B.length + cl x)) C dX12_feed_20 (by have h9 := nI_add B.length (cl x); rw [← hxe] at h9; exact h9) rfl ?_
    refine m_sipush (pc' := 24) (v := nI 256) C dX12_feed_21 (by decide) rfl ?_
    refine m_icmp_le (pc' := 27) (tgt := 31) C dX12_feed_24 (by decide) rfl (fun c_24 => ?_) (fun c_24 => ?_)
    · have n_24 : (B.length + cl x) ≤ 256 := (nI_leI (by omega) (by omega)).mp c_24
      refine m_iconst (pc' := 32) (v := nI 0) C dX12_feed_31 (by decide) rfl ?_
      refine m_lv [0, 1, 2, 3, 4, 5] rfl ?_
      exact J32 (nI 0) (by unfold fdK; rw [if_neg hq, if_neg (by omega)])
    · have n_24 : 256 < (B.length + cl x) := Nat.lt_of_not_le (fun q => c_24 ((nI_leI (by omega) (by omega)).mpr q))
      refine m_iconst (pc' := 28) (v := nI 2) C dX12_feed_27 (by decide) rfl ?_
      refine m_goto (tgt := 32) C dX12_feed_28 (by decide) ?_
      refine m_lv [0, 1, 2, 3, 4, 5] rfl ?_
      exact J32 (nI 2) (by unfold fdK; rw [if_neg hq, if_pos n_24])
  · have hq := of_decide_eq_false ((bI_0 _).mp (Classical.not_not.mp c_8))
    rw [in_range (by omega)] at hq
    have hq := Classical.not_not.mp hq
    refine m_iconst (pc' := 12) (v := nI 1) C dX12_feed_11 (by decide) rfl ?_
    refine m_goto (tgt := 32) C dX12_feed_12 (by decide) ?_
    refine m_lv [0, 1, 2, 3, 4, 5] rfl ?_
    exact J32 (nI 1) (by unfold fdK; rw [if_pos hq])
