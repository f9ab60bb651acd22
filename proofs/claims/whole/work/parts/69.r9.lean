set_option maxHeartbeats 4000000 in
set_option maxRecDepth 100000 in
theorem kX12_printDirective {l : Launch} {D : va_G} {cy : Nat → ClassId} {ad : Nat → Nat} {n : Nat} {A : Nat → Prop} (hI : mI ad n A) {M : Nat → va_E} (hn : 63 ≤ n) (hn2 : n ≤ 100) (hro : rO ad M) {xs : Nat → Arg} {cnt : Nat} (hra : isRA cy M xs cnt) {od tk : Nat} (hod : M 116 = gh (.int (nI od))) (hnx : M 117 = gh (.int (nI tk))) {e0 : Bool} (he : M 118 = gh (.int (bI e0))) {W : List Nat} (hrw : isRw cy M W) {L : List Nat} (hdg : isDg cy M L) {lim : Nat} {O : List Nat} (hout : isOut cy M lim O) {fl fp fb fm fz sw sp : Bool} {wd bt c : Nat} {po : Option Nat} (h20 : M 120 = gh (.int (bI fl))) (h21 : M 121 = gh (.int (bI fp))) (h22 : M 122 = gh (.int (bI fb))) (h23 : M 123 = gh (.int (bI fm))) (h24 : M 124 = gh (.int (bI fz))) (h25 : M 125 = gh (.int (if sw then -2 else nI wd))) (h26 : M 126 = gh (.int (if sp then -3 else pI po))) (h27 : M 127 = gh (.int (nI bt))) (h28 : M 128 = gh (.int (nI c))) (htk : tk ≤ cnt) (hbt : bt = 8 ∨ bt = 16 ∨ bt = 32 ∨ bt = 64) (hc : c < 256) (hwd : wd < 2 ^ 20) (hpo : ∀ k, po = some k → k ≤ 99) : mMv l yX12_printDirective (gW yX12_printDirective cX12_printDirective 3 none) { frames := 4, cells := 0, slots := 0, locals := 103 } D cy ad n A [.ref (ad 52)] M (fun M' => rO ad M' ∧ isOut cy M' lim (O ++ (dRun xs cnt fl fp fb fm fz sw sp wd po bt (nI c) tk).1) ∧ M' 117 = gh (.int (nI (dRun xs cnt fl fp fb fm fz sw sp wd po bt (nI c) tk).2.1)) ∧ M' 116 = gh (.int (nI (od + (dRun xs cnt fl fp fb fm fz sw sp wd po bt (nI c) tk).2.2.1))) ∧ M' 118 = gh (.int (bI (e0 || (dRun xs cnt fl fp fb fm fz sw sp wd po bt (nI c) tk).2.2.2))) ∧ (∃ W, isRw cy M' W) ∧ (∃ D, isDg cy M' D) ∧ Fr [52, 59, 60, 61, 111, 113, 116, 117, 118, 120, 125, 126, 130, 132] M M') := by
  obtain ⟨a1, a2, b, f, z, g, a3, a4, a5, a6, a7⟩ := id hra
  obtain ⟨w1, w2, w3, w0, w4, w5⟩ := id hrw
  refine m_entry (cc := cX12_printDirective) (maxL := 3) (ret := none) (own := RX12) (lv := [(0, .ref (ad 52))]) hI (by decide) rfl rfl (Nat.le_of_ble_eq_true rfl) rfl (fun pX eX sX mX aX bX tX cX C hrt0 hlk0 => ?_)
  refine m_cut (σ := (Nat → va_E)) (fun a => rO ad a ∧ a 116 = gh (.int (nI (od + w1O sw xs cnt tk))) ∧ a 117 = gh (.int (nI (w1T sw cnt tk))) ∧ a 120 = gh (.int (bI (w1F fl sw (nextV xs cnt tk)))) ∧ a 125 = gh (.int (nI (w1W sw wd (nextV xs cnt tk)))) ∧ Fr [52, 116, 117, 120, 125] M a) (fun a => a) 66 (fun a => [(0, .ref (ad 52))]) (fun a => []) ?_ (fun J66 => ?_)
  · rintro Mj66 hj
    try dsimp only at hj ⊢
    obtain ⟨jro_66, jf16_66, jf17_66, jf20_66, jf25_66, jf_66⟩ := hj
    have hwd1b : w1W sw wd (nextV xs cnt tk) < 2 ^ 20 := w1W_lt hwd
    have ht1b : w1T sw cnt tk ≤ cnt := w1T_le htk
    obtain ⟨od1, hod1⟩ : ∃ z, z = od + w1O sw xs cnt tk := ⟨_, rfl⟩
    rw [← hod1] at jf16_66
    obtain ⟨t1, ht1⟩ : ∃ z, z = w1T sw cnt tk := ⟨_, rfl⟩
    rw [← ht1] at jf17_66
    rw [← ht1] at ht1b
    obtain ⟨fl1, hfl1⟩ : ∃ z, z = w1F fl sw (nextV xs cnt tk) := ⟨_, rfl⟩
    rw [← hfl1] at jf20_66
    obtain ⟨wd1, hwd1⟩ : ∃ z, z = w1W sw wd (nextV xs cnt tk) := ⟨_, rfl⟩
    rw [← hwd1] at jf25_66
    rw [← hwd1] at hwd1b
    refine m_cut (σ := (Nat → va_E)) (fun a => rO ad a ∧ a 116 = gh (.int (nI (od1 + w1O sp xs cnt t1))) ∧ a 117 = gh (.int (nI (w1T sp cnt t1))) ∧ a 126 = gh (.int (pI (p1P sp po (nextV xs cnt t1)))) ∧ Fr [52, 116, 117, 126] Mj66 a) (fun a => a) 105 (fun a => [(0, .ref (ad 52))]) (fun a => []) ?_ (fun J105 => ?_)
    · rintro Mj105 hj
      try dsimp only at hj ⊢
      obtain ⟨jro_105, jf16_105, jf17_105, jf26_105, jf_105⟩ := hj
      have hpo1 : ∀ k, p1P sp po (nextV xs cnt t1) = some k → k ≤ 99 := p1P_le hpo
      have ht2b : w1T sp cnt t1 ≤ cnt := w1T_le ht1b
      obtain ⟨od2, hod2⟩ : ∃ z, z = od1 + w1O sp xs cnt t1 := ⟨_, rfl⟩
      rw [← hod2] at jf16_105
      obtain ⟨t2, ht2⟩ : ∃ z, z = w1T sp cnt t1 := ⟨_, rfl⟩
      rw [← ht2] at jf17_105
      rw [← ht2] at ht2b
      obtain ⟨po1, hpo1e⟩ : ∃ z, z = p1P sp po (nextV xs cnt t1) := ⟨_, rfl⟩
      rw [← hpo1e] at jf26_105
      rw [← hpo1e] at hpo1
      have hD : dRun xs cnt fl fp fb fm fz sw sp wd po bt (nI c) tk = ((lastR xs cnt fl1 fp fb fm fz wd1 po1 bt (nI c) t2).1, (lastR xs cnt fl1 fp fb fm fz wd1 po1 bt (nI c) t2).2.1, w1O sw xs cnt tk + w1O sp xs cnt t1 + (lastR xs cnt fl1 fp fb fm fz wd1 po1 bt (nI c) t2).2.2.1, (lastR xs cnt fl1 fp fb fm fz wd1 po1 bt (nI c) t2).2.2.2) := by
        rw [hfl1, hwd1, hpo1e, ht2, ht1]; rfl
      have hnl := isRA.len hra t2
      refine m_aload_n (pc' := 106) C dX12_printDirective_105 rfl 0 rfl rfl ?_
      have ff28_1 : Mj66 128 = gh (.int (nI c)) := (jf_66 128 (by decide)).trans h28
      have ff28_2 : Mj105 128 = gh (.int (nI c)) := (jf_105 128 (by decide)).trans ff28_1
      refine r_get C hn jro_105 inW_X12 28 (by decide) ⟨rfl, rfl, rfl⟩ (gW_of tm_5_78) (r_at 28 rfl ff28_2) dX12_printDirective_106 rfl ?_
      refine m_bipush (pc' := 111) (v := nI 99) C dX12_printDirective_109 (by decide) rfl ?_
      refine m_icmp_ne (pc' := 114) (tgt := 230) C dX12_printDirective_111 (by decide) rfl (fun c_111 => ?_) (fun c_111 => ?_)
      · have n_111 : ¬ c = 99 := fun q => c_111 ((nI_eq (by omega) (by omega)).mpr q)
        refine m_aload_n (pc' := 231) C dX12_printDirective_230 rfl 0 rfl rfl ?_
        refine r_get C hn jro_105 inW_X12 28 (by decide) ⟨rfl, rfl, rfl⟩ (gW_of tm_5_78) (r_at 28 rfl ff28_2) dX12_printDirective_231 rfl ?_
        refine m_bipush (pc' := 236) (v := nI 115) C dX12_printDirective_234 (by decide) rfl ?_
        refine m_icmp_eq (pc' := 239) (tgt := 248) C dX12_printDirective_236 (by decide) rfl (fun c_236 => ?_) (fun c_236 => ?_)
        · have n_236 : c = 115 := (nI_eq (by omega) (by omega)).mp c_236
          refine m_aload_n (pc' := 249) C dX12_printDirective_248 rfl 0 rfl rfl ?_
          have xra_4 := hra.fr jf_66 (by decide)
          have xra_5 := xra_4.fr jf_105 (by decide)
          have xrw_6 := hrw.fr jf_66 (by decide)
          have xrw_7 := xrw_6.fr jf_105 (by decide)
          have xdg_8 := hdg.fr jf_66 (by decide)
          have xdg_9 := xdg_8.fr jf_105 (by decide)
          refine m_callVv (pc' := 252) (As := []) (rest := []) C (kX12_takeText hI hn hn2 jro_105 xra_5 jf17_105 xrw_7 xdg_9 (by omega)) (cwV 0 C.1.2.2.2.2 (goodV tm_6_27 tm_6_29 tp_62 tm_1_13 tm_6_30) rfl rfl rfl (by decide +kernel) ⟨by decide, by decide⟩) (by omega) jro_105 rfl rfl rfl (Nat.le_of_ble_eq_true rfl) dX12_printDirective_249 rfl ⟨by decide, by decide⟩ (fun M3 q_3 => ?_)
          obtain ⟨pro_3, prw_3, pf17_3, ⟨D_3, pdg_3⟩, F_3⟩ := q_3
          refine m_aload_n (pc' := 253) C dX12_printDirective_252 rfl 0 rfl rfl ?_
          have ff28_10 : M3 128 = gh (.int (nI c)) := (F_3 128 (by decide)).trans ff28_2
          refine r_get C hn pro_3 inW_X12 28 (by decide) ⟨rfl, rfl, rfl⟩ (gW_of tm_5_78) (r_at 28 rfl ff28_10) dX12_printDirective_253 rfl ?_
          refine m_bipush (pc' := 258) (v := nI 98) C dX12_printDirective_256 (by decide) rfl ?_
          refine m_icmp_ne (pc' := 261) (tgt := 265) C dX12_printDirective_258 (by decide) rfl (fun c_258 => ?_) (fun c_258 => ?_)
          · have n_258 : ¬ c = 98 := fun q => c_258 ((nI_eq (by omega) (by omega)).mpr q)
            refine m_aload_n (pc' := 266) C dX12_printDirective_265 rfl 0 rfl rfl ?_
            refine m_cut (σ := Int32) (fun a => a = nI (cutP po1 (nxA xs cnt t2)).length) (fun a => M3) 295 (fun a => [(0, .ref (ad 52))]) (fun a => [.int (a), .ref (ad 52)]) ?_ (fun J295 => ?_)
            · rintro y9 hj
              try dsimp only at hj ⊢
              subst hj
              refine r_put (ty := .int) C hn hn2 pro_3 inW_X12 30 130 (by decide) rfl ⟨rfl, rfl, rfl, rfl⟩ (gW_of tm_5_80) (by decide +kernel) rfl rfl (fun _ => rfl) dX12_printDirective_295 rfl (fun M11 go_11 g_11 F_11 => ?_)
              have hrwc : isRw cy M11 (cutP po1 (nxA xs cnt t2)) := isRw.cutP prw_3 F_11 (by decide) g_11
              refine m_aload_n (pc' := 299) C dX12_printDirective_298 rfl 0 rfl rfl ?_
              have xout_13 := hout.fr jf_66 (by decide)
              have xout_14 := xout_13.fr jf_105 (by decide)
              have xout_15 := xout_14.fr F_3 (by decide)
              have xout_16 := xout_15.fr F_11 (by decide)
              have ff20_17 : Mj105 120 = gh (.int (bI fl1)) := (jf_105 120 (by decide)).trans jf20_66
              have ff20_18 : M3 120 = gh (.int (bI fl1)) := (F_3 120 (by decide)).trans ff20_17
              have ff20_19 : M11 120 = gh (.int (bI fl1)) := (F_11 120 (by decide)).trans ff20_18
              have ff25_20 : Mj105 125 = gh (.int (nI wd1)) := (jf_105 125 (by decide)).trans jf25_66
              have ff25_21 : M3 125 = gh (.int (nI wd1)) := (F_3 125 (by decide)).trans ff25_20
              have ff25_22 : M11 125 = gh (.int (nI wd1)) := (F_11 125 (by decide)).trans ff25_21
              refine m_callVv (pc' := 302) (As := []) (rest := []) C (kX12_printRow hI hn hn2 go_11 hrwc xout_16 ff20_19 ff25_22 (by first | omega | assumption)) (cwV 0 C.1.2.2.2.2 (goodV tm_6_48 tm_6_50 tp_66 tm_1_13 tm_6_51) rfl rfl rfl (by decide +kernel) ⟨by decide, by decide⟩) (by omega) go_11 rfl rfl rfl (Nat.le_of_ble_eq_true rfl) dX12_printDirective_299 rfl ⟨by decide, by decide⟩ (fun M12 q_12 => ?_)
              obtain ⟨pro_12, pout_12, F_12⟩ := q_12
              refine m_goto (tgt := 309) C dX12_printDirective_302 (by decide) ?_
              refine m_vret C hrt0 hlk0 dX12_printDirective_309 ?_
              have ff16_23 : M3 116 = gh (.int (nI od2)) := (F_3 116 (by decide)).trans jf16_105
              have ff16_24 : M11 116 = gh (.int (nI od2)) := (F_11 116 (by decide)).trans ff16_23
              have ff16_25 : M12 116 = gh (.int (nI od2)) := (F_12 116 (by decide)).trans ff16_24
              have ff17_26 : M11 117 = gh (.int (nI (nextT cnt t2))) := (F_11 117 (by decide)).trans pf17_3
              have ff17_27 : M12 117 = gh (.int (nI (nextT cnt t2))) := (F_12 117 (by decide)).trans ff17_26
              have xdg_28 := pdg_3.fr F_11 (by decide)
              have xdg_29 := xdg_28.fr F_12 (by decide)
              have ff18_30 : Mj66 118 = gh (.int (bI e0)) := (jf_66 118 (by decide)).trans he
              have ff18_31 : Mj105 118 = gh (.int (bI e0)) := (jf_105 118 (by decide)).trans ff18_30
              have ff18_32 : M3 118 = gh (.int (bI e0)) := (F_3 118 (by decide)).trans ff18_31
              have ff18_33 : M11 118 = gh (.int (bI e0)) := (F_11 118 (by decide)).trans ff18_32
              have ff18_34 : M12 118 = gh (.int (bI e0)) := (F_12 118 (by decide)).trans ff18_33
              have xrw_35 := hrwc.fr F_12 (by decide)
              have hL : lastR xs cnt fl1 fp fb fm fz wd1 po1 bt (nI c) t2 = (padT fl1 wd1 (cutP po1 (nxA xs cnt t2)), nextT cnt t2, 0, false) := by unfold lastR; rw [n_236, if_neg (by decide), if_neg (by decide), if_pos rfl]
              rw [hD, hL]
              exact ⟨pro_12, pout_12, ff17_27, by dsimp only; rw [show ∀ z : Nat, od + (w1O sw xs cnt tk + w1O sp xs cnt t1 + z) = od2 + z from fun z => by omega]; exact ff16_25, by dsimp only; rw [Bool.or_false]; exact ff18_34, ⟨_, xrw_35⟩, ⟨_, xdg_29⟩, (((((jf_66.sub (by decide)).tr (jf_105.sub (by decide))).tr (F_3.sub (by decide))).tr (F_11.sub (by decide))).tr (F_12.sub (by decide)))⟩
            refine m_aload_n (pc' := 267) C dX12_printDirective_266 rfl 0 rfl rfl ?_
            have ff26_36 : M3 126 = gh (.int (pI po1)) := (F_3 126 (by decide)).trans jf26_105
            refine r_get C hn pro_3 inW_X12 26 (by decide) ⟨rfl, rfl, rfl⟩ (gW_of tm_5_76) (r_at 26 rfl ff26_36) dX12_printDirective_267 rfl ?_
            refine m_if_lt (pc' := 273) (tgt := 291) C dX12_printDirective_270 (by decide) rfl (fun c_270 => ?_) (fun c_270 => ?_)
            · refine m_aload_n (pc' := 292) C dX12_printDirective_291 rfl 0 rfl rfl ?_
              refine r_get C hn pro_3 inW_X12 30 (by decide) ⟨rfl, rfl, rfl⟩ (gW_of tm_5_80) (r_at 30 rfl prw_3.2.1) dX12_printDirective_292 rfl ?_
              refine m_lv [0] rfl ?_
              exact J295 (nI (nxA xs cnt t2).length) (by rw [pI_neg hpo1 c_270]; rfl)
            · refine m_aload_n (pc' := 274) C dX12_printDirective_273 rfl 0 rfl rfl ?_
              refine r_get C hn pro_3 inW_X12 26 (by decide) ⟨rfl, rfl, rfl⟩ (gW_of tm_5_76) (r_at 26 rfl ff26_36) dX12_printDirective_274 rfl ?_
              refine m_aload_n (pc' := 278) C dX12_printDirective_277 rfl 0 rfl rfl ?_
              refine r_get C hn pro_3 inW_X12 30 (by decide) ⟨rfl, rfl, rfl⟩ (gW_of tm_5_80) (r_at 30 rfl prw_3.2.1) dX12_printDirective_278 rfl ?_
              refine m_icmp_ge (pc' := 284) (tgt := 291) C dX12_printDirective_281 (by decide) rfl (fun c_281 => ?_) (fun c_281 => ?_)
              · refine m_aload_n (pc' := 292) C dX12_printDirective_291 rfl 0 rfl rfl ?_
                refine r_get C hn pro_3 inW_X12 30 (by decide) ⟨rfl, rfl, rfl⟩ (gW_of tm_5_80) (r_at 30 rfl prw_3.2.1) dX12_printDirective_292 rfl ?_
                refine m_lv [0] rfl ?_
                exact J295 (nI (nxA xs cnt t2).length) (by rw [cutP_g hpo1 (by omega) c_270 c_281])
              · refine m_aload_n (pc' := 285) C dX12_printDirective_284 rfl 0 rfl rfl ?_
                refine r_get C hn pro_3 inW_X12 26 (by decide) ⟨rfl, rfl, rfl⟩ (gW_of tm_5_76) (r_at 26 rfl ff26_36) dX12_printDirective_285 rfl ?_
                refine m_goto (tgt := 295) C dX12_printDirective_288 (by decide) ?_
                refine m_lv [0] rfl ?_
                exact J295 (pI po1) (cutP_l hpo1 (by omega) c_270 c_281)
          · have n_258 : c = 98 := (nI_eq (by omega) (by omega)).mp (Classical.not_not.mp c_258)
            exact absurd n_258 (by omega)
        · have n_236 : ¬ c = 115 := fun q => c_236 ((nI_eq (by omega) (by omega)).mpr q)
          refine m_aload_n (pc' := 240) C dX12_printDirective_239 rfl 0 rfl rfl ?_
          refine r_get C hn jro_105 inW_X12 28 (by decide) ⟨rfl, rfl, rfl⟩ (gW_of tm_5_78) (r_at 28 rfl ff28_2) dX12_printDirective_240 rfl ?_
          refine m_bipush (pc' := 245) (v := nI 98) C dX12_printDirective_243 (by decide) rfl ?_
          refine m_icmp_ne (pc' := 248) (tgt := 305) C dX12_printDirective_245 (by decide) rfl (fun c_245 => ?_) (fun c_245 => ?_)
          · have n_245 : ¬ c = 98 := fun q => c_245 ((nI_eq (by omega) (by omega)).mpr q)
            refine m_aload_n (pc' := 306) C dX12_printDirective_305 rfl 0 rfl rfl ?_
            have xra_38 := hra.fr jf_66 (by decide)
            have xra_39 := xra_38.fr jf_105 (by decide)
            have xdg_40 := hdg.fr jf_66 (by decide)
            have xdg_41 := xdg_40.fr jf_105 (by decide)
            have xout_42 := hout.fr jf_66 (by decide)
            have xout_43 := xout_42.fr jf_105 (by decide)
            have ff20_44 : Mj105 120 = gh (.int (bI fl1)) := (jf_105 120 (by decide)).trans jf20_66
            have ff21_45 : Mj66 121 = gh (.int (bI fp)) := (jf_66 121 (by decide)).trans h21
            have ff21_46 : Mj105 121 = gh (.int (bI fp)) := (jf_105 121 (by decide)).trans ff21_45
            have ff22_47 : Mj66 122 = gh (.int (bI fb)) := (jf_66 122 (by decide)).trans h22
            have ff22_48 : Mj105 122 = gh (.int (bI fb)) := (jf_105 122 (by decide)).trans ff22_47
            have ff23_49 : Mj66 123 = gh (.int (bI fm)) := (jf_66 123 (by decide)).trans h23
            have ff23_50 : Mj105 123 = gh (.int (bI fm)) := (jf_105 123 (by decide)).trans ff23_49
            have ff24_51 : Mj66 124 = gh (.int (bI fz)) := (jf_66 124 (by decide)).trans h24
            have ff24_52 : Mj105 124 = gh (.int (bI fz)) := (jf_105 124 (by decide)).trans ff24_51
            have ff25_53 : Mj105 125 = gh (.int (nI wd1)) := (jf_105 125 (by decide)).trans jf25_66
            have ff27_54 : Mj66 127 = gh (.int (nI bt)) := (jf_66 127 (by decide)).trans h27
            have ff27_55 : Mj105 127 = gh (.int (nI bt)) := (jf_105 127 (by decide)).trans ff27_54
            refine m_callVv (pc' := 309) (As := []) (rest := []) C (kX12_printWhole hI hn hn2 jro_105 xra_39 jf16_105 jf17_105 xdg_41 xout_43 ff20_44 ff21_46 ff22_48 ff23_50 ff24_52 ff25_53 jf26_105 ff27_55 ff28_2 (by omega) hbt hc (by omega) hpo1) (cwV 0 C.1.2.2.2.2 (goodV tm_6_60 tm_6_62 tp_69 tm_1_13 tm_6_63) rfl rfl rfl (by decide +kernel) ⟨by decide, by decide⟩) (by omega) jro_105 rfl rfl rfl (Nat.le_of_ble_eq_true rfl) dX12_printDirective_306 rfl ⟨by decide, by decide⟩ (fun M37 q_37 => ?_)
            obtain ⟨pro_37, pout_37, pf16_37, pf17_37, ⟨D_37, pdg_37⟩, F_37⟩ := q_37
            refine m_vret C hrt0 hlk0 dX12_printDirective_309 ?_
            have ff18_56 : Mj66 118 = gh (.int (bI e0)) := (jf_66 118 (by decide)).trans he
            have ff18_57 : Mj105 118 = gh (.int (bI e0)) := (jf_105 118 (by decide)).trans ff18_56
            have ff18_58 : M37 118 = gh (.int (bI e0)) := (F_37 118 (by decide)).trans ff18_57
            have xrw_59 := hrw.fr jf_66 (by decide)
            have xrw_60 := xrw_59.fr jf_105 (by decide)
            have xrw_61 := xrw_60.fr F_37 (by decide)
            have hL : lastR xs cnt fl1 fp fb fm fz wd1 po1 bt (nI c) t2 = (fmtN bt (nI c) (nextV xs cnt t2) fl1 fp fb fm fz wd1 po1, nextT cnt t2, nextO xs cnt t2, false) := by unfold lastR; rw [if_neg c_245, if_neg c_111, if_neg c_236]
            rw [hD, hL]
            exact ⟨pro_37, pout_37, pf17_37, by dsimp only; rw [show ∀ z : Nat, od + (w1O sw xs cnt tk + w1O sp xs cnt t1 + z) = od2 + z from fun z => by omega]; exact pf16_37, by dsimp only; rw [Bool.or_false]; exact ff18_58, ⟨_, xrw_61⟩, ⟨_, pdg_37⟩, (((jf_66.sub (by decide)).tr (jf_105.sub (by decide))).tr (F_37.sub (by decide)))⟩
          · have n_245 : c = 98 := (nI_eq (by omega) (by omega)).mp (Classical.not_not.mp c_245)
            refine m_aload_n (pc' := 249) C dX12_printDirective_248 rfl 0 rfl rfl ?_
            have xra_63 := hra.fr jf_66 (by decide)
            have xra_64 := xra_63.fr jf_105 (by decide)
            have xrw_65 := hrw.fr jf_66 (by decide)
            have xrw_66 := xrw_65.fr jf_105 (by decide)
            have xdg_67 := hdg.fr jf_66 (by decide)
            have xdg_68 := xdg_67.fr jf_105 (by decide)
            refine m_callVv (pc' := 252) (As := []) (rest := []) C (kX12_takeText hI hn hn2 jro_105 xra_64 jf17_105 xrw_66 xdg_68 (by omega)) (cwV 0 C.1.2.2.2.2 (goodV tm_6_27 tm_6_29 tp_62 tm_1_13 tm_6_30) rfl rfl rfl (by decide +kernel) ⟨by decide, by decide⟩) (by omega) jro_105 rfl rfl rfl (Nat.le_of_ble_eq_true rfl) dX12_printDirective_249 rfl ⟨by decide, by decide⟩ (fun M62 q_62 => ?_)
            obtain ⟨pro_62, prw_62, pf17_62, ⟨D_62, pdg_62⟩, F_62⟩ := q_62
            refine m_aload_n (pc' := 253) C dX12_printDirective_252 rfl 0 rfl rfl ?_
            have ff28_69 : M62 128 = gh (.int (nI c)) := (F_62 128 (by decide)).trans ff28_2
            refine r_get C hn pro_62 inW_X12 28 (by decide) ⟨rfl, rfl, rfl⟩ (gW_of tm_5_78) (r_at 28 rfl ff28_69) dX12_printDirective_253 rfl ?_
            refine m_bipush (pc' := 258) (v := nI 98) C dX12_printDirective_256 (by decide) rfl ?_
            refine m_icmp_ne (pc' := 261) (tgt := 265) C dX12_printDirective_258 (by decide) rfl (fun c_258 => ?_) (fun c_258 => ?_)
            · have n_258 : ¬ c = 98 := fun q => c_258 ((nI_eq (by omega) (by omega)).mpr q)
              exact absurd n_245 n_258
            · have n_258 : c = 98 := (nI_eq (by omega) (by omega)).mp (Classical.not_not.mp c_258)
              refine m_aload_n (pc' := 262) C dX12_printDirective_261 rfl 0 rfl rfl ?_
              have ff18_71 : Mj66 118 = gh (.int (bI e0)) := (jf_66 118 (by decide)).trans he
              have ff18_72 : Mj105 118 = gh (.int (bI e0)) := (jf_105 118 (by decide)).trans ff18_71
              have ff18_73 : M62 118 = gh (.int (bI e0)) := (F_62 118 (by decide)).trans ff18_72
              refine m_callVv (pc' := 265) (As := []) (rest := []) C (kX12_undo hI hn hn2 pro_62 prw_62 ff18_73 hnl) (cwV 0 C.1.2.2.2.2 (goodV tm_6_56 tm_6_58 tp_68 tm_1_13 tm_6_59) rfl rfl rfl (by decide +kernel) ⟨by decide, by decide⟩) (by omega) pro_62 rfl rfl rfl (Nat.le_of_ble_eq_true rfl) dX12_printDirective_262 rfl ⟨by decide, by decide⟩ (fun M70 q_70 => ?_)
              obtain ⟨pro_70, prw_70, pf18_70, F_70⟩ := q_70
              have hul := unsT_len hnl
              refine m_aload_n (pc' := 266) C dX12_printDirective_265 rfl 0 rfl rfl ?_
              refine m_cut (σ := Int32) (fun a => a = nI (cutP po1 (unsT (nxA xs cnt t2))).length) (fun a => M70) 295 (fun a => [(0, .ref (ad 52))]) (fun a => [.int (a), .ref (ad 52)]) ?_ (fun J295 => ?_)
              · rintro y9 hj
                try dsimp only at hj ⊢
                subst hj
                refine r_put (ty := .int) C hn hn2 pro_70 inW_X12 30 130 (by decide) rfl ⟨rfl, rfl, rfl, rfl⟩ (gW_of tm_5_80) (by decide +kernel) rfl rfl (fun _ => rfl) dX12_printDirective_295 rfl (fun M74 go_74 g_74 F_74 => ?_)
                have hrwc : isRw cy M74 (cutP po1 (unsT (nxA xs cnt t2))) := isRw.cutP prw_70 F_74 (by decide) g_74
                refine m_aload_n (pc' := 299) C dX12_printDirective_298 rfl 0 rfl rfl ?_
                have xout_76 := hout.fr jf_66 (by decide)
                have xout_77 := xout_76.fr jf_105 (by decide)
                have xout_78 := xout_77.fr F_62 (by decide)
                have xout_79 := xout_78.fr F_70 (by decide)
                have xout_80 := xout_79.fr F_74 (by decide)
                have ff20_81 : Mj105 120 = gh (.int (bI fl1)) := (jf_105 120 (by decide)).trans jf20_66
                have ff20_82 : M62 120 = gh (.int (bI fl1)) := (F_62 120 (by decide)).trans ff20_81
                have ff20_83 : M70 120 = gh (.int (bI fl1)) := (F_70 120 (by decide)).trans ff20_82
                have ff20_84 : M74 120 = gh (.int (bI fl1)) := (F_74 120 (by decide)).trans ff20_83
                have ff25_85 : Mj105 125 = gh (.int (nI wd1)) := (jf_105 125 (by decide)).trans jf25_66
                have ff25_86 : M62 125 = gh (.int (nI wd1)) := (F_62 125 (by decide)).trans ff25_85
                have ff25_87 : M70 125 = gh (.int (nI wd1)) := (F_70 125 (by decide)).trans ff25_86
                have ff25_88 : M74 125 = gh (.int (nI wd1)) := (F_74 125 (by decide)).trans ff25_87
                refine m_callVv (pc' := 302) (As := []) (rest := []) C (kX12_printRow hI hn hn2 go_74 hrwc xout_80 ff20_84 ff25_88 (by first | omega | assumption)) (cwV 0 C.1.2.2.2.2 (goodV tm_6_48 tm_6_50 tp_66 tm_1_13 tm_6_51) rfl rfl rfl (by decide +kernel) ⟨by decide, by decide⟩) (by omega) go_74 rfl rfl rfl (Nat.le_of_ble_eq_true rfl) dX12_printDirective_299 rfl ⟨by decide, by decide⟩ (fun M75 q_75 => ?_)
                obtain ⟨pro_75, pout_75, F_75⟩ := q_75
                refine m_goto (tgt := 309) C dX12_printDirective_302 (by decide) ?_
                refine m_vret C hrt0 hlk0 dX12_printDirective_309 ?_
                have ff16_89 : M62 116 = gh (.int (nI od2)) := (F_62 116 (by decide)).trans jf16_105
                have ff16_90 : M70 116 = gh (.int (nI od2)) := (F_70 116 (by decide)).trans ff16_89
                have ff16_91 : M74 116 = gh (.int (nI od2)) := (F_74 116 (by decide)).trans ff16_90
                have ff16_92 : M75 116 = gh (.int (nI od2)) := (F_75 116 (by decide)).trans ff16_91
                have ff17_93 : M70 117 = gh (.int (nI (nextT cnt t2))) := (F_70 117 (by decide)).trans pf17_62
                have ff17_94 : M74 117 = gh (.int (nI (nextT cnt t2))) := (F_74 117 (by decide)).trans ff17_93
                have ff17_95 : M75 117 = gh (.int (nI (nextT cnt t2))) := (F_75 117 (by decide)).trans ff17_94
                have xdg_96 := pdg_62.fr F_70 (by decide)
                have xdg_97 := xdg_96.fr F_74 (by decide)
                have xdg_98 := xdg_97.fr F_75 (by decide)
                have ff18_99 : M74 118 = gh (.int (bI (e0 || unsE (nxA xs cnt t2)))) := (F_74 118 (by decide)).trans pf18_70
                have ff18_100 : M75 118 = gh (.int (bI (e0 || unsE (nxA xs cnt t2)))) := (F_75 118 (by decide)).trans ff18_99
                have xrw_101 := hrwc.fr F_75 (by decide)
                have hL : lastR xs cnt fl1 fp fb fm fz wd1 po1 bt (nI c) t2 = (padT fl1 wd1 (cutP po1 (unsT (nxA xs cnt t2))), nextT cnt t2, 0, unsE (nxA xs cnt t2)) := by unfold lastR; rw [n_245, if_pos rfl]
                rw [hD, hL]
                exact ⟨pro_75, pout_75, ff17_95, by dsimp only; rw [show ∀ z : Nat, od + (w1O sw xs cnt tk + w1O sp xs cnt t1 + z) = od2 + z from fun z => by omega]; exact ff16_92, ff18_100, ⟨_, xrw_101⟩, ⟨_, xdg_98⟩, ((((((jf_66.sub (by decide)).tr (jf_105.sub (by decide))).tr (F_62.sub (by decide))).tr (F_70.sub (by decide))).tr (F_74.sub (by decide))).tr (F_75.sub (by decide)))⟩
              refine m_aload_n (pc' := 267) C dX12_printDirective_266 rfl 0 rfl rfl ?_
              have ff26_102 : M62 126 = gh (.int (pI po1)) := (F_62 126 (by decide)).trans jf26_105
              have ff26_103 : M70 126 = gh (.int (pI po1)) := (F_70 126 (by decide)).trans ff26_102
              refine r_get C hn pro_70 inW_X12 26 (by decide) ⟨rfl, rfl, rfl⟩ (gW_of tm_5_76) (r_at 26 rfl ff26_103) dX12_printDirective_267 rfl ?_
              refine m_if_lt (pc' := 273) (tgt := 291) C dX12_printDirective_270 (by decide) rfl (fun c_270 => ?_) (fun c_270 => ?_)
              · refine m_aload_n (pc' := 292) C dX12_printDirective_291 rfl 0 rfl rfl ?_
                refine r_get C hn pro_70 inW_X12 30 (by decide) ⟨rfl, rfl, rfl⟩ (gW_of tm_5_80) (r_at 30 rfl prw_70.2.1) dX12_printDirective_292 rfl ?_
                refine m_lv [0] rfl ?_
                exact J295 (nI (unsT (nxA xs cnt t2)).length) (by rw [pI_neg hpo1 c_270]; rfl)
              · refine m_aload_n (pc' := 274) C dX12_printDirective_273 rfl 0 rfl rfl ?_
                refine r_get C hn pro_70 inW_X12 26 (by decide) ⟨rfl, rfl, rfl⟩ (gW_of tm_5_76) (r_at 26 rfl ff26_103) dX12_printDirective_274 rfl ?_
                refine m_aload_n (pc' := 278) C dX12_printDirective_277 rfl 0 rfl rfl ?_
                refine r_get C hn pro_70 inW_X12 30 (by decide) ⟨rfl, rfl, rfl⟩ (gW_of tm_5_80) (r_at 30 rfl prw_70.2.1) dX12_printDirective_278 rfl ?_
                refine m_icmp_ge (pc' := 284) (tgt := 291) C dX12_printDirective_281 (by decide) rfl (fun c_281 => ?_) (fun c_281 => ?_)
                · refine m_aload_n (pc' := 292) C dX12_printDirective_291 rfl 0 rfl rfl ?_
                  refine r_get C hn pro_70 inW_X12 30 (by decide) ⟨rfl, rfl, rfl⟩ (gW_of tm_5_80) (r_at 30 rfl prw_70.2.1) dX12_printDirective_292 rfl ?_
                  refine m_lv [0] rfl ?_
                  exact J295 (nI (unsT (nxA xs cnt t2)).length) (by rw [cutP_g hpo1 (by omega) c_270 c_281])
                · refine m_aload_n (pc' := 285) C dX12_printDirective_284 rfl 0 rfl rfl ?_
                  refine r_get C hn pro_70 inW_X12 26 (by decide) ⟨rfl, rfl, rfl⟩ (gW_of tm_5_76) (r_at 26 rfl ff26_103) dX12_printDirective_285 rfl ?_
                  refine m_goto (tgt := 295) C dX12_printDirective_288 (by decide) ?_
                  refine m_lv [0] rfl ?_
                  exact J295 (pI po1) (cutP_l hpo1 (by omega) c_270 c_281)
      · have n_111 : c = 99 := (nI_eq (by omega) (by omega)).mp (Classical.not_not.mp c_111)
        refine m_cut (σ := (Nat → va_E)) (fun a => rO ad a ∧ isRw cy a (nxC xs cnt t2) ∧ a 116 = gh (.int (nI od2)) ∧ a 117 = gh (.int (nI (nextT cnt t2))) ∧ (∃ D, isDg cy a D) ∧ Fr [52, 60, 61, 116, 117, 130, 132] Mj105 a) (fun a => a) 223 (fun a => [(0, .ref (ad 52))]) (fun a => []) ?_ (fun J223 => ?_)
        · rintro Mj223 hj
          try dsimp only at hj ⊢
          obtain ⟨jro_223, jrw_223, jf16_223, jf17_223, jdg_223, jf_223⟩ := hj
          obtain ⟨D, jdg_223⟩ := jdg_223
          refine m_aload_n (pc' := 224) C dX12_printDirective_223 rfl 0 rfl rfl ?_
          have xout_105 := hout.fr jf_66 (by decide)
          have xout_106 := xout_105.fr jf_105 (by decide)
          have xout_107 := xout_106.fr jf_223 (by decide)
          have ff20_108 : Mj105 120 = gh (.int (bI fl1)) := (jf_105 120 (by decide)).trans jf20_66
          have ff20_109 : Mj223 120 = gh (.int (bI fl1)) := (jf_223 120 (by decide)).trans ff20_108
          have ff25_110 : Mj105 125 = gh (.int (nI wd1)) := (jf_105 125 (by decide)).trans jf25_66
          have ff25_111 : Mj223 125 = gh (.int (nI wd1)) := (jf_223 125 (by decide)).trans ff25_110
          refine m_callVv (pc' := 227) (As := []) (rest := []) C (kX12_printRow hI hn hn2 jro_223 jrw_223 xout_107 ff20_109 ff25_111 (by first | omega | assumption)) (cwV 0 C.1.2.2.2.2 (goodV tm_6_48 tm_6_50 tp_66 tm_1_13 tm_6_51) rfl rfl rfl (by decide +kernel) ⟨by decide, by decide⟩) (by omega) jro_223 rfl rfl rfl (Nat.le_of_ble_eq_true rfl) dX12_printDirective_224 rfl ⟨by decide, by decide⟩ (fun M104 q_104 => ?_)
          obtain ⟨pro_104, pout_104, F_104⟩ := q_104
          refine m_goto (tgt := 309) C dX12_printDirective_227 (by decide) ?_
          refine m_vret C hrt0 hlk0 dX12_printDirective_309 ?_
          have ff16_112 : M104 116 = gh (.int (nI od2)) := (F_104 116 (by decide)).trans jf16_223
          have ff17_113 : M104 117 = gh (.int (nI (nextT cnt t2))) := (F_104 117 (by decide)).trans jf17_223
          have xdg_114 := jdg_223.fr F_104 (by decide)
          have ff18_115 : Mj66 118 = gh (.int (bI e0)) := (jf_66 118 (by decide)).trans he
          have ff18_116 : Mj105 118 = gh (.int (bI e0)) := (jf_105 118 (by decide)).trans ff18_115
          have ff18_117 : Mj223 118 = gh (.int (bI e0)) := (jf_223 118 (by decide)).trans ff18_116
          have ff18_118 : M104 118 = gh (.int (bI e0)) := (F_104 118 (by decide)).trans ff18_117
          have xrw_119 := jrw_223.fr F_104 (by decide)
          have hL : lastR xs cnt fl1 fp fb fm fz wd1 po1 bt (nI c) t2 = (padT fl1 wd1 (nxC xs cnt t2), nextT cnt t2, 0, false) := by unfold lastR; rw [n_111, if_neg (by decide), if_pos rfl]
          rw [hD, hL]
          exact ⟨pro_104, pout_104, ff17_113, by dsimp only; rw [show ∀ z : Nat, od + (w1O sw xs cnt tk + w1O sp xs cnt t1 + z) = od2 + z from fun z => by omega]; exact ff16_112, by dsimp only; rw [Bool.or_false]; exact ff18_118, ⟨_, xrw_119⟩, ⟨_, xdg_114⟩, ((((jf_66.sub (by decide)).tr (jf_105.sub (by decide))).tr (jf_223.sub (by decide))).tr (F_104.sub (by decide)))⟩
        refine m_aload_n (pc' := 115) C dX12_printDirective_114 rfl 0 rfl rfl ?_
        refine r_get C hn jro_105 inW_X12 17 (by decide) ⟨rfl, rfl, rfl⟩ (gW_of tm_5_67) (r_at 17 rfl jf17_105) dX12_printDirective_115 rfl ?_
        refine m_aload_n (pc' := 119) C dX12_printDirective_118 rfl 0 rfl rfl ?_
        have ff3_120 : Mj66 103 = gh (.int (nI cnt)) := (jf_66 103 (by decide)).trans a2
        have ff3_121 : Mj105 103 = gh (.int (nI cnt)) := (jf_105 103 (by decide)).trans ff3_120
        refine r_get C hn jro_105 inW_X12 3 (by decide) ⟨rfl, rfl, rfl⟩ (gW_of tm_5_53) (r_at 3 rfl ff3_121) dX12_printDirective_119 rfl ?_
        refine m_icmp_ge (pc' := 125) (tgt := 141) C dX12_printDirective_122 (by decide) rfl (fun c_122 => ?_) (fun c_122 => ?_)
        · have n_122 : cnt ≤ t2 := (nI_leI (by omega) (by omega)).mp c_122
          have hnc := nxC_none (xs := xs) n_122
          refine m_iconst (pc' := 142) (v := nI 0) C dX12_printDirective_141 (by decide) rfl ?_
          refine m_istore_n (pc' := 143) (lv' := [(1, .int (nI 0)), (0, .ref (ad 52))]) C dX12_printDirective_142 rfl (by decide) rfl rfl ?_
          refine m_iload_n (pc' := 144) C dX12_printDirective_143 rfl 0 rfl rfl ?_
          refine m_if_eq (pc' := 147) (tgt := 174) C dX12_printDirective_144 (by decide) rfl (fun c_144 => ?_) (fun c_144 => ?_)
          · refine m_aload_n (pc' := 175) C dX12_printDirective_174 rfl 1 rfl rfl ?_
            refine r_get C hn jro_105 inW_X12 17 (by decide) ⟨rfl, rfl, rfl⟩ (gW_of tm_5_67) (r_at 17 rfl jf17_105) dX12_printDirective_175 rfl ?_
            refine m_aload_n (pc' := 179) C dX12_printDirective_178 rfl 1 rfl rfl ?_
            refine r_get C hn jro_105 inW_X12 3 (by decide) ⟨rfl, rfl, rfl⟩ (gW_of tm_5_53) (r_at 3 rfl ff3_121) dX12_printDirective_179 rfl ?_
            refine m_icmp_ge (pc' := 185) (tgt := 189) C dX12_printDirective_182 (by decide) rfl (fun c_182 => ?_) (fun c_182 => ?_)
            · have n_182 : cnt ≤ t2 := (nI_leI (by omega) (by omega)).mp c_182
              refine m_iconst (pc' := 190) (v := nI 0) C dX12_printDirective_189 (by decide) rfl ?_
              refine m_istore_n (pc' := 191) (lv' := [(2, .int (nI 0)), (1, .int (nI 0)), (0, .ref (ad 52))]) C dX12_printDirective_190 rfl (by decide) rfl rfl ?_
              refine m_aload_n (pc' := 192) C dX12_printDirective_191 rfl 2 rfl rfl ?_
              refine r_get C hn jro_105 inW_X12 29 (by decide) ⟨rfl, rfl, rfl⟩ (gW_of tm_5_79) rfl dX12_printDirective_192 rfl ?_
              refine m_iconst (pc' := 196) (v := nI 0) C dX12_printDirective_195 (by decide) rfl ?_
              refine m_aload_n (pc' := 197) C dX12_printDirective_196 rfl 2 rfl rfl ?_
              have xra_123 := hra.fr jf_66 (by decide)
              have xra_124 := xra_123.fr jf_105 (by decide)
              refine m_callVl (pc' := 200) (As := []) (rest := [.int (nI 0), .ref (ad 60)]) C (kX12_takeNumber hI hn hn2 jro_105 xra_124 jf16_105 jf17_105 (by omega)) (cwV 0 C.1.2.2.2.2 (goodV tm_6_7 tm_6_9 tp_59 tm_1_13 tm_6_10) rfl rfl rfl (by decide +kernel) ⟨by decide, by decide⟩) (by omega) jro_105 rfl rfl rfl (Nat.le_of_ble_eq_true rfl) dX12_printDirective_197 rfl ⟨by decide, by decide⟩ (fun x_122 M122 q_122 => ?_)
              obtain ⟨e_122, pro_122, pf16_122, pf17_122, F_122⟩ := q_122
              replace e_122 := e_122.symm
              subst e_122
              refine m_ldc2 (pc' := 203) (v := (255)) C dX12_printDirective_200 (gW_of tm_6_43) rfl ?_
              refine m_land (pc' := 204) (v := (nextV xs cnt t2) &&& (255)) C dX12_printDirective_203 rfl rfl ?_
              refine m_l2i (pc' := 205) (v := ((nextV xs cnt t2) &&& (255)).toInt32) C dX12_printDirective_204 rfl rfl ?_
              refine m_i2c (pc' := 206) (v := nI (lowb (nextV xs cnt t2).toInt32)) C dX12_printDirective_205 (i2c_low _) rfl ?_
              have f60_125 : Mj66 60 = .inl (cy 0, 200, .inl (fun i => nI (w0 i))) := (jf_66 60 (by decide)).trans w4
              have f60_126 : Mj105 60 = .inl (cy 0, 200, .inl (fun i => nI (w0 i))) := (jf_105 60 (by decide)).trans f60_125
              have f60_127 : M122 60 = .inl (cy 0, 200, .inl (fun i => nI (w0 i))) := (F_122 60 (by decide)).trans f60_126
              refine m_cast (pc' := 207) (E' := .inl (cy 0, 200, .inl (fun i => nI (va_up w0 0 (lowb (nextV xs cnt t2).toInt32) i)))) C 60 (by omega) f60_127 (vp_in_nI (by decide) (by decide)) (by rw [nI_clamp (by decide), nar_cv (by have := lowb_lt2 (nextV xs cnt t2).toInt32; omega), upd_nI]) dX12_printDirective_206 rfl (fun M128 g_128 F_128 => ?_)
              refine m_aload_n (pc' := 208) C dX12_printDirective_207 rfl 2 rfl rfl ?_
              refine m_iload_n (pc' := 209) C dX12_printDirective_208 rfl 0 rfl rfl ?_
              refine m_if_eq (pc' := 212) (tgt := 216) C dX12_printDirective_209 (by decide) rfl (fun c_209 => ?_) (fun c_209 => ?_)
              · refine m_aload_n (pc' := 217) C dX12_printDirective_216 rfl 2 rfl rfl ?_
                have ro_130 := pro_122.fr F_128 (by decide)
                refine m_callVi (pc' := 220) (As := []) (rest := [.ref (ad 52)]) C (kX12_noArgument hI ) (cwV 0 C.1.2.2.2.2 (goodV tm_6_44 tm_6_46 tp_65 tm_1_13 tm_6_47) rfl rfl rfl (by decide +kernel) ⟨by decide, by decide⟩) (by omega) ro_130 rfl rfl rfl (Nat.le_of_ble_eq_true rfl) dX12_printDirective_217 rfl ⟨by decide, by decide⟩ (fun x_129 N_129 q_129 => ?_)
                obtain ⟨e_129, E_129⟩ := q_129
                replace E_129 := E_129.symm
                subst E_129
                replace e_129 := e_129.symm
                subst e_129
                refine r_put (ty := .int) C hn hn2 ro_130 inW_X12 30 130 (by decide) rfl ⟨rfl, rfl, rfl, rfl⟩ (gW_of tm_5_80) (by decide +kernel) rfl rfl (fun _ => rfl) dX12_printDirective_220 rfl (fun M131 go_131 g_131 F_131 => ?_)
                have f60_132 : M131 60 = .inl (cy 0, 200, .inl (fun i => nI (va_up w0 0 (lowb (nextV xs cnt t2).toInt32) i))) := (F_131 60 (by decide)).trans g_128
                have hrwc : isRw cy M131 (nxC xs cnt t2) := by rw [hnc.1]; exact isRw.nil g_131 f60_132
                have ff16_133 : M128 116 = gh (.int (nI (od2 + nextO xs cnt t2))) := (F_128 116 (by decide)).trans pf16_122
                have ff16_134 : M131 116 = gh (.int (nI (od2 + nextO xs cnt t2))) := (F_131 116 (by decide)).trans ff16_133
                have ff17_135 : M128 117 = gh (.int (nI (nextT cnt t2))) := (F_128 117 (by decide)).trans pf17_122
                have ff17_136 : M131 117 = gh (.int (nI (nextT cnt t2))) := (F_131 117 (by decide)).trans ff17_135
                have xdg_137 := hdg.fr jf_66 (by decide)
                have xdg_138 := xdg_137.fr jf_105 (by decide)
                have xdg_139 := xdg_138.fr F_122 (by decide)
                have xdg_140 := xdg_139.fr F_128 (by decide)
                have xdg_141 := xdg_140.fr F_131 (by decide)
                refine m_lv [2] rfl ?_
                exact J223 M131 (⟨go_131, hrwc, (by have z9 := ff16_134; rw [hnc.2.2, Nat.add_zero] at z9; exact z9), ff17_136, ⟨_, xdg_141⟩, (((F_122.sub (by decide)).tr (F_128.sub (by decide))).tr (F_131.sub (by decide)))⟩)
              · exact absurd (by decide) c_209
            · have n_182 : t2 < cnt := Nat.lt_of_not_le (fun q => c_182 ((nI_leI (by omega) (by omega)).mpr q))
              exact absurd n_182 (by omega)
          · exact absurd (by decide) c_144
        · have n_122 : t2 < cnt := Nat.lt_of_not_le (fun q => c_122 ((nI_leI (by omega) (by omega)).mpr q))
          refine m_aload_n (pc' := 126) C dX12_printDirective_125 rfl 0 rfl rfl ?_
          refine r_get C hn jro_105 inW_X12 4 (by decide) ⟨rfl, rfl, rfl⟩ (gW_of tm_5_54) rfl dX12_printDirective_126 rfl ?_
          refine m_aload_n (pc' := 130) C dX12_printDirective_129 rfl 0 rfl rfl ?_
          refine r_get C hn jro_105 inW_X12 17 (by decide) ⟨rfl, rfl, rfl⟩ (gW_of tm_5_67) (r_at 17 rfl jf17_105) dX12_printDirective_130 rfl ?_
          have f54_142 : Mj66 54 = .inl (cy 3, 8, .inl (fun i => bI (b i))) := (jf_66 54 (by decide)).trans a3
          have f54_143 : Mj105 54 = .inl (cy 3, 8, .inl (fun i => bI (b i))) := (jf_105 54 (by decide)).trans f54_142
          refine m_zald (pc' := 134) (v := bI (b t2)) C 54 (by omega) f54_143 (vp_in_nI (by omega) (by decide)) (by rw [nI_clamp (by omega)]) dX12_printDirective_133 rfl ?_
          refine m_if_eq (pc' := 137) (tgt := 141) C dX12_printDirective_134 (by decide) rfl (fun c_134 => ?_) (fun c_134 => ?_)
          · have hxa := isRA.num (cy := cy) (M := M) (cnt := cnt) (a7 t2 n_122) ((bI_0 _).mp c_134)
            have hnc := nxC_num n_122 hxa
            refine m_iconst (pc' := 142) (v := nI 0) C dX12_printDirective_141 (by decide) rfl ?_
            refine m_istore_n (pc' := 143) (lv' := [(1, .int (nI 0)), (0, .ref (ad 52))]) C dX12_printDirective_142 rfl (by decide) rfl rfl ?_
            refine m_iload_n (pc' := 144) C dX12_printDirective_143 rfl 0 rfl rfl ?_
            refine m_if_eq (pc' := 147) (tgt := 174) C dX12_printDirective_144 (by decide) rfl (fun c_144 => ?_) (fun c_144 => ?_)
            · refine m_aload_n (pc' := 175) C dX12_printDirective_174 rfl 1 rfl rfl ?_
              refine r_get C hn jro_105 inW_X12 17 (by decide) ⟨rfl, rfl, rfl⟩ (gW_of tm_5_67) (r_at 17 rfl jf17_105) dX12_printDirective_175 rfl ?_
              refine m_aload_n (pc' := 179) C dX12_printDirective_178 rfl 1 rfl rfl ?_
              refine r_get C hn jro_105 inW_X12 3 (by decide) ⟨rfl, rfl, rfl⟩ (gW_of tm_5_53) (r_at 3 rfl ff3_121) dX12_printDirective_179 rfl ?_
              refine m_icmp_ge (pc' := 185) (tgt := 189) C dX12_printDirective_182 (by decide) rfl (fun c_182 => ?_) (fun c_182 => ?_)
              · have n_182 : cnt ≤ t2 := (nI_leI (by omega) (by omega)).mp c_182
                exact absurd n_182 (by omega)
              · have n_182 : t2 < cnt := Nat.lt_of_not_le (fun q => c_182 ((nI_leI (by omega) (by omega)).mpr q))
                refine m_iconst (pc' := 186) (v := nI 1) C dX12_printDirective_185 (by decide) rfl ?_
                refine m_goto (tgt := 190) C dX12_printDirective_186 (by decide) ?_
                refine m_istore_n (pc' := 191) (lv' := [(2, .int (nI 1)), (1, .int (nI 0)), (0, .ref (ad 52))]) C dX12_printDirective_190 rfl (by decide) rfl rfl ?_
                refine m_aload_n (pc' := 192) C dX12_printDirective_191 rfl 2 rfl rfl ?_
                refine r_get C hn jro_105 inW_X12 29 (by decide) ⟨rfl, rfl, rfl⟩ (gW_of tm_5_79) rfl dX12_printDirective_192 rfl ?_
                refine m_iconst (pc' := 196) (v := nI 0) C dX12_printDirective_195 (by decide) rfl ?_
                refine m_aload_n (pc' := 197) C dX12_printDirective_196 rfl 2 rfl rfl ?_
                have xra_145 := hra.fr jf_66 (by decide)
                have xra_146 := xra_145.fr jf_105 (by decide)
                refine m_callVl (pc' := 200) (As := []) (rest := [.int (nI 0), .ref (ad 60)]) C (kX12_takeNumber hI hn hn2 jro_105 xra_146 jf16_105 jf17_105 (by omega)) (cwV 0 C.1.2.2.2.2 (goodV tm_6_7 tm_6_9 tp_59 tm_1_13 tm_6_10) rfl rfl rfl (by decide +kernel) ⟨by decide, by decide⟩) (by omega) jro_105 rfl rfl rfl (Nat.le_of_ble_eq_true rfl) dX12_printDirective_197 rfl ⟨by decide, by decide⟩ (fun x_144 M144 q_144 => ?_)
                obtain ⟨e_144, pro_144, pf16_144, pf17_144, F_144⟩ := q_144
                replace e_144 := e_144.symm
                subst e_144
                refine m_ldc2 (pc' := 203) (v := (255)) C dX12_printDirective_200 (gW_of tm_6_43) rfl ?_
                refine m_land (pc' := 204) (v := (nextV xs cnt t2) &&& (255)) C dX12_printDirective_203 rfl rfl ?_
                refine m_l2i (pc' := 205) (v := ((nextV xs cnt t2) &&& (255)).toInt32) C dX12_printDirective_204 rfl rfl ?_
                refine m_i2c (pc' := 206) (v := nI (lowb (nextV xs cnt t2).toInt32)) C dX12_printDirective_205 (i2c_low _) rfl ?_
                have f60_147 : Mj66 60 = .inl (cy 0, 200, .inl (fun i => nI (w0 i))) := (jf_66 60 (by decide)).trans w4
                have f60_148 : Mj105 60 = .inl (cy 0, 200, .inl (fun i => nI (w0 i))) := (jf_105 60 (by decide)).trans f60_147
                have f60_149 : M144 60 = .inl (cy 0, 200, .inl (fun i => nI (w0 i))) := (F_144 60 (by decide)).trans f60_148
                refine m_cast (pc' := 207) (E' := .inl (cy 0, 200, .inl (fun i => nI (va_up w0 0 (lowb (nextV xs cnt t2).toInt32) i)))) C 60 (by omega) f60_149 (vp_in_nI (by decide) (by decide)) (by rw [nI_clamp (by decide), nar_cv (by have := lowb_lt2 (nextV xs cnt t2).toInt32; omega), upd_nI]) dX12_printDirective_206 rfl (fun M150 g_150 F_150 => ?_)
                refine m_aload_n (pc' := 208) C dX12_printDirective_207 rfl 2 rfl rfl ?_
                refine m_iload_n (pc' := 209) C dX12_printDirective_208 rfl 0 rfl rfl ?_
                refine m_if_eq (pc' := 212) (tgt := 216) C dX12_printDirective_209 (by decide) rfl (fun c_209 => ?_) (fun c_209 => ?_)
                · exact absurd c_209 (by decide)
                · refine m_iconst (pc' := 213) (v := nI 1) C dX12_printDirective_212 (by decide) rfl ?_
                  refine m_goto (tgt := 220) C dX12_printDirective_213 (by decide) ?_
                  have ro_152 := pro_144.fr F_150 (by decide)
                  refine r_put (ty := .int) C hn hn2 ro_152 inW_X12 30 130 (by decide) rfl ⟨rfl, rfl, rfl, rfl⟩ (gW_of tm_5_80) (by decide +kernel) rfl rfl (fun _ => rfl) dX12_printDirective_220 rfl (fun M151 go_151 g_151 F_151 => ?_)
                  have f60_153 : M151 60 = .inl (cy 0, 200, .inl (fun i => nI (va_up w0 0 (lowb (nextV xs cnt t2).toInt32) i))) := (F_151 60 (by decide)).trans g_150
                  have hrwc : isRw cy M151 (nxC xs cnt t2) := by rw [hnc.1]; exact isRw.one (lowb_lt2 _) g_151 (by have z9 := f60_153; rw [hnc.2.1] at z9; exact z9)
                  have ff16_154 : M150 116 = gh (.int (nI (od2 + nextO xs cnt t2))) := (F_150 116 (by decide)).trans pf16_144
                  have ff16_155 : M151 116 = gh (.int (nI (od2 + nextO xs cnt t2))) := (F_151 116 (by decide)).trans ff16_154
                  have ff17_156 : M150 117 = gh (.int (nI (nextT cnt t2))) := (F_150 117 (by decide)).trans pf17_144
                  have ff17_157 : M151 117 = gh (.int (nI (nextT cnt t2))) := (F_151 117 (by decide)).trans ff17_156
                  have xdg_158 := hdg.fr jf_66 (by decide)
                  have xdg_159 := xdg_158.fr jf_105 (by decide)
                  have xdg_160 := xdg_159.fr F_144 (by decide)
                  have xdg_161 := xdg_160.fr F_150 (by decide)
                  have xdg_162 := xdg_161.fr F_151 (by decide)
                  refine m_lv [2] rfl ?_
                  exact J223 M151 (⟨go_151, hrwc, (by have z9 := ff16_155; rw [hnc.2.2, Nat.add_zero] at z9; exact z9), ff17_157, ⟨_, xdg_162⟩, (((F_144.sub (by decide)).tr (F_150.sub (by decide))).tr (F_151.sub (by decide)))⟩)
            · exact absurd (by decide) c_144
          · obtain ⟨P, hxa, -⟩ := isRA.txt (cy := cy) (M := M) (cnt := cnt) (a7 t2 n_122) (ts_of c_134)
            have hnc := nxC_txt n_122 hxa
            refine m_iconst (pc' := 138) (v := nI 1) C dX12_printDirective_137 (by decide) rfl ?_
            refine m_goto (tgt := 142) C dX12_printDirective_138 (by decide) ?_
            refine m_istore_n (pc' := 143) (lv' := [(1, .int (nI 1)), (0, .ref (ad 52))]) C dX12_printDirective_142 rfl (by decide) rfl rfl ?_
            refine m_iload_n (pc' := 144) C dX12_printDirective_143 rfl 0 rfl rfl ?_
            refine m_if_eq (pc' := 147) (tgt := 174) C dX12_printDirective_144 (by decide) rfl (fun c_144 => ?_) (fun c_144 => ?_)
            · exact absurd c_144 (by decide)
            · refine m_aload_n (pc' := 148) C dX12_printDirective_147 rfl 1 rfl rfl ?_
              have xra_164 := hra.fr jf_66 (by decide)
              have xra_165 := xra_164.fr jf_105 (by decide)
              have xrw_166 := hrw.fr jf_66 (by decide)
              have xrw_167 := xrw_166.fr jf_105 (by decide)
              have xdg_168 := hdg.fr jf_66 (by decide)
              have xdg_169 := xdg_168.fr jf_105 (by decide)
              refine m_callVv (pc' := 151) (As := []) (rest := []) C (kX12_takeText hI hn hn2 jro_105 xra_165 jf17_105 xrw_167 xdg_169 (by omega)) (cwV 0 C.1.2.2.2.2 (goodV tm_6_27 tm_6_29 tp_62 tm_1_13 tm_6_30) rfl rfl rfl (by decide +kernel) ⟨by decide, by decide⟩) (by omega) jro_105 rfl rfl rfl (Nat.le_of_ble_eq_true rfl) dX12_printDirective_148 rfl ⟨by decide, by decide⟩ (fun M163 q_163 => ?_)
              obtain ⟨pro_163, prw_163, pf17_163, ⟨D_163, pdg_163⟩, F_163⟩ := q_163
              rw [hnc.1] at prw_163
              have hw3 := prw_163.2.2.1
              refine m_aload_n (pc' := 152) C dX12_printDirective_151 rfl 1 rfl rfl ?_
              refine m_cut (σ := Int32) (fun a => a = nI (P.take 1).length) (fun a => M163) 168 (fun a => [(1, .int (nI 1)), (0, .ref (ad 52))]) (fun a => [.int (a), .ref (ad 52)]) ?_ (fun J168 => ?_)
              · rintro y9 hj
                try dsimp only at hj ⊢
                subst hj
                refine r_put (ty := .int) C hn hn2 pro_163 inW_X12 30 130 (by decide) rfl ⟨rfl, rfl, rfl, rfl⟩ (gW_of tm_5_80) (by decide +kernel) rfl rfl (fun _ => rfl) dX12_printDirective_168 rfl (fun M170 go_170 g_170 F_170 => ?_)
                have hrwc : isRw cy M170 (nxC xs cnt t2) := by rw [hnc.2]; exact isRw.cut prw_163 F_170 (by decide) g_170
                refine m_goto (tgt := 223) C dX12_printDirective_171 (by decide) ?_
                have ff16_171 : M163 116 = gh (.int (nI od2)) := (F_163 116 (by decide)).trans jf16_105
                have ff16_172 : M170 116 = gh (.int (nI od2)) := (F_170 116 (by decide)).trans ff16_171
                have ff17_173 : M170 117 = gh (.int (nI (nextT cnt t2))) := (F_170 117 (by decide)).trans pf17_163
                have xdg_174 := pdg_163.fr F_170 (by decide)
                refine m_lv [1] rfl ?_
                exact J223 M170 (⟨go_170, hrwc, ff16_172, ff17_173, ⟨_, xdg_174⟩, ((F_163.sub (by decide)).tr (F_170.sub (by decide)))⟩)
              refine m_aload_n (pc' := 153) C dX12_printDirective_152 rfl 1 rfl rfl ?_
              refine r_get C hn pro_163 inW_X12 30 (by decide) ⟨rfl, rfl, rfl⟩ (gW_of tm_5_80) (r_at 30 rfl prw_163.2.1) dX12_printDirective_153 rfl ?_
              refine m_iconst (pc' := 157) (v := nI 1) C dX12_printDirective_156 (by decide) rfl ?_
              refine m_icmp_le (pc' := 160) (tgt := 164) C dX12_printDirective_157 (by decide) rfl (fun c_157 => ?_) (fun c_157 => ?_)
              · have n_157 : P.length ≤ 1 := (nI_leI (by omega) (by omega)).mp c_157
                refine m_aload_n (pc' := 165) C dX12_printDirective_164 rfl 1 rfl rfl ?_
                refine r_get C hn pro_163 inW_X12 30 (by decide) ⟨rfl, rfl, rfl⟩ (gW_of tm_5_80) (r_at 30 rfl prw_163.2.1) dX12_printDirective_165 rfl ?_
                refine m_lv [0, 1] rfl ?_
                exact J168 (nI P.length) (by rw [List.length_take, Nat.min_eq_right (by omega)])
              · have n_157 : 1 < P.length := Nat.lt_of_not_le (fun q => c_157 ((nI_leI (by omega) (by omega)).mpr q))
                refine m_iconst (pc' := 161) (v := nI 1) C dX12_printDirective_160 (by decide) rfl ?_
                refine m_goto (tgt := 168) C dX12_printDirective_161 (by decide) ?_
                refine m_lv [0, 1] rfl ?_
                exact J168 (nI 1) (by rw [List.length_take, Nat.min_eq_left (by omega)])
    refine m_aload_n (pc' := 67) C dX12_printDirective_66 rfl 0 rfl rfl ?_
    have ff26_175 : Mj66 126 = gh (.int ((if sp then -3 else pI po))) := (jf_66 126 (by decide)).trans h26
    refine r_get C hn jro_66 inW_X12 26 (by decide) ⟨rfl, rfl, rfl⟩ (gW_of tm_5_76) (r_at 26 rfl ff26_175) dX12_printDirective_67 rfl ?_
    refine m_bipush (pc' := 72) (v := (-3)) C dX12_printDirective_70 (by decide) rfl ?_
    refine m_icmp_ne (pc' := 75) (tgt := 105) C dX12_printDirective_72 (by decide) rfl (fun c_72 => ?_) (fun c_72 => ?_)
    · have hsp : sp = false := by
        cases sp
        · rfl
        · exact absurd rfl c_72
      refine m_lv [0] rfl ?_
      exact J105 Mj66 (⟨jro_66, by unfold w1O; rw [hsp, if_neg (by decide)]; exact jf16_66, by unfold w1T; rw [hsp, if_neg (by decide)]; exact jf17_66, by unfold p1P; rw [hsp, if_neg (by decide)]; have z9 := ff26_175; rw [hsp, if_neg (by decide)] at z9; exact z9, Fr.rf⟩)
    · have hsp : sp = true := by
        cases sp
        · exact absurd (Classical.not_not.mp c_72) (pI_ne3 po (fun k hk => by have := hpo k hk; omega))
        · rfl
      refine m_aload_n (pc' := 76) C dX12_printDirective_75 rfl 0 rfl rfl ?_
      refine m_aload_n (pc' := 77) C dX12_printDirective_76 rfl 0 rfl rfl ?_
      have xra_177 := hra.fr jf_66 (by decide)
      refine m_callVl (pc' := 80) (As := []) (rest := [.ref (ad 52)]) C (kX12_takeNumber hI hn hn2 jro_66 xra_177 jf16_66 jf17_66 (by omega)) (cwV 0 C.1.2.2.2.2 (goodV tm_6_7 tm_6_9 tp_59 tm_1_13 tm_6_10) rfl rfl rfl (by decide +kernel) ⟨by decide, by decide⟩) (by omega) jro_66 rfl rfl rfl (Nat.le_of_ble_eq_true rfl) dX12_printDirective_77 rfl ⟨by decide, by decide⟩ (fun x_176 M176 q_176 => ?_)
      obtain ⟨e_176, pro_176, pf16_176, pf17_176, F_176⟩ := q_176
      replace e_176 := e_176.symm
      subst e_176
      refine m_callSi (pc' := 83) (As := [.long (nextV xs cnt t1)]) (rest := [.ref (ad 52)]) C (kX12_cutTo hI (nextV xs cnt t1)) (cwS 1 C.1.2.2.2.2 (goodS tm_6_22 tm_6_23 tm_1_13 tm_6_24) rfl rfl rfl (by decide +kernel) ⟨by decide, by decide⟩) rfl rfl (Nat.le_of_ble_eq_true rfl) dX12_printDirective_80 rfl ⟨by decide, by decide⟩ (fun x_178 N_178 q_178 => ?_)
      obtain ⟨e_178, E_178⟩ := q_178
      replace E_178 := E_178.symm
      subst E_178
      replace e_178 := e_178.symm
      subst e_178
      refine r_put (ty := .int) C hn hn2 pro_176 inW_X12 26 126 (by decide) rfl ⟨rfl, rfl, rfl, rfl⟩ (gW_of tm_5_76) (by decide +kernel) rfl rfl (fun _ => rfl) dX12_printDirective_83 rfl (fun M179 go_179 g_179 F_179 => ?_)
      refine m_aload_n (pc' := 87) C dX12_printDirective_86 rfl 0 rfl rfl ?_
      refine m_cut (σ := Int32) (fun a => a = pI (if (nextV xs cnt t1) < 0 then none else some (cutA (nextV xs cnt t1)))) (fun a => M179) 102 (fun a => [(0, .ref (ad 52))]) (fun a => [.int (a), .ref (ad 52)]) ?_ (fun J102 => ?_)
      · rintro y9 hj
        try dsimp only at hj ⊢
        subst hj
        refine r_put (ty := .int) C hn hn2 go_179 inW_X12 26 126 (by decide) rfl ⟨rfl, rfl, rfl, rfl⟩ (gW_of tm_5_76) (by decide +kernel) rfl rfl (fun _ => rfl) dX12_printDirective_102 rfl (fun M180 go_180 g_180 F_180 => ?_)
        have ff16_181 : M179 116 = gh (.int (nI (od1 + nextO xs cnt t1))) := (F_179 116 (by decide)).trans pf16_176
        have ff16_182 : M180 116 = gh (.int (nI (od1 + nextO xs cnt t1))) := (F_180 116 (by decide)).trans ff16_181
        have ff17_183 : M179 117 = gh (.int (nI (nextT cnt t1))) := (F_179 117 (by decide)).trans pf17_176
        have ff17_184 : M180 117 = gh (.int (nI (nextT cnt t1))) := (F_180 117 (by decide)).trans ff17_183
        refine m_lv [0] rfl ?_
        exact J105 M180 (⟨go_180, by unfold w1O; rw [hsp, if_pos rfl]; exact ff16_182, by unfold w1T; rw [hsp, if_pos rfl]; exact ff17_184, by unfold p1P; rw [hsp, if_pos rfl]; exact g_180, (((F_176.sub (by decide)).tr (F_179.sub (by decide))).tr (F_180.sub (by decide)))⟩)
      refine m_aload_n (pc' := 88) C dX12_printDirective_87 rfl 0 rfl rfl ?_
      refine r_get C hn go_179 inW_X12 26 (by decide) ⟨rfl, rfl, rfl⟩ (gW_of tm_5_76) (r_at 26 rfl g_179) dX12_printDirective_88 rfl ?_
      refine m_if_ge (pc' := 94) (tgt := 98) C dX12_printDirective_91 (by decide) rfl (fun c_91 => ?_) (fun c_91 => ?_)
      · have hcz : ¬ (nextV xs cnt t1) < 0 := fun q => absurd (of_decide_eq_true ((cut_n _).trans (decide_eq_true q))) (Int32.not_lt.mpr c_91)
        refine m_aload_n (pc' := 99) C dX12_printDirective_98 rfl 0 rfl rfl ?_
        refine r_get C hn go_179 inW_X12 26 (by decide) ⟨rfl, rfl, rfl⟩ (gW_of tm_5_76) (r_at 26 rfl g_179) dX12_printDirective_99 rfl ?_
        refine m_lv [0] rfl ?_
        exact J102 (cutI (nextV xs cnt t1)) (by rw [← cut_p, if_neg hcz])
      · have hcz : (nextV xs cnt t1) < 0 := of_decide_eq_true ((cut_n _).symm.trans (decide_eq_true (Int32.not_le.mp c_91)))
        refine m_iconst (pc' := 95) (v := (-1)) C dX12_printDirective_94 (by decide) rfl ?_
        refine m_goto (tgt := 102) C dX12_printDirective_95 (by decide) ?_
        refine m_lv [0] rfl ?_
        exact J102 (-1) (by rw [← cut_p, if_pos hcz])
  refine m_aload_n (pc' := 1) C dX12_printDirective_0 rfl 0 rfl rfl ?_
  refine r_get C hn hro inW_X12 25 (by decide) ⟨rfl, rfl, rfl⟩ (gW_of tm_5_75) (r_at 25 rfl h25) dX12_printDirective_1 rfl ?_
  refine m_bipush (pc' := 6) (v := (-2)) C dX12_printDirective_4 (by decide) rfl ?_
  refine m_icmp_ne (pc' := 9) (tgt := 66) C dX12_printDirective_6 (by decide) rfl (fun c_6 => ?_) (fun c_6 => ?_)
  · have hsw : sw = false := by
      cases sw
      · rfl
      · exact absurd rfl c_6
    refine m_lv [0] rfl ?_
    exact J66 M (⟨hro, by unfold w1O; rw [hsw, if_neg (by decide)]; exact hod, by unfold w1T; rw [hsw, if_neg (by decide)]; exact hnx, by unfold w1F; rw [hsw, if_neg (by decide)]; exact h20, by unfold w1W; rw [hsw, if_neg (by decide)]; have z9 := h25; rw [hsw, if_neg (by decide)] at z9; exact z9, Fr.rf⟩)
  · have hsw : sw = true := by
      cases sw
      · exact absurd (Classical.not_not.mp c_6) (nI_ne2 (by omega))
      · rfl
    refine m_aload_n (pc' := 10) C dX12_printDirective_9 rfl 0 rfl rfl ?_
    refine m_aload_n (pc' := 11) C dX12_printDirective_10 rfl 0 rfl rfl ?_
    refine m_callVl (pc' := 14) (As := []) (rest := [.ref (ad 52)]) C (kX12_takeNumber hI hn hn2 hro hra hod hnx (by omega)) (cwV 0 C.1.2.2.2.2 (goodV tm_6_7 tm_6_9 tp_59 tm_1_13 tm_6_10) rfl rfl rfl (by decide +kernel) ⟨by decide, by decide⟩) (by omega) hro rfl rfl rfl (Nat.le_of_ble_eq_true rfl) dX12_printDirective_11 rfl ⟨by decide, by decide⟩ (fun x_185 M185 q_185 => ?_)
    obtain ⟨e_185, pro_185, pf16_185, pf17_185, F_185⟩ := q_185
    replace e_185 := e_185.symm
    subst e_185
    refine m_callSi (pc' := 17) (As := [.long (nextV xs cnt tk)]) (rest := [.ref (ad 52)]) C (kX12_cutTo hI (nextV xs cnt tk)) (cwS 1 C.1.2.2.2.2 (goodS tm_6_22 tm_6_23 tm_1_13 tm_6_24) rfl rfl rfl (by decide +kernel) ⟨by decide, by decide⟩) rfl rfl (Nat.le_of_ble_eq_true rfl) dX12_printDirective_14 rfl ⟨by decide, by decide⟩ (fun x_186 N_186 q_186 => ?_)
    obtain ⟨e_186, E_186⟩ := q_186
    replace E_186 := E_186.symm
    subst E_186
    replace e_186 := e_186.symm
    subst e_186
    refine r_put (ty := .int) C hn hn2 pro_185 inW_X12 25 125 (by decide) rfl ⟨rfl, rfl, rfl, rfl⟩ (gW_of tm_5_75) (by decide +kernel) rfl rfl (fun _ => rfl) dX12_printDirective_17 rfl (fun M187 go_187 g_187 F_187 => ?_)
    refine m_aload_n (pc' := 21) C dX12_printDirective_20 rfl 0 rfl rfl ?_
    refine m_cut (σ := Int32) (fun a => a = bI (fl || decide ((nextV xs cnt tk) < 0))) (fun a => M187) 40 (fun a => [(0, .ref (ad 52))]) (fun a => [.int (a), .ref (ad 52)]) ?_ (fun J40 => ?_)
    · rintro y9 hj
      try dsimp only at hj ⊢
      subst hj
      refine r_put (ty := .boolean) C hn hn2 go_187 inW_X12 20 120 (by decide) rfl ⟨rfl, rfl, rfl, rfl⟩ (gW_of tm_5_70) (by decide +kernel) (nar_z _) (fit_z _) (fun _ => rfl) dX12_printDirective_40 rfl (fun M188 go_188 g_188 F_188 => ?_)
      refine m_aload_n (pc' := 44) C dX12_printDirective_43 rfl 0 rfl rfl ?_
      refine m_cut (σ := Int32) (fun a => a = nI (cutA (nextV xs cnt tk))) (fun a => M188) 63 (fun a => [(0, .ref (ad 52))]) (fun a => [.int (a), .ref (ad 52)]) ?_ (fun J63 => ?_)
      · rintro y9 hj
        try dsimp only at hj ⊢
        subst hj
        refine r_put (ty := .int) C hn hn2 go_188 inW_X12 25 125 (by decide) rfl ⟨rfl, rfl, rfl, rfl⟩ (gW_of tm_5_75) (by decide +kernel) rfl rfl (fun _ => rfl) dX12_printDirective_63 rfl (fun M189 go_189 g_189 F_189 => ?_)
        have ff16_190 : M187 116 = gh (.int (nI (od + nextO xs cnt tk))) := (F_187 116 (by decide)).trans pf16_185
        have ff16_191 : M188 116 = gh (.int (nI (od + nextO xs cnt tk))) := (F_188 116 (by decide)).trans ff16_190
        have ff16_192 : M189 116 = gh (.int (nI (od + nextO xs cnt tk))) := (F_189 116 (by decide)).trans ff16_191
        have ff17_193 : M187 117 = gh (.int (nI (nextT cnt tk))) := (F_187 117 (by decide)).trans pf17_185
        have ff17_194 : M188 117 = gh (.int (nI (nextT cnt tk))) := (F_188 117 (by decide)).trans ff17_193
        have ff17_195 : M189 117 = gh (.int (nI (nextT cnt tk))) := (F_189 117 (by decide)).trans ff17_194
        have ff20_196 : M189 120 = gh (.int (bI (fl || decide ((nextV xs cnt tk) < 0)))) := (F_189 120 (by decide)).trans g_188
        refine m_lv [0] rfl ?_
        exact J66 M189 (⟨go_189, by unfold w1O; rw [hsw, if_pos rfl]; exact ff16_192, by unfold w1T; rw [hsw, if_pos rfl]; exact ff17_195, by unfold w1F; rw [hsw, if_pos rfl]; exact ff20_196, by unfold w1W; rw [hsw, if_pos rfl]; exact g_189, ((((F_185.sub (by decide)).tr (F_187.sub (by decide))).tr (F_188.sub (by decide))).tr (F_189.sub (by decide)))⟩)
      refine m_aload_n (pc' := 45) C dX12_printDirective_44 rfl 0 rfl rfl ?_
      have ff25_197 : M188 125 = gh (.int (cutI (nextV xs cnt tk))) := (F_188 125 (by decide)).trans g_187
      refine r_get C hn go_188 inW_X12 25 (by decide) ⟨rfl, rfl, rfl⟩ (gW_of tm_5_75) (r_at 25 rfl ff25_197) dX12_printDirective_45 rfl ?_
      refine m_if_ge (pc' := 51) (tgt := 59) C dX12_printDirective_48 (by decide) rfl (fun c_48 => ?_) (fun c_48 => ?_)
      · have hcz : ¬ cutI (nextV xs cnt tk) < 0 := Int32.not_lt.mpr c_48
        refine m_aload_n (pc' := 60) C dX12_printDirective_59 rfl 0 rfl rfl ?_
        refine r_get C hn go_188 inW_X12 25 (by decide) ⟨rfl, rfl, rfl⟩ (gW_of tm_5_75) (r_at 25 rfl ff25_197) dX12_printDirective_60 rfl ?_
        refine m_lv [0] rfl ?_
        exact J63 (cutI (nextV xs cnt tk)) (by rw [← cut_w, if_neg hcz])
      · have hcz : cutI (nextV xs cnt tk) < 0 := Int32.not_le.mp c_48
        refine m_aload_n (pc' := 52) C dX12_printDirective_51 rfl 0 rfl rfl ?_
        refine r_get C hn go_188 inW_X12 25 (by decide) ⟨rfl, rfl, rfl⟩ (gW_of tm_5_75) (r_at 25 rfl ff25_197) dX12_printDirective_52 rfl ?_
        refine m_ineg (pc' := 56) (v := -(cutI (nextV xs cnt tk))) C dX12_printDirective_55 rfl rfl ?_
        refine m_goto (tgt := 63) C dX12_printDirective_56 (by decide) ?_
        refine m_lv [0] rfl ?_
        exact J63 (-(cutI (nextV xs cnt tk))) (by rw [← cut_w, if_pos hcz])
    refine m_aload_n (pc' := 22) C dX12_printDirective_21 rfl 0 rfl rfl ?_
    have ff20_198 : M185 120 = gh (.int (bI fl)) := (F_185 120 (by decide)).trans h20
    have ff20_199 : M187 120 = gh (.int (bI fl)) := (F_187 120 (by decide)).trans ff20_198
    refine r_get C hn go_187 inW_X12 20 (by decide) ⟨rfl, rfl, rfl⟩ (gW_of tm_5_70) (r_at 20 rfl ff20_199) dX12_printDirective_22 rfl ?_
    refine m_if_ne (pc' := 28) (tgt := 35) C dX12_printDirective_25 (by decide) rfl (fun c_25 => ?_) (fun c_25 => ?_)
    · have hz : (fl || decide ((nextV xs cnt tk) < 0)) = true := by rw [ts_of c_25]; rfl
      refine m_iconst (pc' := 36) (v := bI true) C dX12_printDirective_35 (by decide) rfl ?_
      refine m_goto (tgt := 40) C dX12_printDirective_36 (by decide) ?_
      refine m_lv [0] rfl ?_
      exact J40 (bI true) (by rw [hz])
    · have hy : fl = false := (bI_0 _).mp (Classical.not_not.mp c_25)
      refine m_aload_n (pc' := 29) C dX12_printDirective_28 rfl 0 rfl rfl ?_
      refine r_get C hn go_187 inW_X12 25 (by decide) ⟨rfl, rfl, rfl⟩ (gW_of tm_5_75) (r_at 25 rfl g_187) dX12_printDirective_29 rfl ?_
      refine m_if_ge (pc' := 35) (tgt := 39) C dX12_printDirective_32 (by decide) rfl (fun c_32 => ?_) (fun c_32 => ?_)
      · have hz : (fl || decide ((nextV xs cnt tk) < 0)) = false := by rw [hy, ← cut_n, decide_eq_false (Int32.not_lt.mpr c_32)]; rfl
        refine m_iconst (pc' := 40) (v := bI false) C dX12_printDirective_39 (by decide) rfl ?_
        refine m_lv [0] rfl ?_
        exact J40 (bI false) (by rw [hz])
      · have hz : (fl || decide ((nextV xs cnt tk) < 0)) = true := by rw [hy, ← cut_n, decide_eq_true (Int32.not_le.mp c_32)]; rfl
        refine m_iconst (pc' := 36) (v := bI true) C dX12_printDirective_35 (by decide) rfl ?_
        refine m_goto (tgt := 40) C dX12_printDirective_36 (by decide) ?_
        refine m_lv [0] rfl ?_
        exact J40 (bI true) (by rw [hz])
