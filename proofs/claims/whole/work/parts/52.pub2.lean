set_option maxHeartbeats 4000000 in
set_option maxRecDepth 100000 in
theorem kX11_feed {l : Launch} {D : va_G} {cy : Nat → ClassId} {ad : Nat → Nat} {n : Nat} {A : Nat → Prop} (hI : mI ad n A) {M : Nat → va_E} (hst9 : l.stackTraces = false) (hn : 52 ≤ n) {fp ot : Int32} (h0 : M 0 = fdO ad fp ot) {B : List Nat} (hb : isRow cy ad n M 7 8 256 256 B) (hB : B.length ≤ 256) (x a b c d : Int32) : mXi l yX11_feed (gW yX11_feed cX11_feed 6 (some .int)) { frames := 6, cells := 1, slots := 6, locals := 90 } D cy ad n A [.ref (ad 0), .int (x), .int (a), .int (b), .int (c), .int (d)] M (fun res M' => (¬ x < 0 ∧ cl x ≤ 16 ∧ B.length + cl x ≤ 256) ∧ res = nI (B.length + cl x) ∧ isRow cy ad n M' 7 8 256 256 (B ++ fd4 (cl x) a b c d) ∧ Fr [7, 8] M M') (fun E M' => (((x < 0 ∨ 16 < cl x) ∧ E = eAR) ∨ (¬ x < 0 ∧ cl x ≤ 16 ∧ 256 < B.length + cl x) ∧ E = eST) ∧ M' = M) := by
  refine m_entryX (cc := cX11_feed) (maxL := 6) (ret := (some .int)) (own := RX11) (lv := [(0, .ref (ad 0)), (1, .int (x)), (2, .int (a)), (3, .int (b)), (4, .int (c)), (5, .int (d))]) hI (by decide) rfl rfl (Nat.le_of_ble_eq_true rfl) rfl (fun pX eX sX mX aX bX tX cX C hrt0 hlk0 hz9 hx9 hout9 hml9 => ?_)
  refine m_iload_n (pc' := 1) C dX11_feed_0 rfl 1 rfl rfl ?_
  refine m_if_lt (pc' := 4) (tgt := 10) C dX11_feed_1 (by decide) rfl (fun c_1 => ?_) (fun c_1 => ?_)
  · exact m_throw C hst9 hz9 hx9 hout9 hml9 hlk0 (by decide) (by decide +kernel) (gW_of tm_4_40) (gW_of tm_1_18) (fun w h => gW_of (xw_AR w h)) xb_AR xo_AR dX11_feed_10 dX11_feed_13 dX11_feed_14 dX11_feed_17 (by decide) (by decide) ⟨by decide, by decide⟩ ⟨by decide, by decide⟩ ⟨Or.inl ⟨Or.inl c_1, rfl⟩, rfl⟩
  · have ex := of_nn c_1
    have hcl := clamp_lt x
    refine m_iload_n (pc' := 5) C dX11_feed_4 rfl 1 rfl rfl ?_
    refine m_bipush (pc' := 7) (v := nI 16) C dX11_feed_5 (by decide) rfl ?_
    refine m_icmp_le (pc' := 10) (tgt := 18) C dX11_feed_7 (by decide) rfl (fun c_7 => ?_) (fun c_7 => ?_)
    · have n7 : cl x ≤ 16 := by rw [ex] at c_7; exact (nI_leI hcl (by decide)).mp c_7
      refine m_lvx (lv' := [(0, .ref (ad 0)), (1, .int (nI (cl x))), (2, .int (a)), (3, .int (b)), (4, .int (c)), (5, .int (d))]) (by rw [← ex]) ?_
      refine m_aload_n (pc' := 19) C dX11_feed_18 rfl 0 rfl rfl ?_
      refine m_get (pc' := 22) C 0 (by omega) h0 rfl inW_X11 2 (by decide) (gW_of tm_2_61) rfl rfl dX11_feed_19 rfl ?_
      refine m_callVi (pc' := 25) (As := []) (rest := []) C (kX9_size hI hb) (cwV 0 C.1.2.2.2.2 (goodV tm_2_94 tm_2_95 tm_2_96 tm_1_3 tm_2_97) rfl rfl rfl (by decide +kernel) ⟨by decide, by decide⟩) hb.1 hb.ob rfl rfl rfl (Nat.le_of_ble_eq_true rfl) dX11_feed_22 rfl ⟨by decide, by decide⟩ (fun x_1 N_1 q_1 => ?_)
      obtain ⟨e_1, E_1⟩ := q_1
      replace E_1 := E_1.symm
      subst E_1
      replace e_1 : x_1 = nI B.length := e_1.trans (by rw [Nat.min_eq_left hB])
      replace e_1 := e_1.symm
      subst e_1
      refine m_iload_n (pc' := 26) C dX11_feed_25 rfl 1 rfl rfl ?_
      refine m_iadd (pc' := 27) (v := nI (B.length + (cl x))) C dX11_feed_26 (nI_add _ _) rfl ?_
      refine m_sipush (pc' := 30) (v := nI 256) C dX11_feed_27 (by decide) rfl ?_
      refine m_icmp_le (pc' := 33) (tgt := 41) C dX11_feed_30 (by decide) rfl (fun c_30 => ?_) (fun c_30 => ?_)
      · have n30 : B.length + cl x ≤ 256 := (nI_leI (by omega) (by decide)).mp c_30
        refine m_aload_n (pc' := 42) C dX11_feed_41 rfl 0 rfl rfl ?_
        refine m_iload_n (pc' := 43) C dX11_feed_42 rfl 2 rfl rfl ?_
        refine m_iload_n (pc' := 44) C dX11_feed_43 rfl 1 rfl rfl ?_
        refine m_callVv (pc' := 47) (As := [.int (a), .int (nI (cl x))]) (rest := []) C (kX11_feedWord hI hn h0 hb a (nI (cl x))) (cwV 2 C.1.2.2.2.2 (goodV tm_4_66 tm_4_68 tp_28 tm_1_1 tm_4_69) rfl rfl rfl (by decide +kernel) ⟨by decide, by decide⟩) (by omega) h0 rfl rfl rfl (Nat.le_of_ble_eq_true rfl) dX11_feed_44 rfl ⟨by decide, by decide⟩ (fun M2 q_2 => ?_)
        obtain ⟨R_2, F_2⟩ := q_2
        rw [nI_clamp hcl] at R_2
        refine m_aload_n (pc' := 48) C dX11_feed_47 rfl 0 rfl rfl ?_
        refine m_iload_n (pc' := 49) C dX11_feed_48 rfl 3 rfl rfl ?_
        refine m_iload_n (pc' := 50) C dX11_feed_49 rfl 1 rfl rfl ?_
        refine m_iconst (pc' := 51) (v := nI 4) C dX11_feed_50 (by decide) rfl ?_
        refine m_isub (pc' := 52) (v := (nI (cl x)) - (nI 4)) C dX11_feed_51 rfl rfl ?_
        have f0_4 : M2 0 = .inr (11, [.ref (ad 3), .ref (ad 5), .ref (ad 7), .ref (ad 9), .ref (ad 36), .ref (ad 43), .ref (ad 46), .ref (ad 47), .int (fp), .int (ot)]) := (F_2 0 (by decide)).trans h0
        refine m_callVv (pc' := 55) (As := [.int (b), .int ((nI (cl x)) - (nI 4))]) (rest := []) C (kX11_feedWord hI hn f0_4 R_2 b (nI (cl x) - nI 4)) (cwV 2 C.1.2.2.2.2 (goodV tm_4_66 tm_4_68 tp_28 tm_1_1 tm_4_69) rfl rfl rfl (by decide +kernel) ⟨by decide, by decide⟩) (by omega) f0_4 rfl rfl rfl (Nat.le_of_ble_eq_true rfl) dX11_feed_52 rfl ⟨by decide, by decide⟩ (fun M3 q_3 => ?_)
        obtain ⟨R_3, F_3⟩ := q_3
        rw [sub_clamp (by omega) (by decide)] at R_3
        refine m_aload_n (pc' := 56) C dX11_feed_55 rfl 0 rfl rfl ?_
        refine m_iload (pc' := 58) C dX11_feed_56 4 rfl rfl ?_
        refine m_iload_n (pc' := 59) C dX11_feed_58 rfl 1 rfl rfl ?_
        refine m_bipush (pc' := 61) (v := nI 8) C dX11_feed_59 (by decide) rfl ?_
        refine m_isub (pc' := 62) (v := (nI (cl x)) - (nI 8)) C dX11_feed_61 rfl rfl ?_
        have f0_6 : M3 0 = .inr (11, [.ref (ad 3), .ref (ad 5), .ref (ad 7), .ref (ad 9), .ref (ad 36), .ref (ad 43), .ref (ad 46), .ref (ad 47), .int (fp), .int (ot)]) := (F_3 0 (by decide)).trans f0_4
        refine m_callVv (pc' := 65) (As := [.int (c), .int ((nI (cl x)) - (nI 8))]) (rest := []) C (kX11_feedWord hI hn f0_6 R_3 c (nI (cl x) - nI 8)) (cwV 2 C.1.2.2.2.2 (goodV tm_4_66 tm_4_68 tp_28 tm_1_1 tm_4_69) rfl rfl rfl (by decide +kernel) ⟨by decide, by decide⟩) (by omega) f0_6 rfl rfl rfl (Nat.le_of_ble_eq_true rfl) dX11_feed_62 rfl ⟨by decide, by decide⟩ (fun M5 q_5 => ?_)
        obtain ⟨R_5, F_5⟩ := q_5
        rw [sub_clamp (by omega) (by decide)] at R_5
        refine m_aload_n (pc' := 66) C dX11_feed_65 rfl 0 rfl rfl ?_
        refine m_iload (pc' := 68) C dX11_feed_66 5 rfl rfl ?_
        refine m_iload_n (pc' := 69) C dX11_feed_68 rfl 1 rfl rfl ?_
        refine m_bipush (pc' := 71) (v := nI 12) C dX11_feed_69 (by decide) rfl ?_
        refine m_isub (pc' := 72) (v := (nI (cl x)) - (nI 12)) C dX11_feed_71 rfl rfl ?_
        have f0_8 : M5 0 = .inr (11, [.ref (ad 3), .ref (ad 5), .ref (ad 7), .ref (ad 9), .ref (ad 36), .ref (ad 43), .ref (ad 46), .ref (ad 47), .int (fp), .int (ot)]) := (F_5 0 (by decide)).trans f0_6
        refine m_callVv (pc' := 75) (As := [.int (d), .int ((nI (cl x)) - (nI 12))]) (rest := []) C (kX11_feedWord hI hn f0_8 R_5 d (nI (cl x) - nI 12)) (cwV 2 C.1.2.2.2.2 (goodV tm_4_66 tm_4_68 tp_28 tm_1_1 tm_4_69) rfl rfl rfl (by decide +kernel) ⟨by decide, by decide⟩) (by omega) f0_8 rfl rfl rfl (Nat.le_of_ble_eq_true rfl) dX11_feed_72 rfl ⟨by decide, by decide⟩ (fun M7 q_7 => ?_)
        obtain ⟨R_7, F_7⟩ := q_7
        rw [sub_clamp (by omega) (by decide)] at R_7
        have hty : B ++ fd4 (cl x) a b c d = B ++ wbs a (min 4 (cl x)) ++ wbs b (min 4 (cl x - 4)) ++ wbs c (min 4 (cl x - 8)) ++ wbs d (min 4 (cl x - 12)) := by unfold fd4; simp only [List.append_assoc]
        refine m_aload_n (pc' := 76) C dX11_feed_75 rfl 0 rfl rfl ?_
        have f0_9 : M7 0 = .inr (11, [.ref (ad 3), .ref (ad 5), .ref (ad 7), .ref (ad 9), .ref (ad 36), .ref (ad 43), .ref (ad 46), .ref (ad 47), .int (fp), .int (ot)]) := (F_7 0 (by decide)).trans f0_8
        refine m_get (pc' := 79) C 0 (by omega) f0_9 rfl inW_X11 2 (by decide) (gW_of tm_2_61) rfl rfl dX11_feed_76 rfl ?_
        refine m_callVi (pc' := 82) (As := []) (rest := []) C (kX9_size hI R_7) (cwV 0 C.1.2.2.2.2 (goodV tm_2_94 tm_2_95 tm_2_96 tm_1_3 tm_2_97) rfl rfl rfl (by decide +kernel) ⟨by decide, by decide⟩) R_7.1 R_7.ob rfl rfl rfl (Nat.le_of_ble_eq_true rfl) dX11_feed_79 rfl ⟨by decide, by decide⟩ (fun x_10 N_10 q_10 => ?_)
        obtain ⟨e_10, E_10⟩ := q_10
        replace E_10 := E_10.symm
        subst E_10
        replace e_10 := e_10.symm
        subst e_10
        refine m_xret (by decide) (by decide) ?_
        refine m_iret C hrt0 hlk0 rfl dX11_feed_82 ?_
        refine ⟨⟨c_1, n7, n30⟩, ?_, ?_, ((((F_2.sub (by decide)).tr (F_3.sub (by decide))).tr (F_5.sub (by decide))).tr (F_7.sub (by decide)))⟩
        · rw [← hty, List.length_append, fd4_len n7, Nat.min_eq_left n30]
        · rw [hty]; exact R_7
      · have n30 : 256 < B.length + cl x := Nat.lt_of_not_le (fun z => c_30 ((nI_leI (by omega) (by decide)).mpr z))
        exact m_throw C hst9 hz9 hx9 hout9 hml9 hlk0 (by decide) (by decide +kernel) (gW_of tm_3_181) (gW_of tm_1_17) (fun w h => gW_of (xw_ST w h)) xb_ST xo_ST dX11_feed_33 dX11_feed_36 dX11_feed_37 dX11_feed_40 (by decide) (by decide) ⟨by decide, by decide⟩ ⟨by decide, by decide⟩ ⟨Or.inr ⟨⟨c_1, n7, n30⟩, rfl⟩, rfl⟩
    · have n7 : 16 < cl x := by rw [ex] at c_7; exact Nat.lt_of_not_le (fun z => c_7 ((nI_leI hcl (by decide)).mpr z))
      exact m_throw C hst9 hz9 hx9 hout9 hml9 hlk0 (by decide) (by decide +kernel) (gW_of tm_4_40) (gW_of tm_1_18) (fun w h => gW_of (xw_AR w h)) xb_AR xo_AR dX11_feed_10 dX11_feed_13 dX11_feed_14 dX11_feed_17 (by decide) (by decide) ⟨by decide, by decide⟩ ⟨by decide, by decide⟩ ⟨Or.inl ⟨Or.inr n7, rfl⟩, rfl⟩
set_option maxHeartbeats 4000000 in
set_option maxRecDepth 100000 in
theorem kX11_words {l : Launch} {D : va_G} {cy : Nat → ClassId} {ad : Nat → Nat} {n : Nat} {A : Nat → Prop} (hI : mI ad n A) {M : Nat → va_E} (hst9 : l.stackTraces = false) (hn : 52 ≤ n) {fp ot : Int32} (h0 : M 0 = fdO ad fp ot) {lim : Nat} {O : List Nat} (hg : isRow cy ad n M 5 6 2000 lim O) {B : List Nat} (hb : isRow cy ad n M 7 8 256 256 B) (hB : B.length ≤ 256) {F : List Nat} (hf4 : isRow cy ad n M 44 45 22 22 F) {ds : List Nat} {lg : Bool} (hf : isFig cy ad n M 1 2 ds lg) {ab0 lt0 sz0 : Int32} (hw : M 43 = wdO ad ab0 lt0 sz0) (x y : Int32) {lt : Nat} (hlt6 : lt < 65536) (al : Bool) : mXi l yX11_words (gW yX11_words cX11_words 5 (some .int)) { frames := 6, cells := 1, slots := 6, locals := 150 } D cy ad n A [.ref (ad 0), .int (x), .int (nI lt), .int (y), .int (bI al)] M (fun res M' => (abOk x = true ∧ wdOk (nI lt) y = true) ∧ res = pgI lim (wDump B (cl x) lt (cl y) al) ∧ isRow cy ad n M' 5 6 2000 lim (pgO lim (wDump B (cl x) lt (cl y) al)) ∧ (∃ F2 : List Nat, isRow cy ad n M' 44 45 22 22 F2) ∧ (∃ (ds2 : List Nat) (lg2 : Bool), isFig cy ad n M' 1 2 ds2 lg2) ∧ (∃ a b c : Int32, M' 43 = wdO ad a b c) ∧ Fr [1, 2, 5, 6, 43, 44, 45] M M') (fun E M' => ((abOk x = false ∨ wdOk (nI lt) y = false) ∧ E = eAR) ∧ M' = M) := by
  refine m_entryX (cc := cX11_words) (maxL := 5) (ret := (some .int)) (own := RX11) (lv := [(0, .ref (ad 0)), (1, .int (x)), (2, .int (nI lt)), (3, .int (y)), (4, .int (bI al))]) hI (by decide) rfl rfl (Nat.le_of_ble_eq_true rfl) rfl (fun pX eX sX mX aX bX tX cX C hrt0 hlk0 hz9 hx9 hout9 hml9 => ?_)
  refine m_iload_n (pc' := 1) C dX11_words_0 rfl 1 rfl rfl ?_
  refine m_callSi (pc' := 4) (As := [.int (x)]) (rest := []) C (kX11_isAddressBase hI x) (cwS 1 C.1.2.2.2.2 (goodS tm_4_85 tm_4_86 tm_1_1 tm_4_87) rfl rfl rfl (by decide +kernel) ⟨by decide, by decide⟩) rfl rfl (Nat.le_of_ble_eq_true rfl) dX11_words_1 rfl ⟨by decide, by decide⟩ (fun x_1 N_1 q_1 => ?_)
  obtain ⟨e_1, E_1⟩ := q_1
  replace E_1 := E_1.symm
  subst E_1
  replace e_1 : x_1 = bI (abOk x) := e_1.trans rfl
  replace e_1 := e_1.symm
  subst e_1
  refine m_if_eq (pc' := 7) (tgt := 15) C dX11_words_4 (by decide) rfl (fun c_4 => ?_) (fun c_4 => ?_)
  · have h4 : abOk x = false := (bI_0 _).mp c_4
    exact m_throw C hst9 hz9 hx9 hout9 hml9 hlk0 (by decide) (by decide +kernel) (gW_of tm_4_40) (gW_of tm_1_18) (fun w h => gW_of (xw_AR w h)) xb_AR xo_AR dX11_words_15 dX11_words_18 dX11_words_19 dX11_words_22 (by decide) (by decide) ⟨by decide, by decide⟩ ⟨by decide, by decide⟩ ⟨⟨Or.inl h4, rfl⟩, rfl⟩
  · have h4 : abOk x = true := ts_of c_4
    refine m_iload_n (pc' := 8) C dX11_words_7 rfl 2 rfl rfl ?_
    refine m_iload_n (pc' := 9) C dX11_words_8 rfl 3 rfl rfl ?_
    refine m_callSi (pc' := 12) (As := [.int (nI lt), .int (y)]) (rest := []) C (kX11_isWord hI (nI lt) y) (cwS 2 C.1.2.2.2.2 (goodS tm_4_88 tm_4_89 tm_1_1 tm_4_90) rfl rfl rfl (by decide +kernel) ⟨by decide, by decide⟩) rfl rfl (Nat.le_of_ble_eq_true rfl) dX11_words_9 rfl ⟨by decide, by decide⟩ (fun x_2 N_2 q_2 => ?_)
    obtain ⟨e_2, E_2⟩ := q_2
    replace E_2 := E_2.symm
    subst E_2
    replace e_2 := e_2.symm
    subst e_2
    refine m_if_ne (pc' := 15) (tgt := 23) C dX11_words_12 (by decide) rfl (fun c_12 => ?_) (fun c_12 => ?_)
    · have h12 : wdOk (nI lt) y = true := ts_of c_12
      obtain ⟨ex, hab⟩ := abOk_N h4
      obtain ⟨ey, hs1, hs8, h99⟩ := wdOk_N hlt6 h12
      refine m_lvx (lv' := [(0, .ref (ad 0)), (1, .int (nI (cl x))), (2, .int (nI lt)), (3, .int (nI (cl y))), (4, .int (bI al))]) (by rw [← ex, ← ey]) ?_
      refine m_aload_n (pc' := 24) C dX11_words_23 rfl 0 rfl rfl ?_
      refine m_get (pc' := 27) C 0 (by omega) h0 rfl inW_X11 1 (by decide) (gW_of tm_2_60) rfl rfl dX11_words_24 rfl ?_
      refine m_callVv (pc' := 30) (As := []) (rest := []) C (kX9_clear hI hg.pre) (cwV 0 C.1.2.2.2.2 (goodV tm_2_98 tm_2_99 tm_2_100 tm_1_3 tm_2_101) rfl rfl rfl (by decide +kernel) ⟨by decide, by decide⟩) hg.1 hg.ob rfl rfl rfl (Nat.le_of_ble_eq_true rfl) dX11_words_27 rfl ⟨by decide, by decide⟩ (fun M3 q_3 => ?_)
      obtain ⟨R_3, F_3⟩ := q_3
      refine m_aload_n (pc' := 31) C dX11_words_30 rfl 0 rfl rfl ?_
      have f0_4 : M3 0 = .inr (11, [.ref (ad 3), .ref (ad 5), .ref (ad 7), .ref (ad 9), .ref (ad 36), .ref (ad 43), .ref (ad 46), .ref (ad 47), .int (fp), .int (ot)]) := (F_3 0 (by decide)).trans h0
      refine m_get (pc' := 34) C 0 (by omega) f0_4 rfl inW_X11 5 (by decide) (gW_of tm_2_64) rfl rfl dX11_words_31 rfl ?_
      refine m_iload_n (pc' := 35) C dX11_words_34 rfl 1 rfl rfl ?_
      refine m_iload_n (pc' := 36) C dX11_words_35 rfl 2 rfl rfl ?_
      refine m_iload_n (pc' := 37) C dX11_words_36 rfl 3 rfl rfl ?_
      refine m_iload (pc' := 39) C dX11_words_37 4 rfl rfl ?_
      have f43_6 : M3 43 = .inr (10, [.ref (ad 5), .ref (ad 7), .ref (ad 1), .ref (ad 44), .int (ab0), .int (lt0), .int (sz0)]) := (F_3 43 (by decide)).trans hw
      have R44_7 := hf4.fr F_3 (by decide) (by decide)
      have G_8 := hf.fr F_3 (by decide) (by decide)
      have R7_9 := hb.fr F_3 (by decide) (by decide)
      refine m_callVv (pc' := 42) (As := [.int (nI (cl x)), .int (nI lt), .int (nI (cl y)), .int (bI al)]) (rest := []) C (kX10_dump hI hn f43_6 (ab := cl x) (lt := lt) (sz := cl y) al hab hlt6 hs1 hs8 h99 R44_7 G_8 R_3 R7_9 hB) (cwV 4 C.1.2.2.2.2 (goodV tm_4_91 tm_4_92 tm_4_93 tm_1_10 tm_4_94) rfl rfl rfl (by decide +kernel) ⟨by decide, by decide⟩) (by omega) f43_6 rfl rfl rfl (Nat.le_of_ble_eq_true rfl) dX11_words_39 rfl ⟨by decide, by decide⟩ (fun M5 q_5 => ?_)
      obtain ⟨R_5, ⟨F_5_, R4_5⟩, ⟨ds_5, lg_5, G_5⟩, W_5, B_5, F_5⟩ := q_5
      rw [List.nil_append] at R_5
      refine m_aload_n (pc' := 43) C dX11_words_42 rfl 0 rfl rfl ?_
      have f0_11 : M5 0 = .inr (11, [.ref (ad 3), .ref (ad 5), .ref (ad 7), .ref (ad 9), .ref (ad 36), .ref (ad 43), .ref (ad 46), .ref (ad 47), .int (fp), .int (ot)]) := (F_5 0 (by decide)).trans f0_4
      refine m_callVi (pc' := 46) (As := []) (rest := []) C (kX11_answerOfPage hI hn f0_11 R_5) (cwV 0 C.1.2.2.2.2 (goodV tm_3_138 tm_3_140 tp_25 tm_1_1 tm_3_141) rfl rfl rfl (by decide +kernel) ⟨by decide, by decide⟩) (by omega) f0_11 rfl rfl rfl (Nat.le_of_ble_eq_true rfl) dX11_words_43 rfl ⟨by decide, by decide⟩ (fun x_10 M10 q_10 => ?_)
      obtain ⟨e_10, R_10, F_10⟩ := q_10
      replace e_10 := e_10.symm
      subst e_10
      refine m_xret (by decide) (by decide) ?_
      refine m_iret C hrt0 hlk0 rfl dX11_words_46 ?_
      have R44_12 := R4_5.fr F_10 (by decide) (by decide)
      have G_13 := G_5.fr F_10 (by decide) (by decide)
      have f43_14 : M10 43 = .inr (10, [.ref (ad 5), .ref (ad 7), .ref (ad 1), .ref (ad 44), .int (nI (cl x)), .int (nI lt), .int (nI (cl y))]) := (F_10 43 (by decide)).trans W_5
      exact ⟨⟨h4, h12⟩, rfl, R_10, ⟨_, R44_12⟩, ⟨_, _, G_13⟩, ⟨_, _, _, f43_14⟩, (((F_3.sub (by decide)).tr (F_5.sub (by decide))).tr (F_10.sub (by decide)))⟩
    · have h12 : wdOk (nI lt) y = false := (bI_0 _).mp (Classical.not_not.mp c_12)
      exact m_throw C hst9 hz9 hx9 hout9 hml9 hlk0 (by decide) (by decide +kernel) (gW_of tm_4_40) (gW_of tm_1_18) (fun w h => gW_of (xw_AR w h)) xb_AR xo_AR dX11_words_15 dX11_words_18 dX11_words_19 dX11_words_22 (by decide) (by decide) ⟨by decide, by decide⟩ ⟨by decide, by decide⟩ ⟨⟨Or.inr h12, rfl⟩, rfl⟩
set_option maxHeartbeats 4000000 in
set_option maxRecDepth 100000 in
theorem kX11_pairs {l : Launch} {D : va_G} {cy : Nat → ClassId} {ad : Nat → Nat} {n : Nat} {A : Nat → Prop} (hI : mI ad n A) {M : Nat → va_E} (hst9 : l.stackTraces = false) (hn : 52 ≤ n) {fp ot : Int32} (h0 : M 0 = fdO ad fp ot) {lim : Nat} {O : List Nat} (hg : isRow cy ad n M 5 6 2000 lim O) {B : List Nat} (hb : isRow cy ad n M 7 8 256 256 B) (hB : B.length ≤ 256) {ds : List Nat} {lg : Bool} (hf : isFig cy ad n M 1 2 ds lg) (hd6 : M 46 = pdO ad) (x g : Int32) (lg2 : Bool) : mXi l yX11_pairs (gW yX11_pairs cX11_pairs 4 (some .int)) { frames := 6, cells := 1, slots := 6, locals := 104 } D cy ad n A [.ref (ad 0), .int (x), .int (g), .int (bI lg2)] M (fun res M' => shOk x g = true ∧ res = pgI lim (pDump B (cl x) (grN x g) lg2) ∧ isRow cy ad n M' 5 6 2000 lim (pgO lim (pDump B (cl x) (grN x g) lg2)) ∧ (∃ (ds2 : List Nat) (lg2 : Bool), isFig cy ad n M' 1 2 ds2 lg2) ∧ Fr [1, 2, 5, 6] M M') (fun E M' => (shOk x g = false ∧ E = eAR) ∧ M' = M) := by
  refine m_entryX (cc := cX11_pairs) (maxL := 4) (ret := (some .int)) (own := RX11) (lv := [(0, .ref (ad 0)), (1, .int (x)), (2, .int (g)), (3, .int (bI lg2))]) hI (by decide) rfl rfl (Nat.le_of_ble_eq_true rfl) rfl (fun pX eX sX mX aX bX tX cX C hrt0 hlk0 hz9 hx9 hout9 hml9 => ?_)
  refine m_iload_n (pc' := 1) C dX11_pairs_0 rfl 1 rfl rfl ?_
  refine m_iload_n (pc' := 2) C dX11_pairs_1 rfl 2 rfl rfl ?_
  refine m_callSi (pc' := 5) (As := [.int (x), .int (g)]) (rest := []) C (kX11_isShape hI x g) (cwS 2 C.1.2.2.2.2 (goodS tm_4_161 tm_4_162 tm_1_1 tm_4_163) rfl rfl rfl (by decide +kernel) ⟨by decide, by decide⟩) rfl rfl (Nat.le_of_ble_eq_true rfl) dX11_pairs_2 rfl ⟨by decide, by decide⟩ (fun x_1 N_1 q_1 => ?_)
  obtain ⟨e_1, E_1⟩ := q_1
  replace E_1 := E_1.symm
  subst E_1
  replace e_1 : x_1 = bI (shOk x g) := e_1.trans rfl
  replace e_1 := e_1.symm
  subst e_1
  refine m_if_ne (pc' := 8) (tgt := 16) C dX11_pairs_5 (by decide) rfl (fun c_5 => ?_) (fun c_5 => ?_)
  · have h5 : shOk x g = true := ts_of c_5
    obtain ⟨ex, eg, hc1, hc32, hg1, hg32⟩ := shOk_N h5
    refine m_lvx (lv' := [(0, .ref (ad 0)), (1, .int (nI (cl x))), (2, .int (g)), (3, .int (bI lg2))]) (by rw [← ex]) ?_
    refine m_aload_n (pc' := 17) C dX11_pairs_16 rfl 0 rfl rfl ?_
    refine m_get (pc' := 20) C 0 (by omega) h0 rfl inW_X11 1 (by decide) (gW_of tm_2_60) rfl rfl dX11_pairs_17 rfl ?_
    refine m_callVv (pc' := 23) (As := []) (rest := []) C (kX9_clear hI hg.pre) (cwV 0 C.1.2.2.2.2 (goodV tm_2_98 tm_2_99 tm_2_100 tm_1_3 tm_2_101) rfl rfl rfl (by decide +kernel) ⟨by decide, by decide⟩) hg.1 hg.ob rfl rfl rfl (Nat.le_of_ble_eq_true rfl) dX11_pairs_20 rfl ⟨by decide, by decide⟩ (fun M2 q_2 => ?_)
    obtain ⟨R_2, F_2⟩ := q_2
    refine m_aload_n (pc' := 24) C dX11_pairs_23 rfl 0 rfl rfl ?_
    have f0_3 : M2 0 = .inr (11, [.ref (ad 3), .ref (ad 5), .ref (ad 7), .ref (ad 9), .ref (ad 36), .ref (ad 43), .ref (ad 46), .ref (ad 47), .int (fp), .int (ot)]) := (F_2 0 (by decide)).trans h0
    refine m_get (pc' := 27) C 0 (by omega) f0_3 rfl inW_X11 6 (by decide) (gW_of tm_2_65) rfl rfl dX11_pairs_24 rfl ?_
    refine m_iload_n (pc' := 28) C dX11_pairs_27 rfl 1 rfl rfl ?_
    refine m_iload_n (pc' := 29) C dX11_pairs_28 rfl 1 rfl rfl ?_
    refine m_iload_n (pc' := 30) C dX11_pairs_29 rfl 2 rfl rfl ?_
    refine m_callSi (pc' := 33) (As := [.int (nI (cl x)), .int (g)]) (rest := [.int (nI (cl x)), .ref (ad 46)]) C (kX11_groupOf hI (nI (cl x)) g) (cwS 2 C.1.2.2.2.2 (goodS tm_4_164 tm_4_165 tm_1_1 tm_4_166) rfl rfl rfl (by decide +kernel) ⟨by decide, by decide⟩) rfl rfl (Nat.le_of_ble_eq_true rfl) dX11_pairs_30 rfl ⟨by decide, by decide⟩ (fun x_4 N_4 q_4 => ?_)
    obtain ⟨e_4, E_4⟩ := q_4
    replace E_4 := E_4.symm
    subst E_4
    replace e_4 : x_4 = nI (grN x g) := e_4.trans (by rw [← ex]; exact eg)
    replace e_4 := e_4.symm
    subst e_4
    refine m_iload_n (pc' := 34) C dX11_pairs_33 rfl 3 rfl rfl ?_
    have f46_6 : M2 46 = .inr (6, [.ref (ad 5), .ref (ad 7), .ref (ad 1)]) := (F_2 46 (by decide)).trans hd6
    have G_7 := hf.fr F_2 (by decide) (by decide)
    have R7_8 := hb.fr F_2 (by decide) (by decide)
    refine m_callVv (pc' := 37) (As := [.int (nI (cl x)), .int (nI (grN x g)), .int (bI lg2)]) (rest := []) C (kX6_dump hI hn f46_6 G_7 R_2 R7_8 hB (c := cl x) (g := grN x g) lg2 hc1 hc32 hg1 hg32) (cwV 3 C.1.2.2.2.2 (goodV tm_4_167 tm_4_168 tm_4_169 tm_1_11 tm_4_170) rfl rfl rfl (by decide +kernel) ⟨by decide, by decide⟩) (by omega) f46_6 rfl rfl rfl (Nat.le_of_ble_eq_true rfl) dX11_pairs_34 rfl ⟨by decide, by decide⟩ (fun M5 q_5 => ?_)
    obtain ⟨R_5, ⟨ds_5, lg_5, G_5⟩, W_5, B_5, F_5⟩ := q_5
    rw [List.nil_append] at R_5
    refine m_aload_n (pc' := 38) C dX11_pairs_37 rfl 0 rfl rfl ?_
    have f0_10 : M5 0 = .inr (11, [.ref (ad 3), .ref (ad 5), .ref (ad 7), .ref (ad 9), .ref (ad 36), .ref (ad 43), .ref (ad 46), .ref (ad 47), .int (fp), .int (ot)]) := (F_5 0 (by decide)).trans f0_3
    refine m_callVi (pc' := 41) (As := []) (rest := []) C (kX11_answerOfPage hI hn f0_10 R_5) (cwV 0 C.1.2.2.2.2 (goodV tm_3_138 tm_3_140 tp_25 tm_1_1 tm_3_141) rfl rfl rfl (by decide +kernel) ⟨by decide, by decide⟩) (by omega) f0_10 rfl rfl rfl (Nat.le_of_ble_eq_true rfl) dX11_pairs_38 rfl ⟨by decide, by decide⟩ (fun x_9 M9 q_9 => ?_)
    obtain ⟨e_9, R_9, F_9⟩ := q_9
    replace e_9 := e_9.symm
    subst e_9
    refine m_xret (by decide) (by decide) ?_
    refine m_iret C hrt0 hlk0 rfl dX11_pairs_41 ?_
    have G_11 := G_5.fr F_9 (by decide) (by decide)
    exact ⟨h5, rfl, R_9, ⟨_, _, G_11⟩, (((F_2.sub (by decide)).tr (F_5.sub (by decide))).tr (F_9.sub (by decide)))⟩
  · have h5 : shOk x g = false := (bI_0 _).mp (Classical.not_not.mp c_5)
    exact m_throw C hst9 hz9 hx9 hout9 hml9 hlk0 (by decide) (by decide +kernel) (gW_of tm_4_40) (gW_of tm_1_18) (fun w h => gW_of (xw_AR w h)) xb_AR xo_AR dX11_pairs_8 dX11_pairs_11 dX11_pairs_12 dX11_pairs_15 (by decide) (by decide) ⟨by decide, by decide⟩ ⟨by decide, by decide⟩ ⟨⟨h5, rfl⟩, rfl⟩
set_option maxHeartbeats 4000000 in
set_option maxRecDepth 100000 in
theorem kX11_back {l : Launch} {D : va_G} {cy : Nat → ClassId} {ad : Nat → Nat} {n : Nat} {A : Nat → Prop} (hI : mI ad n A) {M : Nat → va_E} (hst9 : l.stackTraces = false) (hn : 52 ≤ n) {fp ot : Int32} (h0 : M 0 = fdO ad fp ot) {tot i : Nat} (hr : M 47 = rdO ad (nI tot) (nI i)) {lim : Nat} {P : List Nat} (hg : isRow cy ad n M 5 6 2000 lim P) (hP : P.length ≤ lim) {B : List Nat} (hb : isRow cy ad n M 7 8 256 256 B) (hB : B.length ≤ 256) {L0 : List Nat} (hl5 : isRow cy ad n M 50 51 32 32 L0) {Fd : List Nat} (hf4 : isRow cy ad n M 48 49 256 256 Fd) (x g : Int32) : mXi l yX11_back (gW yX11_back cX11_back 4 (some .int)) { frames := 6, cells := 1, slots := 6, locals := 116 } D cy ad n A [.ref (ad 0), .int (x), .int (g)] M (fun res M' => shOk x g = true ∧ res = bkI P x g ∧ M' 0 = fdO ad (bkF P x g) ot ∧ isRow cy ad n M' 7 8 256 256 (bkB P x g B) ∧ (∃ t i : Nat, M' 47 = rdO ad (nI t) (nI i)) ∧ (∃ Fd2 : List Nat, isRow cy ad n M' 48 49 256 256 Fd2) ∧ (∃ L2 : List Nat, isRow cy ad n M' 50 51 32 32 L2) ∧ Fr [0, 7, 8, 47, 48, 49, 50, 51] M M') (fun E M' => (shOk x g = false ∧ E = eAR) ∧ M' = M) := by
  refine m_entryX (cc := cX11_back) (maxL := 4) (ret := (some .int)) (own := RX11) (lv := [(0, .ref (ad 0)), (1, .int (x)), (2, .int (g))]) hI (by decide) rfl rfl (Nat.le_of_ble_eq_true rfl) rfl (fun pX eX sX mX aX bX tX cX C hrt0 hlk0 hz9 hx9 hout9 hml9 => ?_)
  refine m_iload_n (pc' := 1) C dX11_back_0 rfl 1 rfl rfl ?_
  refine m_iload_n (pc' := 2) C dX11_back_1 rfl 2 rfl rfl ?_
  refine m_callSi (pc' := 5) (As := [.int (x), .int (g)]) (rest := []) C (kX11_isShape hI x g) (cwS 2 C.1.2.2.2.2 (goodS tm_4_161 tm_4_162 tm_1_1 tm_4_163) rfl rfl rfl (by decide +kernel) ⟨by decide, by decide⟩) rfl rfl (Nat.le_of_ble_eq_true rfl) dX11_back_2 rfl ⟨by decide, by decide⟩ (fun x_1 N_1 q_1 => ?_)
  obtain ⟨e_1, E_1⟩ := q_1
  replace E_1 := E_1.symm
  subst E_1
  replace e_1 : x_1 = bI (shOk x g) := e_1.trans rfl
  replace e_1 := e_1.symm
  subst e_1
  refine m_if_ne (pc' := 8) (tgt := 16) C dX11_back_5 (by decide) rfl (fun c_5 => ?_) (fun c_5 => ?_)
  · have h5 : shOk x g = true := ts_of c_5
    obtain ⟨ex, eg, hc1, hc32, hg1, hg32⟩ := shOk_N h5
    refine m_lvx (lv' := [(0, .ref (ad 0)), (1, .int (nI (cl x))), (2, .int (g))]) (by rw [← ex]) ?_
    refine m_aload_n (pc' := 17) C dX11_back_16 rfl 0 rfl rfl ?_
    refine m_get (pc' := 20) C 0 (by omega) h0 rfl inW_X11 7 (by decide) (gW_of tm_2_66) rfl rfl dX11_back_17 rfl ?_
    refine m_iload_n (pc' := 21) C dX11_back_20 rfl 1 rfl rfl ?_
    refine m_iload_n (pc' := 22) C dX11_back_21 rfl 1 rfl rfl ?_
    refine m_iload_n (pc' := 23) C dX11_back_22 rfl 2 rfl rfl ?_
    refine m_callSi (pc' := 26) (As := [.int (nI (cl x)), .int (g)]) (rest := [.int (nI (cl x)), .ref (ad 47)]) C (kX11_groupOf hI (nI (cl x)) g) (cwS 2 C.1.2.2.2.2 (goodS tm_4_164 tm_4_165 tm_1_1 tm_4_166) rfl rfl rfl (by decide +kernel) ⟨by decide, by decide⟩) rfl rfl (Nat.le_of_ble_eq_true rfl) dX11_back_23 rfl ⟨by decide, by decide⟩ (fun x_2 N_2 q_2 => ?_)
    obtain ⟨e_2, E_2⟩ := q_2
    replace E_2 := E_2.symm
    subst E_2
    replace e_2 : x_2 = nI (grN x g) := e_2.trans (by rw [← ex]; exact eg)
    replace e_2 := e_2.symm
    subst e_2
    refine m_callVi (pc' := 29) (As := [.int (nI (cl x)), .int (nI (grN x g))]) (rest := []) C (kX7_readPage hI hn hr hg hP hl5 hf4 (c := cl x) (g := grN x g) hc1 hc32 hg1 hg32) (cwV 2 C.1.2.2.2.2 (goodV tm_4_201 tm_4_202 tm_4_203 tm_1_12 tm_4_204) rfl rfl rfl (by decide +kernel) ⟨by decide, by decide⟩) (by omega) hr rfl rfl rfl (Nat.le_of_ble_eq_true rfl) dX11_back_26 rfl ⟨by decide, by decide⟩ (fun x_3 M3 q_3 => ?_)
    obtain ⟨e_3, ⟨t_3, L_3, D_3, g_3, RL_3, RF_3, ok_3⟩, F_3⟩ := q_3
    replace e_3 := e_3.symm
    subst e_3
    refine m_istore_n (pc' := 30) (lv' := [(3, .int (bI (bkR P x g).1)), (0, .ref (ad 0)), (1, .int (nI (cl x))), (2, .int (g))]) C dX11_back_29 rfl (by decide) rfl rfl ?_
    refine m_cut (σ := Int32) (fun a => a = bkF P x g) (fun a => M3) 46 (fun a => [(0, .ref (ad 0)), (3, .int (bI (bkR P x g).1))]) (fun a => [.int (a), .ref (ad 0)]) ?_ (fun J46 => ?_)
    · rintro z hj
      try dsimp only at hj ⊢
      have hz := hj
      have f0_4 : M3 0 = .inr (11, [.ref (ad 3), .ref (ad 5), .ref (ad 7), .ref (ad 9), .ref (ad 36), .ref (ad 43), .ref (ad 46), .ref (ad 47), .int (fp), .int (ot)]) := (F_3 0 (by decide)).trans h0
      refine m_put (pc' := 49) (ty := .int) (fs' := [.ref (ad 3), .ref (ad 5), .ref (ad 7), .ref (ad 9), .ref (ad 36), .ref (ad 43), .ref (ad 46), .ref (ad 47), .int (z), .int (ot)]) C 0 (by omega) f0_4 rfl inW_X11 tyX11 tyX11_ok nmX11 8 (by decide) (gW_of tm_2_67) rfl rfl (by decide +kernel) rfl rfl (by simp) rfl dX11_back_46 rfl (fun M5 g_5 F_5 => ?_)
      refine m_iload_n (pc' := 50) C dX11_back_49 rfl 1 rfl rfl ?_
      refine m_if_ne (pc' := 53) (tgt := 56) C dX11_back_50 (by decide) rfl (fun c_50 => ?_) (fun c_50 => ?_)
      · have h50 : ¬ (bkR P x g).1 = false := by rw [ts_of c_50]; decide
        have hok := ok_3 (ts_of c_50)
        subst hok
        refine m_aload_n (pc' := 57) C dX11_back_56 rfl 0 rfl rfl ?_
        refine m_get (pc' := 60) C 0 (by omega) g_5 rfl inW_X11 7 (by decide) (gW_of tm_2_66) rfl rfl dX11_back_57 rfl ?_
        have f47_7 : M5 47 = .inr (7, [.ref (ad 5), .ref (ad 48), .ref (ad 50), .int (nI t_3), .int (nI ((bkR P x g).2.1))]) := (F_5 47 (by decide)).trans g_3
        refine m_callVq (pc' := 63) (As := []) (rest := []) C (kX7_found hI hn f47_7) (cwV 0 C.1.2.2.2.2 (goodV tm_5_5 tm_5_6 tm_5_7 tm_1_12 tm_5_8) rfl rfl rfl (by decide +kernel) ⟨by decide, by decide⟩) (by omega) f47_7 rfl rfl rfl (Nat.le_of_ble_eq_true rfl) dX11_back_60 rfl ⟨by decide, by decide⟩ (fun x_6 N_6 q_6 => ?_)
        obtain ⟨e_6, E_6⟩ := q_6
        replace E_6 := E_6.symm
        subst E_6
        replace e_6 := e_6.symm
        subst e_6
        have R48_8 := RF_3.fr F_5 (by decide) (by decide)
        refine m_callVi (pc' := 66) (As := []) (rest := []) C (kX9_isOver hI R48_8) (cwV 0 C.1.2.2.2.2 (goodV tm_3_142 tm_3_143 tm_3_144 tm_1_3 tm_3_145) rfl rfl rfl (by decide +kernel) ⟨by decide, by decide⟩) R48_8.1 R48_8.ob rfl rfl rfl (Nat.le_of_ble_eq_true rfl) dX11_back_63 rfl ⟨by decide, by decide⟩ (fun x_9 N_9 q_9 => ?_)
        obtain ⟨e_9, E_9⟩ := q_9
        replace E_9 := E_9.symm
        subst E_9
        replace e_9 := e_9.symm
        subst e_9
        refine m_if_eq (pc' := 69) (tgt := 72) C dX11_back_66 (by decide) rfl (fun c_66 => ?_) (fun c_66 => ?_)
        · have h66 : ¬ 256 < (bkR P x g).2.2.length := of_decide_eq_false ((bI_0 _).mp c_66)
          refine m_aload_n (pc' := 73) C dX11_back_72 rfl 0 rfl rfl ?_
          refine m_get (pc' := 76) C 0 (by omega) g_5 rfl inW_X11 2 (by decide) (gW_of tm_2_61) rfl rfl dX11_back_73 rfl ?_
          refine m_aload_n (pc' := 77) C dX11_back_76 rfl 0 rfl rfl ?_
          refine m_get (pc' := 80) C 0 (by omega) g_5 rfl inW_X11 7 (by decide) (gW_of tm_2_66) rfl rfl dX11_back_77 rfl ?_
          refine m_callVq (pc' := 83) (As := []) (rest := [.ref (ad 7)]) C (kX7_found hI hn f47_7) (cwV 0 C.1.2.2.2.2 (goodV tm_5_5 tm_5_6 tm_5_7 tm_1_12 tm_5_8) rfl rfl rfl (by decide +kernel) ⟨by decide, by decide⟩) (by omega) f47_7 rfl rfl rfl (Nat.le_of_ble_eq_true rfl) dX11_back_80 rfl ⟨by decide, by decide⟩ (fun x_10 N_10 q_10 => ?_)
          obtain ⟨e_10, E_10⟩ := q_10
          replace E_10 := E_10.symm
          subst E_10
          replace e_10 := e_10.symm
          subst e_10
          have R7_12 := hb.fr F_3 (by decide) (by decide)
          have R7_13 := R7_12.fr F_5 (by decide) (by decide)
          refine m_callVv (pc' := 86) (As := [.ref (ad 48)]) (rest := []) C (kX9_copyOf hI R7_13 R48_8 (by decide)) (cwV 1 C.1.2.2.2.2 (goodV tm_5_9 tm_3_50 tm_3_51 tm_1_3 tm_3_52) rfl rfl rfl (by decide +kernel) ⟨by decide, by decide⟩) R7_13.1 R7_13.ob rfl rfl rfl (Nat.le_of_ble_eq_true rfl) dX11_back_83 rfl ⟨by decide, by decide⟩ (fun M11 q_11 => ?_)
          obtain ⟨R_11, F_11⟩ := q_11
          refine m_aload_n (pc' := 87) C dX11_back_86 rfl 0 rfl rfl ?_
          have f0_14 : M11 0 = .inr (11, [.ref (ad 3), .ref (ad 5), .ref (ad 7), .ref (ad 9), .ref (ad 36), .ref (ad 43), .ref (ad 46), .ref (ad 47), .int (z), .int (ot)]) := (F_11 0 (by decide)).trans g_5
          refine m_get (pc' := 90) C 0 (by omega) f0_14 rfl inW_X11 2 (by decide) (gW_of tm_2_61) rfl rfl dX11_back_87 rfl ?_
          refine m_callVi (pc' := 93) (As := []) (rest := []) C (kX9_size hI R_11) (cwV 0 C.1.2.2.2.2 (goodV tm_2_94 tm_2_95 tm_2_96 tm_1_3 tm_2_97) rfl rfl rfl (by decide +kernel) ⟨by decide, by decide⟩) R_11.1 R_11.ob rfl rfl rfl (Nat.le_of_ble_eq_true rfl) dX11_back_90 rfl ⟨by decide, by decide⟩ (fun x_15 N_15 q_15 => ?_)
          obtain ⟨e_15, E_15⟩ := q_15
          replace E_15 := E_15.symm
          subst E_15
          replace e_15 := e_15.symm
          subst e_15
          refine m_xret (by decide) (by decide) ?_
          refine m_iret C hrt0 hlk0 rfl dX11_back_93 ?_
          have f47_16 : M11 47 = .inr (7, [.ref (ad 5), .ref (ad 48), .ref (ad 50), .int (nI t_3), .int (nI ((bkR P x g).2.1))]) := (F_11 47 (by decide)).trans f47_7
          have R48_17 := R48_8.fr F_11 (by decide) (by decide)
          have R50_18 := RL_3.fr F_5 (by decide) (by decide)
          have R50_19 := R50_18.fr F_11 (by decide) (by decide)
          have hI9 : bkI P x g = nI (bkR P x g).2.2.length := by unfold bkI; rw [if_neg h50, if_neg h66]
          have hB9 : bkB P x g B = (bkR P x g).2.2 := by unfold bkB; rw [if_neg h50, if_neg h66]
          rw [hI9, hB9]
          exact ⟨h5, by rw [List.length_take]; congr 1; show min (min 256 (bkR P x g).2.2.length) 256 = (bkR P x g).2.2.length; omega, by rw [← hz]; exact f0_14, by rw [← List.take_of_length_le (show (bkR P x g).2.2.length ≤ 256 by omega)]; exact R_11, ⟨_, _, f47_16⟩, ⟨_, R48_17⟩, ⟨_, R50_19⟩, (((F_3.sub (by decide)).tr (F_5.sub (by decide))).tr (F_11.sub (by decide)))⟩
        · have h66 : 256 < (bkR P x g).2.2.length := of_decide_eq_true (ts_of c_66)
          refine m_bipush (pc' := 71) (v := (-3)) C dX11_back_69 (by decide) rfl ?_
          refine m_xret (by decide) (by decide) ?_
          refine m_iret C hrt0 hlk0 rfl dX11_back_71 ?_
          have R7_20 := hb.fr F_3 (by decide) (by decide)
          have R7_21 := R7_20.fr F_5 (by decide) (by decide)
          have R50_22 := RL_3.fr F_5 (by decide) (by decide)
          have hI9 : bkI P x g = -3 := by unfold bkI; rw [if_neg h50, if_pos h66]
          have hB9 : bkB P x g B = B := by unfold bkB; rw [if_neg h50, if_pos h66]
          rw [hI9, hB9]
          exact ⟨h5, rfl, by rw [← hz]; exact g_5, R7_21, ⟨_, _, f47_7⟩, ⟨_, R48_8⟩, ⟨_, R50_22⟩, ((F_3.sub (by decide)).tr (F_5.sub (by decide)))⟩
      · have h50 : (bkR P x g).1 = false := (bI_0 _).mp (Classical.not_not.mp c_50)
        refine m_bipush (pc' := 55) (v := (-2)) C dX11_back_53 (by decide) rfl ?_
        refine m_xret (by decide) (by decide) ?_
        refine m_iret C hrt0 hlk0 rfl dX11_back_55 ?_
        have R7_23 := hb.fr F_3 (by decide) (by decide)
        have R7_24 := R7_23.fr F_5 (by decide) (by decide)
        have f47_25 : M5 47 = .inr (7, [.ref (ad 5), .ref (ad 48), .ref (ad 50), .int (nI t_3), .int (nI ((bkR P x g).2.1))]) := (F_5 47 (by decide)).trans g_3
        have R48_26 := RF_3.fr F_5 (by decide) (by decide)
        have R50_27 := RL_3.fr F_5 (by decide) (by decide)
        have hI9 : bkI P x g = -2 := by unfold bkI; rw [if_pos h50]
        have hB9 : bkB P x g B = B := by unfold bkB; rw [if_pos h50]
        rw [hI9, hB9]
        exact ⟨h5, rfl, by rw [← hz]; exact g_5, R7_24, ⟨_, _, f47_25⟩, ⟨_, R48_26⟩, ⟨_, R50_27⟩, ((F_3.sub (by decide)).tr (F_5.sub (by decide)))⟩
    refine m_aload_n (pc' := 31) C dX11_back_30 rfl 1 rfl rfl ?_
    refine m_iload_n (pc' := 32) C dX11_back_31 rfl 0 rfl rfl ?_
    refine m_if_eq (pc' := 35) (tgt := 39) C dX11_back_32 (by decide) rfl (fun c_32 => ?_) (fun c_32 => ?_)
    · have h32 : (bkR P x g).1 = false := (bI_0 _).mp c_32
      refine m_aload_n (pc' := 40) C dX11_back_39 rfl 1 rfl rfl ?_
      have f0_28 : M3 0 = .inr (11, [.ref (ad 3), .ref (ad 5), .ref (ad 7), .ref (ad 9), .ref (ad 36), .ref (ad 43), .ref (ad 46), .ref (ad 47), .int (fp), .int (ot)]) := (F_3 0 (by decide)).trans h0
      refine m_get (pc' := 43) C 0 (by omega) f0_28 rfl inW_X11 7 (by decide) (gW_of tm_2_66) rfl rfl dX11_back_40 rfl ?_
      refine m_callVi (pc' := 46) (As := []) (rest := [.ref (ad 0)]) C (kX7_stop hI hn g_3) (cwV 0 C.1.2.2.2.2 (goodV tm_5_1 tm_5_2 tm_5_3 tm_1_12 tm_5_4) rfl rfl rfl (by decide +kernel) ⟨by decide, by decide⟩) (by omega) g_3 rfl rfl rfl (Nat.le_of_ble_eq_true rfl) dX11_back_43 rfl ⟨by decide, by decide⟩ (fun x_29 N_29 q_29 => ?_)
      obtain ⟨e_29, E_29⟩ := q_29
      replace E_29 := E_29.symm
      subst E_29
      replace e_29 := e_29.symm
      subst e_29
      refine m_lv [1, 0] rfl ?_
      exact J46 (nI ((bkR P x g).2.1)) ((if_pos h32).symm)
    · have h32 : (bkR P x g).1 = true := ts_of c_32
      refine m_iconst (pc' := 36) (v := (-1)) C dX11_back_35 (by decide) rfl ?_
      refine m_goto (tgt := 46) C dX11_back_36 (by decide) ?_
      refine m_lv [1, 0] rfl ?_
      exact J46 (-1) ((if_neg (by rw [h32]; decide)).symm)
  · have h5 : shOk x g = false := (bI_0 _).mp (Classical.not_not.mp c_5)
    exact m_throw C hst9 hz9 hx9 hout9 hml9 hlk0 (by decide) (by decide +kernel) (gW_of tm_4_40) (gW_of tm_1_18) (fun w h => gW_of (xw_AR w h)) xb_AR xo_AR dX11_back_8 dX11_back_11 dX11_back_12 dX11_back_15 (by decide) (by decide) ⟨by decide, by decide⟩ ⟨by decide, by decide⟩ ⟨⟨h5, rfl⟩, rfl⟩
set_option maxHeartbeats 4000000 in
set_option maxRecDepth 100000 in
theorem kX11_patch {l : Launch} {D : va_G} {cy : Nat → ClassId} {ad : Nat → Nat} {n : Nat} {A : Nat → Prop} (hI : mI ad n A) {M : Nat → va_E} (hst9 : l.stackTraces = false) (hn : 52 ≤ n) {fp ot : Int32} (h0 : M 0 = fdO ad fp ot) {lim : Nat} {O : List Nat} (hg : isRow cy ad n M 5 6 2000 lim O) (hO : O.length ≤ lim) (x y : Int32) : mXi l yX11_patch (gW yX11_patch cX11_patch 4 (some .int)) { frames := 6, cells := 1, slots := 6, locals := 90 } D cy ad n A [.ref (ad 0), .int (x), .int (y)] M (fun res M' => ((0 ≤ x ∧ x < nI O.length) ∧ ¬ y < 0 ∧ cl y ≤ 255) ∧ res = rowAt O x ∧ isRow cy ad n M' 5 6 2000 lim (O.set (cl x) (lowb y)) ∧ Fr [5, 6] M M') (fun E M' => ((¬ (0 ≤ x ∧ x < nI O.length) ∧ E = eIX) ∨ ((0 ≤ x ∧ x < nI O.length) ∧ (y < 0 ∨ 255 < cl y)) ∧ E = eAR) ∧ M' = M) := by
  have h256 : ∀ x ∈ O, x < 256 := hg.2.2.2.2.1
  have hl2 : lim ≤ 2000 := hg.2.2.1
  refine m_entryX (cc := cX11_patch) (maxL := 4) (ret := (some .int)) (own := RX11) (lv := [(0, .ref (ad 0)), (1, .int (x)), (2, .int (y))]) hI (by decide) rfl rfl (Nat.le_of_ble_eq_true rfl) rfl (fun pX eX sX mX aX bX tX cX C hrt0 hlk0 hz9 hx9 hout9 hml9 => ?_)
  refine m_aload_n (pc' := 1) C dX11_patch_0 rfl 0 rfl rfl ?_
  refine m_get (pc' := 4) C 0 (by omega) h0 rfl inW_X11 1 (by decide) (gW_of tm_2_60) rfl rfl dX11_patch_1 rfl ?_
  refine m_iload_n (pc' := 5) C dX11_patch_4 rfl 1 rfl rfl ?_
  refine m_callVi (pc' := 8) (As := [.int (x)]) (rest := []) C (kX9_at hI hg x) (cwV 1 C.1.2.2.2.2 (goodV tm_3_162 tm_2_128 tm_2_129 tm_1_3 tm_2_130) rfl rfl rfl (by decide +kernel) ⟨by decide, by decide⟩) hg.1 hg.ob rfl rfl rfl (Nat.le_of_ble_eq_true rfl) dX11_patch_5 rfl ⟨by decide, by decide⟩ (fun x_1 N_1 q_1 => ?_)
  obtain ⟨e_1, E_1⟩ := q_1
  replace E_1 := E_1.symm
  subst E_1
  replace e_1 : x_1 = rowAt O x := e_1.trans (by rw [List.take_of_length_le hO])
  replace e_1 := e_1.symm
  subst e_1
  refine m_istore_n (pc' := 9) (lv' := [(3, .int (rowAt O x)), (0, .ref (ad 0)), (1, .int (x)), (2, .int (y))]) C dX11_patch_8 rfl (by decide) rfl rfl ?_
  refine m_iload_n (pc' := 10) C dX11_patch_9 rfl 0 rfl rfl ?_
  refine m_iconst (pc' := 11) (v := (-1)) C dX11_patch_10 (by decide) rfl ?_
  refine m_icmp_ne (pc' := 14) (tgt := 22) C dX11_patch_11 (by decide) rfl (fun c_11 => ?_) (fun c_11 => ?_)
  · have h11 : 0 ≤ x ∧ x < nI O.length := Classical.not_not.mp (fun z => c_11 ((rowAt_in (by omega) h256).mpr z))
    have ex := of_nn (Int32.not_lt.mpr h11.1)
    have hk1 : cl x < O.length := by have z := h11.2; rw [ex] at z; exact (nI_ltI (clamp_lt x) (by omega)).mp z
    refine m_lvx (lv' := [(3, .int (rowAt O x)), (0, .ref (ad 0)), (1, .int (nI (cl x))), (2, .int (y))]) (by rw [← ex]) ?_
    refine m_iload_n (pc' := 23) C dX11_patch_22 rfl 3 rfl rfl ?_
    refine m_if_lt (pc' := 26) (tgt := 33) C dX11_patch_23 (by decide) rfl (fun c_23 => ?_) (fun c_23 => ?_)
    · exact m_throw C hst9 hz9 hx9 hout9 hml9 hlk0 (by decide) (by decide +kernel) (gW_of tm_4_40) (gW_of tm_1_18) (fun w h => gW_of (xw_AR w h)) xb_AR xo_AR dX11_patch_33 dX11_patch_36 dX11_patch_37 dX11_patch_40 (by decide) (by decide) ⟨by decide, by decide⟩ ⟨by decide, by decide⟩ ⟨Or.inr ⟨⟨h11, Or.inl c_23⟩, rfl⟩, rfl⟩
    · have ey := of_nn c_23
      have hcy := clamp_lt y
      refine m_iload_n (pc' := 27) C dX11_patch_26 rfl 3 rfl rfl ?_
      refine m_sipush (pc' := 30) (v := nI 255) C dX11_patch_27 (by decide) rfl ?_
      refine m_icmp_le (pc' := 33) (tgt := 41) C dX11_patch_30 (by decide) rfl (fun c_30 => ?_) (fun c_30 => ?_)
      · have n30 : cl y ≤ 255 := by rw [ey] at c_30; exact (nI_leI hcy (by decide)).mp c_30
        refine m_aload_n (pc' := 42) C dX11_patch_41 rfl 1 rfl rfl ?_
        refine m_get (pc' := 45) C 0 (by omega) h0 rfl inW_X11 1 (by decide) (gW_of tm_2_60) rfl rfl dX11_patch_42 rfl ?_
        refine m_iload_n (pc' := 46) C dX11_patch_45 rfl 2 rfl rfl ?_
        refine m_iload_n (pc' := 47) C dX11_patch_46 rfl 3 rfl rfl ?_
        refine m_callVv (pc' := 50) (As := [.int (nI (cl x)), .int (y)]) (rest := []) C (kX9_change hI hg (k := cl x) hk1 (by omega) y) (cwV 2 C.1.2.2.2.2 (goodV tm_5_33 tm_5_34 tm_5_35 tm_1_3 tm_5_36) rfl rfl rfl (by decide +kernel) ⟨by decide, by decide⟩) hg.1 hg.ob rfl rfl rfl (Nat.le_of_ble_eq_true rfl) dX11_patch_47 rfl ⟨by decide, by decide⟩ (fun M2 q_2 => ?_)
        obtain ⟨R_2, F_2⟩ := q_2
        refine m_iload_n (pc' := 51) C dX11_patch_50 rfl 0 rfl rfl ?_
        refine m_xret (by decide) (by decide) ?_
        refine m_iret C hrt0 hlk0 rfl dX11_patch_51 ?_
        exact ⟨⟨h11, c_23, n30⟩, rfl, R_2, (F_2.sub (by decide))⟩
      · have n30 : 255 < cl y := by rw [ey] at c_30; exact Nat.lt_of_not_le (fun z => c_30 ((nI_leI hcy (by decide)).mpr z))
        exact m_throw C hst9 hz9 hx9 hout9 hml9 hlk0 (by decide) (by decide +kernel) (gW_of tm_4_40) (gW_of tm_1_18) (fun w h => gW_of (xw_AR w h)) xb_AR xo_AR dX11_patch_33 dX11_patch_36 dX11_patch_37 dX11_patch_40 (by decide) (by decide) ⟨by decide, by decide⟩ ⟨by decide, by decide⟩ ⟨Or.inr ⟨⟨h11, Or.inr n30⟩, rfl⟩, rfl⟩
  · have h11 : ¬ (0 ≤ x ∧ x < nI O.length) := (rowAt_in (by omega) h256).mp (Classical.not_not.mp c_11)
    exact m_throw C hst9 hz9 hx9 hout9 hml9 hlk0 (by decide) (by decide +kernel) (gW_of tm_5_18) (gW_of tm_1_20) (fun w h => gW_of (xw_IX w h)) xb_IX xo_IX dX11_patch_14 dX11_patch_17 dX11_patch_18 dX11_patch_21 (by decide) (by decide) ⟨by decide, by decide⟩ ⟨by decide, by decide⟩ ⟨Or.inl ⟨h11, rfl⟩, rfl⟩
