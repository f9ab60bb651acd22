set_option maxHeartbeats 4000000 in
set_option maxRecDepth 100000 in
theorem kX12_isGroupEnd {l : Launch} {D : va_G} {cy : Nat → ClassId} {ad : Nat → Nat} {n : Nat} {A : Nat → Prop} (hI : mI ad n A) {M : Nat → va_E} {k c g0 : Nat} (hk : k < c) (hc : c ≤ 32) (hg : g0 ≤ 32) : mMi l yX12_isGroupEnd (gW yX12_isGroupEnd cX12_isGroupEnd 3 (some .boolean)) { frames := 0, cells := 0, slots := 0, locals := 0 } D cy ad n A [.int (nI k), .int (nI c), .int (nI g0)] M (fun res M' => res = bI (egB k c (gN c g0)) ∧ M' = M) := by
  refine m_entry (cc := cX12_isGroupEnd) (maxL := 3) (ret := (some .boolean)) (own := RX12) (lv := [(0, .int (nI k)), (1, .int (nI c)), (2, .int (nI g0))]) hI (by decide) rfl rfl (Nat.le_of_ble_eq_true rfl) rfl (fun pX eX sX mX aX bX tX cX C hrt0 hlk0 => ?_)
  refine m_iload_n (pc' := 1) C dX12_isGroupEnd_0 rfl 0 rfl rfl ?_
  refine m_iload_n (pc' := 2) C dX12_isGroupEnd_1 rfl 1 rfl rfl ?_
  refine m_iconst (pc' := 3) (v := nI 1) C dX12_isGroupEnd_2 (by decide) rfl ?_
  refine m_isub (pc' := 4) (v := nI (c - 1)) C dX12_isGroupEnd_3 (pk_sub (by omega)) rfl ?_
  refine m_icmp_eq (pc' := 7) (tgt := 20) C dX12_isGroupEnd_4 (by decide) rfl (fun c_4 => ?_) (fun c_4 => ?_)
  · have n_4 : k = (c - 1) := (nI_eq (by omega) (by omega)).mp c_4
    refine m_iconst (pc' := 21) (v := bI true) C dX12_isGroupEnd_20 (by decide) rfl ?_
    refine m_goto (tgt := 25) C dX12_isGroupEnd_21 (by decide) ?_
    refine m_iret C hrt0 hlk0 (nar_z _) dX12_isGroupEnd_25 ?_
    refine ⟨?_, rfl⟩
    rw [egB_gN hk hc hg]
    first | (rw [decide_eq_true (Or.inl (by omega))]; done) | (rw [decide_eq_false (fun q => q.elim (fun q => by omega) (fun q => by omega))]; done) | (rw [decide_eq_true (Or.inr ⟨hg00, n_17⟩)]; done) | (rw [decide_eq_false (fun q => q.elim (fun q => by omega) (fun q => n_17 q.2))]; done)
  · have n_4 : ¬ k = (c - 1) := fun q => c_4 ((nI_eq (by omega) (by omega)).mpr q)
    refine m_iload_n (pc' := 8) C dX12_isGroupEnd_7 rfl 2 rfl rfl ?_
    refine m_if_le (pc' := 11) (tgt := 24) C dX12_isGroupEnd_8 (by decide) rfl (fun c_8 => ?_) (fun c_8 => ?_)
    · have hg00 : g0 = 0 := by
        rcases Nat.eq_zero_or_pos g0 with z | z
        · exact z
        · exact absurd c_8 (nI_nle z (by omega))
      refine m_iconst (pc' := 25) (v := bI false) C dX12_isGroupEnd_24 (by decide) rfl ?_
      refine m_iret C hrt0 hlk0 (nar_z _) dX12_isGroupEnd_25 ?_
      refine ⟨?_, rfl⟩
      rw [egB_gN hk hc hg]
      first | (rw [decide_eq_true (Or.inl (by omega))]; done) | (rw [decide_eq_false (fun q => q.elim (fun q => by omega) (fun q => by omega))]; done) | (rw [decide_eq_true (Or.inr ⟨hg00, n_17⟩)]; done) | (rw [decide_eq_false (fun q => q.elim (fun q => by omega) (fun q => n_17 q.2))]; done)
    · have hg00 : 0 < g0 := by
        rcases Nat.eq_zero_or_pos g0 with z | z
        · exact absurd (by rw [z]; decide) c_8
        · exact z
      refine m_iload_n (pc' := 12) C dX12_isGroupEnd_11 rfl 0 rfl rfl ?_
      refine m_iload_n (pc' := 13) C dX12_isGroupEnd_12 rfl 2 rfl rfl ?_
      refine m_irem (pc' := 14) (v := nI (k % g0)) C dX12_isGroupEnd_13 (fun q => by have := (nI_eq (by omega) (by decide)).mp (q.trans nI_0.symm); omega) (rem_tab k (by omega) g0 (by omega) (by omega)) rfl ?_
      refine m_iload_n (pc' := 15) C dX12_isGroupEnd_14 rfl 2 rfl rfl ?_
      refine m_iconst (pc' := 16) (v := nI 1) C dX12_isGroupEnd_15 (by decide) rfl ?_
      refine m_isub (pc' := 17) (v := nI (g0 - 1)) C dX12_isGroupEnd_16 (pk_sub (by omega)) rfl ?_
      refine m_icmp_ne (pc' := 20) (tgt := 24) C dX12_isGroupEnd_17 (by decide) rfl (fun c_17 => ?_) (fun c_17 => ?_)
      · have n_17 : ¬ (k % g0) = (g0 - 1) := fun q => c_17 ((nI_eq (by have := Nat.mod_lt k hg00; omega) (by omega)).mpr q)
        refine m_iconst (pc' := 25) (v := bI false) C dX12_isGroupEnd_24 (by decide) rfl ?_
        refine m_iret C hrt0 hlk0 (nar_z _) dX12_isGroupEnd_25 ?_
        refine ⟨?_, rfl⟩
        rw [egB_gN hk hc hg]
        first | (rw [decide_eq_true (Or.inl (by omega))]; done) | (rw [decide_eq_false (fun q => q.elim (fun q => by omega) (fun q => by omega))]; done) | (rw [decide_eq_true (Or.inr ⟨hg00, n_17⟩)]; done) | (rw [decide_eq_false (fun q => q.elim (fun q => by omega) (fun q => n_17 q.2))]; done)
      · have n_17 : (k % g0) = (g0 - 1) := (nI_eq (by have := Nat.mod_lt k hg00; omega) (by omega)).mp (Classical.not_not.mp c_17)
        refine m_iconst (pc' := 21) (v := bI true) C dX12_isGroupEnd_20 (by decide) rfl ?_
        refine m_goto (tgt := 25) C dX12_isGroupEnd_21 (by decide) ?_
        refine m_iret C hrt0 hlk0 (nar_z _) dX12_isGroupEnd_25 ?_
        refine ⟨?_, rfl⟩
        rw [egB_gN hk hc hg]
        first | (rw [decide_eq_true (Or.inl (by omega))]; done) | (rw [decide_eq_false (fun q => q.elim (fun q => by omega) (fun q => by omega))]; done) | (rw [decide_eq_true (Or.inr ⟨hg00, n_17⟩)]; done) | (rw [decide_eq_false (fun q => q.elim (fun q => by omega) (fun q => n_17 q.2))]; done)
set_option maxHeartbeats 4000000 in
set_option maxRecDepth 100000 in
theorem kX12_shown {l : Launch} {D : va_G} {cy : Nat → ClassId} {ad : Nat → Nat} {n : Nat} {A : Nat → Prop} (hI : mI ad n A) {M : Nat → va_E} {v : Nat} (hv : v < 256) : mMi l yX12_shown (gW yX12_shown cX12_shown 1 (some .char)) { frames := 1, cells := 0, slots := 0, locals := 22 } D cy ad n A [.int (nI v)] M (fun res M' => res = nI (seN v) ∧ M' = M) := by
  refine m_entry (cc := cX12_shown) (maxL := 1) (ret := (some .char)) (own := RX12) (lv := [(0, .int (nI v))]) hI (by decide) rfl rfl (Nat.le_of_ble_eq_true rfl) rfl (fun pX eX sX mX aX bX tX cX C hrt0 hlk0 => ?_)
  refine m_iload_n (pc' := 1) C dX12_shown_0 rfl 0 rfl rfl ?_
  refine m_bipush (pc' := 3) (v := nI 32) C dX12_shown_1 (by decide) rfl ?_
  refine m_bipush (pc' := 5) (v := nI 126) C dX12_shown_3 (by decide) rfl ?_
  refine m_callSi (pc' := 8) (As := [.int (nI v), .int (nI 32), .int (nI 126)]) (rest := []) C (kX12_isIn hI (nI v) (nI 32) (nI 126)) (cwS 3 C.1.2.2.2.2 (goodS tm_5_198 tm_5_199 tm_1_13 tm_5_200) rfl rfl rfl (by decide +kernel) ⟨by decide, by decide⟩) rfl rfl (Nat.le_of_ble_eq_true rfl) dX12_shown_5 rfl ⟨by decide, by decide⟩ (fun x_1 N_1 q_1 => ?_)
  obtain ⟨e_1, E_1⟩ := q_1
  replace E_1 := E_1.symm
  subst E_1
  replace e_1 := e_1.symm
  subst e_1
  refine m_if_eq (pc' := 11) (tgt := 15) C dX12_shown_8 (by decide) rfl (fun c_8 => ?_) (fun c_8 => ?_)
  · have hq : ¬ (32 ≤ v ∧ v ≤ 126) := fun q => of_decide_eq_false ((bI_0 _).mp c_8) ⟨(nI_leI (by decide) (by omega)).mpr q.1, (nI_leI (by omega) (by decide)).mpr q.2⟩
    refine m_bipush (pc' := 17) (v := nI 46) C dX12_shown_15 (by decide) rfl ?_
    refine m_i2c (pc' := 18) (v := nI (seN v)) C dX12_shown_17 (by first | (rw [(seN_tab v hv).1 hq]; exact i2c_nI (by omega)) | (rw [(seN_tab v hv).2 hq]; exact i2c_nI (by decide))) rfl ?_
    refine m_iret C hrt0 hlk0 (nar_c (by have := seN_lt hv; omega)) dX12_shown_18 ?_
    exact ⟨rfl, rfl⟩
  · have hq : 32 ≤ v ∧ v ≤ 126 := by have h9 := of_decide_eq_true (ts_of c_8); exact ⟨(nI_leI (by decide) (by omega)).mp h9.1, (nI_leI (by omega) (by decide)).mp h9.2⟩
    refine m_iload_n (pc' := 12) C dX12_shown_11 rfl 0 rfl rfl ?_
    refine m_goto (tgt := 17) C dX12_shown_12 (by decide) ?_
    refine m_i2c (pc' := 18) (v := nI (seN v)) C dX12_shown_17 (by first | (rw [(seN_tab v hv).1 hq]; exact i2c_nI (by omega)) | (rw [(seN_tab v hv).2 hq]; exact i2c_nI (by decide))) rfl ?_
    refine m_iret C hrt0 hlk0 (nar_c (by have := seN_lt hv; omega)) dX12_shown_18 ?_
    exact ⟨rfl, rfl⟩
set_option maxHeartbeats 4000000 in
set_option maxRecDepth 100000 in
theorem kX12_pairs {l : Launch} {D : va_G} {cy : Nat → ClassId} {ad : Nat → Nat} {n : Nat} {A : Nat → Prop} (hI : mI ad n A) {M : Nat → va_E} (hn : 63 ≤ n) (hn2 : n ≤ 100) {T : List Nat} {xs : Nat → Arg} {cnt lim : Nat} {O B : List Nat} {fp ot : Int32} (hM : isM cy ad M T xs cnt lim O B fp ot) (x g : Int32) (lg : Bool) : mMi l yX12_pairs (gW yX12_pairs cX12_pairs 8 (some .int)) { frames := 2, cells := 0, slots := 0, locals := 49 } D cy ad n A [.ref (ad 52), .int x, .int g, .int (bI lg)] M (fun res M' => (prK x g = 0 → res = pgI lim (pDump B (cl x) (grN x g) lg)) ∧ M' 100 = gh (.int (nI (prK x g))) ∧ isM cy ad M' T xs cnt lim (sel (prK x g) (pgO lim (pDump B (cl x) (grN x g) lg)) O) B fp ot ∧ Fr refS M M') := by
  obtain ⟨hro, hln, hra, hout, hby, h14, h15, ⟨W, hrw⟩, ⟨L, hdg⟩, gf, hfd⟩ := hM
  obtain ⟨y1, y2, y3, yg, y4, y5⟩ := id hby
  have hl2 : B.length ≤ 256 := hby.2.2.1
  refine m_entry (cc := cX12_pairs) (maxL := 8) (ret := (some .int)) (own := RX12) (lv := [(0, .ref (ad 52)), (1, .int (x)), (2, .int (g)), (3, .int (bI lg))]) hI (by decide) rfl rfl (Nat.le_of_ble_eq_true rfl) rfl (fun pX eX sX mX aX bX tX cX C hrt0 hlk0 => ?_)
  refine m_aload_n (pc' := 1) C dX12_pairs_0 rfl 0 rfl rfl ?_
  refine m_cut (σ := Int32) (fun a => a = nI (prK x g)) (fun a => M) 25 (fun a => [(0, .ref (ad 52)), (1, .int (x)), (2, .int (g)), (3, .int (bI lg))]) (fun a => [.int (a), .ref (ad 52)]) ?_ (fun J25 => ?_)
  · rintro y9 hj
    try dsimp only at hj ⊢
    subst hj
    have hKb : prK x g ≤ 2 := by unfold prK; (repeat' split) <;> omega
    refine m_callVi (pc' := 28) (As := [.int (nI (prK x g))]) (rest := []) C (kX12_refused hI hn hn2 hro (k := (prK x g)) (by omega)) (cwV 1 C.1.2.2.2.2 (goodV tm_5_174 tm_5_176 tp_49 tm_1_13 tm_5_177) rfl rfl rfl (by decide +kernel) ⟨by decide, by decide⟩) (by omega) hro rfl rfl rfl (Nat.le_of_ble_eq_true rfl) dX12_pairs_25 rfl ⟨by decide, by decide⟩ (fun x_1 M1 q_1 => ?_)
    obtain ⟨e_1, pro_1, pf0_1, F_1⟩ := q_1
    replace e_1 := e_1.symm
    subst e_1
    refine m_if_eq (pc' := 31) (tgt := 33) C dX12_pairs_28 (by decide) rfl (fun c_28 => ?_) (fun c_28 => ?_)
    · have hK : prK x g = 0 := by have := of_decide_eq_false ((bI_0 _).mp c_28); omega
      have hok : shOk x g = true := by
        unfold prK at hK
        split at hK
        · assumption
        · omega
      obtain ⟨hxe, hge, hc1, hc32, hg32⟩ := shOk_M hok
      have hgn := gN_eq hok
      obtain ⟨c, hc9⟩ : ∃ z, z = cl x := ⟨_, rfl⟩
      obtain ⟨g0, hg9⟩ : ∃ z, z = cl g := ⟨_, rfl⟩
      rw [← hc9] at hxe hc1 hc32 hgn
      rw [← hg9] at hge hg32 hgn
      refine m_lvx (lv' := [(0, .ref (ad 52)), (1, .int (nI c)), (2, .int (nI g0)), (3, .int (bI lg))]) (by rw [hxe, hge]) ?_
      refine m_aload_n (pc' := 34) C dX12_pairs_33 rfl 0 rfl rfl ?_
      have xoutR_3 := hout.fr F_1 (by decide)
      refine m_callVv (pc' := 37) (As := []) (rest := []) C (kX12_begin hI hn hn2 pro_1 xoutR_3 ) (cwV 0 C.1.2.2.2.2 (goodV tm_5_231 tm_5_233 tp_55 tm_1_13 tm_5_234) rfl rfl rfl (by decide +kernel) ⟨by decide, by decide⟩) (by omega) pro_1 rfl rfl rfl (Nat.le_of_ble_eq_true rfl) dX12_pairs_34 rfl ⟨by decide, by decide⟩ (fun M2 q_2 => ?_)
      obtain ⟨pro_2, pout_2, F_2⟩ := q_2
      refine m_iconst (pc' := 38) (v := nI 0) C dX12_pairs_37 (by decide) rfl ?_
      refine m_istore (pc' := 40) (lv' := [(4, .int (nI 0)), (0, .ref (ad 52)), (1, .int (nI c)), (2, .int (nI g0)), (3, .int (bI lg))]) C dX12_pairs_38 (by decide) rfl rfl ?_
      refine m_lvx (lv' := [(4, .int (nI (0 * c))), (0, .ref (ad 52)), (1, .int (nI c)), (2, .int (nI g0)), (3, .int (bI lg))]) (by rw [Nat.zero_mul]) ?_
      refine m_lv [1, 2, 3, 4, 0] rfl ?_
      have ff0_4 : M2 100 = gh (.int (nI (prK x g))) := (F_2 100 (by decide)).trans pf0_1
      have xdg_5 := hdg.fr F_1 (by decide)
      have xdg_6 := xdg_5.fr F_2 (by decide)
      refine m_loop (σ := Nat × List Nat × (Nat → va_E)) (fun a => a.2.2) (fun a => [(0, .ref (ad 52)), (1, .int (nI c)), (2, .int (nI g0)), (3, .int (bI lg)), (4, .int (nI (a.1 * c)))]) (fun a => (pLines B c (gN c g0) lg 257 0) = a.2.1 ++ pLines B c (gN c g0) lg (257 - a.1) (a.1 * c) ∧ a.1 ≤ 257 ∧ a.2.2 100 = gh (.int (nI (prK x g))) ∧ isOut cy a.2.2 lim a.2.1 ∧ (∃ D, isDg cy a.2.2 D) ∧ rO ad a.2.2 ∧ Fr [52, 59, 61, 100, 111, 113, 132] M a.2.2) (fun a => 257 - a.1) (0, [], M2) (⟨by (try dsimp only); rw [Nat.zero_mul]; rfl, by (try dsimp only); omega, ff0_4, pout_2, ⟨_, xdg_6⟩, pro_2, ((F_1.sub (by decide)).tr (F_2.sub (by decide)))⟩) ?_
      rintro ⟨f, R, Mk⟩ hinv ih
      dsimp only at hinv ih ⊢
      obtain ⟨i1, i2, i3, i5, ⟨L2, i6⟩, i4, i8⟩ := hinv
      have hfc := fl_mul hc1 f
      have hfc2 : f * c ≤ 257 * 32 := Nat.mul_le_mul i2 hc32
      refine m_iload (pc' := 42) C dX12_pairs_40 4 rfl rfl ?_
      refine m_aload_n (pc' := 43) C dX12_pairs_42 rfl 0 rfl rfl ?_
      have ff8_7 : Mk 108 = gh (.int (nI B.length)) := (i8 108 (by decide)).trans y2
      refine r_get C hn i4 inW_X12 8 (by decide) ⟨rfl, rfl, rfl⟩ (gW_of tm_5_58) (r_at 8 rfl ff8_7) dX12_pairs_43 rfl ?_
      refine m_icmp_ge (pc' := 49) (tgt := 260) C dX12_pairs_46 (by decide) rfl (fun c_46 => ?_) (fun c_46 => ?_)
      · have n_46 : B.length ≤ (f * c) := (nI_leI (by omega) (by omega)).mp c_46
        have hPL : (pLines B c (gN c g0) lg 257 0) = R := by rw [i1, pLines_e n_46]; exact List.append_nil _
        have hPD : (pDump B (cl x) (grN x g) lg) = R := by unfold pDump; rw [← hgn, ← hc9, hPL]
        rw [← hPD] at i5
        refine m_aload_n (pc' := 261) C dX12_pairs_260 rfl 0 rfl rfl ?_
        refine m_callVi (pc' := 264) (As := []) (rest := []) C (kX12_end hI hn hn2 i4 i5 ) (cwV 0 C.1.2.2.2.2 (goodV tm_6_68 tm_6_70 tp_71 tm_1_13 tm_6_71) rfl rfl rfl (by decide +kernel) ⟨by decide, by decide⟩) (by omega) i4 rfl rfl rfl (Nat.le_of_ble_eq_true rfl) dX12_pairs_261 rfl ⟨by decide, by decide⟩ (fun x_8 M8 q_8 => ?_)
        obtain ⟨e_8, pro_8, poutR_8, F_8⟩ := q_8
        replace e_8 := e_8.symm
        subst e_8
        refine m_iret C hrt0 hlk0 rfl dX12_pairs_264 ?_
        have xln_9 := hln.fr i8 (by decide)
        have xln_10 := xln_9.fr F_8 (by decide)
        have xra_11 := hra.fr i8 (by decide)
        have xra_12 := xra_11.fr F_8 (by decide)
        have xby_13 := hby.fr i8 (by decide)
        have xby_14 := xby_13.fr F_8 (by decide)
        have ff14_15 : Mk 114 = gh (.int (fp)) := (i8 114 (by decide)).trans h14
        have ff14_16 : M8 114 = gh (.int (fp)) := (F_8 114 (by decide)).trans ff14_15
        have ff15_17 : Mk 115 = gh (.int (ot)) := (i8 115 (by decide)).trans h15
        have ff15_18 : M8 115 = gh (.int (ot)) := (F_8 115 (by decide)).trans ff15_17
        have xrw_19 := hrw.fr i8 (by decide)
        have xrw_20 := xrw_19.fr F_8 (by decide)
        have xdg_21 := i6.fr F_8 (by decide)
        have f62_22 : Mk 62 = .inl (cy 1, 2000, .inl (fun i => nI (gf i))) := (i8 62 (by decide)).trans hfd
        have f62_23 : M8 62 = .inl (cy 1, 2000, .inl (fun i => nI (gf i))) := (F_8 62 (by decide)).trans f62_22
        have ff0_24 : M8 100 = gh (.int (nI (prK x g))) := (F_8 100 (by decide)).trans i3
        simp only [sel0 hK]
        exact ⟨(fun _ => by first | trivial | rfl), ff0_24, ⟨pro_8, xln_10, xra_12, poutR_8, xby_14, ff14_16, ff15_18, ⟨_, xrw_20⟩, ⟨_, xdg_21⟩, ⟨_, f62_23⟩⟩, ((i8.sub (by decide)).tr (F_8.sub (by decide)))⟩
      · have n_46 : (f * c) < B.length := Nat.lt_of_not_le (fun q => c_46 ((nI_leI (by omega) (by omega)).mpr q))
        refine m_aload_n (pc' := 50) C dX12_pairs_49 rfl 0 rfl rfl ?_
        refine m_iload (pc' := 52) C dX12_pairs_50 4 rfl rfl ?_
        refine m_i2l (pc' := 53) (v := lN (f * c)) C dX12_pairs_52 (nI_l (by omega)) rfl ?_
        refine m_bipush (pc' := 55) (v := nI 16) C dX12_pairs_53 (by decide) rfl ?_
        refine m_iload_n (pc' := 56) C dX12_pairs_55 rfl 3 rfl rfl ?_
        refine m_callVv (pc' := 59) (As := [.long (lN (f * c)), .int (nI 16), .int (bI lg)]) (rest := []) C (kX12_reckon hI hn hn2 i4 i6 (lN (f * c)) (b := 16) lg (by decide)) (cwV 3 C.1.2.2.2.2 (goodV tm_6_31 tm_6_33 tp_63 tm_1_13 tm_6_34) rfl rfl rfl (by decide +kernel) ⟨by decide, by decide⟩) (by omega) i4 rfl rfl rfl (Nat.le_of_ble_eq_true rfl) dX12_pairs_56 rfl ⟨by decide, by decide⟩ (fun M25 q_25 => ?_)
        obtain ⟨pro_25, pdg_25, F_25⟩ := q_25
        refine m_aload_n (pc' := 60) C dX12_pairs_59 rfl 0 rfl rfl ?_
        refine m_bipush (pc' := 62) (v := nI 8) C dX12_pairs_60 (by decide) rfl ?_
        refine m_callVv (pc' := 65) (As := [.int (nI 8)]) (rest := []) C (kX12_fill hI hn hn2 pro_25 pdg_25 (m := 8) (by decide)) (cwV 1 C.1.2.2.2.2 (goodV tm_6_39 tm_6_41 tp_64 tm_1_13 tm_6_42) rfl rfl rfl (by decide +kernel) ⟨by decide, by decide⟩) (by omega) pro_25 rfl rfl rfl (Nat.le_of_ble_eq_true rfl) dX12_pairs_62 rfl ⟨by decide, by decide⟩ (fun M26 q_26 => ?_)
        obtain ⟨pro_26, pdg_26, F_26⟩ := q_26
        rw [uL_lN (by omega), List.length_map] at pdg_26
        refine m_aload_n (pc' := 66) C dX12_pairs_65 rfl 0 rfl rfl ?_
        have xout_28 := i5.fr F_25 (by decide)
        have xout_29 := xout_28.fr F_26 (by decide)
        refine m_callVv (pc' := 69) (As := []) (rest := []) C (kX12_putDigits hI hn hn2 pro_26 pdg_26 xout_29 ) (cwV 0 C.1.2.2.2.2 (goodV tm_6_64 tm_6_66 tp_70 tm_1_13 tm_6_67) rfl rfl rfl (by decide +kernel) ⟨by decide, by decide⟩) (by omega) pro_26 rfl rfl rfl (Nat.le_of_ble_eq_true rfl) dX12_pairs_66 rfl ⟨by decide, by decide⟩ (fun M27 q_27 => ?_)
        obtain ⟨pro_27, pout_27, F_27⟩ := q_27
        refine m_aload_n (pc' := 70) C dX12_pairs_69 rfl 0 rfl rfl ?_
        refine m_bipush (pc' := 72) (v := nI 58) C dX12_pairs_70 (by decide) rfl ?_
        refine m_callVv (pc' := 75) (As := [.int (nI 58)]) (rest := []) C (kX12_put hI hn hn2 pro_27 pout_27 (x := 58) (by first | decide | omega)) (cwV 1 C.1.2.2.2.2 (goodV tm_5_239 tm_6_1 tp_57 tm_1_13 tm_6_2) rfl rfl rfl (by decide +kernel) ⟨by decide, by decide⟩) (by omega) pro_27 rfl rfl rfl (Nat.le_of_ble_eq_true rfl) dX12_pairs_72 rfl ⟨by decide, by decide⟩ (fun M30 q_30 => ?_)
        obtain ⟨pro_30, pout_30, F_30⟩ := q_30
        refine m_aload_n (pc' := 76) C dX12_pairs_75 rfl 0 rfl rfl ?_
        refine m_bipush (pc' := 78) (v := nI 32) C dX12_pairs_76 (by decide) rfl ?_
        refine m_callVv (pc' := 81) (As := [.int (nI 32)]) (rest := []) C (kX12_put hI hn hn2 pro_30 pout_30 (x := 32) (by first | decide | omega)) (cwV 1 C.1.2.2.2.2 (goodV tm_5_239 tm_6_1 tp_57 tm_1_13 tm_6_2) rfl rfl rfl (by decide +kernel) ⟨by decide, by decide⟩) (by omega) pro_30 rfl rfl rfl (Nat.le_of_ble_eq_true rfl) dX12_pairs_78 rfl ⟨by decide, by decide⟩ (fun M31 q_31 => ?_)
        obtain ⟨pro_31, pout_31, F_31⟩ := q_31
        refine m_iconst (pc' := 82) (v := nI 0) C dX12_pairs_81 (by decide) rfl ?_
        refine m_istore (pc' := 84) (lv' := [(5, .int (nI 0)), (0, .ref (ad 52)), (1, .int (nI c)), (2, .int (nI g0)), (3, .int (bI lg)), (4, .int (nI (f * c)))]) C dX12_pairs_82 (by decide) rfl rfl ?_
        obtain ⟨R2, hR2⟩ : ∃ z, z = ((R ++ (fillD (dg 16 (f * c)) lg 8).reverse) ++ [58]) ++ [32] := ⟨_, rfl⟩
        rw [← hR2] at pout_31
        refine m_lv [1, 2, 3, 4, 5, 0] rfl ?_
        have ff0_32 : M25 100 = gh (.int (nI (prK x g))) := (F_25 100 (by decide)).trans i3
        have ff0_33 : M26 100 = gh (.int (nI (prK x g))) := (F_26 100 (by decide)).trans ff0_32
        have ff0_34 : M27 100 = gh (.int (nI (prK x g))) := (F_27 100 (by decide)).trans ff0_33
        have ff0_35 : M30 100 = gh (.int (nI (prK x g))) := (F_30 100 (by decide)).trans ff0_34
        have ff0_36 : M31 100 = gh (.int (nI (prK x g))) := (F_31 100 (by decide)).trans ff0_35
        have xdg_37 := pdg_26.fr F_27 (by decide)
        have xdg_38 := xdg_37.fr F_30 (by decide)
        have xdg_39 := xdg_38.fr F_31 (by decide)
        refine m_loop (σ := Nat × (Nat → va_E)) (fun a => a.2) (fun a => [(0, .ref (ad 52)), (1, .int (nI c)), (2, .int (nI g0)), (3, .int (bI lg)), (4, .int (nI (f * c))), (5, .int (nI a.1))]) (fun a => a.1 ≤ c ∧ a.2 100 = gh (.int (nI (prK x g))) ∧ isOut cy a.2 lim (R2 ++ rPairs B lg c (gN c g0) (f * c) a.1) ∧ (∃ D, isDg cy a.2 D) ∧ rO ad a.2 ∧ Fr [52, 59, 61, 100, 111, 113, 132] M a.2) (fun a => c - a.1) (0, M31) (⟨Nat.zero_le _, ff0_36, by (try dsimp only); rw [show rPairs B lg c (gN c g0) (f * c) 0 = [] from rfl, List.append_nil]; exact pout_31, ⟨_, xdg_39⟩, pro_31, i8.tr ((((((F_25.sub (by decide)).tr (F_26.sub (by decide))).tr (F_27.sub (by decide))).tr (F_30.sub (by decide))).tr (F_31.sub (by decide))))⟩) ?_
        rintro ⟨k, Mm⟩ hinv ih1
        dsimp only at hinv ih1 ⊢
        obtain ⟨j1, j3, j5, ⟨L3, j6⟩, j4, j8⟩ := hinv
        refine m_iload (pc' := 86) C dX12_pairs_84 5 rfl rfl ?_
        refine m_iload_n (pc' := 87) C dX12_pairs_86 rfl 1 rfl rfl ?_
        refine m_icmp_ge (pc' := 90) (tgt := 197) C dX12_pairs_87 (by decide) rfl (fun c_87 => ?_) (fun c_87 => ?_)
        · have n_87 : c ≤ k := (nI_leI (by omega) (by omega)).mp c_87
          have hkc : k = c := by omega
          rw [hkc] at j5
          refine m_aload_n (pc' := 198) C dX12_pairs_197 rfl 0 rfl rfl ?_
          refine m_bipush (pc' := 200) (v := nI 32) C dX12_pairs_198 (by decide) rfl ?_
          refine m_callVv (pc' := 203) (As := [.int (nI 32)]) (rest := []) C (kX12_put hI hn hn2 j4 j5 (x := 32) (by first | decide | omega)) (cwV 1 C.1.2.2.2.2 (goodV tm_5_239 tm_6_1 tp_57 tm_1_13 tm_6_2) rfl rfl rfl (by decide +kernel) ⟨by decide, by decide⟩) (by omega) j4 rfl rfl rfl (Nat.le_of_ble_eq_true rfl) dX12_pairs_200 rfl ⟨by decide, by decide⟩ (fun M40 q_40 => ?_)
          obtain ⟨pro_40, pout_40, F_40⟩ := q_40
          refine m_iload (pc' := 205) C dX12_pairs_203 4 rfl rfl ?_
          refine m_istore (pc' := 207) (lv' := [(5, .int (nI (f * c))), (0, .ref (ad 52)), (1, .int (nI c)), (2, .int (nI g0)), (3, .int (bI lg)), (4, .int (nI (f * c)))]) C dX12_pairs_205 (by decide) rfl rfl ?_
          obtain ⟨R3, hR3⟩ : ∃ z, z = (R2 ++ rPairs B lg c (gN c g0) (f * c) c) ++ [32] := ⟨_, rfl⟩
          rw [← hR3] at pout_40
          refine m_lv [1, 2, 3, 4, 5, 0] rfl ?_
          have ff0_41 : M40 100 = gh (.int (nI (prK x g))) := (F_40 100 (by decide)).trans j3
          have xdg_42 := j6.fr F_40 (by decide)
          refine m_loop (σ := Nat × (Nat → va_E)) (fun a => a.2) (fun a => [(0, .ref (ad 52)), (1, .int (nI c)), (2, .int (nI g0)), (3, .int (bI lg)), (4, .int (nI (f * c))), (5, .int (nI (f * c + a.1)))]) (fun a => a.1 ≤ (min c (B.length - f * c)) ∧ a.2 100 = gh (.int (nI (prK x g))) ∧ isOut cy a.2 lim (R3 ++ sChars B (f * c) a.1) ∧ (∃ D, isDg cy a.2 D) ∧ rO ad a.2 ∧ Fr [52, 59, 61, 100, 111, 113, 132] M a.2) (fun a => (min c (B.length - f * c)) - a.1) (0, M40) (⟨Nat.zero_le _, ff0_41, by (try dsimp only); rw [show sChars B (f * c) 0 = [] from rfl, List.append_nil]; exact pout_40, ⟨_, xdg_42⟩, pro_40, j8.tr ((F_40.sub (by decide)))⟩) ?_
          rintro ⟨m, Mn⟩ hinv ih2
          dsimp only at hinv ih2 ⊢
          obtain ⟨k1, k3, k5, ⟨L4, k6⟩, k4, k8⟩ := hinv
          refine m_iload (pc' := 209) C dX12_pairs_207 5 rfl rfl ?_
          refine m_iload (pc' := 211) C dX12_pairs_209 4 rfl rfl ?_
          refine m_iload_n (pc' := 212) C dX12_pairs_211 rfl 1 rfl rfl ?_
          refine m_iadd (pc' := 213) (v := nI ((f * c) + c)) C dX12_pairs_212 (nI_add _ _) rfl ?_
          refine m_icmp_ge (pc' := 216) (tgt := 245) C dX12_pairs_213 (by decide) rfl (fun c_213 => ?_) (fun c_213 => ?_)
          · have n_213 : ((f * c) + c) ≤ (f * c + m) := (nI_leI (by omega) (by omega)).mp c_213
            have hmm9 : m = (min c (B.length - f * c)) := by omega
            refine m_aload_n (pc' := 246) C dX12_pairs_245 rfl 0 rfl rfl ?_
            refine m_bipush (pc' := 248) (v := nI 10) C dX12_pairs_246 (by decide) rfl ?_
            refine m_callVv (pc' := 251) (As := [.int (nI 10)]) (rest := []) C (kX12_put hI hn hn2 k4 k5 (x := 10) (by first | decide | omega)) (cwV 1 C.1.2.2.2.2 (goodV tm_5_239 tm_6_1 tp_57 tm_1_13 tm_6_2) rfl rfl rfl (by decide +kernel) ⟨by decide, by decide⟩) (by omega) k4 rfl rfl rfl (Nat.le_of_ble_eq_true rfl) dX12_pairs_248 rfl ⟨by decide, by decide⟩ (fun M43 q_43 => ?_)
            obtain ⟨pro_43, pout_43, F_43⟩ := q_43
            have hLN : (R3 ++ sChars B (f * c) m) ++ [10] = R ++ pLine B c (gN c g0) lg (f * c) := by
              unfold pLine
              rw [hR3, List.append_assoc _ (rPairs B lg c (gN c g0) (f * c) c) [32], rPairs_eq hc1 (by omega), hR2, hmm9, numS_rev]
              simp only [List.append_assoc]
            rw [hLN] at pout_43
            refine m_iload (pc' := 253) C dX12_pairs_251 4 rfl rfl ?_
            refine m_iload_n (pc' := 254) C dX12_pairs_253 rfl 1 rfl rfl ?_
            refine m_iadd (pc' := 255) (v := nI ((f + 1) * c)) C dX12_pairs_254 (by rw [nI_add, Nat.add_mul, Nat.one_mul]) rfl ?_
            refine m_istore (pc' := 257) (lv' := [(4, .int (nI ((f + 1) * c))), (0, .ref (ad 52)), (1, .int (nI c)), (2, .int (nI g0)), (3, .int (bI lg)), (5, .int (nI (f * c + m)))]) C dX12_pairs_255 (by decide) rfl rfl ?_
            refine m_goto (tgt := 40) C dX12_pairs_257 (by decide) ?_
            have ff0_44 : M43 100 = gh (.int (nI (prK x g))) := (F_43 100 (by decide)).trans k3
            have xdg_45 := k6.fr F_43 (by decide)
            refine m_lv [1, 2, 3, 4, 0] rfl ?_
            exact ih (f + 1, R ++ pLine B c (gN c g0) lg (f * c), M43) (⟨by (try dsimp only); rw [i1, show 257 - f = (257 - (f + 1)) + 1 by omega, pLines, if_neg (by omega), Nat.add_mul, Nat.one_mul, List.append_assoc], by (try dsimp only); omega, ff0_44, pout_43, ⟨_, xdg_45⟩, pro_43, (k8.tr (F_43.sub (by decide)))⟩) (by simp only; omega)
          · have n_213 : (f * c + m) < ((f * c) + c) := Nat.lt_of_not_le (fun q => c_213 ((nI_leI (by omega) (by omega)).mpr q))
            refine m_iload (pc' := 218) C dX12_pairs_216 5 rfl rfl ?_
            refine m_aload_n (pc' := 219) C dX12_pairs_218 rfl 0 rfl rfl ?_
            have ff8_46 : Mn 108 = gh (.int (nI B.length)) := (k8 108 (by decide)).trans y2
            refine r_get C hn k4 inW_X12 8 (by decide) ⟨rfl, rfl, rfl⟩ (gW_of tm_5_58) (r_at 8 rfl ff8_46) dX12_pairs_219 rfl ?_
            refine m_icmp_ge (pc' := 225) (tgt := 245) C dX12_pairs_222 (by decide) rfl (fun c_222 => ?_) (fun c_222 => ?_)
            · have n_222 : B.length ≤ (f * c + m) := (nI_leI (by omega) (by omega)).mp c_222
              have hmm9 : m = (min c (B.length - f * c)) := by omega
              refine m_aload_n (pc' := 246) C dX12_pairs_245 rfl 0 rfl rfl ?_
              refine m_bipush (pc' := 248) (v := nI 10) C dX12_pairs_246 (by decide) rfl ?_
              refine m_callVv (pc' := 251) (As := [.int (nI 10)]) (rest := []) C (kX12_put hI hn hn2 k4 k5 (x := 10) (by first | decide | omega)) (cwV 1 C.1.2.2.2.2 (goodV tm_5_239 tm_6_1 tp_57 tm_1_13 tm_6_2) rfl rfl rfl (by decide +kernel) ⟨by decide, by decide⟩) (by omega) k4 rfl rfl rfl (Nat.le_of_ble_eq_true rfl) dX12_pairs_248 rfl ⟨by decide, by decide⟩ (fun M47 q_47 => ?_)
              obtain ⟨pro_47, pout_47, F_47⟩ := q_47
              have hLN : (R3 ++ sChars B (f * c) m) ++ [10] = R ++ pLine B c (gN c g0) lg (f * c) := by
                unfold pLine
                rw [hR3, List.append_assoc _ (rPairs B lg c (gN c g0) (f * c) c) [32], rPairs_eq hc1 (by omega), hR2, hmm9, numS_rev]
                simp only [List.append_assoc]
              rw [hLN] at pout_47
              refine m_iload (pc' := 253) C dX12_pairs_251 4 rfl rfl ?_
              refine m_iload_n (pc' := 254) C dX12_pairs_253 rfl 1 rfl rfl ?_
              refine m_iadd (pc' := 255) (v := nI ((f + 1) * c)) C dX12_pairs_254 (by rw [nI_add, Nat.add_mul, Nat.one_mul]) rfl ?_
              refine m_istore (pc' := 257) (lv' := [(4, .int (nI ((f + 1) * c))), (0, .ref (ad 52)), (1, .int (nI c)), (2, .int (nI g0)), (3, .int (bI lg)), (5, .int (nI (f * c + m)))]) C dX12_pairs_255 (by decide) rfl rfl ?_
              refine m_goto (tgt := 40) C dX12_pairs_257 (by decide) ?_
              have ff0_48 : M47 100 = gh (.int (nI (prK x g))) := (F_47 100 (by decide)).trans k3
              have xdg_49 := k6.fr F_47 (by decide)
              refine m_lv [1, 2, 3, 4, 0] rfl ?_
              exact ih (f + 1, R ++ pLine B c (gN c g0) lg (f * c), M47) (⟨by (try dsimp only); rw [i1, show 257 - f = (257 - (f + 1)) + 1 by omega, pLines, if_neg (by omega), Nat.add_mul, Nat.one_mul, List.append_assoc], by (try dsimp only); omega, ff0_48, pout_47, ⟨_, xdg_49⟩, pro_47, (k8.tr (F_47.sub (by decide)))⟩) (by simp only; omega)
            · have n_222 : (f * c + m) < B.length := Nat.lt_of_not_le (fun q => c_222 ((nI_leI (by omega) (by omega)).mpr q))
              have hb9 := gd_lt0 y1 (f * c + m)
              refine m_aload_n (pc' := 226) C dX12_pairs_225 rfl 0 rfl rfl ?_
              refine m_aload_n (pc' := 227) C dX12_pairs_226 rfl 0 rfl rfl ?_
              refine r_get C hn k4 inW_X12 9 (by decide) ⟨rfl, rfl, rfl⟩ (gW_of tm_5_59) rfl dX12_pairs_227 rfl ?_
              refine m_iload (pc' := 232) C dX12_pairs_230 5 rfl rfl ?_
              have f58_50 : Mn 58 = .inl (cy 1, 256, .inl (fun i => nI (yg i))) := (k8 58 (by decide)).trans y4
              refine m_iald (pc' := 233) (v := nI (B.getD (f * c + m) 0)) C 58 (by omega) f58_50 (vp_in_nI (by omega) (by decide)) (by rw [nI_clamp (by omega), y5 _ n_222]) dX12_pairs_232 rfl ?_
              refine m_callSi (pc' := 236) (As := [.int (nI (B.getD (f * c + m) 0))]) (rest := [.ref (ad 52)]) C (kX12_shown hI (v := B.getD (f * c + m) 0) hb9) (cwS 1 C.1.2.2.2.2 (goodS tm_6_117 tm_6_118 tm_1_13 tm_6_119) rfl rfl rfl (by decide +kernel) ⟨by decide, by decide⟩) rfl rfl (Nat.le_of_ble_eq_true rfl) dX12_pairs_233 rfl ⟨by decide, by decide⟩ (fun x_51 N_51 q_51 => ?_)
              obtain ⟨e_51, E_51⟩ := q_51
              replace E_51 := E_51.symm
              subst E_51
              replace e_51 := e_51.symm
              subst e_51
              refine m_callVv (pc' := 239) (As := [.int (nI (seN (B.getD (f * c + m) 0)))]) (rest := []) C (kX12_put hI hn hn2 k4 k5 (x := seN (B.getD (f * c + m) 0)) (seN_lt hb9)) (cwV 1 C.1.2.2.2.2 (goodV tm_5_239 tm_6_1 tp_57 tm_1_13 tm_6_2) rfl rfl rfl (by decide +kernel) ⟨by decide, by decide⟩) (by omega) k4 rfl rfl rfl (Nat.le_of_ble_eq_true rfl) dX12_pairs_236 rfl ⟨by decide, by decide⟩ (fun M52 q_52 => ?_)
              obtain ⟨pro_52, pout_52, F_52⟩ := q_52
              refine m_iinc (pc' := 242) (v := nI (f * c + (m + 1))) (lv' := [(5, .int (nI (f * c + (m + 1)))), (0, .ref (ad 52)), (1, .int (nI c)), (2, .int (nI g0)), (3, .int (bI lg)), (4, .int (nI (f * c)))]) C dX12_pairs_239 (k := 5) rfl (by rw [← Nat.add_assoc]; exact nI_add _ _) (by decide) rfl rfl ?_
              refine m_goto (tgt := 207) C dX12_pairs_242 (by decide) ?_
              have ff0_53 : M52 100 = gh (.int (nI (prK x g))) := (F_52 100 (by decide)).trans k3
              have xdg_54 := k6.fr F_52 (by decide)
              refine m_lv [1, 2, 3, 4, 5, 0] rfl ?_
              exact ih2 (m + 1, M52) (⟨by (try dsimp only); omega, ff0_53, by (try dsimp only); rw [sChars_succ, ← List.append_assoc]; exact pout_52, ⟨_, xdg_54⟩, pro_52, (k8.tr (F_52.sub (by decide)))⟩) (by simp only; omega)
        · have n_87 : k < c := Nat.lt_of_not_le (fun q => c_87 ((nI_leI (by omega) (by omega)).mpr q))
          have hb8 := gd_lt0 y1 (f * c + k)
          refine m_iload (pc' := 92) C dX12_pairs_90 4 rfl rfl ?_
          refine m_iload (pc' := 94) C dX12_pairs_92 5 rfl rfl ?_
          refine m_iadd (pc' := 95) (v := nI ((f * c) + k)) C dX12_pairs_94 (nI_add _ _) rfl ?_
          refine m_aload_n (pc' := 96) C dX12_pairs_95 rfl 0 rfl rfl ?_
          have ff8_55 : Mm 108 = gh (.int (nI B.length)) := (j8 108 (by decide)).trans y2
          refine r_get C hn j4 inW_X12 8 (by decide) ⟨rfl, rfl, rfl⟩ (gW_of tm_5_58) (r_at 8 rfl ff8_55) dX12_pairs_96 rfl ?_
          refine m_icmp_ge (pc' := 102) (tgt := 106) C dX12_pairs_99 (by decide) rfl (fun c_99 => ?_) (fun c_99 => ?_)
          · have n_99 : B.length ≤ ((f * c) + k) := (nI_leI (by omega) (by omega)).mp c_99
            refine m_iconst (pc' := 107) (v := nI 0) C dX12_pairs_106 (by decide) rfl ?_
            refine m_istore (pc' := 109) (lv' := [(6, .int (nI 0)), (0, .ref (ad 52)), (1, .int (nI c)), (2, .int (nI g0)), (3, .int (bI lg)), (4, .int (nI (f * c))), (5, .int (nI k))]) C dX12_pairs_107 (by decide) rfl rfl ?_
            refine m_iload (pc' := 111) C dX12_pairs_109 0 rfl rfl ?_
            refine m_if_eq (pc' := 114) (tgt := 127) C dX12_pairs_111 (by decide) rfl (fun c_111 => ?_) (fun c_111 => ?_)
            · refine m_iconst (pc' := 128) (v := nI 0) C dX12_pairs_127 (by decide) rfl ?_
              refine m_istore (pc' := 130) (lv' := [(7, .int (nI 0)), (6, .int (nI 0)), (0, .ref (ad 52)), (1, .int (nI c)), (2, .int (nI g0)), (3, .int (bI lg)), (4, .int (nI (f * c))), (5, .int (nI k))]) C dX12_pairs_128 (by decide) rfl rfl ?_
              refine m_aload_n (pc' := 131) C dX12_pairs_130 rfl 2 rfl rfl ?_
              refine m_iload (pc' := 133) C dX12_pairs_131 1 rfl rfl ?_
              refine m_if_eq (pc' := 136) (tgt := 147) C dX12_pairs_133 (by decide) rfl (fun c_133 => ?_) (fun c_133 => ?_)
              · refine m_bipush (pc' := 149) (v := nI 32) C dX12_pairs_147 (by decide) rfl ?_
                refine m_callVv (pc' := 152) (As := [.int (nI 32)]) (rest := []) C (kX12_put hI hn hn2 j4 j5 (x := 32) (by decide)) (cwV 1 C.1.2.2.2.2 (goodV tm_5_239 tm_6_1 tp_57 tm_1_13 tm_6_2) rfl rfl rfl (by decide +kernel) ⟨by decide, by decide⟩) (by omega) j4 rfl rfl rfl (Nat.le_of_ble_eq_true rfl) dX12_pairs_149 rfl ⟨by decide, by decide⟩ (fun M56 q_56 => ?_)
                obtain ⟨pro_56, pout_56, F_56⟩ := q_56
                refine m_aload_n (pc' := 153) C dX12_pairs_152 rfl 2 rfl rfl ?_
                refine m_iload (pc' := 155) C dX12_pairs_153 1 rfl rfl ?_
                refine m_if_eq (pc' := 158) (tgt := 170) C dX12_pairs_155 (by decide) rfl (fun c_155 => ?_) (fun c_155 => ?_)
                · refine m_bipush (pc' := 172) (v := nI 32) C dX12_pairs_170 (by decide) rfl ?_
                  refine m_callVv (pc' := 175) (As := [.int (nI 32)]) (rest := []) C (kX12_put hI hn hn2 pro_56 pout_56 (x := 32) (by decide)) (cwV 1 C.1.2.2.2.2 (goodV tm_5_239 tm_6_1 tp_57 tm_1_13 tm_6_2) rfl rfl rfl (by decide +kernel) ⟨by decide, by decide⟩) (by omega) pro_56 rfl rfl rfl (Nat.le_of_ble_eq_true rfl) dX12_pairs_172 rfl ⟨by decide, by decide⟩ (fun M57 q_57 => ?_)
                  obtain ⟨pro_57, pout_57, F_57⟩ := q_57
                  refine m_iload (pc' := 177) C dX12_pairs_175 7 rfl rfl ?_
                  refine m_iload_n (pc' := 178) C dX12_pairs_177 rfl 3 rfl rfl ?_
                  refine m_iload_n (pc' := 179) C dX12_pairs_178 rfl 4 rfl rfl ?_
                  refine m_callSi (pc' := 182) (As := [.int (nI k), .int (nI c), .int (nI g0)]) (rest := []) C (kX12_isGroupEnd hI (k := k) (c := c) (g0 := g0) (by omega) hc32 hg32) (cwS 3 C.1.2.2.2.2 (goodS tm_6_114 tm_6_115 tm_1_13 tm_6_116) rfl rfl rfl (by decide +kernel) ⟨by decide, by decide⟩) rfl rfl (Nat.le_of_ble_eq_true rfl) dX12_pairs_179 rfl ⟨by decide, by decide⟩ (fun x_58 N_58 q_58 => ?_)
                  obtain ⟨e_58, E_58⟩ := q_58
                  replace E_58 := E_58.symm
                  subst E_58
                  replace e_58 := e_58.symm
                  subst e_58
                  refine m_if_eq (pc' := 185) (tgt := 191) C dX12_pairs_182 (by decide) rfl (fun c_182 => ?_) (fun c_182 => ?_)
                  · have hge9 := (bI_0 _).mp c_182
                    refine m_iinc (pc' := 194) (v := nI (k + 1)) (lv' := [(5, .int (nI (k + 1))), (7, .int (nI 0)), (6, .int (nI 0)), (0, .ref (ad 52)), (1, .int (nI c)), (2, .int (nI g0)), (3, .int (bI lg)), (4, .int (nI (f * c)))]) C dX12_pairs_191 (k := 7) rfl (nI_add _ _) (by decide) rfl rfl ?_
                    refine m_goto (tgt := 84) C dX12_pairs_194 (by decide) ?_
                    have ff0_59 : M56 100 = gh (.int (nI (prK x g))) := (F_56 100 (by decide)).trans j3
                    have ff0_60 : M57 100 = gh (.int (nI (prK x g))) := (F_57 100 (by decide)).trans ff0_59
                    have xdg_61 := j6.fr F_56 (by decide)
                    have xdg_62 := xdg_61.fr F_57 (by decide)
                    refine m_lv [3, 4, 5, 6, 7, 0] rfl ?_
                    exact ih1 (k + 1, M57) (⟨by (try dsimp only); omega, ff0_60, by (try dsimp only); rw [rPairs_succ, if_neg (by omega), if_neg (by rw [hge9]; decide)]; simp only [List.append_assoc] at pout_57 ⊢; exact pout_57, ⟨_, xdg_62⟩, pro_57, ((j8.tr (F_56.sub (by decide))).tr (F_57.sub (by decide)))⟩) (by simp only; omega)
                  · have hge9 := ts_of c_182
                    refine m_aload_n (pc' := 186) C dX12_pairs_185 rfl 2 rfl rfl ?_
                    refine m_bipush (pc' := 188) (v := nI 32) C dX12_pairs_186 (by decide) rfl ?_
                    refine m_callVv (pc' := 191) (As := [.int (nI 32)]) (rest := []) C (kX12_put hI hn hn2 pro_57 pout_57 (x := 32) (by first | decide | omega)) (cwV 1 C.1.2.2.2.2 (goodV tm_5_239 tm_6_1 tp_57 tm_1_13 tm_6_2) rfl rfl rfl (by decide +kernel) ⟨by decide, by decide⟩) (by omega) pro_57 rfl rfl rfl (Nat.le_of_ble_eq_true rfl) dX12_pairs_188 rfl ⟨by decide, by decide⟩ (fun M63 q_63 => ?_)
                    obtain ⟨pro_63, pout_63, F_63⟩ := q_63
                    refine m_iinc (pc' := 194) (v := nI (k + 1)) (lv' := [(5, .int (nI (k + 1))), (7, .int (nI 0)), (6, .int (nI 0)), (0, .ref (ad 52)), (1, .int (nI c)), (2, .int (nI g0)), (3, .int (bI lg)), (4, .int (nI (f * c)))]) C dX12_pairs_191 (k := 7) rfl (nI_add _ _) (by decide) rfl rfl ?_
                    refine m_goto (tgt := 84) C dX12_pairs_194 (by decide) ?_
                    have ff0_64 : M56 100 = gh (.int (nI (prK x g))) := (F_56 100 (by decide)).trans j3
                    have ff0_65 : M57 100 = gh (.int (nI (prK x g))) := (F_57 100 (by decide)).trans ff0_64
                    have ff0_66 : M63 100 = gh (.int (nI (prK x g))) := (F_63 100 (by decide)).trans ff0_65
                    have xdg_67 := j6.fr F_56 (by decide)
                    have xdg_68 := xdg_67.fr F_57 (by decide)
                    have xdg_69 := xdg_68.fr F_63 (by decide)
                    refine m_lv [3, 4, 5, 6, 7, 0] rfl ?_
                    exact ih1 (k + 1, M63) (⟨by (try dsimp only); omega, ff0_66, by (try dsimp only); rw [rPairs_succ, if_neg (by omega), if_pos hge9]; simp only [List.append_assoc] at pout_63 ⊢; exact pout_63, ⟨_, xdg_69⟩, pro_63, (((j8.tr (F_56.sub (by decide))).tr (F_57.sub (by decide))).tr (F_63.sub (by decide)))⟩) (by simp only; omega)
                · exact absurd (by decide) c_155
              · exact absurd (by decide) c_133
            · exact absurd (by decide) c_111
          · have n_99 : ((f * c) + k) < B.length := Nat.lt_of_not_le (fun q => c_99 ((nI_leI (by omega) (by omega)).mpr q))
            refine m_iconst (pc' := 103) (v := nI 1) C dX12_pairs_102 (by decide) rfl ?_
            refine m_goto (tgt := 107) C dX12_pairs_103 (by decide) ?_
            refine m_istore (pc' := 109) (lv' := [(6, .int (nI 1)), (0, .ref (ad 52)), (1, .int (nI c)), (2, .int (nI g0)), (3, .int (bI lg)), (4, .int (nI (f * c))), (5, .int (nI k))]) C dX12_pairs_107 (by decide) rfl rfl ?_
            refine m_iload (pc' := 111) C dX12_pairs_109 0 rfl rfl ?_
            refine m_if_eq (pc' := 114) (tgt := 127) C dX12_pairs_111 (by decide) rfl (fun c_111 => ?_) (fun c_111 => ?_)
            · exact absurd c_111 (by decide)
            · refine m_aload_n (pc' := 115) C dX12_pairs_114 rfl 1 rfl rfl ?_
              refine r_get C hn j4 inW_X12 9 (by decide) ⟨rfl, rfl, rfl⟩ (gW_of tm_5_59) rfl dX12_pairs_115 rfl ?_
              refine m_iload (pc' := 120) C dX12_pairs_118 5 rfl rfl ?_
              refine m_iload (pc' := 122) C dX12_pairs_120 6 rfl rfl ?_
              refine m_iadd (pc' := 123) (v := nI ((f * c) + k)) C dX12_pairs_122 (nI_add _ _) rfl ?_
              have f58_70 : Mm 58 = .inl (cy 1, 256, .inl (fun i => nI (yg i))) := (j8 58 (by decide)).trans y4
              refine m_iald (pc' := 124) (v := nI (B.getD (f * c + k) 0)) C 58 (by omega) f58_70 (vp_in_nI (by omega) (by decide)) (by rw [nI_clamp (by omega), y5 _ n_99]) dX12_pairs_123 rfl ?_
              refine m_goto (tgt := 128) C dX12_pairs_124 (by decide) ?_
              refine m_istore (pc' := 130) (lv' := [(7, .int (nI (B.getD (f * c + k) 0))), (6, .int (nI 1)), (0, .ref (ad 52)), (1, .int (nI c)), (2, .int (nI g0)), (3, .int (bI lg)), (4, .int (nI (f * c))), (5, .int (nI k))]) C dX12_pairs_128 (by decide) rfl rfl ?_
              refine m_aload_n (pc' := 131) C dX12_pairs_130 rfl 2 rfl rfl ?_
              refine m_iload (pc' := 133) C dX12_pairs_131 1 rfl rfl ?_
              refine m_if_eq (pc' := 136) (tgt := 147) C dX12_pairs_133 (by decide) rfl (fun c_133 => ?_) (fun c_133 => ?_)
              · exact absurd c_133 (by decide)
              · refine m_iload (pc' := 138) C dX12_pairs_136 0 rfl rfl ?_
                refine m_iconst (pc' := 139) (v := nI 4) C dX12_pairs_138 (by decide) rfl ?_
                refine m_ishr (pc' := 140) (v := nI (B.getD (f * c + k) 0 / 16)) C dX12_pairs_139 (shr4 _ hb8) rfl ?_
                refine m_iload_n (pc' := 141) C dX12_pairs_140 rfl 5 rfl rfl ?_
                refine m_callSi (pc' := 144) (As := [.int (nI (B.getD (f * c + k) 0 / 16)), .int (bI lg)]) (rest := [.ref (ad 52)]) C (kX12_digit hI (d := B.getD (f * c + k) 0 / 16) (lg := lg) (by omega)) (cwS 2 C.1.2.2.2.2 (goodS tm_6_36 tm_6_37 tm_1_13 tm_6_38) rfl rfl rfl (by decide +kernel) ⟨by decide, by decide⟩) rfl rfl (Nat.le_of_ble_eq_true rfl) dX12_pairs_141 rfl ⟨by decide, by decide⟩ (fun x_71 N_71 q_71 => ?_)
                obtain ⟨e_71, E_71⟩ := q_71
                replace E_71 := E_71.symm
                subst E_71
                replace e_71 := e_71.symm
                subst e_71
                refine m_goto (tgt := 149) C dX12_pairs_144 (by decide) ?_
                refine m_callVv (pc' := 152) (As := [.int (nI (dch lg (B.getD (f * c + k) 0 / 16)))]) (rest := []) C (kX12_put hI hn hn2 j4 j5 (x := (dch lg (B.getD (f * c + k) 0 / 16))) (dch_lt (by omega))) (cwV 1 C.1.2.2.2.2 (goodV tm_5_239 tm_6_1 tp_57 tm_1_13 tm_6_2) rfl rfl rfl (by decide +kernel) ⟨by decide, by decide⟩) (by omega) j4 rfl rfl rfl (Nat.le_of_ble_eq_true rfl) dX12_pairs_149 rfl ⟨by decide, by decide⟩ (fun M72 q_72 => ?_)
                obtain ⟨pro_72, pout_72, F_72⟩ := q_72
                refine m_aload_n (pc' := 153) C dX12_pairs_152 rfl 2 rfl rfl ?_
                refine m_iload (pc' := 155) C dX12_pairs_153 1 rfl rfl ?_
                refine m_if_eq (pc' := 158) (tgt := 170) C dX12_pairs_155 (by decide) rfl (fun c_155 => ?_) (fun c_155 => ?_)
                · exact absurd c_155 (by decide)
                · refine m_iload (pc' := 160) C dX12_pairs_158 0 rfl rfl ?_
                  refine m_bipush (pc' := 162) (v := nI 15) C dX12_pairs_160 (by decide) rfl ?_
                  refine m_iand (pc' := 163) (v := nI (B.getD (f * c + k) 0 % 16)) C dX12_pairs_162 (and15 _ hb8) rfl ?_
                  refine m_iload_n (pc' := 164) C dX12_pairs_163 rfl 5 rfl rfl ?_
                  refine m_callSi (pc' := 167) (As := [.int (nI (B.getD (f * c + k) 0 % 16)), .int (bI lg)]) (rest := [.ref (ad 52)]) C (kX12_digit hI (d := B.getD (f * c + k) 0 % 16) (lg := lg) (by omega)) (cwS 2 C.1.2.2.2.2 (goodS tm_6_36 tm_6_37 tm_1_13 tm_6_38) rfl rfl rfl (by decide +kernel) ⟨by decide, by decide⟩) rfl rfl (Nat.le_of_ble_eq_true rfl) dX12_pairs_164 rfl ⟨by decide, by decide⟩ (fun x_73 N_73 q_73 => ?_)
                  obtain ⟨e_73, E_73⟩ := q_73
                  replace E_73 := E_73.symm
                  subst E_73
                  replace e_73 := e_73.symm
                  subst e_73
                  refine m_goto (tgt := 172) C dX12_pairs_167 (by decide) ?_
                  refine m_callVv (pc' := 175) (As := [.int (nI (dch lg (B.getD (f * c + k) 0 % 16)))]) (rest := []) C (kX12_put hI hn hn2 pro_72 pout_72 (x := (dch lg (B.getD (f * c + k) 0 % 16))) (dch_lt (by omega))) (cwV 1 C.1.2.2.2.2 (goodV tm_5_239 tm_6_1 tp_57 tm_1_13 tm_6_2) rfl rfl rfl (by decide +kernel) ⟨by decide, by decide⟩) (by omega) pro_72 rfl rfl rfl (Nat.le_of_ble_eq_true rfl) dX12_pairs_172 rfl ⟨by decide, by decide⟩ (fun M74 q_74 => ?_)
                  obtain ⟨pro_74, pout_74, F_74⟩ := q_74
                  refine m_iload (pc' := 177) C dX12_pairs_175 7 rfl rfl ?_
                  refine m_iload_n (pc' := 178) C dX12_pairs_177 rfl 3 rfl rfl ?_
                  refine m_iload_n (pc' := 179) C dX12_pairs_178 rfl 4 rfl rfl ?_
                  refine m_callSi (pc' := 182) (As := [.int (nI k), .int (nI c), .int (nI g0)]) (rest := []) C (kX12_isGroupEnd hI (k := k) (c := c) (g0 := g0) (by omega) hc32 hg32) (cwS 3 C.1.2.2.2.2 (goodS tm_6_114 tm_6_115 tm_1_13 tm_6_116) rfl rfl rfl (by decide +kernel) ⟨by decide, by decide⟩) rfl rfl (Nat.le_of_ble_eq_true rfl) dX12_pairs_179 rfl ⟨by decide, by decide⟩ (fun x_75 N_75 q_75 => ?_)
                  obtain ⟨e_75, E_75⟩ := q_75
                  replace E_75 := E_75.symm
                  subst E_75
                  replace e_75 := e_75.symm
                  subst e_75
                  refine m_if_eq (pc' := 185) (tgt := 191) C dX12_pairs_182 (by decide) rfl (fun c_182 => ?_) (fun c_182 => ?_)
                  · have hge9 := (bI_0 _).mp c_182
                    refine m_iinc (pc' := 194) (v := nI (k + 1)) (lv' := [(5, .int (nI (k + 1))), (7, .int (nI (B.getD (f * c + k) 0))), (6, .int (nI 1)), (0, .ref (ad 52)), (1, .int (nI c)), (2, .int (nI g0)), (3, .int (bI lg)), (4, .int (nI (f * c)))]) C dX12_pairs_191 (k := 7) rfl (nI_add _ _) (by decide) rfl rfl ?_
                    refine m_goto (tgt := 84) C dX12_pairs_194 (by decide) ?_
                    have ff0_76 : M72 100 = gh (.int (nI (prK x g))) := (F_72 100 (by decide)).trans j3
                    have ff0_77 : M74 100 = gh (.int (nI (prK x g))) := (F_74 100 (by decide)).trans ff0_76
                    have xdg_78 := j6.fr F_72 (by decide)
                    have xdg_79 := xdg_78.fr F_74 (by decide)
                    refine m_lv [3, 4, 5, 6, 7, 0] rfl ?_
                    exact ih1 (k + 1, M74) (⟨by (try dsimp only); omega, ff0_77, by (try dsimp only); rw [rPairs_succ, if_pos n_99, num2 lg _ hb8, if_neg (by rw [hge9]; decide)]; simp only [List.append_assoc] at pout_74 ⊢; exact pout_74, ⟨_, xdg_79⟩, pro_74, ((j8.tr (F_72.sub (by decide))).tr (F_74.sub (by decide)))⟩) (by simp only; omega)
                  · have hge9 := ts_of c_182
                    refine m_aload_n (pc' := 186) C dX12_pairs_185 rfl 2 rfl rfl ?_
                    refine m_bipush (pc' := 188) (v := nI 32) C dX12_pairs_186 (by decide) rfl ?_
                    refine m_callVv (pc' := 191) (As := [.int (nI 32)]) (rest := []) C (kX12_put hI hn hn2 pro_74 pout_74 (x := 32) (by first | decide | omega)) (cwV 1 C.1.2.2.2.2 (goodV tm_5_239 tm_6_1 tp_57 tm_1_13 tm_6_2) rfl rfl rfl (by decide +kernel) ⟨by decide, by decide⟩) (by omega) pro_74 rfl rfl rfl (Nat.le_of_ble_eq_true rfl) dX12_pairs_188 rfl ⟨by decide, by decide⟩ (fun M80 q_80 => ?_)
                    obtain ⟨pro_80, pout_80, F_80⟩ := q_80
                    refine m_iinc (pc' := 194) (v := nI (k + 1)) (lv' := [(5, .int (nI (k + 1))), (7, .int (nI (B.getD (f * c + k) 0))), (6, .int (nI 1)), (0, .ref (ad 52)), (1, .int (nI c)), (2, .int (nI g0)), (3, .int (bI lg)), (4, .int (nI (f * c)))]) C dX12_pairs_191 (k := 7) rfl (nI_add _ _) (by decide) rfl rfl ?_
                    refine m_goto (tgt := 84) C dX12_pairs_194 (by decide) ?_
                    have ff0_81 : M72 100 = gh (.int (nI (prK x g))) := (F_72 100 (by decide)).trans j3
                    have ff0_82 : M74 100 = gh (.int (nI (prK x g))) := (F_74 100 (by decide)).trans ff0_81
                    have ff0_83 : M80 100 = gh (.int (nI (prK x g))) := (F_80 100 (by decide)).trans ff0_82
                    have xdg_84 := j6.fr F_72 (by decide)
                    have xdg_85 := xdg_84.fr F_74 (by decide)
                    have xdg_86 := xdg_85.fr F_80 (by decide)
                    refine m_lv [3, 4, 5, 6, 7, 0] rfl ?_
                    exact ih1 (k + 1, M80) (⟨by (try dsimp only); omega, ff0_83, by (try dsimp only); rw [rPairs_succ, if_pos n_99, num2 lg _ hb8, if_pos hge9]; simp only [List.append_assoc] at pout_80 ⊢; exact pout_80, ⟨_, xdg_86⟩, pro_80, (((j8.tr (F_72.sub (by decide))).tr (F_74.sub (by decide))).tr (F_80.sub (by decide)))⟩) (by simp only; omega)
    · have hK : ¬ prK x g = 0 := by have := of_decide_eq_true (ts_of c_28); omega
      refine m_iconst (pc' := 32) (v := nI 0) C dX12_pairs_31 (by decide) rfl ?_
      refine m_iret C hrt0 hlk0 rfl dX12_pairs_32 ?_
      have xln_87 := hln.fr F_1 (by decide)
      have xra_88 := hra.fr F_1 (by decide)
      have xoutR_89 := hout.fr F_1 (by decide)
      have xby_90 := hby.fr F_1 (by decide)
      have ff14_91 : M1 114 = gh (.int (fp)) := (F_1 114 (by decide)).trans h14
      have ff15_92 : M1 115 = gh (.int (ot)) := (F_1 115 (by decide)).trans h15
      have xrw_93 := hrw.fr F_1 (by decide)
      have xdg_94 := hdg.fr F_1 (by decide)
      have f62_95 : M1 62 = .inl (cy 1, 2000, .inl (fun i => nI (gf i))) := (F_1 62 (by decide)).trans hfd
      simp only [sel1 hK]
      exact ⟨(fun q => absurd q hK), pf0_1, ⟨pro_1, xln_87, xra_88, xoutR_89, xby_90, ff14_91, ff15_92, ⟨_, xrw_93⟩, ⟨_, xdg_94⟩, ⟨_, f62_95⟩⟩, (F_1.sub (by decide))⟩
  refine m_iload_n (pc' := 2) C dX12_pairs_1 rfl 1 rfl rfl ?_
  refine m_iconst (pc' := 3) (v := nI 1) C dX12_pairs_2 (by decide) rfl ?_
  refine m_bipush (pc' := 5) (v := nI 32) C dX12_pairs_3 (by decide) rfl ?_
  refine m_callSi (pc' := 8) (As := [.int (x), .int (nI 1), .int (nI 32)]) (rest := [.ref (ad 52)]) C (kX12_isIn hI x (nI 1) (nI 32)) (cwS 3 C.1.2.2.2.2 (goodS tm_5_198 tm_5_199 tm_1_13 tm_5_200) rfl rfl rfl (by decide +kernel) ⟨by decide, by decide⟩) rfl rfl (Nat.le_of_ble_eq_true rfl) dX12_pairs_5 rfl ⟨by decide, by decide⟩ (fun x_96 N_96 q_96 => ?_)
  obtain ⟨e_96, E_96⟩ := q_96
  replace E_96 := E_96.symm
  subst E_96
  replace e_96 := e_96.symm
  subst e_96
  refine m_if_eq (pc' := 11) (tgt := 24) C dX12_pairs_8 (by decide) rfl (fun c_8 => ?_) (fun c_8 => ?_)
  · have hz : shOk x g = false := decide_eq_false (fun q => of_decide_eq_false ((bI_0 _).mp c_8) ⟨q.1, q.2.1⟩)
    refine m_iconst (pc' := 25) (v := nI 1) C dX12_pairs_24 (by decide) rfl ?_
    refine m_lv [0, 1, 2, 3] rfl ?_
    exact J25 (nI 1) (by unfold prK; rw [if_neg (by rw [hz]; decide)])
  · have hx12 := of_decide_eq_true (ts_of c_8)
    refine m_iload_n (pc' := 12) C dX12_pairs_11 rfl 2 rfl rfl ?_
    refine m_iconst (pc' := 13) (v := 0) C dX12_pairs_12 (by decide) rfl ?_
    refine m_iload_n (pc' := 14) C dX12_pairs_13 rfl 1 rfl rfl ?_
    refine m_callSi (pc' := 17) (As := [.int (g), .int (0), .int (x)]) (rest := [.ref (ad 52)]) C (kX12_isIn hI g 0 x) (cwS 3 C.1.2.2.2.2 (goodS tm_5_198 tm_5_199 tm_1_13 tm_5_200) rfl rfl rfl (by decide +kernel) ⟨by decide, by decide⟩) rfl rfl (Nat.le_of_ble_eq_true rfl) dX12_pairs_14 rfl ⟨by decide, by decide⟩ (fun x_97 N_97 q_97 => ?_)
    obtain ⟨e_97, E_97⟩ := q_97
    replace E_97 := E_97.symm
    subst E_97
    replace e_97 := e_97.symm
    subst e_97
    refine m_if_eq (pc' := 20) (tgt := 24) C dX12_pairs_17 (by decide) rfl (fun c_17 => ?_) (fun c_17 => ?_)
    · have hz : shOk x g = false := decide_eq_false (fun q => of_decide_eq_false ((bI_0 _).mp c_17) ⟨q.2.2.1, q.2.2.2⟩)
      refine m_iconst (pc' := 25) (v := nI 1) C dX12_pairs_24 (by decide) rfl ?_
      refine m_lv [0, 1, 2, 3] rfl ?_
      exact J25 (nI 1) (by unfold prK; rw [if_neg (by rw [hz]; decide)])
    · have hg12 := of_decide_eq_true (ts_of c_17)
      have hz : shOk x g = true := decide_eq_true ⟨hx12.1, hx12.2, hg12.1, hg12.2⟩
      refine m_iconst (pc' := 21) (v := nI 0) C dX12_pairs_20 (by decide) rfl ?_
      refine m_goto (tgt := 25) C dX12_pairs_21 (by decide) ?_
      refine m_lv [0, 1, 2, 3] rfl ?_
      exact J25 (nI 0) (by unfold prK; rw [if_pos hz])
