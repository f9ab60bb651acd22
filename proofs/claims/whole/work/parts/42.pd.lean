set_option maxHeartbeats 4000000 in
set_option maxRecDepth 100000 in
theorem kX6_writeDigits {l : Launch} {D : va_G} {cy : Nat → ClassId} {ad : Nat → Nat} {n : Nat} {A : Nat → Prop} (hI : mI ad n A) {M : Nat → va_E} (hn : 52 ≤ n) (hd6 : M 46 = pdO ad) {ds : List Nat} {lg : Bool} (hf : isFig cy ad n M 1 2 ds lg) {lim : Nat} {O : List Nat} (hg : isRow cy ad n M 5 6 2000 lim O) {v m : Nat} (lg2 : Bool) (hv : v < 2 ^ 29) (hm : m < 2 ^ 29) : mMv l yX6_writeDigits (gW yX6_writeDigits cX6_writeDigits 4 none) { frames := 2, cells := 0, slots := 0, locals := 53 } D cy ad n A [.ref (ad 46), .int (nI v), .int (nI m), .int (bI lg2)] M (fun M' => isRow cy ad n M' 5 6 2000 lim (O ++ numS lg2 (dg 16 v) m) ∧ (∃ (ds2 : List Nat) (lg2 : Bool), isFig cy ad n M' 1 2 ds2 lg2) ∧ Fr [1, 2, 5, 6] M M') := by
  refine m_entry (cc := cX6_writeDigits) (maxL := 4) (ret := none) (own := RX6) (lv := [(0, .ref (ad 46)), (1, .int (nI v)), (2, .int (nI m)), (3, .int (bI lg2))]) hI (by decide) rfl rfl (Nat.le_of_ble_eq_true rfl) rfl (fun pX eX sX mX aX bX tX cX C hrt0 hlk0 => ?_)
  refine m_aload_n (pc' := 1) C dX6_writeDigits_0 rfl 0 rfl rfl ?_
  refine m_get (pc' := 4) C 46 (by omega) hd6 rfl inW_X6 2 (by decide) (gW_of tm_2_27) rfl rfl dX6_writeDigits_1 rfl ?_
  refine m_iload_n (pc' := 5) C dX6_writeDigits_4 rfl 1 rfl rfl ?_
  refine m_i2l (pc' := 6) (v := lN v) C dX6_writeDigits_5 (nI_l (by omega)) rfl ?_
  refine m_bipush (pc' := 8) (v := nI 16) C dX6_writeDigits_6 (by decide) rfl ?_
  refine m_iload_n (pc' := 9) C dX6_writeDigits_8 rfl 3 rfl rfl ?_
  refine m_callVv (pc' := 12) (As := [.long (lN v), .int (nI 16), .int (bI lg2)]) (rest := []) C (kX4_take hI hf (v := v) (b := 16) lg2 (by omega) (Or.inr (Or.inr rfl))) (cwV 3 C.1.2.2.2.2 (goodV tm_4_184 tm_3_61 tm_3_62 tm_1_2 tm_3_63) rfl rfl rfl (by decide +kernel) ⟨by decide, by decide⟩) hf.1 hf.ob rfl rfl rfl (Nat.le_of_ble_eq_true rfl) dX6_writeDigits_9 rfl ⟨by decide, by decide⟩ (fun M1 q_1 => ?_)
  obtain ⟨G_1, F_1⟩ := q_1
  refine m_aload_n (pc' := 13) C dX6_writeDigits_12 rfl 0 rfl rfl ?_
  have f46_2 : M1 46 = .inr (6, [.ref (ad 5), .ref (ad 7), .ref (ad 1)]) := (F_1 46 (by decide)).trans hd6
  refine m_get (pc' := 16) C 46 (by omega) f46_2 rfl inW_X6 2 (by decide) (gW_of tm_2_27) rfl rfl dX6_writeDigits_13 rfl ?_
  refine m_aload_n (pc' := 17) C dX6_writeDigits_16 rfl 0 rfl rfl ?_
  refine m_get (pc' := 20) C 46 (by omega) f46_2 rfl inW_X6 0 (by decide) (gW_of tm_2_25) rfl rfl dX6_writeDigits_17 rfl ?_
  refine m_iload_n (pc' := 21) C dX6_writeDigits_20 rfl 2 rfl rfl ?_
  have R5_4 := hg.fr F_1 (by decide) (by decide)
  refine m_callVv (pc' := 24) (As := [.ref (ad 5), .int (nI m)]) (rest := []) C (kX4_writeTo hI G_1 R5_4 (by decide) (m := m) (by omega)) (cwV 2 C.1.2.2.2.2 (goodV tm_4_185 tm_3_68 tm_3_69 tm_1_2 tm_3_70) rfl rfl rfl (by decide +kernel) ⟨by decide, by decide⟩) G_1.1 G_1.ob rfl rfl rfl (Nat.le_of_ble_eq_true rfl) dX6_writeDigits_21 rfl ⟨by decide, by decide⟩ (fun M3 q_3 => ?_)
  obtain ⟨R_3, F_3⟩ := q_3
  refine m_vret C hrt0 hlk0 dX6_writeDigits_24 ?_
  have G_5 := G_1.fr F_3 (by decide) (by decide)
  exact ⟨R_3, ⟨_, _, G_5⟩, ((F_1.sub (by decide)).tr (F_3.sub (by decide)))⟩
set_option maxHeartbeats 4000000 in
set_option maxRecDepth 100000 in
theorem kX6_dump {l : Launch} {D : va_G} {cy : Nat → ClassId} {ad : Nat → Nat} {n : Nat} {A : Nat → Prop} (hI : mI ad n A) {M : Nat → va_E} (hn : 52 ≤ n) (hd6 : M 46 = pdO ad) {ds : List Nat} {lg : Bool} (hf : isFig cy ad n M 1 2 ds lg) {lim : Nat} {O : List Nat} (hg : isRow cy ad n M 5 6 2000 lim O) {B : List Nat} (hb : isRow cy ad n M 7 8 256 256 B) (hB : B.length ≤ 256) {c g : Nat} (lg2 : Bool) (hc1 : 1 ≤ c) (hc32 : c ≤ 32) (hg1 : 0 < g) (hg32 : g ≤ 32) : mMv l yX6_dump (gW yX6_dump cX6_dump 9 none) { frames := 3, cells := 0, slots := 0, locals := 76 } D cy ad n A [.ref (ad 46), .int (nI c), .int (nI g), .int (bI lg2)] M (fun M' => isRow cy ad n M' 5 6 2000 lim (O ++ pDump B c g lg2) ∧ (∃ (ds2 : List Nat) (lg2 : Bool), isFig cy ad n M' 1 2 ds2 lg2) ∧ M' 46 = pdO ad ∧ isRow cy ad n M' 7 8 256 256 B ∧ Fr [1, 2, 5, 6] M M') := by
  have h256 : ∀ x ∈ B, x < 256 := hb.2.2.2.2.1
  refine m_entry (cc := cX6_dump) (maxL := 9) (ret := none) (own := RX6) (lv := [(0, .ref (ad 46)), (1, .int (nI c)), (2, .int (nI g)), (3, .int (bI lg2))]) hI (by decide) rfl rfl (Nat.le_of_ble_eq_true rfl) rfl (fun pX eX sX mX aX bX tX cX C hrt0 hlk0 => ?_)
  refine m_iload_n (pc' := 1) C dX6_dump_0 rfl 1 rfl rfl ?_
  refine m_iload_n (pc' := 2) C dX6_dump_1 rfl 2 rfl rfl ?_
  refine m_callNi (pc' := 5) (As := [.int (nI c), .int (nI g)]) (rest := []) C (kX11_pairsWidth hI (q := c) (g := g) (by omega) (by omega) hg1) ⟨va_cnB 2 C.1.2.2.2.2 (goodN tm_4_173) rfl rfl rfl (C.2.1.2 (RX6, 22, yX11_pairsWidth) (List.mem_of_getElem? (i := 4) rfl)) (C.1.2.2.2.2 _ (gW_of tm_1_1)) (by decide +kernel) ⟨by decide, by decide⟩, C.1.2.2.2.2 _ (gW_of tm_4_172), trivial⟩ rfl rfl (Nat.le_of_ble_eq_true rfl) dX6_dump_2 rfl ⟨by decide, by decide⟩ (fun x_1 N_1 q_1 => ?_)
  obtain ⟨e_1, E_1⟩ := q_1
  replace E_1 := E_1.symm
  subst E_1
  replace e_1 := e_1.symm
  subst e_1
  refine m_istore (pc' := 7) (lv' := [(4, .int (nI (pwN c g))), (0, .ref (ad 46)), (1, .int (nI c)), (2, .int (nI g)), (3, .int (bI lg2))]) C dX6_dump_5 (by decide) rfl rfl ?_
  refine m_iconst (pc' := 8) (v := nI 1) C dX6_dump_7 (by decide) rfl ?_
  refine m_iload_n (pc' := 9) C dX6_dump_8 rfl 2 rfl rfl ?_
  refine m_mmax (pc' := 12) (v := nI c) C (gW_of tm_4_177) (gW_of tm_3_65) (gW_of tm_1_19) (gW_of tm_3_66) (by decide) (Nat.le_of_ble_eq_true rfl) ⟨by decide, by decide⟩ (by rw [max_nI (by decide) (by omega), Nat.max_eq_right hc1]) dX6_dump_9 rfl ?_
  refine m_istore (pc' := 14) (lv' := [(5, .int (nI c)), (4, .int (nI (pwN c g))), (0, .ref (ad 46)), (1, .int (nI c)), (2, .int (nI g)), (3, .int (bI lg2))]) C dX6_dump_12 (by decide) rfl rfl ?_
  refine m_iconst (pc' := 15) (v := nI 0) C dX6_dump_14 (by decide) rfl ?_
  refine m_istore (pc' := 17) (lv' := [(6, .int (nI 0)), (5, .int (nI c)), (4, .int (nI (pwN c g))), (0, .ref (ad 46)), (1, .int (nI c)), (2, .int (nI g)), (3, .int (bI lg2))]) C dX6_dump_15 (by decide) rfl rfl ?_
  refine m_lv [3, 4, 5, 6, 2, 1, 0] rfl ?_
  refine m_loop (σ := Nat × Nat × List Nat × (Nat → va_E)) (fun a => a.2.2.2) (fun a => [(0, .ref (ad 46)), (1, .int (nI c)), (2, .int (nI g)), (3, .int (bI lg2)), (4, .int (nI (pwN c g))), (5, .int (nI c)), (6, .int (nI a.2.1))]) (fun a => pLines B c g lg2 257 0 = a.2.2.1 ++ pLines B c g lg2 (257 - a.1) a.2.1 ∧ (a.1 ≤ a.2.1 ∧ a.2.1 ≤ B.length + 32) ∧ isRow cy ad n a.2.2.2 5 6 2000 lim (O ++ a.2.2.1) ∧ (∃ (ds2 : List Nat) (lg2 : Bool), isFig cy ad n a.2.2.2 1 2 ds2 lg2) ∧ a.2.2.2 46 = pdO ad ∧ isRow cy ad n a.2.2.2 7 8 256 256 B ∧ Fr [1, 2, 5, 6] M a.2.2.2) (fun a => 600 - a.2.1) (0, 0, [], M) (⟨rfl, ⟨Nat.le_refl _, Nat.zero_le _⟩, ⟨by rw [List.append_nil]; exact hg, ⟨_, _, hf⟩, hd6, hb, Fr.rf⟩⟩) ?_
  rintro ⟨k0, s, R, Mk⟩ hinv ih0
  dsimp only at hinv ih0 ⊢
  obtain ⟨i1, ⟨i2, i3⟩, hz6⟩ := hinv
  obtain ⟨l1, ⟨ds_l, lg_l, l2⟩, l3, l4, l5⟩ := hz6
  refine m_iload (pc' := 19) C dX6_dump_17 6 rfl rfl ?_
  refine m_aload_n (pc' := 20) C dX6_dump_19 rfl 0 rfl rfl ?_
  refine m_get (pc' := 23) C 46 (by omega) l3 rfl inW_X6 1 (by decide) (gW_of tm_2_26) rfl rfl dX6_dump_20 rfl ?_
  refine m_callVi (pc' := 26) (As := []) (rest := [.int (nI s)]) C (kX9_size hI l4) (cwV 0 C.1.2.2.2.2 (goodV tm_4_178 tm_2_95 tm_2_96 tm_1_3 tm_2_97) rfl rfl rfl (by decide +kernel) ⟨by decide, by decide⟩) l4.1 l4.ob rfl rfl rfl (Nat.le_of_ble_eq_true rfl) dX6_dump_23 rfl ⟨by decide, by decide⟩ (fun x_2 N_2 q_2 => ?_)
  obtain ⟨e_2, E_2⟩ := q_2
  replace E_2 := E_2.symm
  subst E_2
  replace e_2 : x_2 = nI B.length := e_2.trans (by rw [Nat.min_eq_left hB])
  replace e_2 := e_2.symm
  subst e_2
  refine m_icmp_ge (pc' := 29) (tgt := 204) C dX6_dump_26 (by decide) rfl (fun c_26 => ?_) (fun c_26 => ?_)
  · have n_26 : B.length ≤ s := (nI_leI (by omega) (by omega)).mp c_26
    have hfin : pLines B c g lg2 257 0 = R := by
      rw [i1]
      have h0 : pLines B c g lg2 (257 - k0) s = [] := by cases 257 - k0 with | zero => rfl | succ f => rw [pLines, if_pos n_26]
      rw [h0, List.append_nil]
    refine m_vret C hrt0 hlk0 dX6_dump_204 ?_
    unfold pDump
    rw [hfin]
    exact ⟨l1, ⟨_, _, l2⟩, l3, l4, l5⟩
  · have n_26 : s < B.length := Nat.lt_of_not_le (fun q => c_26 ((nI_leI (by omega) (by omega)).mpr q))
    refine m_iload (pc' := 31) C dX6_dump_29 5 rfl rfl ?_
    refine m_aload_n (pc' := 32) C dX6_dump_31 rfl 0 rfl rfl ?_
    refine m_get (pc' := 35) C 46 (by omega) l3 rfl inW_X6 1 (by decide) (gW_of tm_2_26) rfl rfl dX6_dump_32 rfl ?_
    refine m_callVi (pc' := 38) (As := []) (rest := [.int (nI c)]) C (kX9_size hI l4) (cwV 0 C.1.2.2.2.2 (goodV tm_4_178 tm_2_95 tm_2_96 tm_1_3 tm_2_97) rfl rfl rfl (by decide +kernel) ⟨by decide, by decide⟩) l4.1 l4.ob rfl rfl rfl (Nat.le_of_ble_eq_true rfl) dX6_dump_35 rfl ⟨by decide, by decide⟩ (fun x_3 N_3 q_3 => ?_)
    obtain ⟨e_3, E_3⟩ := q_3
    replace E_3 := E_3.symm
    subst E_3
    replace e_3 : x_3 = nI B.length := e_3.trans (by rw [Nat.min_eq_left hB])
    replace e_3 := e_3.symm
    subst e_3
    refine m_iload (pc' := 40) C dX6_dump_38 6 rfl rfl ?_
    refine m_isub (pc' := 41) (v := nI (B.length - s)) C dX6_dump_40 (pk_sub (by omega)) rfl ?_
    obtain ⟨mn, hmn⟩ : ∃ mn, mn = min c (B.length - s) := ⟨_, rfl⟩
    have hpl : O ++ R ++ pLine B c g lg2 s = O ++ R ++ numS lg2 (dg 16 s) 8 ++ [58] ++ [32] ++ pPairs B lg2 mn g s mn ++ List.replicate (pwN c g + 1 - pwN mn g) 32 ++ sChars B s mn ++ [10] := by unfold pLine; rw [← hmn]; simp only [List.append_assoc]
    refine m_mmin (pc' := 44) (v := nI mn) C (gW_of tm_4_179) (gW_of tm_3_85) (gW_of tm_1_19) (gW_of tm_3_86) (by decide) (Nat.le_of_ble_eq_true rfl) ⟨by decide, by decide⟩ (by rw [min_nI (by omega) (by omega), hmn]) dX6_dump_41 rfl ?_
    refine m_istore (pc' := 46) (lv' := [(7, .int (nI mn)), (0, .ref (ad 46)), (1, .int (nI c)), (2, .int (nI g)), (3, .int (bI lg2)), (4, .int (nI (pwN c g))), (5, .int (nI c)), (6, .int (nI s))]) C dX6_dump_44 (by decide) rfl rfl ?_
    refine m_aload_n (pc' := 47) C dX6_dump_46 rfl 1 rfl rfl ?_
    refine m_iload (pc' := 49) C dX6_dump_47 7 rfl rfl ?_
    refine m_bipush (pc' := 51) (v := nI 8) C dX6_dump_49 (by decide) rfl ?_
    refine m_iload_n (pc' := 52) C dX6_dump_51 rfl 4 rfl rfl ?_
    refine m_callVv (pc' := 55) (As := [.int (nI s), .int (nI 8), .int (bI lg2)]) (rest := []) C (kX6_writeDigits hI hn l3 l2 l1 (v := s) (m := 8) lg2 (by omega) (by omega)) (cwV 3 C.1.2.2.2.2 (goodV tm_4_180 tm_4_182 tp_40 tm_1_11 tm_4_183) rfl rfl rfl (by decide +kernel) ⟨by decide, by decide⟩) (by omega) l3 rfl rfl rfl (Nat.le_of_ble_eq_true rfl) dX6_dump_52 rfl ⟨by decide, by decide⟩ (fun M4 q_4 => ?_)
    obtain ⟨R_4, ⟨ds_4, lg_4, G_4⟩, F_4⟩ := q_4
    refine m_aload_n (pc' := 56) C dX6_dump_55 rfl 1 rfl rfl ?_
    have f46_5 : M4 46 = .inr (6, [.ref (ad 5), .ref (ad 7), .ref (ad 1)]) := (F_4 46 (by decide)).trans l3
    refine m_get (pc' := 59) C 46 (by omega) f46_5 rfl inW_X6 0 (by decide) (gW_of tm_2_25) rfl rfl dX6_dump_56 rfl ?_
    refine m_bipush (pc' := 61) (v := nI 58) C dX6_dump_59 (by decide) rfl ?_
    refine m_callVv (pc' := 64) (As := [.int (nI 58)]) (rest := []) C (kX9_add hI R_4 (nI 58)) (cwV 1 C.1.2.2.2.2 (goodV tm_4_186 tm_2_211 tm_2_212 tm_1_3 tm_2_213) rfl rfl rfl (by decide +kernel) ⟨by decide, by decide⟩) R_4.1 R_4.ob rfl rfl rfl (Nat.le_of_ble_eq_true rfl) dX6_dump_61 rfl ⟨by decide, by decide⟩ (fun M6 q_6 => ?_)
    obtain ⟨R_6, F_6⟩ := q_6
    rw [show lowb (nI 58) = 58 by decide] at R_6
    refine m_aload_n (pc' := 65) C dX6_dump_64 rfl 1 rfl rfl ?_
    have f46_7 : M6 46 = .inr (6, [.ref (ad 5), .ref (ad 7), .ref (ad 1)]) := (F_6 46 (by decide)).trans f46_5
    refine m_get (pc' := 68) C 46 (by omega) f46_7 rfl inW_X6 0 (by decide) (gW_of tm_2_25) rfl rfl dX6_dump_65 rfl ?_
    refine m_bipush (pc' := 70) (v := nI 32) C dX6_dump_68 (by decide) rfl ?_
    refine m_callVv (pc' := 73) (As := [.int (nI 32)]) (rest := []) C (kX9_add hI R_6 (nI 32)) (cwV 1 C.1.2.2.2.2 (goodV tm_4_186 tm_2_211 tm_2_212 tm_1_3 tm_2_213) rfl rfl rfl (by decide +kernel) ⟨by decide, by decide⟩) R_6.1 R_6.ob rfl rfl rfl (Nat.le_of_ble_eq_true rfl) dX6_dump_70 rfl ⟨by decide, by decide⟩ (fun M8 q_8 => ?_)
    obtain ⟨R_8, F_8⟩ := q_8
    rw [show lowb (nI 32) = 32 by decide] at R_8
    refine m_iconst (pc' := 74) (v := nI 0) C dX6_dump_73 (by decide) rfl ?_
    refine m_istore (pc' := 76) (lv' := [(8, .int (nI 0)), (7, .int (nI mn)), (0, .ref (ad 46)), (1, .int (nI c)), (2, .int (nI g)), (3, .int (bI lg2)), (4, .int (nI (pwN c g))), (5, .int (nI c)), (6, .int (nI s))]) C dX6_dump_74 (by decide) rfl rfl ?_
    obtain ⟨Q1, hQ1⟩ : ∃ Q1, Q1 = O ++ R ++ numS lg2 (dg 16 s) 8 ++ [58] ++ [32] := ⟨_, rfl⟩
    refine m_lv [2, 3, 4, 5, 6, 7, 8, 1, 0] rfl ?_
    have G_9 := G_4.fr F_6 (by decide) (by decide)
    have G_10 := G_9.fr F_8 (by decide) (by decide)
    have f46_11 : M8 46 = .inr (6, [.ref (ad 5), .ref (ad 7), .ref (ad 1)]) := (F_8 46 (by decide)).trans f46_7
    have R7_12 := l4.fr F_4 (by decide) (by decide)
    have R7_13 := R7_12.fr F_6 (by decide) (by decide)
    have R7_14 := R7_13.fr F_8 (by decide) (by decide)
    refine m_loop (σ := Nat × (Nat → va_E)) (fun a => a.2) (fun a => [(0, .ref (ad 46)), (1, .int (nI c)), (2, .int (nI g)), (3, .int (bI lg2)), (4, .int (nI (pwN c g))), (5, .int (nI c)), (6, .int (nI s)), (7, .int (nI mn)), (8, .int (nI a.1))]) (fun a => a.1 ≤ mn ∧ isRow cy ad n a.2 5 6 2000 lim (Q1 ++ pPairs B lg2 mn g s a.1) ∧ (∃ (ds2 : List Nat) (lg2 : Bool), isFig cy ad n a.2 1 2 ds2 lg2) ∧ a.2 46 = pdO ad ∧ isRow cy ad n a.2 7 8 256 256 B ∧ Fr [1, 2, 5, 6] M a.2) (fun a => mn - a.1) (0, M8) (⟨Nat.zero_le _, ⟨by rw [hQ1, show pPairs B lg2 mn g s 0 = [] from rfl, List.append_nil]; exact R_8, ⟨_, _, G_10⟩, f46_11, R7_14, (((l5.tr (F_4.sub (by decide))).tr (F_6.sub (by decide))).tr (F_8.sub (by decide)))⟩⟩) ?_
    rintro ⟨k, Mm⟩ hinv ih1
    dsimp only at hinv ih1 ⊢
    obtain ⟨hk7, hz6⟩ := hinv
    obtain ⟨v1, ⟨ds_v, lg_v, v2⟩, v3, v4, v5⟩ := hz6
    refine m_iload (pc' := 78) C dX6_dump_76 8 rfl rfl ?_
    refine m_iload (pc' := 80) C dX6_dump_78 7 rfl rfl ?_
    refine m_icmp_ge (pc' := 83) (tgt := 127) C dX6_dump_80 (by decide) rfl (fun c_80 => ?_) (fun c_80 => ?_)
    · have n_80 : mn ≤ k := (nI_leI (by omega) (by omega)).mp c_80
      have hkm : k = mn := by omega
      rw [hkm] at v1
      refine m_aload_n (pc' := 128) C dX6_dump_127 rfl 0 rfl rfl ?_
      refine m_get (pc' := 131) C 46 (by omega) v3 rfl inW_X6 0 (by decide) (gW_of tm_2_25) rfl rfl dX6_dump_128 rfl ?_
      refine m_bipush (pc' := 133) (v := nI 32) C dX6_dump_131 (by decide) rfl ?_
      refine m_iload (pc' := 135) C dX6_dump_133 4 rfl rfl ?_
      refine m_iload (pc' := 137) C dX6_dump_135 7 rfl rfl ?_
      refine m_iload_n (pc' := 138) C dX6_dump_137 rfl 2 rfl rfl ?_
      refine m_callNi (pc' := 141) (As := [.int (nI mn), .int (nI g)]) (rest := [.int (nI (pwN c g)), .int (nI 32), .ref (ad 5)]) C (kX11_pairsWidth hI (q := mn) (g := g) (by omega) (by omega) hg1) ⟨va_cnB 2 C.1.2.2.2.2 (goodN tm_4_173) rfl rfl rfl (C.2.1.2 (RX6, 22, yX11_pairsWidth) (List.mem_of_getElem? (i := 4) rfl)) (C.1.2.2.2.2 _ (gW_of tm_1_1)) (by decide +kernel) ⟨by decide, by decide⟩, C.1.2.2.2.2 _ (gW_of tm_4_172), trivial⟩ rfl rfl (Nat.le_of_ble_eq_true rfl) dX6_dump_138 rfl ⟨by decide, by decide⟩ (fun x_15 N_15 q_15 => ?_)
      obtain ⟨e_15, E_15⟩ := q_15
      replace E_15 := E_15.symm
      subst E_15
      replace e_15 := e_15.symm
      subst e_15
      refine m_isub (pc' := 142) (v := (nI (pwN c g)) - (nI (pwN mn g))) C dX6_dump_141 rfl rfl ?_
      refine m_iconst (pc' := 143) (v := nI 1) C dX6_dump_142 (by decide) rfl ?_
      refine m_iadd (pc' := 144) (v := nI (pwN c g) - nI (pwN mn g) + nI 1) C dX6_dump_143 rfl rfl ?_
      refine m_callVv (pc' := 147) (As := [.int (nI 32), .int (nI (pwN c g) - nI (pwN mn g) + nI 1)]) (rest := []) C (kX9_addMany hI v1 (nI 32) (nI (pwN c g) - nI (pwN mn g) + nI 1)) (cwV 2 C.1.2.2.2.2 (goodV tm_4_189 tm_3_41 tm_3_42 tm_1_3 tm_3_43) rfl rfl rfl (by decide +kernel) ⟨by decide, by decide⟩) v1.1 v1.ob rfl rfl rfl (Nat.le_of_ble_eq_true rfl) dX6_dump_144 rfl ⟨by decide, by decide⟩ (fun M16 q_16 => ?_)
      obtain ⟨R_16, F_16⟩ := q_16
      rw [fill_eq1 (by have := pwN_le c g; omega) (by have := pwN_le mn g; omega)] at R_16
      refine m_iconst (pc' := 148) (v := nI 0) C dX6_dump_147 (by decide) rfl ?_
      refine m_istore (pc' := 150) (lv' := [(8, .int (nI 0)), (0, .ref (ad 46)), (1, .int (nI c)), (2, .int (nI g)), (3, .int (bI lg2)), (4, .int (nI (pwN c g))), (5, .int (nI c)), (6, .int (nI s)), (7, .int (nI mn))]) C dX6_dump_148 (by decide) rfl rfl ?_
      obtain ⟨Q2, hQ2⟩ : ∃ Q2, Q2 = Q1 ++ pPairs B lg2 mn g s mn ++ List.replicate (pwN c g + 1 - pwN mn g) 32 := ⟨_, rfl⟩
      refine m_lv [1, 2, 3, 4, 5, 6, 7, 8, 0] rfl ?_
      have G_17 := v2.fr F_16 (by decide) (by decide)
      have f46_18 : M16 46 = .inr (6, [.ref (ad 5), .ref (ad 7), .ref (ad 1)]) := (F_16 46 (by decide)).trans v3
      have R7_19 := v4.fr F_16 (by decide) (by decide)
      refine m_loop (σ := Nat × (Nat → va_E)) (fun a => a.2) (fun a => [(0, .ref (ad 46)), (1, .int (nI c)), (2, .int (nI g)), (3, .int (bI lg2)), (4, .int (nI (pwN c g))), (5, .int (nI c)), (6, .int (nI s)), (7, .int (nI mn)), (8, .int (nI a.1))]) (fun a => a.1 ≤ mn ∧ isRow cy ad n a.2 5 6 2000 lim (Q2 ++ sChars B s a.1) ∧ (∃ (ds2 : List Nat) (lg2 : Bool), isFig cy ad n a.2 1 2 ds2 lg2) ∧ a.2 46 = pdO ad ∧ isRow cy ad n a.2 7 8 256 256 B ∧ Fr [1, 2, 5, 6] M a.2) (fun a => mn - a.1) (0, M16) (⟨Nat.zero_le _, ⟨by rw [hQ2, show sChars B s 0 = [] from rfl, List.append_nil]; exact R_16, ⟨_, _, G_17⟩, f46_18, R7_19, (v5.tr (F_16.sub (by decide)))⟩⟩) ?_
      rintro ⟨k, Mn⟩ hinv ih2
      dsimp only at hinv ih2 ⊢
      obtain ⟨hk7, hz6⟩ := hinv
      obtain ⟨u1, ⟨ds_u, lg_u, u2⟩, u3, u4, u5⟩ := hz6
      refine m_iload (pc' := 152) C dX6_dump_150 8 rfl rfl ?_
      refine m_iload (pc' := 154) C dX6_dump_152 7 rfl rfl ?_
      refine m_icmp_ge (pc' := 157) (tgt := 185) C dX6_dump_154 (by decide) rfl (fun c_154 => ?_) (fun c_154 => ?_)
      · have n_154 : mn ≤ k := (nI_leI (by omega) (by omega)).mp c_154
        have hkm : k = mn := by omega
        rw [hkm] at u1
        refine m_aload_n (pc' := 186) C dX6_dump_185 rfl 0 rfl rfl ?_
        refine m_get (pc' := 189) C 46 (by omega) u3 rfl inW_X6 0 (by decide) (gW_of tm_2_25) rfl rfl dX6_dump_186 rfl ?_
        refine m_bipush (pc' := 191) (v := nI 10) C dX6_dump_189 (by decide) rfl ?_
        refine m_callVv (pc' := 194) (As := [.int (nI 10)]) (rest := []) C (kX9_add hI u1 (nI 10)) (cwV 1 C.1.2.2.2.2 (goodV tm_4_186 tm_2_211 tm_2_212 tm_1_3 tm_2_213) rfl rfl rfl (by decide +kernel) ⟨by decide, by decide⟩) u1.1 u1.ob rfl rfl rfl (Nat.le_of_ble_eq_true rfl) dX6_dump_191 rfl ⟨by decide, by decide⟩ (fun M20 q_20 => ?_)
        obtain ⟨R_20, F_20⟩ := q_20
        rw [show lowb (nI 10) = 10 by decide] at R_20
        refine m_iload (pc' := 196) C dX6_dump_194 6 rfl rfl ?_
        refine m_iload (pc' := 198) C dX6_dump_196 5 rfl rfl ?_
        refine m_iadd (pc' := 199) (v := nI (s + c)) C dX6_dump_198 (nI_add _ _) rfl ?_
        refine m_istore (pc' := 201) (lv' := [(6, .int (nI (s + c))), (0, .ref (ad 46)), (1, .int (nI c)), (2, .int (nI g)), (3, .int (bI lg2)), (4, .int (nI (pwN c g))), (5, .int (nI c)), (7, .int (nI mn)), (8, .int (nI k))]) C dX6_dump_199 (by decide) rfl rfl ?_
        refine m_goto (tgt := 17) C dX6_dump_201 (by decide) ?_
        have G_21 := u2.fr F_20 (by decide) (by decide)
        have f46_22 : M20 46 = .inr (6, [.ref (ad 5), .ref (ad 7), .ref (ad 1)]) := (F_20 46 (by decide)).trans u3
        have R7_23 := u4.fr F_20 (by decide) (by decide)
        refine m_lv [1, 2, 3, 4, 5, 6, 0] rfl ?_
        exact ih0 (k0 + 1, s + c, R ++ pLine B c g lg2 s, M20) (⟨by rw [i1, show 257 - k0 = (257 - (k0 + 1)) + 1 by omega, pLines, if_neg (by omega), List.append_assoc], ⟨by (try dsimp only); omega, by (try dsimp only); omega⟩, ⟨by rw [← List.append_assoc, hpl, ← hQ1, ← hQ2]; exact R_20, ⟨_, _, G_21⟩, f46_22, R7_23, (u5.tr (F_20.sub (by decide)))⟩⟩) (by simp only; omega)
      · have n_154 : k < mn := Nat.lt_of_not_le (fun q => c_154 ((nI_leI (by omega) (by omega)).mpr q))
        refine m_aload_n (pc' := 158) C dX6_dump_157 rfl 0 rfl rfl ?_
        refine m_get (pc' := 161) C 46 (by omega) u3 rfl inW_X6 0 (by decide) (gW_of tm_2_25) rfl rfl dX6_dump_158 rfl ?_
        refine m_aload_n (pc' := 162) C dX6_dump_161 rfl 0 rfl rfl ?_
        refine m_get (pc' := 165) C 46 (by omega) u3 rfl inW_X6 1 (by decide) (gW_of tm_2_26) rfl rfl dX6_dump_162 rfl ?_
        refine m_iload (pc' := 167) C dX6_dump_165 6 rfl rfl ?_
        refine m_iload (pc' := 169) C dX6_dump_167 8 rfl rfl ?_
        refine m_iadd (pc' := 170) (v := nI (s + k)) C dX6_dump_169 (nI_add _ _) rfl ?_
        refine m_callVi (pc' := 173) (As := [.int (nI (s + k))]) (rest := [.ref (ad 5)]) C (kX9_at hI u4 (nI (s + k))) (cwV 1 C.1.2.2.2.2 (goodV tm_4_187 tm_2_128 tm_2_129 tm_1_3 tm_2_130) rfl rfl rfl (by decide +kernel) ⟨by decide, by decide⟩) u4.1 u4.ob rfl rfl rfl (Nat.le_of_ble_eq_true rfl) dX6_dump_170 rfl ⟨by decide, by decide⟩ (fun x_24 N_24 q_24 => ?_)
        obtain ⟨e_24, E_24⟩ := q_24
        replace E_24 := E_24.symm
        subst E_24
        replace e_24 : x_24 = nI (B.getD (s + k) 0) := e_24.trans ((rowAt_full hB (by omega) (by omega)).trans (by unfold chAt; rw [if_pos (by omega)]))
        replace e_24 := e_24.symm
        subst e_24
        refine m_callNi (pc' := 176) (As := [.int (nI (B.getD (s + k) 0))]) (rest := [.ref (ad 5)]) C (kX11_seenAs hI (nI (B.getD (s + k) 0))) ⟨va_cnB 1 C.1.2.2.2.2 (goodN tm_4_192) rfl rfl rfl (C.2.1.2 (RX6, 60, yX11_seenAs) (List.mem_of_getElem? (i := 6) rfl)) (C.1.2.2.2.2 _ (gW_of tm_1_1)) (by decide +kernel) ⟨by decide, by decide⟩, C.1.2.2.2.2 _ (gW_of tm_4_191), trivial⟩ rfl rfl (Nat.le_of_ble_eq_true rfl) dX6_dump_173 rfl ⟨by decide, by decide⟩ (fun x_25 N_25 q_25 => ?_)
        obtain ⟨e_25, E_25⟩ := q_25
        replace E_25 := E_25.symm
        subst E_25
        replace e_25 : x_25 = nI (seN (B.getD (s + k) 0)) := e_25.trans (seI_eq _)
        replace e_25 := e_25.symm
        subst e_25
        refine m_callVv (pc' := 179) (As := [.int (nI (seN (B.getD (s + k) 0)))]) (rest := []) C (kX9_add hI u1 (nI (seN (B.getD (s + k) 0)))) (cwV 1 C.1.2.2.2.2 (goodV tm_4_186 tm_2_211 tm_2_212 tm_1_3 tm_2_213) rfl rfl rfl (by decide +kernel) ⟨by decide, by decide⟩) u1.1 u1.ob rfl rfl rfl (Nat.le_of_ble_eq_true rfl) dX6_dump_176 rfl ⟨by decide, by decide⟩ (fun M26 q_26 => ?_)
        obtain ⟨R_26, F_26⟩ := q_26
        rw [lowb_nI (seN_lt (gd_lt0 h256 _))] at R_26
        refine m_iinc (pc' := 182) (v := nI (k + 1)) (lv' := [(8, .int (nI (k + 1))), (0, .ref (ad 46)), (1, .int (nI c)), (2, .int (nI g)), (3, .int (bI lg2)), (4, .int (nI (pwN c g))), (5, .int (nI c)), (6, .int (nI s)), (7, .int (nI mn))]) C dX6_dump_179 (k := 8) rfl (nI_add _ _) (by decide) rfl rfl ?_
        refine m_goto (tgt := 150) C dX6_dump_182 (by decide) ?_
        have G_27 := u2.fr F_26 (by decide) (by decide)
        have f46_28 : M26 46 = .inr (6, [.ref (ad 5), .ref (ad 7), .ref (ad 1)]) := (F_26 46 (by decide)).trans u3
        have R7_29 := u4.fr F_26 (by decide) (by decide)
        refine m_lv [1, 2, 3, 4, 5, 6, 7, 8, 0] rfl ?_
        exact ih2 (k + 1, M26) (⟨n_154, ⟨by rw [sChars_succ, ← List.append_assoc]; exact R_26, ⟨_, _, G_27⟩, f46_28, R7_29, (u5.tr (F_26.sub (by decide)))⟩⟩) (by simp only; omega)
    · have n_80 : k < mn := Nat.lt_of_not_le (fun q => c_80 ((nI_leI (by omega) (by omega)).mpr q))
      refine m_aload_n (pc' := 84) C dX6_dump_83 rfl 0 rfl rfl ?_
      refine m_aload_n (pc' := 85) C dX6_dump_84 rfl 0 rfl rfl ?_
      refine m_get (pc' := 88) C 46 (by omega) v3 rfl inW_X6 1 (by decide) (gW_of tm_2_26) rfl rfl dX6_dump_85 rfl ?_
      refine m_iload (pc' := 90) C dX6_dump_88 6 rfl rfl ?_
      refine m_iload (pc' := 92) C dX6_dump_90 8 rfl rfl ?_
      refine m_iadd (pc' := 93) (v := nI (s + k)) C dX6_dump_92 (nI_add _ _) rfl ?_
      refine m_callVi (pc' := 96) (As := [.int (nI (s + k))]) (rest := [.ref (ad 46)]) C (kX9_at hI v4 (nI (s + k))) (cwV 1 C.1.2.2.2.2 (goodV tm_4_187 tm_2_128 tm_2_129 tm_1_3 tm_2_130) rfl rfl rfl (by decide +kernel) ⟨by decide, by decide⟩) v4.1 v4.ob rfl rfl rfl (Nat.le_of_ble_eq_true rfl) dX6_dump_93 rfl ⟨by decide, by decide⟩ (fun x_30 N_30 q_30 => ?_)
      obtain ⟨e_30, E_30⟩ := q_30
      replace E_30 := E_30.symm
      subst E_30
      replace e_30 : x_30 = nI (B.getD (s + k) 0) := e_30.trans ((rowAt_full hB (by omega) (by omega)).trans (by unfold chAt; rw [if_pos (by omega)]))
      replace e_30 := e_30.symm
      subst e_30
      refine m_iconst (pc' := 97) (v := nI 2) C dX6_dump_96 (by decide) rfl ?_
      refine m_iload_n (pc' := 98) C dX6_dump_97 rfl 3 rfl rfl ?_
      refine m_callVv (pc' := 101) (As := [.int (nI (B.getD (s + k) 0)), .int (nI 2), .int (bI lg2)]) (rest := []) C (kX6_writeDigits hI hn v3 v2 v1 (v := (B.getD (s + k) 0)) (m := 2) lg2 (by have := gd_lt0 h256 (s + k); omega) (by omega)) (cwV 3 C.1.2.2.2.2 (goodV tm_4_180 tm_4_182 tp_40 tm_1_11 tm_4_183) rfl rfl rfl (by decide +kernel) ⟨by decide, by decide⟩) (by omega) v3 rfl rfl rfl (Nat.le_of_ble_eq_true rfl) dX6_dump_98 rfl ⟨by decide, by decide⟩ (fun M31 q_31 => ?_)
      obtain ⟨R_31, ⟨ds_31, lg_31, G_31⟩, F_31⟩ := q_31
      refine m_iload (pc' := 103) C dX6_dump_101 8 rfl rfl ?_
      refine m_iload (pc' := 105) C dX6_dump_103 7 rfl rfl ?_
      refine m_iload_n (pc' := 106) C dX6_dump_105 rfl 2 rfl rfl ?_
      refine m_callNi (pc' := 109) (As := [.int (nI k), .int (nI mn), .int (nI g)]) (rest := []) C (kX11_endsGroup hI (by omega) (by omega) (by omega) hg1) ⟨va_cnB 3 C.1.2.2.2.2 (goodN tm_4_176) rfl rfl rfl (C.2.1.2 (RX6, 52, yX11_endsGroup) (List.mem_of_getElem? (i := 5) rfl)) (C.1.2.2.2.2 _ (gW_of tm_1_1)) (by decide +kernel) ⟨by decide, by decide⟩, C.1.2.2.2.2 _ (gW_of tm_4_175), trivial⟩ rfl rfl (Nat.le_of_ble_eq_true rfl) dX6_dump_106 rfl ⟨by decide, by decide⟩ (fun x_32 N_32 q_32 => ?_)
      obtain ⟨e_32, E_32⟩ := q_32
      replace E_32 := E_32.symm
      subst E_32
      replace e_32 := e_32.symm
      subst e_32
      refine m_if_eq (pc' := 112) (tgt := 121) C dX6_dump_109 (by decide) rfl (fun c_109 => ?_) (fun c_109 => ?_)
      · have heg : egB k mn g = false := (bI_0 _).mp c_109
        refine m_iinc (pc' := 124) (v := nI (k + 1)) (lv' := [(8, .int (nI (k + 1))), (0, .ref (ad 46)), (1, .int (nI c)), (2, .int (nI g)), (3, .int (bI lg2)), (4, .int (nI (pwN c g))), (5, .int (nI c)), (6, .int (nI s)), (7, .int (nI mn))]) C dX6_dump_121 (k := 8) rfl (nI_add _ _) (by decide) rfl rfl ?_
        refine m_goto (tgt := 76) C dX6_dump_124 (by decide) ?_
        have f46_33 : M31 46 = .inr (6, [.ref (ad 5), .ref (ad 7), .ref (ad 1)]) := (F_31 46 (by decide)).trans v3
        have R7_34 := v4.fr F_31 (by decide) (by decide)
        refine m_lv [1, 2, 3, 4, 5, 6, 7, 8, 0] rfl ?_
        exact ih1 (k + 1, M31) (⟨n_80, ⟨by rw [pPairs_succ]; rw [if_neg (by rw [heg]; decide), List.append_nil, ← List.append_assoc]; exact R_31, ⟨_, _, G_31⟩, f46_33, R7_34, (v5.tr (F_31.sub (by decide)))⟩⟩) (by simp only; omega)
      · have heg : egB k mn g = true := ts_of c_109
        refine m_aload_n (pc' := 113) C dX6_dump_112 rfl 0 rfl rfl ?_
        have f46_35 : M31 46 = .inr (6, [.ref (ad 5), .ref (ad 7), .ref (ad 1)]) := (F_31 46 (by decide)).trans v3
        refine m_get (pc' := 116) C 46 (by omega) f46_35 rfl inW_X6 0 (by decide) (gW_of tm_2_25) rfl rfl dX6_dump_113 rfl ?_
        refine m_bipush (pc' := 118) (v := nI 32) C dX6_dump_116 (by decide) rfl ?_
        refine m_callVv (pc' := 121) (As := [.int (nI 32)]) (rest := []) C (kX9_add hI R_31 (nI 32)) (cwV 1 C.1.2.2.2.2 (goodV tm_4_186 tm_2_211 tm_2_212 tm_1_3 tm_2_213) rfl rfl rfl (by decide +kernel) ⟨by decide, by decide⟩) R_31.1 R_31.ob rfl rfl rfl (Nat.le_of_ble_eq_true rfl) dX6_dump_118 rfl ⟨by decide, by decide⟩ (fun M36 q_36 => ?_)
        obtain ⟨R_36, F_36⟩ := q_36
        rw [show lowb (nI 32) = 32 by decide] at R_36
        refine m_iinc (pc' := 124) (v := nI (k + 1)) (lv' := [(8, .int (nI (k + 1))), (0, .ref (ad 46)), (1, .int (nI c)), (2, .int (nI g)), (3, .int (bI lg2)), (4, .int (nI (pwN c g))), (5, .int (nI c)), (6, .int (nI s)), (7, .int (nI mn))]) C dX6_dump_121 (k := 8) rfl (nI_add _ _) (by decide) rfl rfl ?_
        refine m_goto (tgt := 76) C dX6_dump_124 (by decide) ?_
        have G_37 := G_31.fr F_36 (by decide) (by decide)
        have f46_38 : M36 46 = .inr (6, [.ref (ad 5), .ref (ad 7), .ref (ad 1)]) := (F_36 46 (by decide)).trans f46_35
        have R7_39 := v4.fr F_31 (by decide) (by decide)
        have R7_40 := R7_39.fr F_36 (by decide) (by decide)
        refine m_lv [1, 2, 3, 4, 5, 6, 7, 8, 0] rfl ?_
        exact ih1 (k + 1, M36) (⟨n_80, ⟨by rw [pPairs_succ]; rw [if_pos heg, ← List.append_assoc, ← List.append_assoc]; exact R_36, ⟨_, _, G_37⟩, f46_38, R7_40, ((v5.tr (F_31.sub (by decide))).tr (F_36.sub (by decide)))⟩⟩) (by simp only; omega)
