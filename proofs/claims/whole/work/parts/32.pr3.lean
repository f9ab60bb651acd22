set_option maxHeartbeats 4000000 in
set_option maxRecDepth 100000 in
theorem kX8_printNumber {l : Launch} {D : va_G} {cy : Nat → ClassId} {ad : Nat → Nat} {n : Nat} {A : Nat → Prop} (hI : mI ad n A) {M : Nat → va_E} (hn : 52 ≤ n) {ended : Bool} (hpr : M 36 = prO ad ended) {ds : List Nat} {lg : Bool} (hf : isFig cy ad n M 1 2 ds lg) {lim : Nat} {O : List Nat} (hg : isRow cy ad n M 5 6 2000 lim O) {fl fp fb fm fz sw sp : Bool} {w b : Nat} {po : Option Nat} {lt en : Int32} (hw : w < 2 ^ 20) (hb64 : b ≤ 64) (hpo : ∀ k, po = some k → k < 2 ^ 20) (hd : M 38 = .inr (2, dF fl fp fb fm fz sw sp (nI w) (pI po) (nI b) lt en)) (x : Int64) : mMv l yX8_printNumber (gW yX8_printNumber cX8_printNumber 12 none) { frames := 2, cells := 0, slots := 0, locals := 53 } D cy ad n A [.ref (ad 36), .long x] M (fun M' => isRow cy ad n M' 5 6 2000 lim (O ++ fmtN b lt x fl fp fb fm fz w po) ∧ (∃ (ds2 : List Nat) (lg2 : Bool), isFig cy ad n M' 1 2 ds2 lg2) ∧ Fr [1, 2, 5, 6] M M') := by
  have hkb : nmK b lt x po fm < 2 ^ 21 := dueN_lt hpo (dg_len (by have := baseN_in lt; omega) 22 _ (Nat.lt_of_lt_of_le (uL_lt _) (Nat.le_trans (by decide : 2 ^ 64 ≤ 8 ^ 22) (Nat.pow_le_pow_left (by have := baseN_in lt; omega) 22))))
  refine m_entry (cc := cX8_printNumber) (maxL := 12) (ret := none) (own := RX8) (lv := [(0, .ref (ad 36)), (1, .long (x))]) hI (by decide) rfl rfl (Nat.le_of_ble_eq_true rfl) rfl (fun pX eX sX mX aX bX tX cX C hrt0 hlk0 => ?_)
  refine m_aload_n (pc' := 1) C dX8_printNumber_0 rfl 0 rfl rfl ?_
  refine m_lload_n (pc' := 2) C dX8_printNumber_1 rfl 1 rfl rfl ?_
  refine m_callVl (pc' := 5) (As := [.long (x)]) (rest := []) C (kX8_narrowed hI hn hpr hb64 hd x) (cwV 1 C.1.2.2.2.2 (goodV tm_3_100 tm_3_102 tp_22 tm_1_7 tm_3_103) rfl rfl rfl (by decide +kernel) ⟨by decide, by decide⟩) (by omega) hpr rfl rfl rfl (Nat.le_of_ble_eq_true rfl) dX8_printNumber_2 rfl ⟨by decide, by decide⟩ (fun x_1 N_1 q_1 => ?_)
  obtain ⟨e_1, E_1⟩ := q_1
  replace E_1 := E_1.symm
  subst E_1
  replace e_1 := e_1.symm
  subst e_1
  refine m_lstore_n (pc' := 6) (lv' := [(3, .long (nmV b lt x)), (0, .ref (ad 36)), (1, .long (x))]) C dX8_printNumber_5 rfl (by decide) rfl rfl ?_
  refine m_cut (σ := Bool) (fun a => a = nmB b lt x) (fun a => M) 27 (fun a => [(0, .ref (ad 36)), (3, .long (nmV b lt x))]) (fun a => [.int (bI a)]) ?_ (fun J27 => ?_)
  · rintro bl hj
    try dsimp only at hj ⊢
    have hbl := hj
    refine m_istore (pc' := 29) (lv' := [(5, .int (bI bl)), (0, .ref (ad 36)), (3, .long (nmV b lt x))]) C dX8_printNumber_27 (by decide) rfl rfl ?_
    refine m_aload_n (pc' := 30) C dX8_printNumber_29 rfl 1 rfl rfl ?_
    refine m_get (pc' := 33) C 36 (by omega) hpr rfl inW_X8 2 (by decide) (gW_of tm_1_206) rfl rfl dX8_printNumber_30 rfl ?_
    refine m_cut (σ := Int64) (fun a => a = (if bl then -(nmV b lt x) else nmV b lt x)) (fun a => M) 44 (fun a => [(0, .ref (ad 36)), (3, .long (nmV b lt x)), (5, .int (bI bl))]) (fun a => [.long (a), .ref (ad 1)]) ?_ (fun J44 => ?_)
    · rintro u hj
      try dsimp only at hj ⊢
      have hu := hj
      refine m_aload_n (pc' := 45) C dX8_printNumber_44 rfl 0 rfl rfl ?_
      refine m_get (pc' := 48) C 36 (by omega) hpr rfl inW_X8 4 (by decide) (gW_of tm_1_208) rfl rfl dX8_printNumber_45 rfl ?_
      refine m_callVi (pc' := 51) (As := []) (rest := [.long (u), .ref (ad 1)]) C (kX2_base hI (by omega) hd) (cwV 0 C.1.2.2.2.2 (goodV tm_3_108 tm_3_109 tm_3_110 tm_1_9 tm_3_111) rfl rfl rfl (by decide +kernel) ⟨by decide, by decide⟩) (by omega) hd rfl rfl rfl (Nat.le_of_ble_eq_true rfl) dX8_printNumber_48 rfl ⟨by decide, by decide⟩ (fun x_2 N_2 q_2 => ?_)
      obtain ⟨e_2, E_2⟩ := q_2
      replace E_2 := E_2.symm
      subst E_2
      replace e_2 : x_2 = nI (baseN lt) := e_2.trans (baseN_eq lt)
      replace e_2 := e_2.symm
      subst e_2
      refine m_cut (σ := Bool) (fun a => a = decide (lt = nI 88)) (fun a => M) 68 (fun a => [(0, .ref (ad 36)), (3, .long (nmV b lt x)), (5, .int (bI bl))]) (fun a => [.int (bI a), .int (nI (baseN lt)), .long (u), .ref (ad 1)]) ?_ (fun J68 => ?_)
      · rintro lx hj
        try dsimp only at hj ⊢
        have hlx := hj
        refine m_callVv (pc' := 71) (As := [.long (u), .int (nI (baseN lt)), .int (bI lx)]) (rest := []) C (kX4_takeX hI hf u (b := (baseN lt)) lx (baseN_in lt)) (cwV 3 C.1.2.2.2.2 (goodV tm_3_60 tm_3_61 tm_3_62 tm_1_2 tm_3_63) rfl rfl rfl (by decide +kernel) ⟨by decide, by decide⟩) hf.1 hf.ob rfl rfl rfl (Nat.le_of_ble_eq_true rfl) dX8_printNumber_68 rfl ⟨by decide, by decide⟩ (fun M3 q_3 => ?_)
        obtain ⟨G_3, F_3⟩ := q_3
        refine m_aload_n (pc' := 72) C dX8_printNumber_71 rfl 0 rfl rfl ?_
        have f36_5 : M3 36 = .inr (8, [.ref (ad 5), .ref (ad 9), .ref (ad 1), .ref (ad 37), .ref (ad 38), .ref (ad 39), .ref (ad 41), .int (bI ended)]) := (F_3 36 (by decide)).trans hpr
        have f38_6 : M3 38 = .inr (2, [.int (bI fl), .int (bI fp), .int (bI fb), .int (bI fm), .int (bI fz), .int (bI sw), .int (bI sp), .int (nI w), .int (pI po), .int (nI b), .int (lt), .int (en)]) := (F_3 38 (by decide)).trans hd
        refine m_callVi (pc' := 75) (As := []) (rest := []) C (kX8_digitsDue hI hn f36_5 G_3 hpo f38_6) (cwV 0 C.1.2.2.2.2 (goodV tm_3_116 tm_3_118 tp_23 tm_1_7 tm_3_119) rfl rfl rfl (by decide +kernel) ⟨by decide, by decide⟩) (by omega) f36_5 rfl rfl rfl (Nat.le_of_ble_eq_true rfl) dX8_printNumber_72 rfl ⟨by decide, by decide⟩ (fun x_4 N_4 q_4 => ?_)
        obtain ⟨e_4, E_4⟩ := q_4
        replace E_4 := E_4.symm
        subst E_4
        replace e_4 : x_4 = nI (nmK b lt x po fm) := e_4.trans (by unfold nmK nmD; rw [← hbl, ← hu])
        replace e_4 := e_4.symm
        subst e_4
        refine m_istore (pc' := 77) (lv' := [(6, .int (nI (nmK b lt x po fm))), (0, .ref (ad 36)), (3, .long (nmV b lt x)), (5, .int (bI bl))]) C dX8_printNumber_75 (by decide) rfl rfl ?_
        refine m_cut (σ := Bool) (fun a => a = nmM b lt x fm) (fun a => M3) 108 (fun a => [(0, .ref (ad 36)), (5, .int (bI bl)), (6, .int (nI (nmK b lt x po fm)))]) (fun a => [.int (bI a)]) ?_ (fun J108 => ?_)
        · rintro mk hj
          try dsimp only at hj ⊢
          have hmk := hj
          refine m_istore (pc' := 110) (lv' := [(7, .int (bI mk)), (0, .ref (ad 36)), (5, .int (bI bl)), (6, .int (nI (nmK b lt x po fm)))]) C dX8_printNumber_108 (by decide) rfl rfl ?_
          refine m_aload_n (pc' := 111) C dX8_printNumber_110 rfl 1 rfl rfl ?_
          refine m_iload (pc' := 113) C dX8_printNumber_111 2 rfl rfl ?_
          refine m_callVi (pc' := 116) (As := [.int (bI bl)]) (rest := []) C (kX8_signOf hI hn f36_5 f38_6 bl) (cwV 1 C.1.2.2.2.2 (goodV tm_3_126 tm_3_128 tp_24 tm_1_7 tm_3_129) rfl rfl rfl (by decide +kernel) ⟨by decide, by decide⟩) (by omega) f36_5 rfl rfl rfl (Nat.le_of_ble_eq_true rfl) dX8_printNumber_113 rfl ⟨by decide, by decide⟩ (fun x_7 N_7 q_7 => ?_)
          obtain ⟨e_7, E_7⟩ := q_7
          replace E_7 := E_7.symm
          subst E_7
          replace e_7 : x_7 = nmS b lt x fp fb := e_7.trans (by unfold nmS; rw [← hbl])
          replace e_7 := e_7.symm
          subst e_7
          refine m_istore (pc' := 118) (lv' := [(8, .int (nmS b lt x fp fb)), (7, .int (bI mk)), (0, .ref (ad 36)), (5, .int (bI bl)), (6, .int (nI (nmK b lt x po fm)))]) C dX8_printNumber_116 (by decide) rfl rfl ?_
          refine m_cut (σ := Nat) (fun a => a = nmF mk (nmS b lt x fp fb) ∧ a ≤ 2) (fun a => M3) 138 (fun a => [(0, .ref (ad 36)), (6, .int (nI (nmK b lt x po fm))), (7, .int (bI mk)), (8, .int (nmS b lt x fp fb))]) (fun a => [.int (nI a)]) ?_ (fun J138 => ?_)
          · rintro fr hj
            try dsimp only at hj ⊢
            obtain ⟨hfr, hfr2⟩ := hj
            refine m_istore (pc' := 140) (lv' := [(9, .int (nI fr)), (0, .ref (ad 36)), (6, .int (nI (nmK b lt x po fm))), (7, .int (bI mk)), (8, .int (nmS b lt x fp fb))]) C dX8_printNumber_138 (by decide) rfl rfl ?_
            refine m_aload_n (pc' := 141) C dX8_printNumber_140 rfl 1 rfl rfl ?_
            refine m_get (pc' := 144) C 36 (by omega) f36_5 rfl inW_X8 4 (by decide) (gW_of tm_1_208) rfl rfl dX8_printNumber_141 rfl ?_
            refine m_get (pc' := 147) C 38 (by omega) f38_6 rfl inW_X2 7 (by decide) (gW_of tm_1_168) rfl rfl dX8_printNumber_144 rfl ?_
            refine m_iload (pc' := 149) C dX8_printNumber_147 0 rfl rfl ?_
            refine m_isub (pc' := 150) (v := (nI w) - (nI fr)) C dX8_printNumber_149 rfl rfl ?_
            refine m_iload (pc' := 152) C dX8_printNumber_150 2 rfl rfl ?_
            refine m_isub (pc' := 153) (v := ((nI w) - (nI fr)) - (nI (nmK b lt x po fm))) C dX8_printNumber_152 rfl rfl ?_
            refine m_istore (pc' := 155) (lv' := [(10, .int (((nI w) - (nI fr)) - (nI (nmK b lt x po fm)))), (9, .int (nI fr)), (0, .ref (ad 36)), (6, .int (nI (nmK b lt x po fm))), (7, .int (bI mk)), (8, .int (nmS b lt x fp fb))]) C dX8_printNumber_153 (by decide) rfl rfl ?_
            refine m_aload_n (pc' := 156) C dX8_printNumber_155 rfl 2 rfl rfl ?_
            refine m_get (pc' := 159) C 36 (by omega) f36_5 rfl inW_X8 4 (by decide) (gW_of tm_1_208) rfl rfl dX8_printNumber_156 rfl ?_
            refine m_callVi (pc' := 162) (As := []) (rest := []) C (kX2_fillsWithZeros hI (by omega) f38_6) (cwV 0 C.1.2.2.2.2 (goodV tm_3_130 tm_3_131 tm_3_132 tm_1_9 tm_3_133) rfl rfl rfl (by decide +kernel) ⟨by decide, by decide⟩) (by omega) f38_6 rfl rfl rfl (Nat.le_of_ble_eq_true rfl) dX8_printNumber_159 rfl ⟨by decide, by decide⟩ (fun x_8 N_8 q_8 => ?_)
            obtain ⟨e_8, E_8⟩ := q_8
            replace E_8 := E_8.symm
            subst E_8
            replace e_8 : x_8 = bI (nmZ fz fl po) := e_8.trans rfl
            replace e_8 := e_8.symm
            subst e_8
            refine m_istore (pc' := 164) (lv' := [(11, .int (bI (nmZ fz fl po))), (10, .int (((nI w) - (nI fr)) - (nI (nmK b lt x po fm)))), (9, .int (nI fr)), (0, .ref (ad 36)), (6, .int (nI (nmK b lt x po fm))), (7, .int (bI mk)), (8, .int (nmS b lt x fp fb))]) C dX8_printNumber_162 (by decide) rfl rfl ?_
            refine m_cut (σ := (Nat → va_E)) (fun a => isRow cy ad n a 5 6 2000 lim (O ++ (if !fl && !nmZ fz fl po then List.replicate (w - fr - nmK b lt x po fm) 32 else [])) ∧ Fr [5, 6] M3 a) (fun a => a) 190 (fun a => [(0, .ref (ad 36)), (6, .int (nI (nmK b lt x po fm))), (7, .int (bI mk)), (8, .int (nmS b lt x fp fb)), (10, .int (nI w - nI fr - nI (nmK b lt x po fm))), (11, .int (bI (nmZ fz fl po)))]) (fun a => []) ?_ (fun J190 => ?_)
            · rintro Mj190 hj
              try dsimp only at hj ⊢
              obtain ⟨jr190, jf190⟩ := hj
              obtain ⟨Q190, hQ190⟩ : ∃ z, z = O ++ (if !fl && !nmZ fz fl po then List.replicate (w - fr - nmK b lt x po fm) 32 else []) := ⟨_, rfl⟩
              rw [← hQ190] at jr190
              refine m_cut (σ := (Nat → va_E)) (fun a => isRow cy ad n a 5 6 2000 lim (Q190 ++ nmP mk (nmS b lt x fp fb) lt) ∧ Fr [5, 6] Mj190 a) (fun a => a) 236 (fun a => [(0, .ref (ad 36)), (6, .int (nI (nmK b lt x po fm))), (10, .int (nI w - nI fr - nI (nmK b lt x po fm))), (11, .int (bI (nmZ fz fl po)))]) (fun a => []) ?_ (fun J236 => ?_)
              · rintro Mj236 hj
                try dsimp only at hj ⊢
                obtain ⟨jr236, jf236⟩ := hj
                obtain ⟨Q236, hQ236⟩ : ∃ z, z = Q190 ++ nmP mk (nmS b lt x fp fb) lt := ⟨_, rfl⟩
                rw [← hQ236] at jr236
                refine m_cut (σ := (Nat → va_E)) (fun a => isRow cy ad n a 5 6 2000 lim (Q236 ++ (if nmZ fz fl po then List.replicate (w - fr - nmK b lt x po fm) 48 else [])) ∧ Fr [5, 6] Mj236 a) (fun a => a) 252 (fun a => [(0, .ref (ad 36)), (6, .int (nI (nmK b lt x po fm))), (10, .int (nI w - nI fr - nI (nmK b lt x po fm)))]) (fun a => []) ?_ (fun J252 => ?_)
                · rintro Mj252 hj
                  try dsimp only at hj ⊢
                  obtain ⟨jr252, jf252⟩ := hj
                  obtain ⟨Q252, hQ252⟩ : ∃ z, z = Q236 ++ (if nmZ fz fl po then List.replicate (w - fr - nmK b lt x po fm) 48 else []) := ⟨_, rfl⟩
                  rw [← hQ252] at jr252
                  refine m_aload_n (pc' := 253) C dX8_printNumber_252 rfl 0 rfl rfl ?_
                  have f36_9 : Mj190 36 = .inr (8, [.ref (ad 5), .ref (ad 9), .ref (ad 1), .ref (ad 37), .ref (ad 38), .ref (ad 39), .ref (ad 41), .int (bI ended)]) := (jf190 36 (by decide)).trans f36_5
                  have f36_10 : Mj236 36 = .inr (8, [.ref (ad 5), .ref (ad 9), .ref (ad 1), .ref (ad 37), .ref (ad 38), .ref (ad 39), .ref (ad 41), .int (bI ended)]) := (jf236 36 (by decide)).trans f36_9
                  have f36_11 : Mj252 36 = .inr (8, [.ref (ad 5), .ref (ad 9), .ref (ad 1), .ref (ad 37), .ref (ad 38), .ref (ad 39), .ref (ad 41), .int (bI ended)]) := (jf252 36 (by decide)).trans f36_10
                  refine m_get (pc' := 256) C 36 (by omega) f36_11 rfl inW_X8 2 (by decide) (gW_of tm_1_206) rfl rfl dX8_printNumber_253 rfl ?_
                  refine m_aload_n (pc' := 257) C dX8_printNumber_256 rfl 0 rfl rfl ?_
                  refine m_get (pc' := 260) C 36 (by omega) f36_11 rfl inW_X8 0 (by decide) (gW_of tm_1_204) rfl rfl dX8_printNumber_257 rfl ?_
                  refine m_iload (pc' := 262) C dX8_printNumber_260 1 rfl rfl ?_
                  have G_13 := G_3.fr jf190 (by decide) (by decide)
                  have G_14 := G_13.fr jf236 (by decide) (by decide)
                  have G_15 := G_14.fr jf252 (by decide) (by decide)
                  refine m_callVv (pc' := 265) (As := [.ref (ad 5), .int (nI (nmK b lt x po fm))]) (rest := []) C (kX4_writeTo hI G_15 jr252 (by decide) (m := (nmK b lt x po fm)) (by omega)) (cwV 2 C.1.2.2.2.2 (goodV tm_3_67 tm_3_68 tm_3_69 tm_1_2 tm_3_70) rfl rfl rfl (by decide +kernel) ⟨by decide, by decide⟩) G_15.1 G_15.ob rfl rfl rfl (Nat.le_of_ble_eq_true rfl) dX8_printNumber_262 rfl ⟨by decide, by decide⟩ (fun M12 q_12 => ?_)
                  obtain ⟨R_12, F_12⟩ := q_12
                  refine m_aload_n (pc' := 266) C dX8_printNumber_265 rfl 0 rfl rfl ?_
                  have f36_16 : M12 36 = .inr (8, [.ref (ad 5), .ref (ad 9), .ref (ad 1), .ref (ad 37), .ref (ad 38), .ref (ad 39), .ref (ad 41), .int (bI ended)]) := (F_12 36 (by decide)).trans f36_11
                  refine m_get (pc' := 269) C 36 (by omega) f36_16 rfl inW_X8 4 (by decide) (gW_of tm_1_208) rfl rfl dX8_printNumber_266 rfl ?_
                  have f38_17 : Mj190 38 = .inr (2, [.int (bI fl), .int (bI fp), .int (bI fb), .int (bI fm), .int (bI fz), .int (bI sw), .int (bI sp), .int (nI w), .int (pI po), .int (nI b), .int (lt), .int (en)]) := (jf190 38 (by decide)).trans f38_6
                  have f38_18 : Mj236 38 = .inr (2, [.int (bI fl), .int (bI fp), .int (bI fb), .int (bI fm), .int (bI fz), .int (bI sw), .int (bI sp), .int (nI w), .int (pI po), .int (nI b), .int (lt), .int (en)]) := (jf236 38 (by decide)).trans f38_17
                  have f38_19 : Mj252 38 = .inr (2, [.int (bI fl), .int (bI fp), .int (bI fb), .int (bI fm), .int (bI fz), .int (bI sw), .int (bI sp), .int (nI w), .int (pI po), .int (nI b), .int (lt), .int (en)]) := (jf252 38 (by decide)).trans f38_18
                  have f38_20 : M12 38 = .inr (2, [.int (bI fl), .int (bI fp), .int (bI fb), .int (bI fm), .int (bI fz), .int (bI sw), .int (bI sp), .int (nI w), .int (pI po), .int (nI b), .int (lt), .int (en)]) := (F_12 38 (by decide)).trans f38_19
                  refine m_get (pc' := 272) C 38 (by omega) f38_20 rfl inW_X2 0 (by decide) (gW_of tm_1_155) rfl rfl dX8_printNumber_269 rfl ?_
                  refine m_if_eq (pc' := 275) (tgt := 286) C dX8_printNumber_272 (by decide) rfl (fun c_272 => ?_) (fun c_272 => ?_)
                  · refine m_vret C hrt0 hlk0 dX8_printNumber_286 ?_
                    have G_21 := G_15.fr F_12 (by decide) (by decide)
                    refine ⟨?_, ⟨_, _, G_21⟩, (((((F_3.sub (by decide)).tr (jf190.sub (by decide))).tr (jf236.sub (by decide))).tr (jf252.sub (by decide))).tr (F_12.sub (by decide)))⟩
                    have hfin : O ++ fmtN b lt x fl fp fb fm fz w po = (Q252 ++ numS lx (dg (baseN lt) (uL u)) (nmK b lt x po fm)) ++ (if fl then List.replicate (w - fr - nmK b lt x po fm) 32 else []) := by
                      unfold fmtN
                      dsimp only
                      rw [← hmk, ← hfr, hQ252, hQ236, hQ190, hlx, show nmD b lt x = dg (baseN lt) (uL u) by unfold nmD; rw [← hbl, ← hu]]
                      simp only [List.append_assoc]
                    rw [hfin]
                    first | (rw [(bI_0 _).mp c_272, if_neg (by decide), List.append_nil]; exact R_12) | (rw [ts_of c_272, if_pos rfl]; exact R_12)
                  · refine m_aload_n (pc' := 276) C dX8_printNumber_275 rfl 0 rfl rfl ?_
                    refine m_get (pc' := 279) C 36 (by omega) f36_16 rfl inW_X8 0 (by decide) (gW_of tm_1_204) rfl rfl dX8_printNumber_276 rfl ?_
                    refine m_bipush (pc' := 281) (v := nI 32) C dX8_printNumber_279 (by decide) rfl ?_
                    refine m_iload (pc' := 283) C dX8_printNumber_281 2 rfl rfl ?_
                    refine m_callVv (pc' := 286) (As := [.int (nI 32), .int (nI w - nI fr - nI (nmK b lt x po fm))]) (rest := []) C (kX9_addMany hI R_12 (nI 32) (nI w - nI fr - nI (nmK b lt x po fm))) (cwV 2 C.1.2.2.2.2 (goodV tm_3_40 tm_3_41 tm_3_42 tm_1_3 tm_3_43) rfl rfl rfl (by decide +kernel) ⟨by decide, by decide⟩) R_12.1 R_12.ob rfl rfl rfl (Nat.le_of_ble_eq_true rfl) dX8_printNumber_283 rfl ⟨by decide, by decide⟩ (fun M22 q_22 => ?_)
                    obtain ⟨R_22, F_22⟩ := q_22
                    rw [fill2_eq (by decide) (by omega) (by omega) (by omega)] at R_22
                    refine m_vret C hrt0 hlk0 dX8_printNumber_286 ?_
                    have G_23 := G_15.fr F_12 (by decide) (by decide)
                    have G_24 := G_23.fr F_22 (by decide) (by decide)
                    refine ⟨?_, ⟨_, _, G_24⟩, ((((((F_3.sub (by decide)).tr (jf190.sub (by decide))).tr (jf236.sub (by decide))).tr (jf252.sub (by decide))).tr (F_12.sub (by decide))).tr (F_22.sub (by decide)))⟩
                    have hfin : O ++ fmtN b lt x fl fp fb fm fz w po = (Q252 ++ numS lx (dg (baseN lt) (uL u)) (nmK b lt x po fm)) ++ (if fl then List.replicate (w - fr - nmK b lt x po fm) 32 else []) := by
                      unfold fmtN
                      dsimp only
                      rw [← hmk, ← hfr, hQ252, hQ236, hQ190, hlx, show nmD b lt x = dg (baseN lt) (uL u) by unfold nmD; rw [← hbl, ← hu]]
                      simp only [List.append_assoc]
                    rw [hfin]
                    first | (rw [(bI_0 _).mp c_272, if_neg (by decide), List.append_nil]; exact R_22) | (rw [ts_of c_272, if_pos rfl]; exact R_22)
                refine m_iload (pc' := 238) C dX8_printNumber_236 3 rfl rfl ?_
                refine m_if_eq (pc' := 241) (tgt := 252) C dX8_printNumber_238 (by decide) rfl (fun c_238 => ?_) (fun c_238 => ?_)
                · refine m_lv [0, 1, 2] rfl ?_
                  exact J252 Mj236 (⟨by first | (rw [(bI_0 _).mp c_238, if_neg (by decide), List.append_nil]; exact jr236) | (rw [ts_of c_238, if_pos rfl]; exact jr236), Fr.rf⟩)
                · refine m_aload_n (pc' := 242) C dX8_printNumber_241 rfl 0 rfl rfl ?_
                  have f36_25 : Mj190 36 = .inr (8, [.ref (ad 5), .ref (ad 9), .ref (ad 1), .ref (ad 37), .ref (ad 38), .ref (ad 39), .ref (ad 41), .int (bI ended)]) := (jf190 36 (by decide)).trans f36_5
                  have f36_26 : Mj236 36 = .inr (8, [.ref (ad 5), .ref (ad 9), .ref (ad 1), .ref (ad 37), .ref (ad 38), .ref (ad 39), .ref (ad 41), .int (bI ended)]) := (jf236 36 (by decide)).trans f36_25
                  refine m_get (pc' := 245) C 36 (by omega) f36_26 rfl inW_X8 0 (by decide) (gW_of tm_1_204) rfl rfl dX8_printNumber_242 rfl ?_
                  refine m_bipush (pc' := 247) (v := nI 48) C dX8_printNumber_245 (by decide) rfl ?_
                  refine m_iload (pc' := 249) C dX8_printNumber_247 2 rfl rfl ?_
                  refine m_callVv (pc' := 252) (As := [.int (nI 48), .int (nI w - nI fr - nI (nmK b lt x po fm))]) (rest := []) C (kX9_addMany hI jr236 (nI 48) (nI w - nI fr - nI (nmK b lt x po fm))) (cwV 2 C.1.2.2.2.2 (goodV tm_3_40 tm_3_41 tm_3_42 tm_1_3 tm_3_43) rfl rfl rfl (by decide +kernel) ⟨by decide, by decide⟩) jr236.1 jr236.ob rfl rfl rfl (Nat.le_of_ble_eq_true rfl) dX8_printNumber_249 rfl ⟨by decide, by decide⟩ (fun M27 q_27 => ?_)
                  obtain ⟨R_27, F_27⟩ := q_27
                  rw [fill2_eq (by decide) (by omega) (by omega) (by omega)] at R_27
                  refine m_lv [0, 1, 2] rfl ?_
                  exact J252 M27 (⟨by first | (rw [(bI_0 _).mp c_238, if_neg (by decide), List.append_nil]; exact R_27) | (rw [ts_of c_238, if_pos rfl]; exact R_27), (F_27.sub (by simp))⟩)
              refine m_iload (pc' := 192) C dX8_printNumber_190 2 rfl rfl ?_
              refine m_if_eq (pc' := 195) (tgt := 221) C dX8_printNumber_192 (by decide) rfl (fun c_192 => ?_) (fun c_192 => ?_)
              · refine m_iload (pc' := 223) C dX8_printNumber_221 3 rfl rfl ?_
                refine m_iconst (pc' := 224) (v := (-1)) C dX8_printNumber_223 (by decide) rfl ?_
                refine m_icmp_eq (pc' := 227) (tgt := 236) C dX8_printNumber_224 (by decide) rfl (fun c_224 => ?_) (fun c_224 => ?_)
                · refine m_lv [0, 1, 4, 5] rfl ?_
                  exact J236 Mj190 (⟨by unfold nmP; first | (rw [ts_of c_192, if_pos rfl]; exact jr190) | (rw [(bI_0 _).mp c_192, if_neg (by decide), if_pos c_224, List.append_nil]; exact jr190) | (rw [(bI_0 _).mp c_192, if_neg (by decide), if_neg c_224]; exact jr190), Fr.rf⟩)
                · refine m_aload_n (pc' := 228) C dX8_printNumber_227 rfl 0 rfl rfl ?_
                  have f36_28 : Mj190 36 = .inr (8, [.ref (ad 5), .ref (ad 9), .ref (ad 1), .ref (ad 37), .ref (ad 38), .ref (ad 39), .ref (ad 41), .int (bI ended)]) := (jf190 36 (by decide)).trans f36_5
                  refine m_get (pc' := 231) C 36 (by omega) f36_28 rfl inW_X8 0 (by decide) (gW_of tm_1_204) rfl rfl dX8_printNumber_228 rfl ?_
                  refine m_iload (pc' := 233) C dX8_printNumber_231 3 rfl rfl ?_
                  refine m_callVv (pc' := 236) (As := [.int (nmS b lt x fp fb)]) (rest := []) C (kX9_add hI jr190 (nmS b lt x fp fb)) (cwV 1 C.1.2.2.2.2 (goodV tm_2_210 tm_2_211 tm_2_212 tm_1_3 tm_2_213) rfl rfl rfl (by decide +kernel) ⟨by decide, by decide⟩) jr190.1 jr190.ob rfl rfl rfl (Nat.le_of_ble_eq_true rfl) dX8_printNumber_233 rfl ⟨by decide, by decide⟩ (fun M29 q_29 => ?_)
                  obtain ⟨R_29, F_29⟩ := q_29
                  refine m_lv [0, 1, 4, 5] rfl ?_
                  exact J236 M29 (⟨by unfold nmP; first | (rw [ts_of c_192, if_pos rfl]; exact R_29) | (rw [(bI_0 _).mp c_192, if_neg (by decide), if_pos c_224, List.append_nil]; exact R_29) | (rw [(bI_0 _).mp c_192, if_neg (by decide), if_neg c_224]; exact R_29), (F_29.sub (by simp))⟩)
              · refine m_aload_n (pc' := 196) C dX8_printNumber_195 rfl 0 rfl rfl ?_
                have f36_30 : Mj190 36 = .inr (8, [.ref (ad 5), .ref (ad 9), .ref (ad 1), .ref (ad 37), .ref (ad 38), .ref (ad 39), .ref (ad 41), .int (bI ended)]) := (jf190 36 (by decide)).trans f36_5
                refine m_get (pc' := 199) C 36 (by omega) f36_30 rfl inW_X8 0 (by decide) (gW_of tm_1_204) rfl rfl dX8_printNumber_196 rfl ?_
                refine m_bipush (pc' := 201) (v := nI 48) C dX8_printNumber_199 (by decide) rfl ?_
                refine m_callVv (pc' := 204) (As := [.int (nI 48)]) (rest := []) C (kX9_add hI jr190 (nI 48)) (cwV 1 C.1.2.2.2.2 (goodV tm_2_210 tm_2_211 tm_2_212 tm_1_3 tm_2_213) rfl rfl rfl (by decide +kernel) ⟨by decide, by decide⟩) jr190.1 jr190.ob rfl rfl rfl (Nat.le_of_ble_eq_true rfl) dX8_printNumber_201 rfl ⟨by decide, by decide⟩ (fun M31 q_31 => ?_)
                obtain ⟨R_31, F_31⟩ := q_31
                rw [show lowb (nI 48) = 48 by decide] at R_31
                refine m_aload_n (pc' := 205) C dX8_printNumber_204 rfl 0 rfl rfl ?_
                have f36_32 : M31 36 = .inr (8, [.ref (ad 5), .ref (ad 9), .ref (ad 1), .ref (ad 37), .ref (ad 38), .ref (ad 39), .ref (ad 41), .int (bI ended)]) := (F_31 36 (by decide)).trans f36_30
                refine m_get (pc' := 208) C 36 (by omega) f36_32 rfl inW_X8 0 (by decide) (gW_of tm_1_204) rfl rfl dX8_printNumber_205 rfl ?_
                refine m_aload_n (pc' := 209) C dX8_printNumber_208 rfl 0 rfl rfl ?_
                refine m_get (pc' := 212) C 36 (by omega) f36_32 rfl inW_X8 4 (by decide) (gW_of tm_1_208) rfl rfl dX8_printNumber_209 rfl ?_
                have f38_33 : Mj190 38 = .inr (2, [.int (bI fl), .int (bI fp), .int (bI fb), .int (bI fm), .int (bI fz), .int (bI sw), .int (bI sp), .int (nI w), .int (pI po), .int (nI b), .int (lt), .int (en)]) := (jf190 38 (by decide)).trans f38_6
                have f38_34 : M31 38 = .inr (2, [.int (bI fl), .int (bI fp), .int (bI fb), .int (bI fm), .int (bI fz), .int (bI sw), .int (bI sp), .int (nI w), .int (pI po), .int (nI b), .int (lt), .int (en)]) := (F_31 38 (by decide)).trans f38_33
                refine m_get (pc' := 215) C 38 (by omega) f38_34 rfl inW_X2 10 (by decide) (gW_of tm_1_174) rfl rfl dX8_printNumber_212 rfl ?_
                refine m_callVv (pc' := 218) (As := [.int (lt)]) (rest := []) C (kX9_add hI R_31 lt) (cwV 1 C.1.2.2.2.2 (goodV tm_2_210 tm_2_211 tm_2_212 tm_1_3 tm_2_213) rfl rfl rfl (by decide +kernel) ⟨by decide, by decide⟩) R_31.1 R_31.ob rfl rfl rfl (Nat.le_of_ble_eq_true rfl) dX8_printNumber_215 rfl ⟨by decide, by decide⟩ (fun M35 q_35 => ?_)
                obtain ⟨R_35, F_35⟩ := q_35
                rw [show (Q190 ++ [48]) ++ [lowb lt] = Q190 ++ [48, lowb lt] by rw [List.append_assoc]; rfl] at R_35
                refine m_goto (tgt := 236) C dX8_printNumber_218 (by decide) ?_
                refine m_lv [0, 1, 4, 5] rfl ?_
                exact J236 M35 (⟨by unfold nmP; first | (rw [ts_of c_192, if_pos rfl]; exact R_35) | (rw [(bI_0 _).mp c_192, if_neg (by decide), if_pos c_224, List.append_nil]; exact R_35) | (rw [(bI_0 _).mp c_192, if_neg (by decide), if_neg c_224]; exact R_35), ((F_31.sub (by simp)).tr (F_35.sub (by simp)))⟩)
            refine m_aload_n (pc' := 165) C dX8_printNumber_164 rfl 3 rfl rfl ?_
            refine m_get (pc' := 168) C 36 (by omega) f36_5 rfl inW_X8 4 (by decide) (gW_of tm_1_208) rfl rfl dX8_printNumber_165 rfl ?_
            refine m_get (pc' := 171) C 38 (by omega) f38_6 rfl inW_X2 0 (by decide) (gW_of tm_1_155) rfl rfl dX8_printNumber_168 rfl ?_
            refine m_if_ne (pc' := 174) (tgt := 190) C dX8_printNumber_171 (by decide) rfl (fun c_171 => ?_) (fun c_171 => ?_)
            · have R5_36 := hg.fr F_3 (by decide) (by decide)
              refine m_lv [3, 4, 5, 6, 1, 0] rfl ?_
              exact J190 M3 (⟨by first | (rw [ts_of c_171, Bool.not_true, Bool.false_and, if_neg (by decide), List.append_nil]; exact R5_36) | (rw [ts_of c_176, Bool.not_true, Bool.and_false, if_neg (by decide), List.append_nil]; exact R5_36) | (rw [(bI_0 _).mp (Classical.not_not.mp c_176), (bI_0 _).mp (Classical.not_not.mp c_171), if_pos (by rfl)]; exact R5_36), Fr.rf⟩)
            · refine m_iload (pc' := 176) C dX8_printNumber_174 0 rfl rfl ?_
              refine m_if_ne (pc' := 179) (tgt := 190) C dX8_printNumber_176 (by decide) rfl (fun c_176 => ?_) (fun c_176 => ?_)
              · have R5_37 := hg.fr F_3 (by decide) (by decide)
                refine m_lv [3, 4, 5, 6, 1, 0] rfl ?_
                exact J190 M3 (⟨by first | (rw [ts_of c_171, Bool.not_true, Bool.false_and, if_neg (by decide), List.append_nil]; exact R5_37) | (rw [ts_of c_176, Bool.not_true, Bool.and_false, if_neg (by decide), List.append_nil]; exact R5_37) | (rw [(bI_0 _).mp (Classical.not_not.mp c_176), (bI_0 _).mp (Classical.not_not.mp c_171), if_pos (by rfl)]; exact R5_37), Fr.rf⟩)
              · refine m_aload_n (pc' := 180) C dX8_printNumber_179 rfl 3 rfl rfl ?_
                refine m_get (pc' := 183) C 36 (by omega) f36_5 rfl inW_X8 0 (by decide) (gW_of tm_1_204) rfl rfl dX8_printNumber_180 rfl ?_
                refine m_bipush (pc' := 185) (v := nI 32) C dX8_printNumber_183 (by decide) rfl ?_
                refine m_iload (pc' := 187) C dX8_printNumber_185 1 rfl rfl ?_
                have R5_38 := hg.fr F_3 (by decide) (by decide)
                refine m_callVv (pc' := 190) (As := [.int (nI 32), .int (((nI w) - (nI fr)) - (nI (nmK b lt x po fm)))]) (rest := []) C (kX9_addMany hI R5_38 (nI 32) (((nI w) - (nI fr)) - (nI (nmK b lt x po fm)))) (cwV 2 C.1.2.2.2.2 (goodV tm_3_40 tm_3_41 tm_3_42 tm_1_3 tm_3_43) rfl rfl rfl (by decide +kernel) ⟨by decide, by decide⟩) R5_38.1 R5_38.ob rfl rfl rfl (Nat.le_of_ble_eq_true rfl) dX8_printNumber_187 rfl ⟨by decide, by decide⟩ (fun M39 q_39 => ?_)
                obtain ⟨R_39, F_39⟩ := q_39
                rw [fill2_eq (by decide) (by omega) (by omega) (by omega)] at R_39
                refine m_lv [3, 4, 5, 6, 1, 0] rfl ?_
                exact J190 M39 (⟨by first | (rw [ts_of c_171, Bool.not_true, Bool.false_and, if_neg (by decide), List.append_nil]; exact R_39) | (rw [ts_of c_176, Bool.not_true, Bool.and_false, if_neg (by decide), List.append_nil]; exact R_39) | (rw [(bI_0 _).mp (Classical.not_not.mp c_176), (bI_0 _).mp (Classical.not_not.mp c_171), if_pos (by rfl)]; exact R_39), (F_39.sub (by simp))⟩)
          refine m_iload (pc' := 120) C dX8_printNumber_118 1 rfl rfl ?_
          refine m_if_eq (pc' := 123) (tgt := 127) C dX8_printNumber_120 (by decide) rfl (fun c_120 => ?_) (fun c_120 => ?_)
          · refine m_iload (pc' := 129) C dX8_printNumber_127 0 rfl rfl ?_
            refine m_iconst (pc' := 130) (v := (-1)) C dX8_printNumber_129 (by decide) rfl ?_
            refine m_icmp_ne (pc' := 133) (tgt := 137) C dX8_printNumber_130 (by decide) rfl (fun c_130 => ?_) (fun c_130 => ?_)
            · refine m_iconst (pc' := 138) (v := nI 1) C dX8_printNumber_137 (by decide) rfl ?_
              refine m_lv [2, 4, 1, 0] rfl ?_
              exact J138 1 (⟨by unfold nmF; first | rw [ts_of c_120, if_pos rfl] | rw [(bI_0 _).mp c_120, if_neg (by decide), if_neg c_130] | rw [(bI_0 _).mp c_120, if_neg (by decide), if_pos (Classical.not_not.mp c_130)], by decide⟩)
            · refine m_iconst (pc' := 134) (v := nI 0) C dX8_printNumber_133 (by decide) rfl ?_
              refine m_goto (tgt := 138) C dX8_printNumber_134 (by decide) ?_
              refine m_lv [2, 4, 1, 0] rfl ?_
              exact J138 0 (⟨by unfold nmF; first | rw [ts_of c_120, if_pos rfl] | rw [(bI_0 _).mp c_120, if_neg (by decide), if_neg c_130] | rw [(bI_0 _).mp c_120, if_neg (by decide), if_pos (Classical.not_not.mp c_130)], by decide⟩)
          · refine m_iconst (pc' := 124) (v := nI 2) C dX8_printNumber_123 (by decide) rfl ?_
            refine m_goto (tgt := 138) C dX8_printNumber_124 (by decide) ?_
            refine m_lv [2, 4, 1, 0] rfl ?_
            exact J138 2 (⟨by unfold nmF; first | rw [ts_of c_120, if_pos rfl] | rw [(bI_0 _).mp c_120, if_neg (by decide), if_neg c_130] | rw [(bI_0 _).mp c_120, if_neg (by decide), if_pos (Classical.not_not.mp c_130)], by decide⟩)
        refine m_aload_n (pc' := 78) C dX8_printNumber_77 rfl 1 rfl rfl ?_
        refine m_get (pc' := 81) C 36 (by omega) f36_5 rfl inW_X8 4 (by decide) (gW_of tm_1_208) rfl rfl dX8_printNumber_78 rfl ?_
        refine m_get (pc' := 84) C 38 (by omega) f38_6 rfl inW_X2 3 (by decide) (gW_of tm_1_161) rfl rfl dX8_printNumber_81 rfl ?_
        refine m_if_eq (pc' := 87) (tgt := 107) C dX8_printNumber_84 (by decide) rfl (fun c_84 => ?_) (fun c_84 => ?_)
        · refine m_iconst (pc' := 108) (v := bI false) C dX8_printNumber_107 (by decide) rfl ?_
          refine m_lv [1, 3, 0] rfl ?_
          exact J108 false (by unfold nmM; first | (rw [(bI_0 _).mp c_84, Bool.false_and, Bool.false_and]) | (rw [show hexL lt = false from (bI_0 _).mp c_94, Bool.and_false, Bool.false_and]) | (rw [nz_f hv0, Bool.and_false]) | (rw [ts_of c_84, show hexL lt = true from ts_of c_94, nz_t hv0]; rfl))
        · refine m_aload_n (pc' := 88) C dX8_printNumber_87 rfl 1 rfl rfl ?_
          refine m_get (pc' := 91) C 36 (by omega) f36_5 rfl inW_X8 4 (by decide) (gW_of tm_1_208) rfl rfl dX8_printNumber_88 rfl ?_
          refine m_callVi (pc' := 94) (As := []) (rest := []) C (kX2_isHexadecimal hI (by omega) f38_6) (cwV 0 C.1.2.2.2.2 (goodV tm_3_125 tm_3_113 tm_3_114 tm_1_9 tm_3_115) rfl rfl rfl (by decide +kernel) ⟨by decide, by decide⟩) (by omega) f38_6 rfl rfl rfl (Nat.le_of_ble_eq_true rfl) dX8_printNumber_91 rfl ⟨by decide, by decide⟩ (fun x_40 N_40 q_40 => ?_)
          obtain ⟨e_40, E_40⟩ := q_40
          replace E_40 := E_40.symm
          subst E_40
          replace e_40 := e_40.symm
          subst e_40
          refine m_if_eq (pc' := 97) (tgt := 107) C dX8_printNumber_94 (by decide) rfl (fun c_94 => ?_) (fun c_94 => ?_)
          · refine m_iconst (pc' := 108) (v := bI false) C dX8_printNumber_107 (by decide) rfl ?_
            refine m_lv [1, 3, 0] rfl ?_
            exact J108 false (by unfold nmM; first | (rw [(bI_0 _).mp c_84, Bool.false_and, Bool.false_and]) | (rw [show hexL lt = false from (bI_0 _).mp c_94, Bool.and_false, Bool.false_and]) | (rw [nz_f hv0, Bool.and_false]) | (rw [ts_of c_84, show hexL lt = true from ts_of c_94, nz_t hv0]; rfl))
          · refine m_lload_n (pc' := 98) C dX8_printNumber_97 rfl 2 rfl rfl ?_
            refine m_lconst (pc' := 99) (v := 0) C dX8_printNumber_98 (by decide) rfl ?_
            refine m_lcmp (pc' := 100) (v := lg_cmp (nmV b lt x) 0) C dX8_printNumber_99 rfl rfl ?_
            refine m_if_eq (pc' := 103) (tgt := 107) C dX8_printNumber_100 (by decide) rfl (fun c_100 => ?_) (fun c_100 => ?_)
            · have hv0 : nmV b lt x = 0 := lcmp_eq c_100
              refine m_iconst (pc' := 108) (v := bI false) C dX8_printNumber_107 (by decide) rfl ?_
              refine m_lv [1, 3, 0] rfl ?_
              exact J108 false (by unfold nmM; first | (rw [(bI_0 _).mp c_84, Bool.false_and, Bool.false_and]) | (rw [show hexL lt = false from (bI_0 _).mp c_94, Bool.and_false, Bool.false_and]) | (rw [nz_f hv0, Bool.and_false]) | (rw [ts_of c_84, show hexL lt = true from ts_of c_94, nz_t hv0]; rfl))
            · have hv0 : nmV b lt x ≠ 0 := fun q => c_100 (lcmp_eq0 q)
              refine m_iconst (pc' := 104) (v := bI true) C dX8_printNumber_103 (by decide) rfl ?_
              refine m_goto (tgt := 108) C dX8_printNumber_104 (by decide) ?_
              refine m_lv [1, 3, 0] rfl ?_
              exact J108 true (by unfold nmM; first | (rw [(bI_0 _).mp c_84, Bool.false_and, Bool.false_and]) | (rw [show hexL lt = false from (bI_0 _).mp c_94, Bool.and_false, Bool.false_and]) | (rw [nz_f hv0, Bool.and_false]) | (rw [ts_of c_84, show hexL lt = true from ts_of c_94, nz_t hv0]; rfl))
      refine m_aload_n (pc' := 52) C dX8_printNumber_51 rfl 0 rfl rfl ?_
      refine m_get (pc' := 55) C 36 (by omega) hpr rfl inW_X8 4 (by decide) (gW_of tm_1_208) rfl rfl dX8_printNumber_52 rfl ?_
      refine m_get (pc' := 58) C 38 (by omega) hd rfl inW_X2 10 (by decide) (gW_of tm_1_174) rfl rfl dX8_printNumber_55 rfl ?_
      refine m_bipush (pc' := 60) (v := nI 88) C dX8_printNumber_58 (by decide) rfl ?_
      refine m_icmp_ne (pc' := 63) (tgt := 67) C dX8_printNumber_60 (by decide) rfl (fun c_60 => ?_) (fun c_60 => ?_)
      · refine m_iconst (pc' := 68) (v := bI false) C dX8_printNumber_67 (by decide) rfl ?_
        refine m_lv [0, 1, 2] rfl ?_
        exact J68 false (by first | rw [decide_eq_false c_60] | rw [decide_eq_true (Classical.not_not.mp c_60)])
      · refine m_iconst (pc' := 64) (v := bI true) C dX8_printNumber_63 (by decide) rfl ?_
        refine m_goto (tgt := 68) C dX8_printNumber_64 (by decide) ?_
        refine m_lv [0, 1, 2] rfl ?_
        exact J68 true (by first | rw [decide_eq_false c_60] | rw [decide_eq_true (Classical.not_not.mp c_60)])
    refine m_iload (pc' := 35) C dX8_printNumber_33 0 rfl rfl ?_
    refine m_if_eq (pc' := 38) (tgt := 43) C dX8_printNumber_35 (by decide) rfl (fun c_35 => ?_) (fun c_35 => ?_)
    · refine m_lload_n (pc' := 44) C dX8_printNumber_43 rfl 2 rfl rfl ?_
      refine m_lv [1, 2, 0] rfl ?_
      exact J44 (nmV b lt x) (by first | (rw [(bI_0 _).mp c_35]; rfl) | (rw [ts_of c_35]; rfl))
    · refine m_lload_n (pc' := 39) C dX8_printNumber_38 rfl 2 rfl rfl ?_
      refine m_lneg (pc' := 40) (v := -(nmV b lt x)) C dX8_printNumber_39 rfl rfl ?_
      refine m_goto (tgt := 44) C dX8_printNumber_40 (by decide) ?_
      refine m_lv [1, 2, 0] rfl ?_
      exact J44 (-(nmV b lt x)) (by first | (rw [(bI_0 _).mp c_35]; rfl) | (rw [ts_of c_35]; rfl))
  refine m_aload_n (pc' := 7) C dX8_printNumber_6 rfl 1 rfl rfl ?_
  refine m_get (pc' := 10) C 36 (by omega) hpr rfl inW_X8 4 (by decide) (gW_of tm_1_208) rfl rfl dX8_printNumber_7 rfl ?_
  refine m_callVi (pc' := 13) (As := []) (rest := []) C (kX2_isSigned hI (by omega) hd) (cwV 0 C.1.2.2.2.2 (goodV tm_3_104 tm_3_105 tm_3_106 tm_1_9 tm_3_107) rfl rfl rfl (by decide +kernel) ⟨by decide, by decide⟩) (by omega) hd rfl rfl rfl (Nat.le_of_ble_eq_true rfl) dX8_printNumber_10 rfl ⟨by decide, by decide⟩ (fun x_41 N_41 q_41 => ?_)
  obtain ⟨e_41, E_41⟩ := q_41
  replace E_41 := E_41.symm
  subst E_41
  replace e_41 := e_41.symm
  subst e_41
  refine m_if_eq (pc' := 16) (tgt := 26) C dX8_printNumber_13 (by decide) rfl (fun c_13 => ?_) (fun c_13 => ?_)
  · refine m_iconst (pc' := 27) (v := bI false) C dX8_printNumber_26 (by decide) rfl ?_
    refine m_lv [1, 0] rfl ?_
    exact J27 false (by unfold nmB; first | (rw [show sgdL lt = false from (bI_0 _).mp c_13]; rfl) | (rw [show sgdL lt = true from ts_of c_13, decide_eq_false ((lcmp_ge (nmV b lt x)).mp c_19)]; rfl) | (rw [show sgdL lt = true from ts_of c_13, decide_eq_true (Classical.not_not.mp (fun q => c_19 ((lcmp_ge (nmV b lt x)).mpr q)))]; rfl))
  · refine m_lload_n (pc' := 17) C dX8_printNumber_16 rfl 0 rfl rfl ?_
    refine m_lconst (pc' := 18) (v := 0) C dX8_printNumber_17 (by decide) rfl ?_
    refine m_lcmp (pc' := 19) (v := lg_cmp (nmV b lt x) 0) C dX8_printNumber_18 rfl rfl ?_
    refine m_if_ge (pc' := 22) (tgt := 26) C dX8_printNumber_19 (by decide) rfl (fun c_19 => ?_) (fun c_19 => ?_)
    · refine m_iconst (pc' := 27) (v := bI false) C dX8_printNumber_26 (by decide) rfl ?_
      refine m_lv [1, 0] rfl ?_
      exact J27 false (by unfold nmB; first | (rw [show sgdL lt = false from (bI_0 _).mp c_13]; rfl) | (rw [show sgdL lt = true from ts_of c_13, decide_eq_false ((lcmp_ge (nmV b lt x)).mp c_19)]; rfl) | (rw [show sgdL lt = true from ts_of c_13, decide_eq_true (Classical.not_not.mp (fun q => c_19 ((lcmp_ge (nmV b lt x)).mpr q)))]; rfl))
    · refine m_iconst (pc' := 23) (v := bI true) C dX8_printNumber_22 (by decide) rfl ?_
      refine m_goto (tgt := 27) C dX8_printNumber_23 (by decide) ?_
      refine m_lv [1, 0] rfl ?_
      exact J27 true (by unfold nmB; first | (rw [show sgdL lt = false from (bI_0 _).mp c_13]; rfl) | (rw [show sgdL lt = true from ts_of c_13, decide_eq_false ((lcmp_ge (nmV b lt x)).mp c_19)]; rfl) | (rw [show sgdL lt = true from ts_of c_13, decide_eq_true (Classical.not_not.mp (fun q => c_19 ((lcmp_ge (nmV b lt x)).mpr q)))]; rfl))
