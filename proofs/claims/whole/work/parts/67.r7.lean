set_option maxHeartbeats 4000000 in
set_option maxRecDepth 100000 in
theorem kX12_printWhole {l : Launch} {D : va_G} {cy : Nat → ClassId} {ad : Nat → Nat} {n : Nat} {A : Nat → Prop} (hI : mI ad n A) {M : Nat → va_E} (hn : 63 ≤ n) (hn2 : n ≤ 100) (hro : rO ad M) {xs : Nat → Arg} {cnt : Nat} (hra : isRA cy M xs cnt) {od tk : Nat} (hod : M 116 = gh (.int (nI od))) (hnx : M 117 = gh (.int (nI tk))) {L : List Nat} (hdg : isDg cy M L) {lim : Nat} {O : List Nat} (hout : isOut cy M lim O) {fl fp fb fm fz : Bool} {wd bt c : Nat} {po : Option Nat} (h20 : M 120 = gh (.int (bI fl))) (h21 : M 121 = gh (.int (bI fp))) (h22 : M 122 = gh (.int (bI fb))) (h23 : M 123 = gh (.int (bI fm))) (h24 : M 124 = gh (.int (bI fz))) (h25 : M 125 = gh (.int (nI wd))) (h26 : M 126 = gh (.int (pI po))) (h27 : M 127 = gh (.int (nI bt))) (h28 : M 128 = gh (.int (nI c))) (htk : tk ≤ cnt) (hbt : bt = 8 ∨ bt = 16 ∨ bt = 32 ∨ bt = 64) (hc : c < 256) (hwd : wd < 2 ^ 20) (hpo : ∀ k, po = some k → k ≤ 99) : mMv l yX12_printWhole (gW yX12_printWhole cX12_printWhole 13 none) { frames := 3, cells := 0, slots := 0, locals := 71 } D cy ad n A [.ref (ad 52)] M (fun M' => rO ad M' ∧ isOut cy M' lim (O ++ fmtN bt (nI c) (nextV xs cnt tk) fl fp fb fm fz wd po) ∧ M' 116 = gh (.int (nI (od + nextO xs cnt tk))) ∧ M' 117 = gh (.int (nI (nextT cnt tk))) ∧ (∃ D, isDg cy M' D) ∧ Fr [52, 59, 61, 111, 113, 116, 117, 132] M M') := by
  have hpo2 : ∀ k, po = some k → k < 2 ^ 20 := fun k hk => by have := hpo k hk; omega
  have hlp : leastP po ≤ 99 := by
    cases hq : po with
    | none => simp [leastP]
    | some k => exact hpo k hq
  refine m_entry (cc := cX12_printWhole) (maxL := 13) (ret := none) (own := RX12) (lv := [(0, .ref (ad 52))]) hI (by decide) rfl rfl (Nat.le_of_ble_eq_true rfl) rfl (fun pX eX sX mX aX bX tX cX C hrt0 hlk0 => ?_)
  refine m_aload_n (pc' := 1) C dX12_printWhole_0 rfl 0 rfl rfl ?_
  refine m_callVl (pc' := 4) (As := []) (rest := []) C (kX12_takeNumber hI hn hn2 hro hra hod hnx (by omega)) (cwV 0 C.1.2.2.2.2 (goodV tm_6_7 tm_6_9 tp_59 tm_1_13 tm_6_10) rfl rfl rfl (by decide +kernel) ⟨by decide, by decide⟩) (by omega) hro rfl rfl rfl (Nat.le_of_ble_eq_true rfl) dX12_printWhole_1 rfl ⟨by decide, by decide⟩ (fun x_1 M1 q_1 => ?_)
  obtain ⟨e_1, pro_1, pf16_1, pf17_1, F_1⟩ := q_1
  replace e_1 := e_1.symm
  subst e_1
  refine m_lstore_n (pc' := 5) (lv' := [(1, .long (nextV xs cnt tk)), (0, .ref (ad 52))]) C dX12_printWhole_4 rfl (by decide) rfl rfl ?_
  refine m_cut (σ := Int32) (fun a => a = bI (sgdL (nI c))) (fun a => M1) 28 (fun a => [(1, .long (nextV xs cnt tk)), (0, .ref (ad 52))]) (fun a => [.int (a)]) ?_ (fun J28 => ?_)
  · rintro y9 hj
    try dsimp only at hj ⊢
    subst hj
    refine m_istore_n (pc' := 29) (lv' := [(3, .int (bI (sgdL (nI c)))), (1, .long (nextV xs cnt tk)), (0, .ref (ad 52))]) C dX12_printWhole_28 rfl (by decide) rfl rfl ?_
    refine m_cut (σ := Int64) (fun a => a = nmV bt (nI c) (nextV xs cnt tk)) (fun a => M1) 76 (fun a => [(3, .int (bI (sgdL (nI c)))), (1, .long (nextV xs cnt tk)), (0, .ref (ad 52))]) (fun a => [.long (a)]) ?_ (fun J76 => ?_)
    · rintro y9 hj
      try dsimp only at hj ⊢
      subst hj
      refine m_lstore (pc' := 78) (lv' := [(4, .long (nmV bt (nI c) (nextV xs cnt tk))), (3, .int (bI (sgdL (nI c)))), (1, .long (nextV xs cnt tk)), (0, .ref (ad 52))]) C dX12_printWhole_76 (by decide) rfl rfl ?_
      refine m_cut (σ := Int32) (fun a => a = bI (nmB bt (nI c) (nextV xs cnt tk))) (fun a => M1) 94 (fun a => [(4, .long (nmV bt (nI c) (nextV xs cnt tk))), (3, .int (bI (sgdL (nI c)))), (1, .long (nextV xs cnt tk)), (0, .ref (ad 52))]) (fun a => [.int (a)]) ?_ (fun J94 => ?_)
      · rintro y9 hj
        try dsimp only at hj ⊢
        subst hj
        refine m_istore (pc' := 96) (lv' := [(6, .int (bI (nmB bt (nI c) (nextV xs cnt tk)))), (4, .long (nmV bt (nI c) (nextV xs cnt tk))), (3, .int (bI (sgdL (nI c)))), (1, .long (nextV xs cnt tk)), (0, .ref (ad 52))]) C dX12_printWhole_94 (by decide) rfl rfl ?_
        refine m_cut (σ := Int32) (fun a => a = nI (baseN (nI c))) (fun a => M1) 135 (fun a => [(6, .int (bI (nmB bt (nI c) (nextV xs cnt tk)))), (4, .long (nmV bt (nI c) (nextV xs cnt tk))), (3, .int (bI (sgdL (nI c)))), (1, .long (nextV xs cnt tk)), (0, .ref (ad 52))]) (fun a => [.int (a)]) ?_ (fun J135 => ?_)
        · rintro y9 hj
          try dsimp only at hj ⊢
          subst hj
          have hbn := baseN_in (nI c)
          refine m_istore (pc' := 137) (lv' := [(7, .int (nI (baseN (nI c)))), (6, .int (bI (nmB bt (nI c) (nextV xs cnt tk)))), (4, .long (nmV bt (nI c) (nextV xs cnt tk))), (3, .int (bI (sgdL (nI c)))), (1, .long (nextV xs cnt tk)), (0, .ref (ad 52))]) C dX12_printWhole_135 (by decide) rfl rfl ?_
          refine m_aload_n (pc' := 138) C dX12_printWhole_137 rfl 5 rfl rfl ?_
          refine m_cut (σ := Int64) (fun a => a = (if nmB bt (nI c) (nextV xs cnt tk) then -(nmV bt (nI c) (nextV xs cnt tk)) else nmV bt (nI c) (nextV xs cnt tk))) (fun a => M1) 151 (fun a => [(7, .int (nI (baseN (nI c)))), (6, .int (bI (nmB bt (nI c) (nextV xs cnt tk)))), (4, .long (nmV bt (nI c) (nextV xs cnt tk))), (3, .int (bI (sgdL (nI c)))), (1, .long (nextV xs cnt tk)), (0, .ref (ad 52))]) (fun a => [.long (a), .ref (ad 52)]) ?_ (fun J151 => ?_)
          · rintro y9 hj
            try dsimp only at hj ⊢
            subst hj
            refine m_iload (pc' := 153) C dX12_printWhole_151 0 rfl rfl ?_
            refine m_cut (σ := Int32) (fun a => a = bI (decide (nI c = nI 88))) (fun a => M1) 167 (fun a => [(7, .int (nI (baseN (nI c)))), (6, .int (bI (nmB bt (nI c) (nextV xs cnt tk)))), (4, .long (nmV bt (nI c) (nextV xs cnt tk))), (3, .int (bI (sgdL (nI c)))), (1, .long (nextV xs cnt tk)), (0, .ref (ad 52))]) (fun a => [.int (a), .int (nI (baseN (nI c))), .long ((if nmB bt (nI c) (nextV xs cnt tk) then -(nmV bt (nI c) (nextV xs cnt tk)) else nmV bt (nI c) (nextV xs cnt tk))), .ref (ad 52)]) ?_ (fun J167 => ?_)
            · rintro y9 hj
              try dsimp only at hj ⊢
              subst hj
              have xdg_3 := hdg.fr F_1 (by decide)
              refine m_callVv (pc' := 170) (As := [.long ((if nmB bt (nI c) (nextV xs cnt tk) then -(nmV bt (nI c) (nextV xs cnt tk)) else nmV bt (nI c) (nextV xs cnt tk))), .int (nI (baseN (nI c))), .int (bI (decide (nI c = nI 88)))]) (rest := []) C (kX12_reckon hI hn hn2 pro_1 xdg_3 (if nmB bt (nI c) (nextV xs cnt tk) then -(nmV bt (nI c) (nextV xs cnt tk)) else nmV bt (nI c) (nextV xs cnt tk)) (b := baseN (nI c)) (decide (nI c = nI 88)) hbn) (cwV 3 C.1.2.2.2.2 (goodV tm_6_31 tm_6_33 tp_63 tm_1_13 tm_6_34) rfl rfl rfl (by decide +kernel) ⟨by decide, by decide⟩) (by omega) pro_1 rfl rfl rfl (Nat.le_of_ble_eq_true rfl) dX12_printWhole_167 rfl ⟨by decide, by decide⟩ (fun M2 q_2 => ?_)
              obtain ⟨pro_2, pdg_2, F_2⟩ := q_2
              change isDg cy M2 ((nmD bt (nI c) (nextV xs cnt tk)).map (dch (decide (nI c = nI 88)))) at pdg_2
              have hdl : (nmD bt (nI c) (nextV xs cnt tk)).length ≤ 22 := dg_len (b := baseN (nI c)) (by omega) 22 _ (Nat.lt_of_lt_of_le (uL_lt _) (Nat.le_trans (show 2 ^ 64 ≤ 8 ^ 22 by decide) (Nat.pow_le_pow_left (by omega) 22)))
              refine m_aload_n (pc' := 171) C dX12_printWhole_170 rfl 5 rfl rfl ?_
              refine m_cut (σ := Int32) (fun a => a = nI (leastP po)) (fun a => M2) 186 (fun a => [(7, .int (nI (baseN (nI c)))), (6, .int (bI (nmB bt (nI c) (nextV xs cnt tk)))), (4, .long (nmV bt (nI c) (nextV xs cnt tk))), (3, .int (bI (sgdL (nI c)))), (1, .long (nextV xs cnt tk)), (0, .ref (ad 52))]) (fun a => [.int (a), .ref (ad 52)]) ?_ (fun J186 => ?_)
              · rintro y9 hj
                try dsimp only at hj ⊢
                subst hj
                refine m_callVv (pc' := 189) (As := [.int (nI (leastP po))]) (rest := []) C (kX12_fill hI hn hn2 pro_2 pdg_2 (m := leastP po) (by omega)) (cwV 1 C.1.2.2.2.2 (goodV tm_6_39 tm_6_41 tp_64 tm_1_13 tm_6_42) rfl rfl rfl (by decide +kernel) ⟨by decide, by decide⟩) (by omega) pro_2 rfl rfl rfl (Nat.le_of_ble_eq_true rfl) dX12_printWhole_186 rfl ⟨by decide, by decide⟩ (fun M4 q_4 => ?_)
                obtain ⟨pro_4, pdg_4, F_4⟩ := q_4
                rw [List.length_map] at pdg_4
                change isDg cy M4 (fillD (nmD bt (nI c) (nextV xs cnt tk)) (decide (nI c = nI 88)) (leastP po)) at pdg_4
                obtain ⟨e1, e2, e3, g8, e4, e5⟩ := id pdg_4
                refine m_cut (σ := (Nat → va_E)) (fun a => rO ad a ∧ isDg cy a (fillD (nmD bt (nI c) (nextV xs cnt tk)) (decide (nI c = nI 88)) (nmK bt (nI c) (nextV xs cnt tk) po fm)) ∧ Fr [52, 61, 132] M4 a) (fun a => a) 249 (fun a => [(7, .int (nI (baseN (nI c)))), (6, .int (bI (nmB bt (nI c) (nextV xs cnt tk)))), (4, .long (nmV bt (nI c) (nextV xs cnt tk))), (3, .int (bI (sgdL (nI c)))), (1, .long (nextV xs cnt tk)), (0, .ref (ad 52))]) (fun a => []) ?_ (fun J249 => ?_)
                · rintro Mj249 hj
                  try dsimp only at hj ⊢
                  obtain ⟨jro_249, jdg_249, jf_249⟩ := hj
                  have hklen : (fillD (nmD bt (nI c) (nextV xs cnt tk)) (decide (nI c = nI 88)) (nmK bt (nI c) (nextV xs cnt tk) po fm)).length = nmK bt (nI c) (nextV xs cnt tk) po fm := by
                    rw [fillD_len]
                    have := due_ge po (nmD bt (nI c) (nextV xs cnt tk)).length (fm && decide (nI c = nI 111))
                    exact Nat.max_eq_left this
                  have hk100 : nmK bt (nI c) (nextV xs cnt tk) po fm ≤ 100 := by
                    unfold nmK dueN
                    split <;> omega
                  have hF2 : nmF (nmM bt (nI c) (nextV xs cnt tk) fm) (nmS bt (nI c) (nextV xs cnt tk) fp fb) ≤ 2 := by unfold nmF; (repeat' split) <;> omega
                  refine m_cut (σ := Int32) (fun a => a = nI (sgN (nmS bt (nI c) (nextV xs cnt tk) fp fb))) (fun a => Mj249) 292 (fun a => [(7, .int (nI (baseN (nI c)))), (6, .int (bI (nmB bt (nI c) (nextV xs cnt tk)))), (4, .long (nmV bt (nI c) (nextV xs cnt tk))), (3, .int (bI (sgdL (nI c)))), (1, .long (nextV xs cnt tk)), (0, .ref (ad 52))]) (fun a => [.int (a)]) ?_ (fun J292 => ?_)
                  · rintro y9 hj
                    try dsimp only at hj ⊢
                    subst hj
                    have hsgl := sgN_lt (nmS bt (nI c) (nextV xs cnt tk) fp fb)
                    refine m_istore (pc' := 294) (lv' := [(8, .int (nI (sgN (nmS bt (nI c) (nextV xs cnt tk) fp fb)))), (7, .int (nI (baseN (nI c)))), (6, .int (bI (nmB bt (nI c) (nextV xs cnt tk)))), (4, .long (nmV bt (nI c) (nextV xs cnt tk))), (3, .int (bI (sgdL (nI c)))), (1, .long (nextV xs cnt tk)), (0, .ref (ad 52))]) C dX12_printWhole_292 (by decide) rfl rfl ?_
                    refine m_cut (σ := Int32) (fun a => a = bI (nmM bt (nI c) (nextV xs cnt tk) fm)) (fun a => Mj249) 320 (fun a => [(8, .int (nI (sgN (nmS bt (nI c) (nextV xs cnt tk) fp fb)))), (7, .int (nI (baseN (nI c)))), (6, .int (bI (nmB bt (nI c) (nextV xs cnt tk)))), (4, .long (nmV bt (nI c) (nextV xs cnt tk))), (3, .int (bI (sgdL (nI c)))), (1, .long (nextV xs cnt tk)), (0, .ref (ad 52))]) (fun a => [.int (a)]) ?_ (fun J320 => ?_)
                    · rintro y9 hj
                      try dsimp only at hj ⊢
                      subst hj
                      refine m_istore (pc' := 322) (lv' := [(9, .int (bI (nmM bt (nI c) (nextV xs cnt tk) fm))), (8, .int (nI (sgN (nmS bt (nI c) (nextV xs cnt tk) fp fb)))), (7, .int (nI (baseN (nI c)))), (6, .int (bI (nmB bt (nI c) (nextV xs cnt tk)))), (4, .long (nmV bt (nI c) (nextV xs cnt tk))), (3, .int (bI (sgdL (nI c)))), (1, .long (nextV xs cnt tk)), (0, .ref (ad 52))]) C dX12_printWhole_320 (by decide) rfl rfl ?_
                      refine m_aload_n (pc' := 323) C dX12_printWhole_322 rfl 7 rfl rfl ?_
                      refine r_get C hn jro_249 inW_X12 32 (by decide) ⟨rfl, rfl, rfl⟩ (gW_of tm_5_82) (r_at 32 rfl jdg_249.2.1) dX12_printWhole_323 rfl ?_
                      refine m_cut (σ := Int32) (fun a => a = nI (if sgN (nmS bt (nI c) (nextV xs cnt tk) fp fb) = 0 then 0 else 1)) (fun a => Mj249) 336 (fun a => [(9, .int (bI (nmM bt (nI c) (nextV xs cnt tk) fm))), (8, .int (nI (sgN (nmS bt (nI c) (nextV xs cnt tk) fp fb)))), (7, .int (nI (baseN (nI c)))), (6, .int (bI (nmB bt (nI c) (nextV xs cnt tk)))), (4, .long (nmV bt (nI c) (nextV xs cnt tk))), (3, .int (bI (sgdL (nI c)))), (1, .long (nextV xs cnt tk)), (0, .ref (ad 52))]) (fun a => [.int (a), .int (nI (fillD (nmD bt (nI c) (nextV xs cnt tk)) (decide (nI c = nI 88)) (nmK bt (nI c) (nextV xs cnt tk) po fm)).length)]) ?_ (fun J336 => ?_)
                      · rintro y9 hj
                        try dsimp only at hj ⊢
                        subst hj
                        refine m_iadd (pc' := 337) (v := nI ((fillD (nmD bt (nI c) (nextV xs cnt tk)) (decide (nI c = nI 88)) (nmK bt (nI c) (nextV xs cnt tk) po fm)).length + (if sgN (nmS bt (nI c) (nextV xs cnt tk) fp fb) = 0 then 0 else 1))) C dX12_printWhole_336 (nI_add _ _) rfl ?_
                        refine m_cut (σ := Int32) (fun a => a = nI (if nmM bt (nI c) (nextV xs cnt tk) fm then 2 else 0)) (fun a => Mj249) 347 (fun a => [(9, .int (bI (nmM bt (nI c) (nextV xs cnt tk) fm))), (8, .int (nI (sgN (nmS bt (nI c) (nextV xs cnt tk) fp fb)))), (7, .int (nI (baseN (nI c)))), (6, .int (bI (nmB bt (nI c) (nextV xs cnt tk)))), (4, .long (nmV bt (nI c) (nextV xs cnt tk))), (3, .int (bI (sgdL (nI c)))), (1, .long (nextV xs cnt tk)), (0, .ref (ad 52))]) (fun a => [.int (a), .int (nI ((fillD (nmD bt (nI c) (nextV xs cnt tk)) (decide (nI c = nI 88)) (nmK bt (nI c) (nextV xs cnt tk) po fm)).length + (if sgN (nmS bt (nI c) (nextV xs cnt tk) fp fb) = 0 then 0 else 1)))]) ?_ (fun J347 => ?_)
                        · rintro y9 hj
                          try dsimp only at hj ⊢
                          subst hj
                          refine m_iadd (pc' := 348) (v := nI (nmK bt (nI c) (nextV xs cnt tk) po fm + nmF (nmM bt (nI c) (nextV xs cnt tk) fm) (nmS bt (nI c) (nextV xs cnt tk) fp fb))) C dX12_printWhole_347 (by rw [nI_add, hklen, Nat.add_assoc, size_eq]) rfl ?_
                          refine m_istore (pc' := 350) (lv' := [(10, .int (nI (nmK bt (nI c) (nextV xs cnt tk) po fm + nmF (nmM bt (nI c) (nextV xs cnt tk) fm) (nmS bt (nI c) (nextV xs cnt tk) fp fb)))), (9, .int (bI (nmM bt (nI c) (nextV xs cnt tk) fm))), (8, .int (nI (sgN (nmS bt (nI c) (nextV xs cnt tk) fp fb)))), (7, .int (nI (baseN (nI c)))), (6, .int (bI (nmB bt (nI c) (nextV xs cnt tk)))), (4, .long (nmV bt (nI c) (nextV xs cnt tk))), (3, .int (bI (sgdL (nI c)))), (1, .long (nextV xs cnt tk)), (0, .ref (ad 52))]) C dX12_printWhole_348 (by decide) rfl rfl ?_
                          refine m_cut (σ := Int32) (fun a => a = nI (wd - (nmK bt (nI c) (nextV xs cnt tk) po fm + nmF (nmM bt (nI c) (nextV xs cnt tk) fm) (nmS bt (nI c) (nextV xs cnt tk) fp fb)))) (fun a => Mj249) 370 (fun a => [(10, .int (nI (nmK bt (nI c) (nextV xs cnt tk) po fm + nmF (nmM bt (nI c) (nextV xs cnt tk) fm) (nmS bt (nI c) (nextV xs cnt tk) fp fb)))), (9, .int (bI (nmM bt (nI c) (nextV xs cnt tk) fm))), (8, .int (nI (sgN (nmS bt (nI c) (nextV xs cnt tk) fp fb)))), (7, .int (nI (baseN (nI c)))), (6, .int (bI (nmB bt (nI c) (nextV xs cnt tk)))), (4, .long (nmV bt (nI c) (nextV xs cnt tk))), (3, .int (bI (sgdL (nI c)))), (1, .long (nextV xs cnt tk)), (0, .ref (ad 52))]) (fun a => [.int (a)]) ?_ (fun J370 => ?_)
                          · rintro y9 hj
                            try dsimp only at hj ⊢
                            subst hj
                            refine m_istore (pc' := 372) (lv' := [(11, .int (nI (wd - (nmK bt (nI c) (nextV xs cnt tk) po fm + nmF (nmM bt (nI c) (nextV xs cnt tk) fm) (nmS bt (nI c) (nextV xs cnt tk) fp fb))))), (10, .int (nI (nmK bt (nI c) (nextV xs cnt tk) po fm + nmF (nmM bt (nI c) (nextV xs cnt tk) fm) (nmS bt (nI c) (nextV xs cnt tk) fp fb)))), (9, .int (bI (nmM bt (nI c) (nextV xs cnt tk) fm))), (8, .int (nI (sgN (nmS bt (nI c) (nextV xs cnt tk) fp fb)))), (7, .int (nI (baseN (nI c)))), (6, .int (bI (nmB bt (nI c) (nextV xs cnt tk)))), (4, .long (nmV bt (nI c) (nextV xs cnt tk))), (3, .int (bI (sgdL (nI c)))), (1, .long (nextV xs cnt tk)), (0, .ref (ad 52))]) C dX12_printWhole_370 (by decide) rfl rfl ?_
                            refine m_cut (σ := Int32) (fun a => a = bI (nmZ fz fl po)) (fun a => Mj249) 398 (fun a => [(11, .int (nI (wd - (nmK bt (nI c) (nextV xs cnt tk) po fm + nmF (nmM bt (nI c) (nextV xs cnt tk) fm) (nmS bt (nI c) (nextV xs cnt tk) fp fb))))), (10, .int (nI (nmK bt (nI c) (nextV xs cnt tk) po fm + nmF (nmM bt (nI c) (nextV xs cnt tk) fm) (nmS bt (nI c) (nextV xs cnt tk) fp fb)))), (9, .int (bI (nmM bt (nI c) (nextV xs cnt tk) fm))), (8, .int (nI (sgN (nmS bt (nI c) (nextV xs cnt tk) fp fb)))), (7, .int (nI (baseN (nI c)))), (6, .int (bI (nmB bt (nI c) (nextV xs cnt tk)))), (4, .long (nmV bt (nI c) (nextV xs cnt tk))), (3, .int (bI (sgdL (nI c)))), (1, .long (nextV xs cnt tk)), (0, .ref (ad 52))]) (fun a => [.int (a)]) ?_ (fun J398 => ?_)
                            · rintro y9 hj
                              try dsimp only at hj ⊢
                              subst hj
                              refine m_istore (pc' := 400) (lv' := [(12, .int (bI (nmZ fz fl po))), (11, .int (nI (wd - (nmK bt (nI c) (nextV xs cnt tk) po fm + nmF (nmM bt (nI c) (nextV xs cnt tk) fm) (nmS bt (nI c) (nextV xs cnt tk) fp fb))))), (10, .int (nI (nmK bt (nI c) (nextV xs cnt tk) po fm + nmF (nmM bt (nI c) (nextV xs cnt tk) fm) (nmS bt (nI c) (nextV xs cnt tk) fp fb)))), (9, .int (bI (nmM bt (nI c) (nextV xs cnt tk) fm))), (8, .int (nI (sgN (nmS bt (nI c) (nextV xs cnt tk) fp fb)))), (7, .int (nI (baseN (nI c)))), (6, .int (bI (nmB bt (nI c) (nextV xs cnt tk)))), (4, .long (nmV bt (nI c) (nextV xs cnt tk))), (3, .int (bI (sgdL (nI c)))), (1, .long (nextV xs cnt tk)), (0, .ref (ad 52))]) C dX12_printWhole_398 (by decide) rfl rfl ?_
                              refine m_aload_n (pc' := 401) C dX12_printWhole_400 rfl 10 rfl rfl ?_
                              refine m_bipush (pc' := 403) (v := nI 32) C dX12_printWhole_401 (by decide) rfl ?_
                              refine m_cut (σ := Int32) (fun a => a = nI (if fl || nmZ fz fl po then 0 else (wd - (nmK bt (nI c) (nextV xs cnt tk) po fm + nmF (nmM bt (nI c) (nextV xs cnt tk) fm) (nmS bt (nI c) (nextV xs cnt tk) fp fb))))) (fun a => Mj249) 421 (fun a => [(12, .int (bI (nmZ fz fl po))), (11, .int (nI (wd - (nmK bt (nI c) (nextV xs cnt tk) po fm + nmF (nmM bt (nI c) (nextV xs cnt tk) fm) (nmS bt (nI c) (nextV xs cnt tk) fp fb))))), (10, .int (nI (nmK bt (nI c) (nextV xs cnt tk) po fm + nmF (nmM bt (nI c) (nextV xs cnt tk) fm) (nmS bt (nI c) (nextV xs cnt tk) fp fb)))), (9, .int (bI (nmM bt (nI c) (nextV xs cnt tk) fm))), (8, .int (nI (sgN (nmS bt (nI c) (nextV xs cnt tk) fp fb)))), (7, .int (nI (baseN (nI c)))), (6, .int (bI (nmB bt (nI c) (nextV xs cnt tk)))), (4, .long (nmV bt (nI c) (nextV xs cnt tk))), (3, .int (bI (sgdL (nI c)))), (1, .long (nextV xs cnt tk)), (0, .ref (ad 52))]) (fun a => [.int (a), .int (nI 32), .ref (ad 52)]) ?_ (fun J421 => ?_)
                              · rintro y9 hj
                                try dsimp only at hj ⊢
                                subst hj
                                have xout_6 := hout.fr F_1 (by decide)
                                have xout_7 := xout_6.fr F_2 (by decide)
                                have xout_8 := xout_7.fr F_4 (by decide)
                                have xout_9 := xout_8.fr jf_249 (by decide)
                                refine m_callVv (pc' := 424) (As := [.int (nI 32), .int (nI (if fl || nmZ fz fl po then 0 else (wd - (nmK bt (nI c) (nextV xs cnt tk) po fm + nmF (nmM bt (nI c) (nextV xs cnt tk) fm) (nmS bt (nI c) (nextV xs cnt tk) fp fb)))))]) (rest := []) C (kX12_putMany hI hn hn2 jro_249 xout_9 (x := 32) (by decide) (nI (if fl || nmZ fz fl po then 0 else (wd - (nmK bt (nI c) (nextV xs cnt tk) po fm + nmF (nmM bt (nI c) (nextV xs cnt tk) fm) (nmS bt (nI c) (nextV xs cnt tk) fp fb)))))) (cwV 2 C.1.2.2.2.2 (goodV tm_6_52 tm_6_54 tp_67 tm_1_13 tm_6_55) rfl rfl rfl (by decide +kernel) ⟨by decide, by decide⟩) (by omega) jro_249 rfl rfl rfl (Nat.le_of_ble_eq_true rfl) dX12_printWhole_421 rfl ⟨by decide, by decide⟩ (fun M5 q_5 => ?_)
                                obtain ⟨pro_5, pout_5, F_5⟩ := q_5
                                rw [show cl (nI (if fl || nmZ fz fl po then 0 else (wd - (nmK bt (nI c) (nextV xs cnt tk) po fm + nmF (nmM bt (nI c) (nextV xs cnt tk) fm) (nmS bt (nI c) (nextV xs cnt tk) fp fb))))) = (if fl || nmZ fz fl po then 0 else (wd - (nmK bt (nI c) (nextV xs cnt tk) po fm + nmF (nmM bt (nI c) (nextV xs cnt tk) fm) (nmS bt (nI c) (nextV xs cnt tk) fp fb)))) from nI_clamp (by split <;> omega)] at pout_5
                                refine m_cut (σ := (Nat → va_E)) (fun a => rO ad a ∧ isOut cy a lim ((O ++ List.replicate (if fl || nmZ fz fl po then 0 else (wd - (nmK bt (nI c) (nextV xs cnt tk) po fm + nmF (nmM bt (nI c) (nextV xs cnt tk) fm) (nmS bt (nI c) (nextV xs cnt tk) fp fb)))) 32) ++ (if sgN (nmS bt (nI c) (nextV xs cnt tk) fp fb) = 0 then [] else [sgN (nmS bt (nI c) (nextV xs cnt tk) fp fb)])) ∧ Fr [52, 59, 111, 113] M5 a) (fun a => a) 435 (fun a => [(12, .int (bI (nmZ fz fl po))), (11, .int (nI (wd - (nmK bt (nI c) (nextV xs cnt tk) po fm + nmF (nmM bt (nI c) (nextV xs cnt tk) fm) (nmS bt (nI c) (nextV xs cnt tk) fp fb))))), (10, .int (nI (nmK bt (nI c) (nextV xs cnt tk) po fm + nmF (nmM bt (nI c) (nextV xs cnt tk) fm) (nmS bt (nI c) (nextV xs cnt tk) fp fb)))), (9, .int (bI (nmM bt (nI c) (nextV xs cnt tk) fm))), (8, .int (nI (sgN (nmS bt (nI c) (nextV xs cnt tk) fp fb)))), (7, .int (nI (baseN (nI c)))), (6, .int (bI (nmB bt (nI c) (nextV xs cnt tk)))), (4, .long (nmV bt (nI c) (nextV xs cnt tk))), (3, .int (bI (sgdL (nI c)))), (1, .long (nextV xs cnt tk)), (0, .ref (ad 52))]) (fun a => []) ?_ (fun J435 => ?_)
                                · rintro Mj435 hj
                                  try dsimp only at hj ⊢
                                  obtain ⟨jro_435, jout_435, jf_435⟩ := hj
                                  refine m_cut (σ := (Nat → va_E)) (fun a => rO ad a ∧ isOut cy a lim (((O ++ List.replicate (if fl || nmZ fz fl po then 0 else (wd - (nmK bt (nI c) (nextV xs cnt tk) po fm + nmF (nmM bt (nI c) (nextV xs cnt tk) fm) (nmS bt (nI c) (nextV xs cnt tk) fp fb)))) 32) ++ (if sgN (nmS bt (nI c) (nextV xs cnt tk) fp fb) = 0 then [] else [sgN (nmS bt (nI c) (nextV xs cnt tk) fp fb)])) ++ (if nmM bt (nI c) (nextV xs cnt tk) fm then [48, c] else [])) ∧ Fr [52, 59, 111, 113] Mj435 a) (fun a => a) 454 (fun a => [(12, .int (bI (nmZ fz fl po))), (11, .int (nI (wd - (nmK bt (nI c) (nextV xs cnt tk) po fm + nmF (nmM bt (nI c) (nextV xs cnt tk) fm) (nmS bt (nI c) (nextV xs cnt tk) fp fb))))), (10, .int (nI (nmK bt (nI c) (nextV xs cnt tk) po fm + nmF (nmM bt (nI c) (nextV xs cnt tk) fm) (nmS bt (nI c) (nextV xs cnt tk) fp fb)))), (9, .int (bI (nmM bt (nI c) (nextV xs cnt tk) fm))), (8, .int (nI (sgN (nmS bt (nI c) (nextV xs cnt tk) fp fb)))), (7, .int (nI (baseN (nI c)))), (6, .int (bI (nmB bt (nI c) (nextV xs cnt tk)))), (4, .long (nmV bt (nI c) (nextV xs cnt tk))), (3, .int (bI (sgdL (nI c)))), (1, .long (nextV xs cnt tk)), (0, .ref (ad 52))]) (fun a => []) ?_ (fun J454 => ?_)
                                  · rintro Mj454 hj
                                    try dsimp only at hj ⊢
                                    obtain ⟨jro_454, jout_454, jf_454⟩ := hj
                                    refine m_aload_n (pc' := 455) C dX12_printWhole_454 rfl 10 rfl rfl ?_
                                    refine m_bipush (pc' := 457) (v := nI 48) C dX12_printWhole_455 (by decide) rfl ?_
                                    refine m_cut (σ := Int32) (fun a => a = nI (if nmZ fz fl po then (wd - (nmK bt (nI c) (nextV xs cnt tk) po fm + nmF (nmM bt (nI c) (nextV xs cnt tk) fm) (nmS bt (nI c) (nextV xs cnt tk) fp fb))) else 0)) (fun a => Mj454) 468 (fun a => [(12, .int (bI (nmZ fz fl po))), (11, .int (nI (wd - (nmK bt (nI c) (nextV xs cnt tk) po fm + nmF (nmM bt (nI c) (nextV xs cnt tk) fm) (nmS bt (nI c) (nextV xs cnt tk) fp fb))))), (10, .int (nI (nmK bt (nI c) (nextV xs cnt tk) po fm + nmF (nmM bt (nI c) (nextV xs cnt tk) fm) (nmS bt (nI c) (nextV xs cnt tk) fp fb)))), (9, .int (bI (nmM bt (nI c) (nextV xs cnt tk) fm))), (8, .int (nI (sgN (nmS bt (nI c) (nextV xs cnt tk) fp fb)))), (7, .int (nI (baseN (nI c)))), (6, .int (bI (nmB bt (nI c) (nextV xs cnt tk)))), (4, .long (nmV bt (nI c) (nextV xs cnt tk))), (3, .int (bI (sgdL (nI c)))), (1, .long (nextV xs cnt tk)), (0, .ref (ad 52))]) (fun a => [.int (a), .int (nI 48), .ref (ad 52)]) ?_ (fun J468 => ?_)
                                    · rintro y9 hj
                                      try dsimp only at hj ⊢
                                      subst hj
                                      refine m_callVv (pc' := 471) (As := [.int (nI 48), .int (nI (if nmZ fz fl po then (wd - (nmK bt (nI c) (nextV xs cnt tk) po fm + nmF (nmM bt (nI c) (nextV xs cnt tk) fm) (nmS bt (nI c) (nextV xs cnt tk) fp fb))) else 0))]) (rest := []) C (kX12_putMany hI hn hn2 jro_454 jout_454 (x := 48) (by decide) (nI (if nmZ fz fl po then (wd - (nmK bt (nI c) (nextV xs cnt tk) po fm + nmF (nmM bt (nI c) (nextV xs cnt tk) fm) (nmS bt (nI c) (nextV xs cnt tk) fp fb))) else 0))) (cwV 2 C.1.2.2.2.2 (goodV tm_6_52 tm_6_54 tp_67 tm_1_13 tm_6_55) rfl rfl rfl (by decide +kernel) ⟨by decide, by decide⟩) (by omega) jro_454 rfl rfl rfl (Nat.le_of_ble_eq_true rfl) dX12_printWhole_468 rfl ⟨by decide, by decide⟩ (fun M10 q_10 => ?_)
                                      obtain ⟨pro_10, pout_10, F_10⟩ := q_10
                                      rw [show cl (nI (if nmZ fz fl po then (wd - (nmK bt (nI c) (nextV xs cnt tk) po fm + nmF (nmM bt (nI c) (nextV xs cnt tk) fm) (nmS bt (nI c) (nextV xs cnt tk) fp fb))) else 0)) = (if nmZ fz fl po then (wd - (nmK bt (nI c) (nextV xs cnt tk) po fm + nmF (nmM bt (nI c) (nextV xs cnt tk) fm) (nmS bt (nI c) (nextV xs cnt tk) fp fb))) else 0) from nI_clamp (by split <;> omega)] at pout_10
                                      refine m_aload_n (pc' := 472) C dX12_printWhole_471 rfl 10 rfl rfl ?_
                                      have xdg_12 := jdg_249.fr F_5 (by decide)
                                      have xdg_13 := xdg_12.fr jf_435 (by decide)
                                      have xdg_14 := xdg_13.fr jf_454 (by decide)
                                      have xdg_15 := xdg_14.fr F_10 (by decide)
                                      refine m_callVv (pc' := 475) (As := []) (rest := []) C (kX12_putDigits hI hn hn2 pro_10 xdg_15 pout_10 ) (cwV 0 C.1.2.2.2.2 (goodV tm_6_64 tm_6_66 tp_70 tm_1_13 tm_6_67) rfl rfl rfl (by decide +kernel) ⟨by decide, by decide⟩) (by omega) pro_10 rfl rfl rfl (Nat.le_of_ble_eq_true rfl) dX12_printWhole_472 rfl ⟨by decide, by decide⟩ (fun M11 q_11 => ?_)
                                      obtain ⟨pro_11, pout_11, F_11⟩ := q_11
                                      refine m_aload_n (pc' := 476) C dX12_printWhole_475 rfl 10 rfl rfl ?_
                                      refine m_bipush (pc' := 478) (v := nI 32) C dX12_printWhole_476 (by decide) rfl ?_
                                      refine m_cut (σ := Int32) (fun a => a = nI (if fl then (wd - (nmK bt (nI c) (nextV xs cnt tk) po fm + nmF (nmM bt (nI c) (nextV xs cnt tk) fm) (nmS bt (nI c) (nextV xs cnt tk) fp fb))) else 0)) (fun a => M11) 491 (fun a => [(12, .int (bI (nmZ fz fl po))), (11, .int (nI (wd - (nmK bt (nI c) (nextV xs cnt tk) po fm + nmF (nmM bt (nI c) (nextV xs cnt tk) fm) (nmS bt (nI c) (nextV xs cnt tk) fp fb))))), (10, .int (nI (nmK bt (nI c) (nextV xs cnt tk) po fm + nmF (nmM bt (nI c) (nextV xs cnt tk) fm) (nmS bt (nI c) (nextV xs cnt tk) fp fb)))), (9, .int (bI (nmM bt (nI c) (nextV xs cnt tk) fm))), (8, .int (nI (sgN (nmS bt (nI c) (nextV xs cnt tk) fp fb)))), (7, .int (nI (baseN (nI c)))), (6, .int (bI (nmB bt (nI c) (nextV xs cnt tk)))), (4, .long (nmV bt (nI c) (nextV xs cnt tk))), (3, .int (bI (sgdL (nI c)))), (1, .long (nextV xs cnt tk)), (0, .ref (ad 52))]) (fun a => [.int (a), .int (nI 32), .ref (ad 52)]) ?_ (fun J491 => ?_)
                                      · rintro y9 hj
                                        try dsimp only at hj ⊢
                                        subst hj
                                        refine m_callVv (pc' := 494) (As := [.int (nI 32), .int (nI (if fl then (wd - (nmK bt (nI c) (nextV xs cnt tk) po fm + nmF (nmM bt (nI c) (nextV xs cnt tk) fm) (nmS bt (nI c) (nextV xs cnt tk) fp fb))) else 0))]) (rest := []) C (kX12_putMany hI hn hn2 pro_11 pout_11 (x := 32) (by decide) (nI (if fl then (wd - (nmK bt (nI c) (nextV xs cnt tk) po fm + nmF (nmM bt (nI c) (nextV xs cnt tk) fm) (nmS bt (nI c) (nextV xs cnt tk) fp fb))) else 0))) (cwV 2 C.1.2.2.2.2 (goodV tm_6_52 tm_6_54 tp_67 tm_1_13 tm_6_55) rfl rfl rfl (by decide +kernel) ⟨by decide, by decide⟩) (by omega) pro_11 rfl rfl rfl (Nat.le_of_ble_eq_true rfl) dX12_printWhole_491 rfl ⟨by decide, by decide⟩ (fun M16 q_16 => ?_)
                                        obtain ⟨pro_16, pout_16, F_16⟩ := q_16
                                        rw [show cl (nI (if fl then (wd - (nmK bt (nI c) (nextV xs cnt tk) po fm + nmF (nmM bt (nI c) (nextV xs cnt tk) fm) (nmS bt (nI c) (nextV xs cnt tk) fp fb))) else 0)) = (if fl then (wd - (nmK bt (nI c) (nextV xs cnt tk) po fm + nmF (nmM bt (nI c) (nextV xs cnt tk) fm) (nmS bt (nI c) (nextV xs cnt tk) fp fb))) else 0) from nI_clamp (by split <;> omega)] at pout_16
                                        refine m_vret C hrt0 hlk0 dX12_printWhole_494 ?_
                                        have ff16_17 : M2 116 = gh (.int (nI (od + nextO xs cnt tk))) := (F_2 116 (by decide)).trans pf16_1
                                        have ff16_18 : M4 116 = gh (.int (nI (od + nextO xs cnt tk))) := (F_4 116 (by decide)).trans ff16_17
                                        have ff16_19 : Mj249 116 = gh (.int (nI (od + nextO xs cnt tk))) := (jf_249 116 (by decide)).trans ff16_18
                                        have ff16_20 : M5 116 = gh (.int (nI (od + nextO xs cnt tk))) := (F_5 116 (by decide)).trans ff16_19
                                        have ff16_21 : Mj435 116 = gh (.int (nI (od + nextO xs cnt tk))) := (jf_435 116 (by decide)).trans ff16_20
                                        have ff16_22 : Mj454 116 = gh (.int (nI (od + nextO xs cnt tk))) := (jf_454 116 (by decide)).trans ff16_21
                                        have ff16_23 : M10 116 = gh (.int (nI (od + nextO xs cnt tk))) := (F_10 116 (by decide)).trans ff16_22
                                        have ff16_24 : M11 116 = gh (.int (nI (od + nextO xs cnt tk))) := (F_11 116 (by decide)).trans ff16_23
                                        have ff16_25 : M16 116 = gh (.int (nI (od + nextO xs cnt tk))) := (F_16 116 (by decide)).trans ff16_24
                                        have ff17_26 : M2 117 = gh (.int (nI (nextT cnt tk))) := (F_2 117 (by decide)).trans pf17_1
                                        have ff17_27 : M4 117 = gh (.int (nI (nextT cnt tk))) := (F_4 117 (by decide)).trans ff17_26
                                        have ff17_28 : Mj249 117 = gh (.int (nI (nextT cnt tk))) := (jf_249 117 (by decide)).trans ff17_27
                                        have ff17_29 : M5 117 = gh (.int (nI (nextT cnt tk))) := (F_5 117 (by decide)).trans ff17_28
                                        have ff17_30 : Mj435 117 = gh (.int (nI (nextT cnt tk))) := (jf_435 117 (by decide)).trans ff17_29
                                        have ff17_31 : Mj454 117 = gh (.int (nI (nextT cnt tk))) := (jf_454 117 (by decide)).trans ff17_30
                                        have ff17_32 : M10 117 = gh (.int (nI (nextT cnt tk))) := (F_10 117 (by decide)).trans ff17_31
                                        have ff17_33 : M11 117 = gh (.int (nI (nextT cnt tk))) := (F_11 117 (by decide)).trans ff17_32
                                        have ff17_34 : M16 117 = gh (.int (nI (nextT cnt tk))) := (F_16 117 (by decide)).trans ff17_33
                                        have xdg_35 := xdg_15.fr F_11 (by decide)
                                        have xdg_36 := xdg_35.fr F_16 (by decide)
                                        rw [fmt_eq hc] at pout_16
                                        exact ⟨pro_16, pout_16, ff16_25, ff17_34, ⟨_, xdg_36⟩, ((((((((((F_1.sub (by decide)).tr (F_2.sub (by decide))).tr (F_4.sub (by decide))).tr (jf_249.sub (by decide))).tr (F_5.sub (by decide))).tr (jf_435.sub (by decide))).tr (jf_454.sub (by decide))).tr (F_10.sub (by decide))).tr (F_11.sub (by decide))).tr (F_16.sub (by decide)))⟩
                                      refine m_aload_n (pc' := 479) C dX12_printWhole_478 rfl 10 rfl rfl ?_
                                      have ff20_37 : M1 120 = gh (.int (bI fl)) := (F_1 120 (by decide)).trans h20
                                      have ff20_38 : M2 120 = gh (.int (bI fl)) := (F_2 120 (by decide)).trans ff20_37
                                      have ff20_39 : M4 120 = gh (.int (bI fl)) := (F_4 120 (by decide)).trans ff20_38
                                      have ff20_40 : Mj249 120 = gh (.int (bI fl)) := (jf_249 120 (by decide)).trans ff20_39
                                      have ff20_41 : M5 120 = gh (.int (bI fl)) := (F_5 120 (by decide)).trans ff20_40
                                      have ff20_42 : Mj435 120 = gh (.int (bI fl)) := (jf_435 120 (by decide)).trans ff20_41
                                      have ff20_43 : Mj454 120 = gh (.int (bI fl)) := (jf_454 120 (by decide)).trans ff20_42
                                      have ff20_44 : M10 120 = gh (.int (bI fl)) := (F_10 120 (by decide)).trans ff20_43
                                      have ff20_45 : M11 120 = gh (.int (bI fl)) := (F_11 120 (by decide)).trans ff20_44
                                      refine r_get C hn pro_11 inW_X12 20 (by decide) ⟨rfl, rfl, rfl⟩ (gW_of tm_5_70) (r_at 20 rfl ff20_45) dX12_printWhole_479 rfl ?_
                                      refine m_if_eq (pc' := 485) (tgt := 490) C dX12_printWhole_482 (by decide) rfl (fun c_482 => ?_) (fun c_482 => ?_)
                                      · refine m_iconst (pc' := 491) (v := nI 0) C dX12_printWhole_490 (by decide) rfl ?_
                                        refine m_lv [0, 1, 2, 3, 4, 5, 6, 7, 8, 9, 10] rfl ?_
                                        exact J491 (nI 0) (by rw [if_neg (by rw [(bI_0 _).mp c_482]; decide)])
                                      · refine m_iload (pc' := 487) C dX12_printWhole_485 1 rfl rfl ?_
                                        refine m_goto (tgt := 491) C dX12_printWhole_487 (by decide) ?_
                                        refine m_lv [0, 1, 2, 3, 4, 5, 6, 7, 8, 9, 10] rfl ?_
                                        exact J491 (nI (wd - (nmK bt (nI c) (nextV xs cnt tk) po fm + nmF (nmM bt (nI c) (nextV xs cnt tk) fm) (nmS bt (nI c) (nextV xs cnt tk) fp fb)))) (by rw [if_pos (ts_of c_482)])
                                    refine m_iload (pc' := 459) C dX12_printWhole_457 0 rfl rfl ?_
                                    refine m_if_eq (pc' := 462) (tgt := 467) C dX12_printWhole_459 (by decide) rfl (fun c_459 => ?_) (fun c_459 => ?_)
                                    · refine m_iconst (pc' := 468) (v := nI 0) C dX12_printWhole_467 (by decide) rfl ?_
                                      refine m_lv [0, 1, 2, 3, 4, 5, 6, 7, 8, 9, 10] rfl ?_
                                      exact J468 (nI 0) (by rw [if_neg (by rw [(bI_0 _).mp c_459]; decide)])
                                    · refine m_iload (pc' := 464) C dX12_printWhole_462 1 rfl rfl ?_
                                      refine m_goto (tgt := 468) C dX12_printWhole_464 (by decide) ?_
                                      refine m_lv [0, 1, 2, 3, 4, 5, 6, 7, 8, 9, 10] rfl ?_
                                      exact J468 (nI (wd - (nmK bt (nI c) (nextV xs cnt tk) po fm + nmF (nmM bt (nI c) (nextV xs cnt tk) fm) (nmS bt (nI c) (nextV xs cnt tk) fp fb)))) (by rw [if_pos (ts_of c_459)])
                                  refine m_iload (pc' := 437) C dX12_printWhole_435 3 rfl rfl ?_
                                  refine m_if_eq (pc' := 440) (tgt := 454) C dX12_printWhole_437 (by decide) rfl (fun c_437 => ?_) (fun c_437 => ?_)
                                  · have hmm := (bI_0 _).mp c_437
                                    refine m_lv [0, 1, 2, 3, 4, 5, 6, 7, 8, 9, 10] rfl ?_
                                    exact J454 Mj435 (⟨jro_435, by rw [show (if nmM bt (nI c) (nextV xs cnt tk) fm then [48, c] else [] : List Nat) = [] from if_neg (by rw [hmm]; decide), List.append_nil]; exact jout_435, Fr.rf⟩)
                                  · have hmm := ts_of c_437
                                    refine m_aload_n (pc' := 441) C dX12_printWhole_440 rfl 10 rfl rfl ?_
                                    refine m_bipush (pc' := 443) (v := nI 48) C dX12_printWhole_441 (by decide) rfl ?_
                                    refine m_callVv (pc' := 446) (As := [.int (nI 48)]) (rest := []) C (kX12_put hI hn hn2 jro_435 jout_435 (x := 48) (by first | decide | omega)) (cwV 1 C.1.2.2.2.2 (goodV tm_5_239 tm_6_1 tp_57 tm_1_13 tm_6_2) rfl rfl rfl (by decide +kernel) ⟨by decide, by decide⟩) (by omega) jro_435 rfl rfl rfl (Nat.le_of_ble_eq_true rfl) dX12_printWhole_443 rfl ⟨by decide, by decide⟩ (fun M46 q_46 => ?_)
                                    obtain ⟨pro_46, pout_46, F_46⟩ := q_46
                                    refine m_aload_n (pc' := 447) C dX12_printWhole_446 rfl 10 rfl rfl ?_
                                    refine m_aload_n (pc' := 448) C dX12_printWhole_447 rfl 10 rfl rfl ?_
                                    have ff28_47 : M1 128 = gh (.int (nI c)) := (F_1 128 (by decide)).trans h28
                                    have ff28_48 : M2 128 = gh (.int (nI c)) := (F_2 128 (by decide)).trans ff28_47
                                    have ff28_49 : M4 128 = gh (.int (nI c)) := (F_4 128 (by decide)).trans ff28_48
                                    have ff28_50 : Mj249 128 = gh (.int (nI c)) := (jf_249 128 (by decide)).trans ff28_49
                                    have ff28_51 : M5 128 = gh (.int (nI c)) := (F_5 128 (by decide)).trans ff28_50
                                    have ff28_52 : Mj435 128 = gh (.int (nI c)) := (jf_435 128 (by decide)).trans ff28_51
                                    have ff28_53 : M46 128 = gh (.int (nI c)) := (F_46 128 (by decide)).trans ff28_52
                                    refine r_get C hn pro_46 inW_X12 28 (by decide) ⟨rfl, rfl, rfl⟩ (gW_of tm_5_78) (r_at 28 rfl ff28_53) dX12_printWhole_448 rfl ?_
                                    refine m_callVv (pc' := 454) (As := [.int (nI c)]) (rest := []) C (kX12_put hI hn hn2 pro_46 pout_46 (x := c) hc) (cwV 1 C.1.2.2.2.2 (goodV tm_5_239 tm_6_1 tp_57 tm_1_13 tm_6_2) rfl rfl rfl (by decide +kernel) ⟨by decide, by decide⟩) (by omega) pro_46 rfl rfl rfl (Nat.le_of_ble_eq_true rfl) dX12_printWhole_451 rfl ⟨by decide, by decide⟩ (fun M54 q_54 => ?_)
                                    obtain ⟨pro_54, pout_54, F_54⟩ := q_54
                                    refine m_lv [0, 1, 2, 3, 4, 5, 6, 7, 8, 9, 10] rfl ?_
                                    exact J454 M54 (⟨pro_54, by rw [show (if nmM bt (nI c) (nextV xs cnt tk) fm then [48, c] else [] : List Nat) = [48] ++ [c] from if_pos hmm, ← List.append_assoc]; exact pout_54, ((F_46.sub (by decide)).tr (F_54.sub (by decide)))⟩)
                                refine m_iload (pc' := 426) C dX12_printWhole_424 4 rfl rfl ?_
                                refine m_if_eq (pc' := 429) (tgt := 435) C dX12_printWhole_426 (by decide) rfl (fun c_426 => ?_) (fun c_426 => ?_)
                                · have n_426 : (sgN (nmS bt (nI c) (nextV xs cnt tk) fp fb)) = 0 := (nI_eq (by omega) (by omega)).mp (c_426.trans nI_0.symm)
                                  refine m_lv [0, 1, 2, 3, 4, 5, 6, 7, 8, 9, 10] rfl ?_
                                  exact J435 M5 (⟨pro_5, by rw [if_pos n_426, List.append_nil]; exact pout_5, Fr.rf⟩)
                                · have n_426 : ¬ (sgN (nmS bt (nI c) (nextV xs cnt tk) fp fb)) = 0 := fun q => c_426 (((nI_eq (by omega) (by omega)).mpr q).trans nI_0)
                                  refine m_aload_n (pc' := 430) C dX12_printWhole_429 rfl 10 rfl rfl ?_
                                  refine m_iload (pc' := 432) C dX12_printWhole_430 4 rfl rfl ?_
                                  refine m_callVv (pc' := 435) (As := [.int (nI (sgN (nmS bt (nI c) (nextV xs cnt tk) fp fb)))]) (rest := []) C (kX12_put hI hn hn2 pro_5 pout_5 (x := sgN (nmS bt (nI c) (nextV xs cnt tk) fp fb)) hsgl) (cwV 1 C.1.2.2.2.2 (goodV tm_5_239 tm_6_1 tp_57 tm_1_13 tm_6_2) rfl rfl rfl (by decide +kernel) ⟨by decide, by decide⟩) (by omega) pro_5 rfl rfl rfl (Nat.le_of_ble_eq_true rfl) dX12_printWhole_432 rfl ⟨by decide, by decide⟩ (fun M55 q_55 => ?_)
                                  obtain ⟨pro_55, pout_55, F_55⟩ := q_55
                                  refine m_lv [0, 1, 2, 3, 4, 5, 6, 7, 8, 9, 10] rfl ?_
                                  exact J435 M55 (⟨pro_55, by rw [if_neg n_426]; exact pout_55, (F_55.sub (by decide))⟩)
                              refine m_aload_n (pc' := 404) C dX12_printWhole_403 rfl 10 rfl rfl ?_
                              have ff20_56 : M1 120 = gh (.int (bI fl)) := (F_1 120 (by decide)).trans h20
                              have ff20_57 : M2 120 = gh (.int (bI fl)) := (F_2 120 (by decide)).trans ff20_56
                              have ff20_58 : M4 120 = gh (.int (bI fl)) := (F_4 120 (by decide)).trans ff20_57
                              have ff20_59 : Mj249 120 = gh (.int (bI fl)) := (jf_249 120 (by decide)).trans ff20_58
                              refine r_get C hn jro_249 inW_X12 20 (by decide) ⟨rfl, rfl, rfl⟩ (gW_of tm_5_70) (r_at 20 rfl ff20_59) dX12_printWhole_404 rfl ?_
                              refine m_if_ne (pc' := 410) (tgt := 415) C dX12_printWhole_407 (by decide) rfl (fun c_407 => ?_) (fun c_407 => ?_)
                              · have hz : (fl || nmZ fz fl po) = true := by rw [ts_of c_407]; rfl
                                refine m_iconst (pc' := 416) (v := nI 0) C dX12_printWhole_415 (by decide) rfl ?_
                                refine m_goto (tgt := 421) C dX12_printWhole_416 (by decide) ?_
                                refine m_lv [0, 1, 2, 3, 4, 5, 6, 7, 8, 9, 10] rfl ?_
                                exact J421 (nI 0) (by rw [if_pos hz])
                              · have hfl := (bI_0 _).mp (Classical.not_not.mp c_407)
                                refine m_iload (pc' := 412) C dX12_printWhole_410 0 rfl rfl ?_
                                refine m_if_eq (pc' := 415) (tgt := 419) C dX12_printWhole_412 (by decide) rfl (fun c_412 => ?_) (fun c_412 => ?_)
                                · have hz : (fl || nmZ fz fl po) = false := by rw [(bI_0 _).mp c_412, hfl]; rfl
                                  refine m_iload (pc' := 421) C dX12_printWhole_419 1 rfl rfl ?_
                                  refine m_lv [0, 1, 2, 3, 4, 5, 6, 7, 8, 9, 10] rfl ?_
                                  exact J421 (nI (wd - (nmK bt (nI c) (nextV xs cnt tk) po fm + nmF (nmM bt (nI c) (nextV xs cnt tk) fm) (nmS bt (nI c) (nextV xs cnt tk) fp fb)))) (by rw [if_neg (by rw [hz]; decide)])
                                · have hz : (fl || nmZ fz fl po) = true := by rw [ts_of c_412, Bool.or_true]
                                  refine m_iconst (pc' := 416) (v := nI 0) C dX12_printWhole_415 (by decide) rfl ?_
                                  refine m_goto (tgt := 421) C dX12_printWhole_416 (by decide) ?_
                                  refine m_lv [0, 1, 2, 3, 4, 5, 6, 7, 8, 9, 10] rfl ?_
                                  exact J421 (nI 0) (by rw [if_pos hz])
                            refine m_aload_n (pc' := 373) C dX12_printWhole_372 rfl 9 rfl rfl ?_
                            have ff20_60 : M1 120 = gh (.int (bI fl)) := (F_1 120 (by decide)).trans h20
                            have ff20_61 : M2 120 = gh (.int (bI fl)) := (F_2 120 (by decide)).trans ff20_60
                            have ff20_62 : M4 120 = gh (.int (bI fl)) := (F_4 120 (by decide)).trans ff20_61
                            have ff20_63 : Mj249 120 = gh (.int (bI fl)) := (jf_249 120 (by decide)).trans ff20_62
                            refine r_get C hn jro_249 inW_X12 20 (by decide) ⟨rfl, rfl, rfl⟩ (gW_of tm_5_70) (r_at 20 rfl ff20_63) dX12_printWhole_373 rfl ?_
                            refine m_if_ne (pc' := 379) (tgt := 397) C dX12_printWhole_376 (by decide) rfl (fun c_376 => ?_) (fun c_376 => ?_)
                            · have hz : nmZ fz fl po = false := by unfold nmZ; rw [ts_of c_376]; cases fz <;> rfl
                              refine m_iconst (pc' := 398) (v := nI 0) C dX12_printWhole_397 (by decide) rfl ?_
                              refine m_lv [0, 1, 2, 3, 4, 5, 6, 7, 8, 9] rfl ?_
                              exact J398 (nI 0) (by rw [hz]; rfl)
                            · have hfl := (bI_0 _).mp (Classical.not_not.mp c_376)
                              refine m_aload_n (pc' := 380) C dX12_printWhole_379 rfl 9 rfl rfl ?_
                              have ff24_64 : M1 124 = gh (.int (bI fz)) := (F_1 124 (by decide)).trans h24
                              have ff24_65 : M2 124 = gh (.int (bI fz)) := (F_2 124 (by decide)).trans ff24_64
                              have ff24_66 : M4 124 = gh (.int (bI fz)) := (F_4 124 (by decide)).trans ff24_65
                              have ff24_67 : Mj249 124 = gh (.int (bI fz)) := (jf_249 124 (by decide)).trans ff24_66
                              refine r_get C hn jro_249 inW_X12 24 (by decide) ⟨rfl, rfl, rfl⟩ (gW_of tm_5_74) (r_at 24 rfl ff24_67) dX12_printWhole_380 rfl ?_
                              refine m_if_eq (pc' := 386) (tgt := 397) C dX12_printWhole_383 (by decide) rfl (fun c_383 => ?_) (fun c_383 => ?_)
                              · have hz : nmZ fz fl po = false := by unfold nmZ; rw [(bI_0 _).mp c_383]; rfl
                                refine m_iconst (pc' := 398) (v := nI 0) C dX12_printWhole_397 (by decide) rfl ?_
                                refine m_lv [0, 1, 2, 3, 4, 5, 6, 7, 8, 9] rfl ?_
                                exact J398 (nI 0) (by rw [hz]; rfl)
                              · have hfz := ts_of c_383
                                refine m_aload_n (pc' := 387) C dX12_printWhole_386 rfl 9 rfl rfl ?_
                                have ff26_68 : M1 126 = gh (.int (pI po)) := (F_1 126 (by decide)).trans h26
                                have ff26_69 : M2 126 = gh (.int (pI po)) := (F_2 126 (by decide)).trans ff26_68
                                have ff26_70 : M4 126 = gh (.int (pI po)) := (F_4 126 (by decide)).trans ff26_69
                                have ff26_71 : Mj249 126 = gh (.int (pI po)) := (jf_249 126 (by decide)).trans ff26_70
                                refine r_get C hn jro_249 inW_X12 26 (by decide) ⟨rfl, rfl, rfl⟩ (gW_of tm_5_76) (r_at 26 rfl ff26_71) dX12_printWhole_387 rfl ?_
                                refine m_if_ge (pc' := 393) (tgt := 397) C dX12_printWhole_390 (by decide) rfl (fun c_390 => ?_) (fun c_390 => ?_)
                                · have hz : nmZ fz fl po = false := by unfold nmZ; rw [decide_eq_false (pI_ge hpo2 c_390).2.2, Bool.and_false]
                                  refine m_iconst (pc' := 398) (v := nI 0) C dX12_printWhole_397 (by decide) rfl ?_
                                  refine m_lv [0, 1, 2, 3, 4, 5, 6, 7, 8, 9] rfl ?_
                                  exact J398 (nI 0) (by rw [hz]; rfl)
                                · have hz : nmZ fz fl po = true := by unfold nmZ; rw [hfz, hfl, pI_lt hpo2 c_390]; decide
                                  refine m_iconst (pc' := 394) (v := nI 1) C dX12_printWhole_393 (by decide) rfl ?_
                                  refine m_goto (tgt := 398) C dX12_printWhole_394 (by decide) ?_
                                  refine m_lv [0, 1, 2, 3, 4, 5, 6, 7, 8, 9] rfl ?_
                                  exact J398 (nI 1) (by rw [hz]; rfl)
                          refine m_aload_n (pc' := 351) C dX12_printWhole_350 rfl 8 rfl rfl ?_
                          have ff25_72 : M1 125 = gh (.int (nI wd)) := (F_1 125 (by decide)).trans h25
                          have ff25_73 : M2 125 = gh (.int (nI wd)) := (F_2 125 (by decide)).trans ff25_72
                          have ff25_74 : M4 125 = gh (.int (nI wd)) := (F_4 125 (by decide)).trans ff25_73
                          have ff25_75 : Mj249 125 = gh (.int (nI wd)) := (jf_249 125 (by decide)).trans ff25_74
                          refine r_get C hn jro_249 inW_X12 25 (by decide) ⟨rfl, rfl, rfl⟩ (gW_of tm_5_75) (r_at 25 rfl ff25_75) dX12_printWhole_351 rfl ?_
                          refine m_iload (pc' := 356) C dX12_printWhole_354 0 rfl rfl ?_
                          refine m_icmp_le (pc' := 359) (tgt := 369) C dX12_printWhole_356 (by decide) rfl (fun c_356 => ?_) (fun c_356 => ?_)
                          · have n_356 : wd ≤ (nmK bt (nI c) (nextV xs cnt tk) po fm + nmF (nmM bt (nI c) (nextV xs cnt tk) fm) (nmS bt (nI c) (nextV xs cnt tk) fp fb)) := (nI_leI (by omega) (by omega)).mp c_356
                            refine m_iconst (pc' := 370) (v := nI 0) C dX12_printWhole_369 (by decide) rfl ?_
                            refine m_lv [0, 1, 2, 3, 4, 5, 6, 7, 8] rfl ?_
                            exact J370 (nI 0) (by rw [show (wd - (nmK bt (nI c) (nextV xs cnt tk) po fm + nmF (nmM bt (nI c) (nextV xs cnt tk) fm) (nmS bt (nI c) (nextV xs cnt tk) fp fb))) = 0 by omega])
                          · have n_356 : (nmK bt (nI c) (nextV xs cnt tk) po fm + nmF (nmM bt (nI c) (nextV xs cnt tk) fm) (nmS bt (nI c) (nextV xs cnt tk) fp fb)) < wd := Nat.lt_of_not_le (fun q => c_356 ((nI_leI (by omega) (by omega)).mpr q))
                            refine m_aload_n (pc' := 360) C dX12_printWhole_359 rfl 8 rfl rfl ?_
                            refine r_get C hn jro_249 inW_X12 25 (by decide) ⟨rfl, rfl, rfl⟩ (gW_of tm_5_75) (r_at 25 rfl ff25_75) dX12_printWhole_360 rfl ?_
                            refine m_iload (pc' := 365) C dX12_printWhole_363 0 rfl rfl ?_
                            refine m_isub (pc' := 366) (v := nI (wd - (nmK bt (nI c) (nextV xs cnt tk) po fm + nmF (nmM bt (nI c) (nextV xs cnt tk) fm) (nmS bt (nI c) (nextV xs cnt tk) fp fb)))) C dX12_printWhole_365 (pk_sub (by omega)) rfl ?_
                            refine m_goto (tgt := 370) C dX12_printWhole_366 (by decide) ?_
                            refine m_lv [0, 1, 2, 3, 4, 5, 6, 7, 8] rfl ?_
                            exact J370 (nI (wd - (nmK bt (nI c) (nextV xs cnt tk) po fm + nmF (nmM bt (nI c) (nextV xs cnt tk) fm) (nmS bt (nI c) (nextV xs cnt tk) fp fb)))) (rfl)
                        refine m_iload (pc' := 339) C dX12_printWhole_337 0 rfl rfl ?_
                        refine m_if_eq (pc' := 342) (tgt := 346) C dX12_printWhole_339 (by decide) rfl (fun c_339 => ?_) (fun c_339 => ?_)
                        · refine m_iconst (pc' := 347) (v := nI 0) C dX12_printWhole_346 (by decide) rfl ?_
                          refine m_lv [0, 1, 2, 3, 4, 5, 6, 7] rfl ?_
                          exact J347 (nI 0) (by rw [(bI_0 _).mp c_339]; rfl)
                        · refine m_iconst (pc' := 343) (v := nI 2) C dX12_printWhole_342 (by decide) rfl ?_
                          refine m_goto (tgt := 347) C dX12_printWhole_343 (by decide) ?_
                          refine m_lv [0, 1, 2, 3, 4, 5, 6, 7] rfl ?_
                          exact J347 (nI 2) (by rw [ts_of c_339]; rfl)
                      refine m_iload (pc' := 328) C dX12_printWhole_326 1 rfl rfl ?_
                      refine m_if_eq (pc' := 331) (tgt := 335) C dX12_printWhole_328 (by decide) rfl (fun c_328 => ?_) (fun c_328 => ?_)
                      · have n_328 : (sgN (nmS bt (nI c) (nextV xs cnt tk) fp fb)) = 0 := (nI_eq (by omega) (by omega)).mp (c_328.trans nI_0.symm)
                        refine m_iconst (pc' := 336) (v := nI 0) C dX12_printWhole_335 (by decide) rfl ?_
                        refine m_lv [0, 1, 2, 3, 4, 5, 6, 7] rfl ?_
                        exact J336 (nI 0) (by rw [if_pos n_328])
                      · have n_328 : ¬ (sgN (nmS bt (nI c) (nextV xs cnt tk) fp fb)) = 0 := fun q => c_328 (((nI_eq (by omega) (by omega)).mpr q).trans nI_0)
                        refine m_iconst (pc' := 332) (v := nI 1) C dX12_printWhole_331 (by decide) rfl ?_
                        refine m_goto (tgt := 336) C dX12_printWhole_332 (by decide) ?_
                        refine m_lv [0, 1, 2, 3, 4, 5, 6, 7] rfl ?_
                        exact J336 (nI 1) (by rw [if_neg n_328])
                    refine m_aload_n (pc' := 295) C dX12_printWhole_294 rfl 6 rfl rfl ?_
                    have ff23_76 : M1 123 = gh (.int (bI fm)) := (F_1 123 (by decide)).trans h23
                    have ff23_77 : M2 123 = gh (.int (bI fm)) := (F_2 123 (by decide)).trans ff23_76
                    have ff23_78 : M4 123 = gh (.int (bI fm)) := (F_4 123 (by decide)).trans ff23_77
                    have ff23_79 : Mj249 123 = gh (.int (bI fm)) := (jf_249 123 (by decide)).trans ff23_78
                    refine r_get C hn jro_249 inW_X12 23 (by decide) ⟨rfl, rfl, rfl⟩ (gW_of tm_5_73) (r_at 23 rfl ff23_79) dX12_printWhole_295 rfl ?_
                    refine m_if_eq (pc' := 301) (tgt := 319) C dX12_printWhole_298 (by decide) rfl (fun c_298 => ?_) (fun c_298 => ?_)
                    · have hz : nmM bt (nI c) (nextV xs cnt tk) fm = false := by unfold nmM; rw [(bI_0 _).mp c_298]; rfl
                      refine m_iconst (pc' := 320) (v := nI 0) C dX12_printWhole_319 (by decide) rfl ?_
                      refine m_lv [0, 1, 2, 3, 4, 5, 6] rfl ?_
                      exact J320 (nI 0) (by rw [hz]; rfl)
                    · have hfm := ts_of c_298
                      refine m_iload (pc' := 303) C dX12_printWhole_301 1 rfl rfl ?_
                      refine m_bipush (pc' := 305) (v := nI 16) C dX12_printWhole_303 (by decide) rfl ?_
                      refine m_icmp_ne (pc' := 308) (tgt := 319) C dX12_printWhole_305 (by decide) rfl (fun c_305 => ?_) (fun c_305 => ?_)
                      · have n_305 : ¬ (baseN (nI c)) = 16 := fun q => c_305 ((nI_eq (by omega) (by omega)).mpr q)
                        have hz : nmM bt (nI c) (nextV xs cnt tk) fm = false := by unfold nmM; rw [hexL_base, decide_eq_false n_305, Bool.and_false]; rfl
                        refine m_iconst (pc' := 320) (v := nI 0) C dX12_printWhole_319 (by decide) rfl ?_
                        refine m_lv [0, 1, 2, 3, 4, 5, 6] rfl ?_
                        exact J320 (nI 0) (by rw [hz]; rfl)
                      · have n_305 : (baseN (nI c)) = 16 := (nI_eq (by omega) (by omega)).mp (Classical.not_not.mp c_305)
                        refine m_lload (pc' := 310) C dX12_printWhole_308 3 rfl rfl ?_
                        refine m_lconst (pc' := 311) (v := 0) C dX12_printWhole_310 (by decide) rfl ?_
                        refine m_lcmp (pc' := 312) (v := lg_cmp (nmV bt (nI c) (nextV xs cnt tk)) 0) C dX12_printWhole_311 rfl rfl ?_
                        refine m_if_eq (pc' := 315) (tgt := 319) C dX12_printWhole_312 (by decide) rfl (fun c_312 => ?_) (fun c_312 => ?_)
                        · have hz : nmM bt (nI c) (nextV xs cnt tk) fm = false := by unfold nmM; rw [nz_f (lcmp_eq c_312), Bool.and_false]
                          refine m_iconst (pc' := 320) (v := nI 0) C dX12_printWhole_319 (by decide) rfl ?_
                          refine m_lv [0, 1, 2, 3, 4, 5, 6] rfl ?_
                          exact J320 (nI 0) (by rw [hz]; rfl)
                        · have hz : nmM bt (nI c) (nextV xs cnt tk) fm = true := by unfold nmM; rw [hfm, hexL_base, decide_eq_true n_305, nz_t (fun q => c_312 (lcmp_eq0 q))]; rfl
                          refine m_iconst (pc' := 316) (v := nI 1) C dX12_printWhole_315 (by decide) rfl ?_
                          refine m_goto (tgt := 320) C dX12_printWhole_316 (by decide) ?_
                          refine m_lv [0, 1, 2, 3, 4, 5, 6] rfl ?_
                          exact J320 (nI 1) (by rw [hz]; rfl)
                  refine m_iload (pc' := 251) C dX12_printWhole_249 1 rfl rfl ?_
                  refine m_if_eq (pc' := 254) (tgt := 259) C dX12_printWhole_251 (by decide) rfl (fun c_251 => ?_) (fun c_251 => ?_)
                  · have hB := (bI_0 _).mp c_251
                    refine m_iload_n (pc' := 260) C dX12_printWhole_259 rfl 3 rfl rfl ?_
                    refine m_if_ne (pc' := 263) (tgt := 267) C dX12_printWhole_260 (by decide) rfl (fun c_260 => ?_) (fun c_260 => ?_)
                    · have hS := ts_of c_260
                      refine m_aload_n (pc' := 268) C dX12_printWhole_267 rfl 5 rfl rfl ?_
                      have ff21_80 : M1 121 = gh (.int (bI fp)) := (F_1 121 (by decide)).trans h21
                      have ff21_81 : M2 121 = gh (.int (bI fp)) := (F_2 121 (by decide)).trans ff21_80
                      have ff21_82 : M4 121 = gh (.int (bI fp)) := (F_4 121 (by decide)).trans ff21_81
                      have ff21_83 : Mj249 121 = gh (.int (bI fp)) := (jf_249 121 (by decide)).trans ff21_82
                      refine r_get C hn jro_249 inW_X12 21 (by decide) ⟨rfl, rfl, rfl⟩ (gW_of tm_5_71) (r_at 21 rfl ff21_83) dX12_printWhole_268 rfl ?_
                      refine m_if_eq (pc' := 274) (tgt := 279) C dX12_printWhole_271 (by decide) rfl (fun c_271 => ?_) (fun c_271 => ?_)
                      · have hp := (bI_0 _).mp c_271
                        refine m_aload_n (pc' := 280) C dX12_printWhole_279 rfl 5 rfl rfl ?_
                        have ff22_84 : M1 122 = gh (.int (bI fb)) := (F_1 122 (by decide)).trans h22
                        have ff22_85 : M2 122 = gh (.int (bI fb)) := (F_2 122 (by decide)).trans ff22_84
                        have ff22_86 : M4 122 = gh (.int (bI fb)) := (F_4 122 (by decide)).trans ff22_85
                        have ff22_87 : Mj249 122 = gh (.int (bI fb)) := (jf_249 122 (by decide)).trans ff22_86
                        refine r_get C hn jro_249 inW_X12 22 (by decide) ⟨rfl, rfl, rfl⟩ (gW_of tm_5_72) (r_at 22 rfl ff22_87) dX12_printWhole_280 rfl ?_
                        refine m_if_eq (pc' := 286) (tgt := 291) C dX12_printWhole_283 (by decide) rfl (fun c_283 => ?_) (fun c_283 => ?_)
                        · have hb9 := (bI_0 _).mp c_283
                          refine m_iconst (pc' := 292) (v := nI 0) C dX12_printWhole_291 (by decide) rfl ?_
                          refine m_lv [0, 1, 2, 3, 4, 5] rfl ?_
                          exact J292 (nI 0) (by unfold nmS sgI; rw [hB, hS, hp, hb9]; rfl)
                        · have hb9 := ts_of c_283
                          refine m_bipush (pc' := 288) (v := nI 32) C dX12_printWhole_286 (by decide) rfl ?_
                          refine m_goto (tgt := 292) C dX12_printWhole_288 (by decide) ?_
                          refine m_lv [0, 1, 2, 3, 4, 5] rfl ?_
                          exact J292 (nI 32) (by unfold nmS sgI; rw [hB, hS, hp, hb9]; rfl)
                      · have hp := ts_of c_271
                        refine m_bipush (pc' := 276) (v := nI 43) C dX12_printWhole_274 (by decide) rfl ?_
                        refine m_goto (tgt := 292) C dX12_printWhole_276 (by decide) ?_
                        refine m_lv [0, 1, 2, 3, 4, 5] rfl ?_
                        exact J292 (nI 43) (by unfold nmS sgI; rw [hB, hS, hp]; rfl)
                    · have hS := (bI_0 _).mp (Classical.not_not.mp c_260)
                      refine m_iconst (pc' := 264) (v := nI 0) C dX12_printWhole_263 (by decide) rfl ?_
                      refine m_goto (tgt := 292) C dX12_printWhole_264 (by decide) ?_
                      refine m_lv [0, 1, 2, 3, 4, 5] rfl ?_
                      exact J292 (nI 0) (by unfold nmS sgI; rw [hS]; rfl)
                  · have hB := ts_of c_251
                    have hS : sgdL (nI c) = true := by unfold nmB at hB; rw [Bool.and_eq_true] at hB; exact hB.1
                    refine m_bipush (pc' := 256) (v := nI 45) C dX12_printWhole_254 (by decide) rfl ?_
                    refine m_goto (tgt := 292) C dX12_printWhole_256 (by decide) ?_
                    refine m_lv [0, 1, 2, 3, 4, 5] rfl ?_
                    exact J292 (nI 45) (by unfold nmS sgI; rw [hB, hS]; rfl)
                refine m_aload_n (pc' := 190) C dX12_printWhole_189 rfl 5 rfl rfl ?_
                have ff23_88 : M1 123 = gh (.int (bI fm)) := (F_1 123 (by decide)).trans h23
                have ff23_89 : M2 123 = gh (.int (bI fm)) := (F_2 123 (by decide)).trans ff23_88
                have ff23_90 : M4 123 = gh (.int (bI fm)) := (F_4 123 (by decide)).trans ff23_89
                refine r_get C hn pro_4 inW_X12 23 (by decide) ⟨rfl, rfl, rfl⟩ (gW_of tm_5_73) (r_at 23 rfl ff23_90) dX12_printWhole_190 rfl ?_
                refine m_if_eq (pc' := 196) (tgt := 249) C dX12_printWhole_193 (by decide) rfl (fun c_193 => ?_) (fun c_193 => ?_)
                · have hno : (fm && decide (nI c = nI 111)) = false ∨ (nmD bt (nI c) (nextV xs cnt tk)).length < leastP po := Or.inl (by rw [(bI_0 _).mp c_193]; rfl)
                  refine m_lv [0, 1, 2, 3, 4, 5] rfl ?_
                  exact J249 M4 (⟨pro_4, (by unfold nmK; rw [← fillD_due (mk := fm && decide (nI c = nI 111)) hno]; exact pdg_4), Fr.rf⟩)
                · have hfm := ts_of c_193
                  refine m_aload_n (pc' := 197) C dX12_printWhole_196 rfl 5 rfl rfl ?_
                  have ff28_91 : M1 128 = gh (.int (nI c)) := (F_1 128 (by decide)).trans h28
                  have ff28_92 : M2 128 = gh (.int (nI c)) := (F_2 128 (by decide)).trans ff28_91
                  have ff28_93 : M4 128 = gh (.int (nI c)) := (F_4 128 (by decide)).trans ff28_92
                  refine r_get C hn pro_4 inW_X12 28 (by decide) ⟨rfl, rfl, rfl⟩ (gW_of tm_5_78) (r_at 28 rfl ff28_93) dX12_printWhole_197 rfl ?_
                  refine m_bipush (pc' := 202) (v := nI 111) C dX12_printWhole_200 (by decide) rfl ?_
                  refine m_icmp_ne (pc' := 205) (tgt := 249) C dX12_printWhole_202 (by decide) rfl (fun c_202 => ?_) (fun c_202 => ?_)
                  · have hno : (fm && decide (nI c = nI 111)) = false ∨ (nmD bt (nI c) (nextV xs cnt tk)).length < leastP po := Or.inl (by rw [decide_eq_false c_202, Bool.and_false])
                    refine m_lv [0, 1, 2, 3, 4, 5] rfl ?_
                    exact J249 M4 (⟨pro_4, (by unfold nmK; rw [← fillD_due (mk := fm && decide (nI c = nI 111)) hno]; exact pdg_4), Fr.rf⟩)
                  · have hmk : (fm && decide (nI c = nI 111)) = true := by rw [hfm, decide_eq_true (Classical.not_not.mp c_202)]; rfl
                    refine m_aload_n (pc' := 206) C dX12_printWhole_205 rfl 5 rfl rfl ?_
                    refine r_get C hn pro_4 inW_X12 32 (by decide) ⟨rfl, rfl, rfl⟩ (gW_of tm_5_82) (r_at 32 rfl e2) dX12_printWhole_206 rfl ?_
                    refine m_if_eq (pc' := 212) (tgt := 228) C dX12_printWhole_209 (by decide) rfl (fun c_209 => ?_) (fun c_209 => ?_)
                    · have n_209 : ((fillD (nmD bt (nI c) (nextV xs cnt tk)) (decide (nI c = nI 88)) (leastP po)).length) = 0 := (nI_eq (by rw [fillD_len]; omega) (by omega)).mp (c_209.trans nI_0.symm)
                      have hnl : ¬ (nmD bt (nI c) (nextV xs cnt tk)).length < leastP po := by rw [fillD_len] at n_209; omega
                      refine m_aload_n (pc' := 229) C dX12_printWhole_228 rfl 5 rfl rfl ?_
                      refine r_get C hn pro_4 inW_X12 31 (by decide) ⟨rfl, rfl, rfl⟩ (gW_of tm_5_81) rfl dX12_printWhole_229 rfl ?_
                      refine m_aload_n (pc' := 233) C dX12_printWhole_232 rfl 5 rfl rfl ?_
                      refine r_get C hn pro_4 inW_X12 32 (by decide) ⟨rfl, rfl, rfl⟩ (gW_of tm_5_82) (r_at 32 rfl e2) dX12_printWhole_233 rfl ?_
                      refine m_bipush (pc' := 238) (v := nI 48) C dX12_printWhole_236 (by decide) rfl ?_
                      refine m_cast (pc' := 239) (E' := .inl (cy 0, 200, .inl (fun i => nI (va_up g8 (fillD (nmD bt (nI c) (nextV xs cnt tk)) (decide (nI c = nI 88)) (leastP po)).length 48 i)))) C 61 (by omega) e4 (vp_in_nI (by rw [fillD_len]; omega) (by decide)) (by rw [nI_clamp (by rw [fillD_len]; omega), nar_cv (by decide), upd_nI]) dX12_printWhole_238 rfl (fun M94 g_94 F_94 => ?_)
                      refine m_aload_n (pc' := 240) C dX12_printWhole_239 rfl 5 rfl rfl ?_
                      refine m_dup (pc' := 241) C dX12_printWhole_240 rfl rfl ?_
                      have ro_95 := pro_4.fr F_94 (by decide)
                      have ff32_96 : M94 132 = gh (.int (nI (fillD (nmD bt (nI c) (nextV xs cnt tk)) (decide (nI c = nI 88)) (leastP po)).length)) := (F_94 132 (by decide)).trans e2
                      refine r_get C hn ro_95 inW_X12 32 (by decide) ⟨rfl, rfl, rfl⟩ (gW_of tm_5_82) (r_at 32 rfl ff32_96) dX12_printWhole_241 rfl ?_
                      refine m_iconst (pc' := 245) (v := nI 1) C dX12_printWhole_244 (by decide) rfl ?_
                      refine m_iadd (pc' := 246) (v := nI ((fillD (nmD bt (nI c) (nextV xs cnt tk)) (decide (nI c = nI 88)) (leastP po)).length + 1)) C dX12_printWhole_245 (nI_add _ _) rfl ?_
                      refine r_put (ty := .int) C hn hn2 ro_95 inW_X12 32 132 (by decide) rfl ⟨rfl, rfl, rfl, rfl⟩ (gW_of tm_5_82) (by decide +kernel) rfl rfl (fun _ => rfl) dX12_printWhole_246 rfl (fun M97 go_97 g_97 F_97 => ?_)
                      have f61_98 : M97 61 = .inl (cy 0, 200, .inl (fun i => nI (va_up g8 (fillD (nmD bt (nI c) (nextV xs cnt tk)) (decide (nI c = nI 88)) (leastP po)).length 48 i))) := (F_97 61 (by decide)).trans g_94
                      refine m_lv [0, 1, 2, 3, 4, 5] rfl ?_
                      exact J249 M97 (⟨go_97, (by unfold nmK; rw [← fillD_push (mk := fm && decide (nI c = nI 111)) hmk hnl]; exact isDg.push e1 (by decide) g_97 f61_98 (by rw [fillD_len]; omega) e5), ((F_94.sub (by decide)).tr (F_97.sub (by decide)))⟩)
                    · have n_209 : ¬ ((fillD (nmD bt (nI c) (nextV xs cnt tk)) (decide (nI c = nI 88)) (leastP po)).length) = 0 := fun q => c_209 (((nI_eq (by rw [fillD_len]; omega) (by omega)).mpr q).trans nI_0)
                      refine m_aload_n (pc' := 213) C dX12_printWhole_212 rfl 5 rfl rfl ?_
                      refine r_get C hn pro_4 inW_X12 31 (by decide) ⟨rfl, rfl, rfl⟩ (gW_of tm_5_81) rfl dX12_printWhole_213 rfl ?_
                      refine m_aload_n (pc' := 217) C dX12_printWhole_216 rfl 5 rfl rfl ?_
                      refine r_get C hn pro_4 inW_X12 32 (by decide) ⟨rfl, rfl, rfl⟩ (gW_of tm_5_82) (r_at 32 rfl e2) dX12_printWhole_217 rfl ?_
                      refine m_iconst (pc' := 221) (v := nI 1) C dX12_printWhole_220 (by decide) rfl ?_
                      refine m_isub (pc' := 222) (v := nI ((fillD (nmD bt (nI c) (nextV xs cnt tk)) (decide (nI c = nI 88)) (leastP po)).length - 1)) C dX12_printWhole_221 (pk_sub (by omega)) rfl ?_
                      refine m_cald (pc' := 223) (v := nI ((fillD (nmD bt (nI c) (nextV xs cnt tk)) (decide (nI c = nI 88)) (leastP po)).getD ((fillD (nmD bt (nI c) (nextV xs cnt tk)) (decide (nI c = nI 88)) (leastP po)).length - 1) 0)) C 61 (by omega) e4 (vp_in_nI (by rw [fillD_len]; omega) (by decide)) (by rw [nI_clamp (by rw [fillD_len]; omega), e5 _ (by omega)]) dX12_printWhole_222 rfl ?_
                      refine m_bipush (pc' := 225) (v := nI 48) C dX12_printWhole_223 (by decide) rfl ?_
                      refine m_icmp_eq (pc' := 228) (tgt := 249) C dX12_printWhole_225 (by decide) rfl (fun c_225 => ?_) (fun c_225 => ?_)
                      · have n_225 : ((fillD (nmD bt (nI c) (nextV xs cnt tk)) (decide (nI c = nI 88)) (leastP po)).getD ((fillD (nmD bt (nI c) (nextV xs cnt tk)) (decide (nI c = nI 88)) (leastP po)).length - 1) 0) = 48 := (nI_eq (by have := gd_lt0 e1 ((fillD (nmD bt (nI c) (nextV xs cnt tk)) (decide (nI c = nI 88)) (leastP po)).length - 1); omega) (by omega)).mp c_225
                        have hno : (fm && decide (nI c = nI 111)) = false ∨ (nmD bt (nI c) (nextV xs cnt tk)).length < leastP po := Or.inr ((fillD_last (b := baseN (nI c)) (by omega) (by omega) n_209).mp n_225)
                        refine m_lv [0, 1, 2, 3, 4, 5] rfl ?_
                        exact J249 M4 (⟨pro_4, (by unfold nmK; rw [← fillD_due (mk := fm && decide (nI c = nI 111)) hno]; exact pdg_4), Fr.rf⟩)
                      · have n_225 : ¬ ((fillD (nmD bt (nI c) (nextV xs cnt tk)) (decide (nI c = nI 88)) (leastP po)).getD ((fillD (nmD bt (nI c) (nextV xs cnt tk)) (decide (nI c = nI 88)) (leastP po)).length - 1) 0) = 48 := fun q => c_225 ((nI_eq (by have := gd_lt0 e1 ((fillD (nmD bt (nI c) (nextV xs cnt tk)) (decide (nI c = nI 88)) (leastP po)).length - 1); omega) (by omega)).mpr q)
                        have hnl : ¬ (nmD bt (nI c) (nextV xs cnt tk)).length < leastP po := fun q => n_225 ((fillD_last (b := baseN (nI c)) (by omega) (by omega) n_209).mpr q)
                        refine m_aload_n (pc' := 229) C dX12_printWhole_228 rfl 5 rfl rfl ?_
                        refine r_get C hn pro_4 inW_X12 31 (by decide) ⟨rfl, rfl, rfl⟩ (gW_of tm_5_81) rfl dX12_printWhole_229 rfl ?_
                        refine m_aload_n (pc' := 233) C dX12_printWhole_232 rfl 5 rfl rfl ?_
                        refine r_get C hn pro_4 inW_X12 32 (by decide) ⟨rfl, rfl, rfl⟩ (gW_of tm_5_82) (r_at 32 rfl e2) dX12_printWhole_233 rfl ?_
                        refine m_bipush (pc' := 238) (v := nI 48) C dX12_printWhole_236 (by decide) rfl ?_
                        refine m_cast (pc' := 239) (E' := .inl (cy 0, 200, .inl (fun i => nI (va_up g8 (fillD (nmD bt (nI c) (nextV xs cnt tk)) (decide (nI c = nI 88)) (leastP po)).length 48 i)))) C 61 (by omega) e4 (vp_in_nI (by rw [fillD_len]; omega) (by decide)) (by rw [nI_clamp (by rw [fillD_len]; omega), nar_cv (by decide), upd_nI]) dX12_printWhole_238 rfl (fun M99 g_99 F_99 => ?_)
                        refine m_aload_n (pc' := 240) C dX12_printWhole_239 rfl 5 rfl rfl ?_
                        refine m_dup (pc' := 241) C dX12_printWhole_240 rfl rfl ?_
                        have ro_100 := pro_4.fr F_99 (by decide)
                        have ff32_101 : M99 132 = gh (.int (nI (fillD (nmD bt (nI c) (nextV xs cnt tk)) (decide (nI c = nI 88)) (leastP po)).length)) := (F_99 132 (by decide)).trans e2
                        refine r_get C hn ro_100 inW_X12 32 (by decide) ⟨rfl, rfl, rfl⟩ (gW_of tm_5_82) (r_at 32 rfl ff32_101) dX12_printWhole_241 rfl ?_
                        refine m_iconst (pc' := 245) (v := nI 1) C dX12_printWhole_244 (by decide) rfl ?_
                        refine m_iadd (pc' := 246) (v := nI ((fillD (nmD bt (nI c) (nextV xs cnt tk)) (decide (nI c = nI 88)) (leastP po)).length + 1)) C dX12_printWhole_245 (nI_add _ _) rfl ?_
                        refine r_put (ty := .int) C hn hn2 ro_100 inW_X12 32 132 (by decide) rfl ⟨rfl, rfl, rfl, rfl⟩ (gW_of tm_5_82) (by decide +kernel) rfl rfl (fun _ => rfl) dX12_printWhole_246 rfl (fun M102 go_102 g_102 F_102 => ?_)
                        have f61_103 : M102 61 = .inl (cy 0, 200, .inl (fun i => nI (va_up g8 (fillD (nmD bt (nI c) (nextV xs cnt tk)) (decide (nI c = nI 88)) (leastP po)).length 48 i))) := (F_102 61 (by decide)).trans g_99
                        refine m_lv [0, 1, 2, 3, 4, 5] rfl ?_
                        exact J249 M102 (⟨go_102, (by unfold nmK; rw [← fillD_push (mk := fm && decide (nI c = nI 111)) hmk hnl]; exact isDg.push e1 (by decide) g_102 f61_103 (by rw [fillD_len]; omega) e5), ((F_99.sub (by decide)).tr (F_102.sub (by decide)))⟩)
              refine m_aload_n (pc' := 172) C dX12_printWhole_171 rfl 5 rfl rfl ?_
              have ff26_104 : M1 126 = gh (.int (pI po)) := (F_1 126 (by decide)).trans h26
              have ff26_105 : M2 126 = gh (.int (pI po)) := (F_2 126 (by decide)).trans ff26_104
              refine r_get C hn pro_2 inW_X12 26 (by decide) ⟨rfl, rfl, rfl⟩ (gW_of tm_5_76) (r_at 26 rfl ff26_105) dX12_printWhole_172 rfl ?_
              refine m_if_ge (pc' := 178) (tgt := 182) C dX12_printWhole_175 (by decide) rfl (fun c_175 => ?_) (fun c_175 => ?_)
              · refine m_aload_n (pc' := 183) C dX12_printWhole_182 rfl 5 rfl rfl ?_
                refine r_get C hn pro_2 inW_X12 26 (by decide) ⟨rfl, rfl, rfl⟩ (gW_of tm_5_76) (r_at 26 rfl ff26_105) dX12_printWhole_183 rfl ?_
                refine m_lv [0, 1, 2, 3, 4, 5] rfl ?_
                exact J186 (pI po) ((pI_ge hpo2 c_175).1)
              · refine m_iconst (pc' := 179) (v := nI 1) C dX12_printWhole_178 (by decide) rfl ?_
                refine m_goto (tgt := 186) C dX12_printWhole_179 (by decide) ?_
                refine m_lv [0, 1, 2, 3, 4, 5] rfl ?_
                exact J186 (nI 1) (by rw [pI_lt hpo2 c_175]; rfl)
            refine m_aload_n (pc' := 154) C dX12_printWhole_153 rfl 5 rfl rfl ?_
            have ff28_106 : M1 128 = gh (.int (nI c)) := (F_1 128 (by decide)).trans h28
            refine r_get C hn pro_1 inW_X12 28 (by decide) ⟨rfl, rfl, rfl⟩ (gW_of tm_5_78) (r_at 28 rfl ff28_106) dX12_printWhole_154 rfl ?_
            refine m_bipush (pc' := 159) (v := nI 88) C dX12_printWhole_157 (by decide) rfl ?_
            refine m_icmp_ne (pc' := 162) (tgt := 166) C dX12_printWhole_159 (by decide) rfl (fun c_159 => ?_) (fun c_159 => ?_)
            · have hz : (decide (nI c = nI 88)) = false := decide_eq_false c_159
              refine m_iconst (pc' := 167) (v := bI false) C dX12_printWhole_166 (by decide) rfl ?_
              refine m_lv [0, 1, 2, 3, 4, 5] rfl ?_
              exact J167 (bI false) (by rw [hz])
            · have hz : (decide (nI c = nI 88)) = true := decide_eq_true (Classical.not_not.mp c_159)
              refine m_iconst (pc' := 163) (v := bI true) C dX12_printWhole_162 (by decide) rfl ?_
              refine m_goto (tgt := 167) C dX12_printWhole_163 (by decide) ?_
              refine m_lv [0, 1, 2, 3, 4, 5] rfl ?_
              exact J167 (bI true) (by rw [hz])
          refine m_iload (pc' := 140) C dX12_printWhole_138 1 rfl rfl ?_
          refine m_if_eq (pc' := 143) (tgt := 149) C dX12_printWhole_140 (by decide) rfl (fun c_140 => ?_) (fun c_140 => ?_)
          · refine m_lload (pc' := 151) C dX12_printWhole_149 2 rfl rfl ?_
            refine m_lv [0, 1, 2, 3, 4, 5] rfl ?_
            exact J151 (nmV bt (nI c) (nextV xs cnt tk)) (by rw [if_neg (by rw [(bI_0 _).mp c_140]; decide)])
          · refine m_lload (pc' := 145) C dX12_printWhole_143 2 rfl rfl ?_
            refine m_lneg (pc' := 146) (v := -(nmV bt (nI c) (nextV xs cnt tk))) C dX12_printWhole_145 rfl rfl ?_
            refine m_goto (tgt := 151) C dX12_printWhole_146 (by decide) ?_
            refine m_lv [0, 1, 2, 3, 4, 5] rfl ?_
            exact J151 (-(nmV bt (nI c) (nextV xs cnt tk))) (by rw [if_pos (ts_of c_140)])
        refine m_aload_n (pc' := 97) C dX12_printWhole_96 rfl 4 rfl rfl ?_
        have ff28_107 : M1 128 = gh (.int (nI c)) := (F_1 128 (by decide)).trans h28
        refine r_get C hn pro_1 inW_X12 28 (by decide) ⟨rfl, rfl, rfl⟩ (gW_of tm_5_78) (r_at 28 rfl ff28_107) dX12_printWhole_97 rfl ?_
        refine m_bipush (pc' := 102) (v := nI 111) C dX12_printWhole_100 (by decide) rfl ?_
        refine m_icmp_ne (pc' := 105) (tgt := 110) C dX12_printWhole_102 (by decide) rfl (fun c_102 => ?_) (fun c_102 => ?_)
        · have c_102o := c_102
          refine m_aload_n (pc' := 111) C dX12_printWhole_110 rfl 4 rfl rfl ?_
          refine r_get C hn pro_1 inW_X12 28 (by decide) ⟨rfl, rfl, rfl⟩ (gW_of tm_5_78) (r_at 28 rfl ff28_107) dX12_printWhole_111 rfl ?_
          refine m_bipush (pc' := 116) (v := nI 120) C dX12_printWhole_114 (by decide) rfl ?_
          refine m_icmp_eq (pc' := 119) (tgt := 128) C dX12_printWhole_116 (by decide) rfl (fun c_116 => ?_) (fun c_116 => ?_)
          · have hxx : nI c = nI 120 ∨ nI c = nI 88 := Or.inl c_116
            refine m_bipush (pc' := 130) (v := nI 16) C dX12_printWhole_128 (by decide) rfl ?_
            refine m_goto (tgt := 135) C dX12_printWhole_130 (by decide) ?_
            refine m_lv [0, 1, 2, 3, 4] rfl ?_
            exact J135 (nI 16) (by unfold baseN; rw [if_neg c_102o, if_pos hxx])
          · refine m_aload_n (pc' := 120) C dX12_printWhole_119 rfl 4 rfl rfl ?_
            refine r_get C hn pro_1 inW_X12 28 (by decide) ⟨rfl, rfl, rfl⟩ (gW_of tm_5_78) (r_at 28 rfl ff28_107) dX12_printWhole_120 rfl ?_
            refine m_bipush (pc' := 125) (v := nI 88) C dX12_printWhole_123 (by decide) rfl ?_
            refine m_icmp_ne (pc' := 128) (tgt := 133) C dX12_printWhole_125 (by decide) rfl (fun c_125 => ?_) (fun c_125 => ?_)
            · have hxx : ¬ (nI c = nI 120 ∨ nI c = nI 88) := fun q => q.elim c_116 c_125
              refine m_bipush (pc' := 135) (v := nI 10) C dX12_printWhole_133 (by decide) rfl ?_
              refine m_lv [0, 1, 2, 3, 4] rfl ?_
              exact J135 (nI 10) (by unfold baseN; rw [if_neg c_102o, if_neg hxx])
            · have hxx : nI c = nI 120 ∨ nI c = nI 88 := Or.inr (Classical.not_not.mp c_125)
              refine m_bipush (pc' := 130) (v := nI 16) C dX12_printWhole_128 (by decide) rfl ?_
              refine m_goto (tgt := 135) C dX12_printWhole_130 (by decide) ?_
              refine m_lv [0, 1, 2, 3, 4] rfl ?_
              exact J135 (nI 16) (by unfold baseN; rw [if_neg c_102o, if_pos hxx])
        · have c_102o := Classical.not_not.mp c_102
          refine m_bipush (pc' := 107) (v := nI 8) C dX12_printWhole_105 (by decide) rfl ?_
          refine m_goto (tgt := 135) C dX12_printWhole_107 (by decide) ?_
          refine m_lv [0, 1, 2, 3, 4] rfl ?_
          exact J135 (nI 8) (by unfold baseN; rw [if_pos c_102o])
      refine m_iload_n (pc' := 79) C dX12_printWhole_78 rfl 1 rfl rfl ?_
      refine m_if_eq (pc' := 82) (tgt := 93) C dX12_printWhole_79 (by decide) rfl (fun c_79 => ?_) (fun c_79 => ?_)
      · have hz : nmB bt (nI c) (nextV xs cnt tk) = false := by unfold nmB; rw [(bI_0 _).mp c_79]; rfl
        refine m_iconst (pc' := 94) (v := nI 0) C dX12_printWhole_93 (by decide) rfl ?_
        refine m_lv [0, 1, 2, 3] rfl ?_
        exact J94 (nI 0) (by rw [hz]; rfl)
      · refine m_lload (pc' := 84) C dX12_printWhole_82 0 rfl rfl ?_
        refine m_lconst (pc' := 85) (v := 0) C dX12_printWhole_84 (by decide) rfl ?_
        refine m_lcmp (pc' := 86) (v := lg_cmp (nmV bt (nI c) (nextV xs cnt tk)) 0) C dX12_printWhole_85 rfl rfl ?_
        refine m_if_ge (pc' := 89) (tgt := 93) C dX12_printWhole_86 (by decide) rfl (fun c_86 => ?_) (fun c_86 => ?_)
        · have hz : nmB bt (nI c) (nextV xs cnt tk) = false := by unfold nmB; rw [decide_eq_false (lg_ge.mp c_86), Bool.and_false]
          refine m_iconst (pc' := 94) (v := nI 0) C dX12_printWhole_93 (by decide) rfl ?_
          refine m_lv [0, 1, 2, 3] rfl ?_
          exact J94 (nI 0) (by rw [hz]; rfl)
        · have hz : nmB bt (nI c) (nextV xs cnt tk) = true := by unfold nmB; rw [ts_of c_79, decide_eq_true (Classical.not_not.mp (fun q => c_86 (lg_ge.mpr q)))]; rfl
          refine m_iconst (pc' := 90) (v := nI 1) C dX12_printWhole_89 (by decide) rfl ?_
          refine m_goto (tgt := 94) C dX12_printWhole_90 (by decide) ?_
          refine m_lv [0, 1, 2, 3] rfl ?_
          exact J94 (nI 1) (by rw [hz]; rfl)
    refine m_aload_n (pc' := 30) C dX12_printWhole_29 rfl 2 rfl rfl ?_
    have ff27_108 : M1 127 = gh (.int (nI bt)) := (F_1 127 (by decide)).trans h27
    refine r_get C hn pro_1 inW_X12 27 (by decide) ⟨rfl, rfl, rfl⟩ (gW_of tm_5_77) (r_at 27 rfl ff27_108) dX12_printWhole_30 rfl ?_
    refine m_bipush (pc' := 35) (v := nI 64) C dX12_printWhole_33 (by decide) rfl ?_
    refine m_icmp_ne (pc' := 38) (tgt := 42) C dX12_printWhole_35 (by decide) rfl (fun c_35 => ?_) (fun c_35 => ?_)
    · have n_35 : ¬ bt = 64 := fun q => c_35 ((nI_eq (by omega) (by omega)).mpr q)
      refine m_iload_n (pc' := 43) C dX12_printWhole_42 rfl 0 rfl rfl ?_
      refine m_if_eq (pc' := 46) (tgt := 66) C dX12_printWhole_43 (by decide) rfl (fun c_43 => ?_) (fun c_43 => ?_)
      · have hsg := (bI_0 _).mp c_43
        refine m_lload_n (pc' := 67) C dX12_printWhole_66 rfl 1 rfl rfl ?_
        refine m_lconst (pc' := 68) (v := 1) C dX12_printWhole_67 (by decide) rfl ?_
        refine m_aload_n (pc' := 69) C dX12_printWhole_68 rfl 2 rfl rfl ?_
        refine r_get C hn pro_1 inW_X12 27 (by decide) ⟨rfl, rfl, rfl⟩ (gW_of tm_5_77) (r_at 27 rfl ff27_108) dX12_printWhole_69 rfl ?_
        refine m_lshl (pc' := 73) (v := 1 <<< (((nI bt)).toInt64 &&& 63)) C dX12_printWhole_72 rfl rfl ?_
        refine m_lconst (pc' := 74) (v := 1) C dX12_printWhole_73 (by decide) rfl ?_
        refine m_lsub (pc' := 75) (v := (1 <<< (((nI bt)).toInt64 &&& 63)) - 1) C dX12_printWhole_74 rfl rfl ?_
        refine m_land (pc' := 76) (v := (nextV xs cnt tk) &&& ((1 <<< (((nI bt)).toInt64 &&& 63)) - 1)) C dX12_printWhole_75 rfl rfl ?_
        refine m_lv [0, 1, 2] rfl ?_
        exact J76 ((nextV xs cnt tk) &&& ((1 <<< (((nI bt)).toInt64 &&& 63)) - 1)) (by unfold nmV; rw [hsg]; exact (narI_u (by omega) _).symm)
      · have hsg := ts_of c_43
        refine m_lload_n (pc' := 47) C dX12_printWhole_46 rfl 1 rfl rfl ?_
        refine m_bipush (pc' := 49) (v := nI 64) C dX12_printWhole_47 (by decide) rfl ?_
        refine m_aload_n (pc' := 50) C dX12_printWhole_49 rfl 2 rfl rfl ?_
        refine r_get C hn pro_1 inW_X12 27 (by decide) ⟨rfl, rfl, rfl⟩ (gW_of tm_5_77) (r_at 27 rfl ff27_108) dX12_printWhole_50 rfl ?_
        refine m_isub (pc' := 54) (v := nI (64 - bt)) C dX12_printWhole_53 (pk_sub (by omega)) rfl ?_
        refine m_lshl (pc' := 55) (v := (nextV xs cnt tk) <<< (((nI (64 - bt))).toInt64 &&& 63)) C dX12_printWhole_54 rfl rfl ?_
        refine m_bipush (pc' := 57) (v := nI 64) C dX12_printWhole_55 (by decide) rfl ?_
        refine m_aload_n (pc' := 58) C dX12_printWhole_57 rfl 2 rfl rfl ?_
        refine r_get C hn pro_1 inW_X12 27 (by decide) ⟨rfl, rfl, rfl⟩ (gW_of tm_5_77) (r_at 27 rfl ff27_108) dX12_printWhole_58 rfl ?_
        refine m_isub (pc' := 62) (v := nI (64 - bt)) C dX12_printWhole_61 (pk_sub (by omega)) rfl ?_
        refine m_lshr (pc' := 63) (v := ((nextV xs cnt tk) <<< (((nI (64 - bt))).toInt64 &&& 63)) >>> (((nI (64 - bt))).toInt64 &&& 63)) C dX12_printWhole_62 rfl rfl ?_
        refine m_goto (tgt := 76) C dX12_printWhole_63 (by decide) ?_
        refine m_lv [0, 1, 2] rfl ?_
        exact J76 (((nextV xs cnt tk) <<< (((nI (64 - bt))).toInt64 &&& 63)) >>> (((nI (64 - bt))).toInt64 &&& 63)) (by unfold nmV narI; rw [if_pos hsg])
    · have n_35 : bt = 64 := (nI_eq (by omega) (by omega)).mp (Classical.not_not.mp c_35)
      refine m_lload_n (pc' := 39) C dX12_printWhole_38 rfl 1 rfl rfl ?_
      refine m_goto (tgt := 76) C dX12_printWhole_39 (by decide) ?_
      refine m_lv [0, 1, 2] rfl ?_
      exact J76 (nextV xs cnt tk) (by unfold nmV; rw [n_35, narI_64])
  refine m_aload_n (pc' := 6) C dX12_printWhole_5 rfl 1 rfl rfl ?_
  have ff28_109 : M1 128 = gh (.int (nI c)) := (F_1 128 (by decide)).trans h28
  refine r_get C hn pro_1 inW_X12 28 (by decide) ⟨rfl, rfl, rfl⟩ (gW_of tm_5_78) (r_at 28 rfl ff28_109) dX12_printWhole_6 rfl ?_
  refine m_bipush (pc' := 11) (v := nI 100) C dX12_printWhole_9 (by decide) rfl ?_
  refine m_icmp_eq (pc' := 14) (tgt := 23) C dX12_printWhole_11 (by decide) rfl (fun c_11 => ?_) (fun c_11 => ?_)
  · have hz : sgdL (nI c) = true := decide_eq_true (Or.inl c_11)
    refine m_iconst (pc' := 24) (v := nI 1) C dX12_printWhole_23 (by decide) rfl ?_
    refine m_goto (tgt := 28) C dX12_printWhole_24 (by decide) ?_
    refine m_lv [0, 1] rfl ?_
    exact J28 (nI 1) (by rw [hz]; rfl)
  · refine m_aload_n (pc' := 15) C dX12_printWhole_14 rfl 1 rfl rfl ?_
    refine r_get C hn pro_1 inW_X12 28 (by decide) ⟨rfl, rfl, rfl⟩ (gW_of tm_5_78) (r_at 28 rfl ff28_109) dX12_printWhole_15 rfl ?_
    refine m_bipush (pc' := 20) (v := nI 105) C dX12_printWhole_18 (by decide) rfl ?_
    refine m_icmp_ne (pc' := 23) (tgt := 27) C dX12_printWhole_20 (by decide) rfl (fun c_20 => ?_) (fun c_20 => ?_)
    · have hz : sgdL (nI c) = false := decide_eq_false (fun q => q.elim c_11 c_20)
      refine m_iconst (pc' := 28) (v := nI 0) C dX12_printWhole_27 (by decide) rfl ?_
      refine m_lv [0, 1] rfl ?_
      exact J28 (nI 0) (by rw [hz]; rfl)
    · have hz : sgdL (nI c) = true := decide_eq_true (Or.inr (Classical.not_not.mp c_20))
      refine m_iconst (pc' := 24) (v := nI 1) C dX12_printWhole_23 (by decide) rfl ?_
      refine m_goto (tgt := 28) C dX12_printWhole_24 (by decide) ?_
      refine m_lv [0, 1] rfl ?_
      exact J28 (nI 1) (by rw [hz]; rfl)
