set_option maxHeartbeats 4000000 in
set_option maxRecDepth 100000 in
theorem law_5 {p : Program} {l : Launch} {e : Env} {s : State} {m : MethodId} {args : Array Value} {below : List Frame} {meth : Method} {c : Code} {cells slots : Nat} {Q : State → Prop} {D : va_G} {cy : Nat → ClassId} {ad : Nat → Nat} {A : Nat → Prop} {M : Nat → va_E} (C : mC p s m args c cL_law 7 RL GT D cy ad 64 A) (hst9 : l.stackTraces = false) (hz9 : zK A s s.heap) (hx9 : xK s) {b L : Nat} {xs : Nat → Int32} (hS9 : va_X b L xs s s.heap) (hb1 : b < s.heap.size) (hb2 : ¬ A b) {i : Nat} (hi : i + 6 ≤ L) (hL : L ≤ 3072) (hIS : isS cy ad M) (hcs : cells + 1 ≤ 601024 ∧ slots + 6 ≤ 7293034) (kk : ∀ M' : Nat → va_E, isS cy ad M' → mW p l e { frames := 10, cells := 601024, slots := 7293034, locals := 396 } s m args below meth c D A 7 (cells + 1) (slots + 6) Q ad 64 M' 1073 [(0, (.ref b)), (1, .ref (ad 0)), (2, .ref (ad 52)), (3, .ref (ad 63)), (4, .int (nI i))] []) : mW p l e { frames := 10, cells := 601024, slots := 7293034, locals := 396 } s m args below meth c D A 7 cells slots Q ad 64 M 390 [(0, (.ref b)), (1, .ref (ad 0)), (2, .ref (ad 52)), (3, .ref (ad 63)), (4, .int (nI i))] [] := by
  obtain ⟨⟨T, ys, cnt, lim, O, B, fp, ot, hX, hM⟩, f0, h63⟩ := hIS
  refine m_aload_n (pc' := 391) C dL_law_390 rfl 1 rfl rfl ?_
  refine m_aload_n (pc' := 392) C dL_law_391 rfl 0 rfl rfl ?_
  refine m_iload (pc' := 394) C dL_law_392 4 rfl rfl ?_
  refine m_iconst (pc' := 395) (v := nI 1) C dL_law_394 (by decide) rfl ?_
  refine m_iadd (pc' := 396) (v := nI (i + 1)) C dL_law_395 (nI_add _ _) rfl ?_
  refine m_sald (pc' := 397) (v := xs (i + 1)) C hS9 hb1 hb2 (vp_in_nI (by omega) (by omega)) (by rw [nI_clamp (by omega)]) dL_law_396 rfl ?_
  refine m_callH (pc' := 400) (As := [.ref (ad 0), .int (xs (i + 1))]) (rest := []) C (kL_room C.2.2.1 hst9 (by decide) hX (xs (i + 1))) hz9 hx9 (vx_cwSW 2 C.1.2.2.2.2 (goodSL tm_4_32 tm_4_33 tm_1_0 th_room) rfl rfl rfl (by decide +kernel) ⟨by decide, by decide⟩) rfl rfl (Nat.le_of_ble_eq_true rfl) dL_law_397 rfl ⟨by show _ ≤ 601024; omega, by show _ ≤ 7293034; omega⟩ (fun r_1 M1 q_1 => ?_)
  obtain ⟨e_1, hX_1, F_1⟩ := q_1
  replace e_1 := e_1.symm
  subst e_1
  have h63_1 := (F_1 63 (by decide)).trans h63
  have hM_1 := hM.fr F_1 (by decide)
  refine m_istore (pc' := 402) (lv' := [(5, .int (nI (rmK (xs (i + 1))))), (0, (.ref b)), (1, .ref (ad 0)), (2, .ref (ad 52)), (3, .ref (ad 63)), (4, .int (nI i))]) C dL_law_400 (by decide) rfl rfl ?_
  refine m_aload_n (pc' := 403) C dL_law_402 rfl 3 rfl rfl ?_
  refine m_aload_n (pc' := 404) C dL_law_403 rfl 1 rfl rfl ?_
  refine m_iload (pc' := 406) C dL_law_404 5 rfl rfl ?_
  refine m_iconst (pc' := 407) (v := nI 1) C dL_law_406 (by decide) rfl ?_
  refine m_iadd (pc' := 408) (v := nI (i + 1)) C dL_law_407 (nI_add _ _) rfl ?_
  refine m_sald (pc' := 409) (v := xs (i + 1)) C hS9 hb1 hb2 (vp_in_nI (by omega) (by omega)) (by rw [nI_clamp (by omega)]) dL_law_408 rfl ?_
  refine m_callVv (pc' := 412) (As := [.int (xs (i + 1))]) (rest := []) C (kX12_room C.2.2.1 (by decide) (by decide) hM_1 (xs (i + 1))) (cwV 1 C.1.2.2.2.2 (goodVL tm_5_194 tm_5_195 tm_5_196 tm_1_13 tm_5_197) rfl rfl rfl (by decide +kernel) ⟨by decide, by decide⟩) (by decide) hM_1.1 rfl rfl rfl (Nat.le_of_ble_eq_true rfl) dL_law_409 rfl ⟨by show _ ≤ 601024; omega, by show _ ≤ 7293034; omega⟩ (fun M2 q_2 => ?_)
  obtain ⟨h100_2, hM_2, F_2⟩ := q_2
  have hX_2 := hX_1.fr F_2 (by decide)
  have h63_2 := (F_2 63 (by decide)).trans h63_1
  refine m_aload_n (pc' := 413) C dL_law_412 rfl 3 rfl rfl ?_
  refine m_callVi (pc' := 416) (As := []) (rest := []) C (kX12_thrown C.2.2.1 (by decide) (by decide) hM_2.1 h100_2) (cwV 0 C.1.2.2.2.2 (goodVL tm_5_162 tm_5_163 tm_5_164 tm_1_13 tm_5_165) rfl rfl rfl (by decide +kernel) ⟨by decide, by decide⟩) (by decide) hM_2.1 rfl rfl rfl (Nat.le_of_ble_eq_true rfl) dL_law_413 rfl ⟨by show _ ≤ 601024; omega, by show _ ≤ 7293034; omega⟩ (fun r_3 N_3 q_3 => ?_)
  obtain ⟨e_3, E_3⟩ := q_3
  replace E_3 := E_3.symm
  subst E_3
  replace e_3 := e_3.symm
  subst e_3
  refine m_iload (pc' := 418) C dL_law_416 0 rfl rfl ?_
  refine m_icmp_eq (pc' := 421) (tgt := 423) C dL_law_418 (by decide) rfl (fun c_418 => ?_) (fun c_418 => ?_)
  · refine m_goto (tgt := 1073) C dL_law_423 (by decide) ?_
    refine m_lv [1, 2, 3, 4, 5] rfl ?_
    exact kk _ ⟨⟨_, _, _, _, _, _, _, _, hX_2, hM_2⟩, ⟨_, h63_2⟩⟩
  · exact absurd rfl c_418
set_option maxHeartbeats 4000000 in
set_option maxRecDepth 100000 in
theorem law_6 {p : Program} {l : Launch} {e : Env} {s : State} {m : MethodId} {args : Array Value} {below : List Frame} {meth : Method} {c : Code} {cells slots : Nat} {Q : State → Prop} {D : va_G} {cy : Nat → ClassId} {ad : Nat → Nat} {A : Nat → Prop} {M : Nat → va_E} (C : mC p s m args c cL_law 7 RL GT D cy ad 64 A) (hst9 : l.stackTraces = false) (hz9 : zK A s s.heap) (hx9 : xK s) {b L : Nat} {xs : Nat → Int32} (hS9 : va_X b L xs s s.heap) (hb1 : b < s.heap.size) (hb2 : ¬ A b) {i : Nat} (hi : i + 6 ≤ L) (hL : L ≤ 3072) (hIS : isS cy ad M) (hcs : cells + 1 ≤ 601024 ∧ slots + 6 ≤ 7293034) (kk : ∀ M' : Nat → va_E, isS cy ad M' → mW p l e { frames := 10, cells := 601024, slots := 7293034, locals := 396 } s m args below meth c D A 7 (cells + 1) (slots + 6) Q ad 64 M' 1073 [(0, (.ref b)), (1, .ref (ad 0)), (2, .ref (ad 52)), (3, .ref (ad 63)), (4, .int (nI i))] []) : mW p l e { frames := 10, cells := 601024, slots := 7293034, locals := 396 } s m args below meth c D A 7 cells slots Q ad 64 M 426 [(0, (.ref b)), (1, .ref (ad 0)), (2, .ref (ad 52)), (3, .ref (ad 63)), (4, .int (nI i))] [] := by
  obtain ⟨⟨T, ys, cnt, lim, O, B, fp, ot, hX, hM⟩, f0, h63⟩ := hIS
  refine m_aload_n (pc' := 427) C dL_law_426 rfl 1 rfl rfl ?_
  obtain ⟨h1, h2, h3, h4, ⟨en, tk, od, hps⟩, h6, h7, h8, h9, h10, h11, h12, h13, h14, h15⟩ := id hX
  obtain ⟨p1, p2, p3, p4, p5⟩ := id hps
  refine m_callVi (pc' := 430) (As := []) (rest := []) C (kX11_print C.2.2.1 (by decide) h2 h3 h4 hps h10) (cwV 0 C.1.2.2.2.2 (goodVL tm_2_114 tm_2_115 tm_2_116 tm_1_1 tm_2_117) rfl rfl rfl (by decide +kernel) ⟨by decide, by decide⟩) (by decide) h2 rfl rfl rfl (Nat.le_of_ble_eq_true rfl) dL_law_427 rfl ⟨by show _ ≤ 601024; omega, by show _ ≤ 7293034; omega⟩ (fun r_1 M1 q_1 => ?_)
  obtain ⟨e_1, q3, q5, q6, q4⟩ := q_1
  have hX_1 := hX.print q3 q5 (ptO_le h6) q6 q4
  have hM_1 := hM.fr q4 (by decide)
  have h63_1 := (q4 63 (by decide)).trans h63
  replace e_1 := e_1.symm
  subst e_1
  refine m_aload_n (pc' := 431) C dL_law_430 rfl 2 rfl rfl ?_
  refine m_callVi (pc' := 434) (As := []) (rest := [.int (ptI T ys cnt lim)]) C (kX12_print C.2.2.1 (by decide) (by decide) hM_1 ) (cwV 0 C.1.2.2.2.2 (goodVL tm_5_201 tm_5_202 tm_5_203 tm_1_13 tm_5_204) rfl rfl rfl (by decide +kernel) ⟨by decide, by decide⟩) (by decide) hM_1.1 rfl rfl rfl (Nat.le_of_ble_eq_true rfl) dL_law_431 rfl ⟨by show _ ≤ 601024; omega, by show _ ≤ 7293034; omega⟩ (fun r_2 M2 q_2 => ?_)
  obtain ⟨hr_2, h100_2, hM_2, F_2⟩ := q_2
  have hX_2 := hX_1.fr F_2 (by decide)
  have h63_2 := (F_2 63 (by decide)).trans h63_1
  replace hr_2 := hr_2.symm
  subst hr_2
  refine m_icmp_eq (pc' := 437) (tgt := 1073) C dL_law_434 (by decide) rfl (fun c_434 => ?_) (fun c_434 => ?_)
  · refine m_wid (k := cells + 1) (q := slots + 6) (by omega) (by omega) ?_
    refine m_lv [0, 1, 2, 3, 4] rfl ?_
    exact kk _ ⟨⟨_, _, _, _, _, _, _, _, hX_2, hM_2⟩, ⟨_, h63_2⟩⟩
  · exact absurd rfl c_434
set_option maxHeartbeats 4000000 in
set_option maxRecDepth 100000 in
theorem law_7 {p : Program} {l : Launch} {e : Env} {s : State} {m : MethodId} {args : Array Value} {below : List Frame} {meth : Method} {c : Code} {cells slots : Nat} {Q : State → Prop} {D : va_G} {cy : Nat → ClassId} {ad : Nat → Nat} {A : Nat → Prop} {M : Nat → va_E} (C : mC p s m args c cL_law 7 RL GT D cy ad 64 A) (hst9 : l.stackTraces = false) (hz9 : zK A s s.heap) (hx9 : xK s) {b L : Nat} {xs : Nat → Int32} (hS9 : va_X b L xs s s.heap) (hb1 : b < s.heap.size) (hb2 : ¬ A b) {i : Nat} (hi : i + 6 ≤ L) (hL : L ≤ 3072) (hIS : isS cy ad M) (hcs : cells + 1 ≤ 601024 ∧ slots + 6 ≤ 7293034) (kk : ∀ M' : Nat → va_E, isS cy ad M' → mW p l e { frames := 10, cells := 601024, slots := 7293034, locals := 396 } s m args below meth c D A 7 (cells + 1) (slots + 6) Q ad 64 M' 1073 [(0, (.ref b)), (1, .ref (ad 0)), (2, .ref (ad 52)), (3, .ref (ad 63)), (4, .int (nI i))] []) : mW p l e { frames := 10, cells := 601024, slots := 7293034, locals := 396 } s m args below meth c D A 7 cells slots Q ad 64 M 439 [(0, (.ref b)), (1, .ref (ad 0)), (2, .ref (ad 52)), (3, .ref (ad 63)), (4, .int (nI i))] [] := by
  obtain ⟨⟨T, ys, cnt, lim, O, B, fp, ot, hX, hM⟩, f0, h63⟩ := hIS
  refine m_aload_n (pc' := 440) C dL_law_439 rfl 1 rfl rfl ?_
  obtain ⟨h1, h2, h3, h4, ⟨en, tk, od, hps⟩, h6, h7, h8, h9, h10, h11, h12, h13, h14, h15⟩ := id hX
  obtain ⟨p1, p2, p3, p4, p5⟩ := id hps
  refine m_callVi (pc' := 443) (As := []) (rest := []) C (kX11_odd C.2.2.1 (by decide) h2 ) (cwV 0 C.1.2.2.2.2 (goodVL tm_3_150 tm_3_151 tm_3_152 tm_1_1 tm_3_153) rfl rfl rfl (by decide +kernel) ⟨by decide, by decide⟩) (by decide) h2 rfl rfl rfl (Nat.le_of_ble_eq_true rfl) dL_law_440 rfl ⟨by show _ ≤ 601024; omega, by show _ ≤ 7293034; omega⟩ (fun r_1 M1 q_1 => ?_)
  obtain ⟨e_1, q4⟩ := q_1
  replace q4 := q4.symm
  subst q4
  replace e_1 := e_1.symm
  subst e_1
  refine m_aload_n (pc' := 444) C dL_law_443 rfl 2 rfl rfl ?_
  refine m_callVi (pc' := 447) (As := []) (rest := [.int (ot)]) C (kX12_odd C.2.2.1 (by decide) (by decide) hM ) (cwV 0 C.1.2.2.2.2 (goodVL tm_6_72 tm_6_73 tm_6_74 tm_1_13 tm_6_75) rfl rfl rfl (by decide +kernel) ⟨by decide, by decide⟩) (by decide) hM.1 rfl rfl rfl (Nat.le_of_ble_eq_true rfl) dL_law_444 rfl ⟨by show _ ≤ 601024; omega, by show _ ≤ 7293034; omega⟩ (fun r_2 M2 q_2 => ?_)
  obtain ⟨hr_2, h100_2, hM_2, F_2⟩ := q_2
  have hX_2 := hX.fr F_2 (by decide)
  have h63_2 := (F_2 63 (by decide)).trans h63
  replace hr_2 := hr_2.symm
  subst hr_2
  refine m_icmp_eq (pc' := 450) (tgt := 1073) C dL_law_447 (by decide) rfl (fun c_447 => ?_) (fun c_447 => ?_)
  · refine m_wid (k := cells + 1) (q := slots + 6) (by omega) (by omega) ?_
    refine m_lv [0, 1, 2, 3, 4] rfl ?_
    exact kk _ ⟨⟨_, _, _, _, _, _, _, _, hX_2, hM_2⟩, ⟨_, h63_2⟩⟩
  · exact absurd rfl c_447
set_option maxHeartbeats 4000000 in
set_option maxRecDepth 100000 in
theorem law_8 {p : Program} {l : Launch} {e : Env} {s : State} {m : MethodId} {args : Array Value} {below : List Frame} {meth : Method} {c : Code} {cells slots : Nat} {Q : State → Prop} {D : va_G} {cy : Nat → ClassId} {ad : Nat → Nat} {A : Nat → Prop} {M : Nat → va_E} (C : mC p s m args c cL_law 7 RL GT D cy ad 64 A) (hst9 : l.stackTraces = false) (hz9 : zK A s s.heap) (hx9 : xK s) {b L : Nat} {xs : Nat → Int32} (hS9 : va_X b L xs s s.heap) (hb1 : b < s.heap.size) (hb2 : ¬ A b) {i : Nat} (hi : i + 6 ≤ L) (hL : L ≤ 3072) (hIS : isS cy ad M) (hcs : cells + 1 ≤ 601024 ∧ slots + 6 ≤ 7293034) (kk : ∀ M' : Nat → va_E, isS cy ad M' → mW p l e { frames := 10, cells := 601024, slots := 7293034, locals := 396 } s m args below meth c D A 7 (cells + 1) (slots + 6) Q ad 64 M' 1073 [(0, (.ref b)), (1, .ref (ad 0)), (2, .ref (ad 52)), (3, .ref (ad 63)), (4, .int (nI i))] []) : mW p l e { frames := 10, cells := 601024, slots := 7293034, locals := 396 } s m args below meth c D A 7 cells slots Q ad 64 M 452 [(0, (.ref b)), (1, .ref (ad 0)), (2, .ref (ad 52)), (3, .ref (ad 63)), (4, .int (nI i))] [] := by
  obtain ⟨⟨T, ys, cnt, lim, O, B, fp, ot, hX, hM⟩, f0, h63⟩ := hIS
  refine m_aload_n (pc' := 453) C dL_law_452 rfl 1 rfl rfl ?_
  refine m_aload_n (pc' := 454) C dL_law_453 rfl 0 rfl rfl ?_
  refine m_iload (pc' := 456) C dL_law_454 4 rfl rfl ?_
  refine m_iconst (pc' := 457) (v := nI 1) C dL_law_456 (by decide) rfl ?_
  refine m_iadd (pc' := 458) (v := nI (i + 1)) C dL_law_457 (nI_add _ _) rfl ?_
  refine m_sald (pc' := 459) (v := xs (i + 1)) C hS9 hb1 hb2 (vp_in_nI (by omega) (by omega)) (by rw [nI_clamp (by omega)]) dL_law_458 rfl ?_
  refine m_aload_n (pc' := 460) C dL_law_459 rfl 0 rfl rfl ?_
  refine m_iload (pc' := 462) C dL_law_460 4 rfl rfl ?_
  refine m_iconst (pc' := 463) (v := nI 2) C dL_law_462 (by decide) rfl ?_
  refine m_iadd (pc' := 464) (v := nI (i + 2)) C dL_law_463 (nI_add _ _) rfl ?_
  refine m_sald (pc' := 465) (v := xs (i + 2)) C hS9 hb1 hb2 (vp_in_nI (by omega) (by omega)) (by rw [nI_clamp (by omega)]) dL_law_464 rfl ?_
  refine m_aload_n (pc' := 466) C dL_law_465 rfl 0 rfl rfl ?_
  refine m_iload (pc' := 468) C dL_law_466 4 rfl rfl ?_
  refine m_iconst (pc' := 469) (v := nI 3) C dL_law_468 (by decide) rfl ?_
  refine m_iadd (pc' := 470) (v := nI (i + 3)) C dL_law_469 (nI_add _ _) rfl ?_
  refine m_sald (pc' := 471) (v := xs (i + 3)) C hS9 hb1 hb2 (vp_in_nI (by omega) (by omega)) (by rw [nI_clamp (by omega)]) dL_law_470 rfl ?_
  refine m_aload_n (pc' := 472) C dL_law_471 rfl 0 rfl rfl ?_
  refine m_iload (pc' := 474) C dL_law_472 4 rfl rfl ?_
  refine m_iconst (pc' := 475) (v := nI 4) C dL_law_474 (by decide) rfl ?_
  refine m_iadd (pc' := 476) (v := nI (i + 4)) C dL_law_475 (nI_add _ _) rfl ?_
  refine m_sald (pc' := 477) (v := xs (i + 4)) C hS9 hb1 hb2 (vp_in_nI (by omega) (by omega)) (by rw [nI_clamp (by omega)]) dL_law_476 rfl ?_
  refine m_aload_n (pc' := 478) C dL_law_477 rfl 0 rfl rfl ?_
  refine m_iload (pc' := 480) C dL_law_478 4 rfl rfl ?_
  refine m_iconst (pc' := 481) (v := nI 5) C dL_law_480 (by decide) rfl ?_
  refine m_iadd (pc' := 482) (v := nI (i + 5)) C dL_law_481 (nI_add _ _) rfl ?_
  refine m_sald (pc' := 483) (v := xs (i + 5)) C hS9 hb1 hb2 (vp_in_nI (by omega) (by omega)) (by rw [nI_clamp (by omega)]) dL_law_482 rfl ?_
  refine m_aload_n (pc' := 484) C dL_law_483 rfl 3 rfl rfl ?_
  refine m_callH (pc' := 487) (As := [.ref (ad 0), .int (xs (i + 1)), .int (xs (i + 2)), .int (xs (i + 3)), .int (xs (i + 4)), .int (xs (i + 5)), .ref (ad 63)]) (rest := []) C (kL_feed C.2.2.1 hst9 (by decide) hX h63 (xs (i + 1)) (xs (i + 2)) (xs (i + 3)) (xs (i + 4)) (xs (i + 5))) hz9 hx9 (vx_cwSW 7 C.1.2.2.2.2 (goodSL tm_4_59 tm_4_60 tm_1_0 th_feed) rfl rfl rfl (by decide +kernel) ⟨by decide, by decide⟩) rfl rfl (Nat.le_of_ble_eq_true rfl) dL_law_484 rfl ⟨by show _ ≤ 601024; omega, by show _ ≤ 7293034; omega⟩ (fun r_1 M1 q_1 => ?_)
  obtain ⟨e_1, ⟨f_1, h63_1, hv_1⟩, hX_1, F_1⟩ := q_1
  replace e_1 := e_1.symm
  subst e_1
  have hM_1 := hM.fr F_1 (by decide)
  refine m_istore (pc' := 489) (lv' := [(5, .int (nI (fdK B (xs (i + 1))))), (0, (.ref b)), (1, .ref (ad 0)), (2, .ref (ad 52)), (3, .ref (ad 63)), (4, .int (nI i))]) C dL_law_487 (by decide) rfl rfl ?_
  refine m_aload_n (pc' := 490) C dL_law_489 rfl 3 rfl rfl ?_
  refine m_aload_n (pc' := 491) C dL_law_490 rfl 1 rfl rfl ?_
  refine m_iload (pc' := 493) C dL_law_491 5 rfl rfl ?_
  refine m_iconst (pc' := 494) (v := nI 1) C dL_law_493 (by decide) rfl ?_
  refine m_iadd (pc' := 495) (v := nI (i + 1)) C dL_law_494 (nI_add _ _) rfl ?_
  refine m_sald (pc' := 496) (v := xs (i + 1)) C hS9 hb1 hb2 (vp_in_nI (by omega) (by omega)) (by rw [nI_clamp (by omega)]) dL_law_495 rfl ?_
  refine m_aload_n (pc' := 497) C dL_law_496 rfl 1 rfl rfl ?_
  refine m_iload (pc' := 499) C dL_law_497 5 rfl rfl ?_
  refine m_iconst (pc' := 500) (v := nI 2) C dL_law_499 (by decide) rfl ?_
  refine m_iadd (pc' := 501) (v := nI (i + 2)) C dL_law_500 (nI_add _ _) rfl ?_
  refine m_sald (pc' := 502) (v := xs (i + 2)) C hS9 hb1 hb2 (vp_in_nI (by omega) (by omega)) (by rw [nI_clamp (by omega)]) dL_law_501 rfl ?_
  refine m_aload_n (pc' := 503) C dL_law_502 rfl 1 rfl rfl ?_
  refine m_iload (pc' := 505) C dL_law_503 5 rfl rfl ?_
  refine m_iconst (pc' := 506) (v := nI 3) C dL_law_505 (by decide) rfl ?_
  refine m_iadd (pc' := 507) (v := nI (i + 3)) C dL_law_506 (nI_add _ _) rfl ?_
  refine m_sald (pc' := 508) (v := xs (i + 3)) C hS9 hb1 hb2 (vp_in_nI (by omega) (by omega)) (by rw [nI_clamp (by omega)]) dL_law_507 rfl ?_
  refine m_aload_n (pc' := 509) C dL_law_508 rfl 1 rfl rfl ?_
  refine m_iload (pc' := 511) C dL_law_509 5 rfl rfl ?_
  refine m_iconst (pc' := 512) (v := nI 4) C dL_law_511 (by decide) rfl ?_
  refine m_iadd (pc' := 513) (v := nI (i + 4)) C dL_law_512 (nI_add _ _) rfl ?_
  refine m_sald (pc' := 514) (v := xs (i + 4)) C hS9 hb1 hb2 (vp_in_nI (by omega) (by omega)) (by rw [nI_clamp (by omega)]) dL_law_513 rfl ?_
  refine m_aload_n (pc' := 515) C dL_law_514 rfl 1 rfl rfl ?_
  refine m_iload (pc' := 517) C dL_law_515 5 rfl rfl ?_
  refine m_iconst (pc' := 518) (v := nI 5) C dL_law_517 (by decide) rfl ?_
  refine m_iadd (pc' := 519) (v := nI (i + 5)) C dL_law_518 (nI_add _ _) rfl ?_
  refine m_sald (pc' := 520) (v := xs (i + 5)) C hS9 hb1 hb2 (vp_in_nI (by omega) (by omega)) (by rw [nI_clamp (by omega)]) dL_law_519 rfl ?_
  refine m_callVi (pc' := 523) (As := [.int (xs (i + 1)), .int (xs (i + 2)), .int (xs (i + 3)), .int (xs (i + 4)), .int (xs (i + 5))]) (rest := []) C (kX12_feed C.2.2.1 (by decide) (by decide) hM_1 (xs (i + 1)) (xs (i + 2)) (xs (i + 3)) (xs (i + 4)) (xs (i + 5))) (cwV 5 C.1.2.2.2.2 (goodVL tm_6_76 tm_6_77 tm_6_78 tm_1_13 tm_6_79) rfl rfl rfl (by decide +kernel) ⟨by decide, by decide⟩) (by decide) hM_1.1 rfl rfl rfl (Nat.le_of_ble_eq_true rfl) dL_law_520 rfl ⟨by show _ ≤ 601024; omega, by show _ ≤ 7293034; omega⟩ (fun r_2 M2 q_2 => ?_)
  obtain ⟨hr_2, h100_2, hM_2, F_2⟩ := q_2
  have hX_2 := hX_1.fr F_2 (by decide)
  have h63_2 := (F_2 63 (by decide)).trans h63_1
  refine m_istore (pc' := 525) (lv' := [(6, .int (r_2)), (5, .int (nI (fdK B (xs (i + 1))))), (0, (.ref b)), (1, .ref (ad 0)), (2, .ref (ad 52)), (3, .ref (ad 63)), (4, .int (nI i))]) C dL_law_523 (by decide) rfl rfl ?_
  refine m_aload_n (pc' := 526) C dL_law_525 rfl 4 rfl rfl ?_
  refine m_callVi (pc' := 529) (As := []) (rest := []) C (kX12_thrown C.2.2.1 (by decide) (by decide) hM_2.1 h100_2) (cwV 0 C.1.2.2.2.2 (goodVL tm_5_162 tm_5_163 tm_5_164 tm_1_13 tm_5_165) rfl rfl rfl (by decide +kernel) ⟨by decide, by decide⟩) (by decide) hM_2.1 rfl rfl rfl (Nat.le_of_ble_eq_true rfl) dL_law_526 rfl ⟨by show _ ≤ 601024; omega, by show _ ≤ 7293034; omega⟩ (fun r_3 N_3 q_3 => ?_)
  obtain ⟨e_3, E_3⟩ := q_3
  replace E_3 := E_3.symm
  subst E_3
  replace e_3 := e_3.symm
  subst e_3
  refine m_iload (pc' := 531) C dL_law_529 1 rfl rfl ?_
  refine m_icmp_eq (pc' := 534) (tgt := 536) C dL_law_531 (by decide) rfl (fun c_531 => ?_) (fun c_531 => ?_)
  · refine m_iload (pc' := 538) C dL_law_536 1 rfl rfl ?_
    refine m_if_ne (pc' := 541) (tgt := 553) C dL_law_538 (by decide) rfl (fun c_538 => ?_) (fun c_538 => ?_)
    · refine m_goto (tgt := 1073) C dL_law_553 (by decide) ?_
      refine m_lv [2, 3, 4, 5, 6] rfl ?_
      exact kk _ ⟨⟨_, _, _, _, _, _, _, _, hX_2, hM_2⟩, ⟨_, h63_2⟩⟩
    · have hKb : fdK B (xs (i + 1)) ≤ 2 := by unfold fdK; (repeat' split) <;> omega
      have hK0 : fdK B (xs (i + 1)) = 0 := (nI_eq (by omega) (by decide)).mp ((Classical.not_not.mp c_538).trans nI_0.symm)
      refine m_aload_n (pc' := 542) C dL_law_541 rfl 5 rfl rfl ?_
      refine m_iconst (pc' := 543) (v := nI 0) C dL_law_542 (by decide) rfl ?_
      refine m_lald (pc' := 544) (v := f_1 0) C 63 (by decide) h63_2 (vp_in_nI (by decide) (by decide)) rfl dL_law_543 rfl ?_
      refine m_iload (pc' := 546) C dL_law_544 0 rfl rfl ?_
      refine m_i2l (pc' := 547) (v := (r_2).toInt64) C dL_law_546 rfl rfl ?_
      refine m_lcmp (pc' := 548) (v := lg_cmp (f_1 0) ((r_2).toInt64)) C dL_law_547 rfl rfl ?_
      refine m_if_eq (pc' := 551) (tgt := 553) C dL_law_548 (by decide) rfl (fun c_548 => ?_) (fun c_548 => ?_)
      · refine m_goto (tgt := 1073) C dL_law_553 (by decide) ?_
        refine m_lv [2, 3, 4, 5, 6] rfl ?_
        exact kk _ ⟨⟨_, _, _, _, _, _, _, _, hX_2, hM_2⟩, ⟨_, h63_2⟩⟩
      · exact absurd (by rw [hv_1 hK0, hr_2 hK0]; exact lcmp_self _) c_548
  · exact absurd rfl c_531
set_option maxHeartbeats 4000000 in
set_option maxRecDepth 100000 in
theorem law_9 {p : Program} {l : Launch} {e : Env} {s : State} {m : MethodId} {args : Array Value} {below : List Frame} {meth : Method} {c : Code} {cells slots : Nat} {Q : State → Prop} {D : va_G} {cy : Nat → ClassId} {ad : Nat → Nat} {A : Nat → Prop} {M : Nat → va_E} (C : mC p s m args c cL_law 7 RL GT D cy ad 64 A) (hst9 : l.stackTraces = false) (hz9 : zK A s s.heap) (hx9 : xK s) {b L : Nat} {xs : Nat → Int32} (hS9 : va_X b L xs s s.heap) (hb1 : b < s.heap.size) (hb2 : ¬ A b) {i : Nat} (hi : i + 6 ≤ L) (hL : L ≤ 3072) (hIS : isS cy ad M) (hcs : cells + 1 ≤ 601024 ∧ slots + 6 ≤ 7293034) (kk : ∀ M' : Nat → va_E, isS cy ad M' → mW p l e { frames := 10, cells := 601024, slots := 7293034, locals := 396 } s m args below meth c D A 7 (cells + 1) (slots + 6) Q ad 64 M' 1073 [(0, (.ref b)), (1, .ref (ad 0)), (2, .ref (ad 52)), (3, .ref (ad 63)), (4, .int (nI i))] []) : mW p l e { frames := 10, cells := 601024, slots := 7293034, locals := 396 } s m args below meth c D A 7 cells slots Q ad 64 M 556 [(0, (.ref b)), (1, .ref (ad 0)), (2, .ref (ad 52)), (3, .ref (ad 63)), (4, .int (nI i))] [] := by
  obtain ⟨⟨T, ys, cnt, lim, O, B, fp, ot, hX, hM⟩, f0, h63⟩ := hIS
  refine m_aload_n (pc' := 557) C dL_law_556 rfl 1 rfl rfl ?_
  refine m_aload_n (pc' := 558) C dL_law_557 rfl 0 rfl rfl ?_
  refine m_iload (pc' := 560) C dL_law_558 4 rfl rfl ?_
  refine m_iconst (pc' := 561) (v := nI 1) C dL_law_560 (by decide) rfl ?_
  refine m_iadd (pc' := 562) (v := nI (i + 1)) C dL_law_561 (nI_add _ _) rfl ?_
  refine m_sald (pc' := 563) (v := xs (i + 1)) C hS9 hb1 hb2 (vp_in_nI (by omega) (by omega)) (by rw [nI_clamp (by omega)]) dL_law_562 rfl ?_
  refine m_aload_n (pc' := 564) C dL_law_563 rfl 3 rfl rfl ?_
  refine m_callH (pc' := 567) (As := [.ref (ad 0), .int (xs (i + 1)), .ref (ad 63)]) (rest := []) C (kL_cut C.2.2.1 hst9 (by decide) hX h63 (xs (i + 1))) hz9 hx9 (vx_cwSW 3 C.1.2.2.2.2 (goodSL tm_4_70 tm_4_71 tm_1_0 th_cut) rfl rfl rfl (by decide +kernel) ⟨by decide, by decide⟩) rfl rfl (Nat.le_of_ble_eq_true rfl) dL_law_564 rfl ⟨by show _ ≤ 601024; omega, by show _ ≤ 7293034; omega⟩ (fun r_1 M1 q_1 => ?_)
  obtain ⟨e_1, ⟨f_1, h63_1, hv_1⟩, hX_1, F_1⟩ := q_1
  replace e_1 := e_1.symm
  subst e_1
  have hM_1 := hM.fr F_1 (by decide)
  refine m_istore (pc' := 569) (lv' := [(5, .int (nI (cuK B (xs (i + 1))))), (0, (.ref b)), (1, .ref (ad 0)), (2, .ref (ad 52)), (3, .ref (ad 63)), (4, .int (nI i))]) C dL_law_567 (by decide) rfl rfl ?_
  refine m_aload_n (pc' := 570) C dL_law_569 rfl 3 rfl rfl ?_
  refine m_aload_n (pc' := 571) C dL_law_570 rfl 1 rfl rfl ?_
  refine m_iload (pc' := 573) C dL_law_571 5 rfl rfl ?_
  refine m_iconst (pc' := 574) (v := nI 1) C dL_law_573 (by decide) rfl ?_
  refine m_iadd (pc' := 575) (v := nI (i + 1)) C dL_law_574 (nI_add _ _) rfl ?_
  refine m_sald (pc' := 576) (v := xs (i + 1)) C hS9 hb1 hb2 (vp_in_nI (by omega) (by omega)) (by rw [nI_clamp (by omega)]) dL_law_575 rfl ?_
  refine m_callVi (pc' := 579) (As := [.int (xs (i + 1))]) (rest := []) C (kX12_cut C.2.2.1 (by decide) (by decide) hM_1 (xs (i + 1))) (cwV 1 C.1.2.2.2.2 (goodVL tm_6_80 tm_6_81 tm_6_82 tm_1_13 tm_6_83) rfl rfl rfl (by decide +kernel) ⟨by decide, by decide⟩) (by decide) hM_1.1 rfl rfl rfl (Nat.le_of_ble_eq_true rfl) dL_law_576 rfl ⟨by show _ ≤ 601024; omega, by show _ ≤ 7293034; omega⟩ (fun r_2 M2 q_2 => ?_)
  obtain ⟨hr_2, h100_2, hM_2, F_2⟩ := q_2
  have hX_2 := hX_1.fr F_2 (by decide)
  have h63_2 := (F_2 63 (by decide)).trans h63_1
  refine m_istore (pc' := 581) (lv' := [(6, .int (r_2)), (5, .int (nI (cuK B (xs (i + 1))))), (0, (.ref b)), (1, .ref (ad 0)), (2, .ref (ad 52)), (3, .ref (ad 63)), (4, .int (nI i))]) C dL_law_579 (by decide) rfl rfl ?_
  refine m_aload_n (pc' := 582) C dL_law_581 rfl 4 rfl rfl ?_
  refine m_callVi (pc' := 585) (As := []) (rest := []) C (kX12_thrown C.2.2.1 (by decide) (by decide) hM_2.1 h100_2) (cwV 0 C.1.2.2.2.2 (goodVL tm_5_162 tm_5_163 tm_5_164 tm_1_13 tm_5_165) rfl rfl rfl (by decide +kernel) ⟨by decide, by decide⟩) (by decide) hM_2.1 rfl rfl rfl (Nat.le_of_ble_eq_true rfl) dL_law_582 rfl ⟨by show _ ≤ 601024; omega, by show _ ≤ 7293034; omega⟩ (fun r_3 N_3 q_3 => ?_)
  obtain ⟨e_3, E_3⟩ := q_3
  replace E_3 := E_3.symm
  subst E_3
  replace e_3 := e_3.symm
  subst e_3
  refine m_iload (pc' := 587) C dL_law_585 1 rfl rfl ?_
  refine m_icmp_eq (pc' := 590) (tgt := 592) C dL_law_587 (by decide) rfl (fun c_587 => ?_) (fun c_587 => ?_)
  · refine m_iload (pc' := 594) C dL_law_592 1 rfl rfl ?_
    refine m_if_ne (pc' := 597) (tgt := 609) C dL_law_594 (by decide) rfl (fun c_594 => ?_) (fun c_594 => ?_)
    · refine m_goto (tgt := 1073) C dL_law_609 (by decide) ?_
      refine m_lv [2, 3, 4, 5, 6] rfl ?_
      exact kk _ ⟨⟨_, _, _, _, _, _, _, _, hX_2, hM_2⟩, ⟨_, h63_2⟩⟩
    · have hKb : cuK B (xs (i + 1)) ≤ 2 := by unfold cuK; (repeat' split) <;> omega
      have hK0 : cuK B (xs (i + 1)) = 0 := (nI_eq (by omega) (by decide)).mp ((Classical.not_not.mp c_594).trans nI_0.symm)
      refine m_aload_n (pc' := 598) C dL_law_597 rfl 5 rfl rfl ?_
      refine m_iconst (pc' := 599) (v := nI 0) C dL_law_598 (by decide) rfl ?_
      refine m_lald (pc' := 600) (v := f_1 0) C 63 (by decide) h63_2 (vp_in_nI (by decide) (by decide)) rfl dL_law_599 rfl ?_
      refine m_iload (pc' := 602) C dL_law_600 0 rfl rfl ?_
      refine m_i2l (pc' := 603) (v := (r_2).toInt64) C dL_law_602 rfl rfl ?_
      refine m_lcmp (pc' := 604) (v := lg_cmp (f_1 0) ((r_2).toInt64)) C dL_law_603 rfl rfl ?_
      refine m_if_eq (pc' := 607) (tgt := 609) C dL_law_604 (by decide) rfl (fun c_604 => ?_) (fun c_604 => ?_)
      · refine m_goto (tgt := 1073) C dL_law_609 (by decide) ?_
        refine m_lv [2, 3, 4, 5, 6] rfl ?_
        exact kk _ ⟨⟨_, _, _, _, _, _, _, _, hX_2, hM_2⟩, ⟨_, h63_2⟩⟩
      · exact absurd (by rw [hv_1 hK0, hr_2 hK0]; exact lcmp_self _) c_604
  · exact absurd rfl c_587
