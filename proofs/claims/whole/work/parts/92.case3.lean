set_option maxHeartbeats 4000000 in
set_option maxRecDepth 100000 in
theorem law_10 {p : Program} {l : Launch} {e : Env} {s : State} {m : MethodId} {args : Array Value} {below : List Frame} {meth : Method} {c : Code} {cells slots : Nat} {Q : State → Prop} {D : va_G} {cy : Nat → ClassId} {ad : Nat → Nat} {A : Nat → Prop} {M : Nat → va_E} (C : mC p s m args c cL_law 7 RL GT D cy ad 64 A) (hst9 : l.stackTraces = false) (hz9 : zK A s s.heap) (hx9 : xK s) {b L : Nat} {xs : Nat → Int32} (hS9 : va_X b L xs s s.heap) (hb1 : b < s.heap.size) (hb2 : ¬ A b) {i : Nat} (hi : i + 6 ≤ L) (hL : L ≤ 3072) (hIS : isS cy ad M) (hcs : cells + 1 ≤ 601024 ∧ slots + 6 ≤ 7293034) (kk : ∀ M' : Nat → va_E, isS cy ad M' → mW p l e { frames := 10, cells := 601024, slots := 7293034, locals := 396 } s m args below meth c D A 7 (cells + 1) (slots + 6) Q ad 64 M' 1073 [(0, (.ref b)), (1, .ref (ad 0)), (2, .ref (ad 52)), (3, .ref (ad 63)), (4, .int (nI i))] []) : mW p l e { frames := 10, cells := 601024, slots := 7293034, locals := 396 } s m args below meth c D A 7 cells slots Q ad 64 M 612 [(0, (.ref b)), (1, .ref (ad 0)), (2, .ref (ad 52)), (3, .ref (ad 63)), (4, .int (nI i))] [] := by
  obtain ⟨⟨T, ys, cnt, lim, O, B, fp, ot, hX, hM⟩, f0, h63⟩ := hIS
  refine m_aload_n (pc' := 613) C dL_law_612 rfl 1 rfl rfl ?_
  refine m_aload_n (pc' := 614) C dL_law_613 rfl 0 rfl rfl ?_
  refine m_iload (pc' := 616) C dL_law_614 4 rfl rfl ?_
  refine m_iconst (pc' := 617) (v := nI 1) C dL_law_616 (by decide) rfl ?_
  refine m_iadd (pc' := 618) (v := nI (i + 1)) C dL_law_617 (nI_add _ _) rfl ?_
  refine m_sald (pc' := 619) (v := xs (i + 1)) C hS9 hb1 hb2 (vp_in_nI (by omega) (by omega)) (by rw [nI_clamp (by omega)]) dL_law_618 rfl ?_
  refine m_aload_n (pc' := 620) C dL_law_619 rfl 0 rfl rfl ?_
  refine m_iload (pc' := 622) C dL_law_620 4 rfl rfl ?_
  refine m_iconst (pc' := 623) (v := nI 2) C dL_law_622 (by decide) rfl ?_
  refine m_iadd (pc' := 624) (v := nI (i + 2)) C dL_law_623 (nI_add _ _) rfl ?_
  refine m_sald (pc' := 625) (v := xs (i + 2)) C hS9 hb1 hb2 (vp_in_nI (by omega) (by omega)) (by rw [nI_clamp (by omega)]) dL_law_624 rfl ?_
  refine m_i2c (pc' := 626) (v := nI (lc (xs (i + 2)))) C dL_law_625 (lc_eq _) rfl ?_
  refine m_aload_n (pc' := 627) C dL_law_626 rfl 0 rfl rfl ?_
  refine m_iload (pc' := 629) C dL_law_627 4 rfl rfl ?_
  refine m_iconst (pc' := 630) (v := nI 3) C dL_law_629 (by decide) rfl ?_
  refine m_iadd (pc' := 631) (v := nI (i + 3)) C dL_law_630 (nI_add _ _) rfl ?_
  refine m_sald (pc' := 632) (v := xs (i + 3)) C hS9 hb1 hb2 (vp_in_nI (by omega) (by omega)) (by rw [nI_clamp (by omega)]) dL_law_631 rfl ?_
  refine m_aload_n (pc' := 633) C dL_law_632 rfl 0 rfl rfl ?_
  refine m_iload (pc' := 635) C dL_law_633 4 rfl rfl ?_
  refine m_iconst (pc' := 636) (v := nI 4) C dL_law_635 (by decide) rfl ?_
  refine m_iadd (pc' := 637) (v := nI (i + 4)) C dL_law_636 (nI_add _ _) rfl ?_
  refine m_sald (pc' := 638) (v := xs (i + 4)) C hS9 hb1 hb2 (vp_in_nI (by omega) (by omega)) (by rw [nI_clamp (by omega)]) dL_law_637 rfl ?_
  refine m_if_eq (pc' := 641) (tgt := 645) C dL_law_638 (by decide) rfl (fun c_638 => ?_) (fun c_638 => ?_)
  · refine m_iconst (pc' := 646) (v := bI false) C dL_law_645 (by decide) rfl ?_
    refine m_aload_n (pc' := 647) C dL_law_646 rfl 3 rfl rfl ?_
    refine m_callH (pc' := 650) (As := [.ref (ad 0), .int (xs (i + 1)), .int (nI (lc (xs (i + 2)))), .int (xs (i + 3)), .int (bI false), .ref (ad 63)]) (rest := []) C (kL_words C.2.2.1 hst9 (by decide) hX h63 (xs (i + 1)) (xs (i + 3)) (lt := (lc (xs (i + 2)))) (lc_lt _) false) hz9 hx9 (vx_cwSW 6 C.1.2.2.2.2 (goodSL tm_4_78 tm_4_79 tm_1_0 th_words) rfl rfl rfl (by decide +kernel) ⟨by decide, by decide⟩) rfl rfl (Nat.le_of_ble_eq_true rfl) dL_law_647 rfl ⟨by show _ ≤ 601024; omega, by show _ ≤ 7293034; omega⟩ (fun r_1 M1 q_1 => ?_)
    obtain ⟨e_1, ⟨f_1, h63_1, hv_1⟩, hX_1, F_1⟩ := q_1
    replace e_1 := e_1.symm
    subst e_1
    have hM_1 := hM.fr F_1 (by decide)
    refine m_istore (pc' := 652) (lv' := [(5, .int (nI (wdK (xs (i + 1)) (xs (i + 3)) (lc (xs (i + 2)))))), (0, (.ref b)), (1, .ref (ad 0)), (2, .ref (ad 52)), (3, .ref (ad 63)), (4, .int (nI i))]) C dL_law_650 (by decide) rfl rfl ?_
    refine m_aload_n (pc' := 653) C dL_law_652 rfl 3 rfl rfl ?_
    refine m_aload_n (pc' := 654) C dL_law_653 rfl 1 rfl rfl ?_
    refine m_iload (pc' := 656) C dL_law_654 5 rfl rfl ?_
    refine m_iconst (pc' := 657) (v := nI 1) C dL_law_656 (by decide) rfl ?_
    refine m_iadd (pc' := 658) (v := nI (i + 1)) C dL_law_657 (nI_add _ _) rfl ?_
    refine m_sald (pc' := 659) (v := xs (i + 1)) C hS9 hb1 hb2 (vp_in_nI (by omega) (by omega)) (by rw [nI_clamp (by omega)]) dL_law_658 rfl ?_
    refine m_aload_n (pc' := 660) C dL_law_659 rfl 1 rfl rfl ?_
    refine m_iload (pc' := 662) C dL_law_660 5 rfl rfl ?_
    refine m_iconst (pc' := 663) (v := nI 2) C dL_law_662 (by decide) rfl ?_
    refine m_iadd (pc' := 664) (v := nI (i + 2)) C dL_law_663 (nI_add _ _) rfl ?_
    refine m_sald (pc' := 665) (v := xs (i + 2)) C hS9 hb1 hb2 (vp_in_nI (by omega) (by omega)) (by rw [nI_clamp (by omega)]) dL_law_664 rfl ?_
    refine m_i2c (pc' := 666) (v := nI (lc (xs (i + 2)))) C dL_law_665 (lc_eq _) rfl ?_
    refine m_aload_n (pc' := 667) C dL_law_666 rfl 1 rfl rfl ?_
    refine m_iload (pc' := 669) C dL_law_667 5 rfl rfl ?_
    refine m_iconst (pc' := 670) (v := nI 3) C dL_law_669 (by decide) rfl ?_
    refine m_iadd (pc' := 671) (v := nI (i + 3)) C dL_law_670 (nI_add _ _) rfl ?_
    refine m_sald (pc' := 672) (v := xs (i + 3)) C hS9 hb1 hb2 (vp_in_nI (by omega) (by omega)) (by rw [nI_clamp (by omega)]) dL_law_671 rfl ?_
    refine m_aload_n (pc' := 673) C dL_law_672 rfl 1 rfl rfl ?_
    refine m_iload (pc' := 675) C dL_law_673 5 rfl rfl ?_
    refine m_iconst (pc' := 676) (v := nI 4) C dL_law_675 (by decide) rfl ?_
    refine m_iadd (pc' := 677) (v := nI (i + 4)) C dL_law_676 (nI_add _ _) rfl ?_
    refine m_sald (pc' := 678) (v := xs (i + 4)) C hS9 hb1 hb2 (vp_in_nI (by omega) (by omega)) (by rw [nI_clamp (by omega)]) dL_law_677 rfl ?_
    refine m_if_eq (pc' := 681) (tgt := 685) C dL_law_678 (by decide) rfl (fun c_678 => ?_) (fun c_678 => ?_)
    · refine m_iconst (pc' := 686) (v := bI false) C dL_law_685 (by decide) rfl ?_
      refine m_callVi (pc' := 689) (As := [.int (xs (i + 1)), .int (nI (lc (xs (i + 2)))), .int (xs (i + 3)), .int (bI false)]) (rest := []) C (kX12_words C.2.2.1 (by decide) (by decide) hM_1 (xs (i + 1)) (xs (i + 3)) (lt := (lc (xs (i + 2)))) (lc_lt _) false) (cwV 4 C.1.2.2.2.2 (goodVL tm_6_84 tm_6_85 tm_6_86 tm_1_13 tm_6_87) rfl rfl rfl (by decide +kernel) ⟨by decide, by decide⟩) (by decide) hM_1.1 rfl rfl rfl (Nat.le_of_ble_eq_true rfl) dL_law_686 rfl ⟨by show _ ≤ 601024; omega, by show _ ≤ 7293034; omega⟩ (fun r_2 M2 q_2 => ?_)
      obtain ⟨hr_2, h100_2, hM_2, F_2⟩ := q_2
      have hX_2 := hX_1.fr F_2 (by decide)
      have h63_2 := (F_2 63 (by decide)).trans h63_1
      refine m_istore (pc' := 691) (lv' := [(6, .int (r_2)), (5, .int (nI (wdK (xs (i + 1)) (xs (i + 3)) (lc (xs (i + 2)))))), (0, (.ref b)), (1, .ref (ad 0)), (2, .ref (ad 52)), (3, .ref (ad 63)), (4, .int (nI i))]) C dL_law_689 (by decide) rfl rfl ?_
      refine m_aload_n (pc' := 692) C dL_law_691 rfl 4 rfl rfl ?_
      refine m_callVi (pc' := 695) (As := []) (rest := []) C (kX12_thrown C.2.2.1 (by decide) (by decide) hM_2.1 h100_2) (cwV 0 C.1.2.2.2.2 (goodVL tm_5_162 tm_5_163 tm_5_164 tm_1_13 tm_5_165) rfl rfl rfl (by decide +kernel) ⟨by decide, by decide⟩) (by decide) hM_2.1 rfl rfl rfl (Nat.le_of_ble_eq_true rfl) dL_law_692 rfl ⟨by show _ ≤ 601024; omega, by show _ ≤ 7293034; omega⟩ (fun r_3 N_3 q_3 => ?_)
      obtain ⟨e_3, E_3⟩ := q_3
      replace E_3 := E_3.symm
      subst E_3
      replace e_3 := e_3.symm
      subst e_3
      refine m_iload (pc' := 697) C dL_law_695 1 rfl rfl ?_
      refine m_icmp_eq (pc' := 700) (tgt := 702) C dL_law_697 (by decide) rfl (fun c_697 => ?_) (fun c_697 => ?_)
      · refine m_iload (pc' := 704) C dL_law_702 1 rfl rfl ?_
        refine m_if_ne (pc' := 707) (tgt := 719) C dL_law_704 (by decide) rfl (fun c_704 => ?_) (fun c_704 => ?_)
        · refine m_goto (tgt := 1073) C dL_law_719 (by decide) ?_
          refine m_lv [2, 3, 4, 5, 6] rfl ?_
          exact kk _ ⟨⟨_, _, _, _, _, _, _, _, hX_2, hM_2⟩, ⟨_, h63_2⟩⟩
        · have hKb : wdK (xs (i + 1)) (xs (i + 3)) (lc (xs (i + 2))) ≤ 2 := by unfold wdK; (repeat' split) <;> omega
          have hK0 : wdK (xs (i + 1)) (xs (i + 3)) (lc (xs (i + 2))) = 0 := (nI_eq (by omega) (by decide)).mp ((Classical.not_not.mp c_704).trans nI_0.symm)
          refine m_aload_n (pc' := 708) C dL_law_707 rfl 5 rfl rfl ?_
          refine m_iconst (pc' := 709) (v := nI 0) C dL_law_708 (by decide) rfl ?_
          refine m_lald (pc' := 710) (v := f_1 0) C 63 (by decide) h63_2 (vp_in_nI (by decide) (by decide)) rfl dL_law_709 rfl ?_
          refine m_iload (pc' := 712) C dL_law_710 0 rfl rfl ?_
          refine m_i2l (pc' := 713) (v := (r_2).toInt64) C dL_law_712 rfl rfl ?_
          refine m_lcmp (pc' := 714) (v := lg_cmp (f_1 0) ((r_2).toInt64)) C dL_law_713 rfl rfl ?_
          refine m_if_eq (pc' := 717) (tgt := 719) C dL_law_714 (by decide) rfl (fun c_714 => ?_) (fun c_714 => ?_)
          · refine m_goto (tgt := 1073) C dL_law_719 (by decide) ?_
            refine m_lv [2, 3, 4, 5, 6] rfl ?_
            exact kk _ ⟨⟨_, _, _, _, _, _, _, _, hX_2, hM_2⟩, ⟨_, h63_2⟩⟩
          · exact absurd (by rw [hv_1 hK0, hr_2 hK0]; exact lcmp_self _) c_714
      · exact absurd rfl c_697
    · exact absurd c_638 c_678
  · refine m_iconst (pc' := 642) (v := bI true) C dL_law_641 (by decide) rfl ?_
    refine m_goto (tgt := 646) C dL_law_642 (by decide) ?_
    refine m_aload_n (pc' := 647) C dL_law_646 rfl 3 rfl rfl ?_
    refine m_callH (pc' := 650) (As := [.ref (ad 0), .int (xs (i + 1)), .int (nI (lc (xs (i + 2)))), .int (xs (i + 3)), .int (bI true), .ref (ad 63)]) (rest := []) C (kL_words C.2.2.1 hst9 (by decide) hX h63 (xs (i + 1)) (xs (i + 3)) (lt := (lc (xs (i + 2)))) (lc_lt _) true) hz9 hx9 (vx_cwSW 6 C.1.2.2.2.2 (goodSL tm_4_78 tm_4_79 tm_1_0 th_words) rfl rfl rfl (by decide +kernel) ⟨by decide, by decide⟩) rfl rfl (Nat.le_of_ble_eq_true rfl) dL_law_647 rfl ⟨by show _ ≤ 601024; omega, by show _ ≤ 7293034; omega⟩ (fun r_4 M4 q_4 => ?_)
    obtain ⟨e_4, ⟨f_4, h63_4, hv_4⟩, hX_4, F_4⟩ := q_4
    replace e_4 := e_4.symm
    subst e_4
    have hM_4 := hM.fr F_4 (by decide)
    refine m_istore (pc' := 652) (lv' := [(5, .int (nI (wdK (xs (i + 1)) (xs (i + 3)) (lc (xs (i + 2)))))), (0, (.ref b)), (1, .ref (ad 0)), (2, .ref (ad 52)), (3, .ref (ad 63)), (4, .int (nI i))]) C dL_law_650 (by decide) rfl rfl ?_
    refine m_aload_n (pc' := 653) C dL_law_652 rfl 3 rfl rfl ?_
    refine m_aload_n (pc' := 654) C dL_law_653 rfl 1 rfl rfl ?_
    refine m_iload (pc' := 656) C dL_law_654 5 rfl rfl ?_
    refine m_iconst (pc' := 657) (v := nI 1) C dL_law_656 (by decide) rfl ?_
    refine m_iadd (pc' := 658) (v := nI (i + 1)) C dL_law_657 (nI_add _ _) rfl ?_
    refine m_sald (pc' := 659) (v := xs (i + 1)) C hS9 hb1 hb2 (vp_in_nI (by omega) (by omega)) (by rw [nI_clamp (by omega)]) dL_law_658 rfl ?_
    refine m_aload_n (pc' := 660) C dL_law_659 rfl 1 rfl rfl ?_
    refine m_iload (pc' := 662) C dL_law_660 5 rfl rfl ?_
    refine m_iconst (pc' := 663) (v := nI 2) C dL_law_662 (by decide) rfl ?_
    refine m_iadd (pc' := 664) (v := nI (i + 2)) C dL_law_663 (nI_add _ _) rfl ?_
    refine m_sald (pc' := 665) (v := xs (i + 2)) C hS9 hb1 hb2 (vp_in_nI (by omega) (by omega)) (by rw [nI_clamp (by omega)]) dL_law_664 rfl ?_
    refine m_i2c (pc' := 666) (v := nI (lc (xs (i + 2)))) C dL_law_665 (lc_eq _) rfl ?_
    refine m_aload_n (pc' := 667) C dL_law_666 rfl 1 rfl rfl ?_
    refine m_iload (pc' := 669) C dL_law_667 5 rfl rfl ?_
    refine m_iconst (pc' := 670) (v := nI 3) C dL_law_669 (by decide) rfl ?_
    refine m_iadd (pc' := 671) (v := nI (i + 3)) C dL_law_670 (nI_add _ _) rfl ?_
    refine m_sald (pc' := 672) (v := xs (i + 3)) C hS9 hb1 hb2 (vp_in_nI (by omega) (by omega)) (by rw [nI_clamp (by omega)]) dL_law_671 rfl ?_
    refine m_aload_n (pc' := 673) C dL_law_672 rfl 1 rfl rfl ?_
    refine m_iload (pc' := 675) C dL_law_673 5 rfl rfl ?_
    refine m_iconst (pc' := 676) (v := nI 4) C dL_law_675 (by decide) rfl ?_
    refine m_iadd (pc' := 677) (v := nI (i + 4)) C dL_law_676 (nI_add _ _) rfl ?_
    refine m_sald (pc' := 678) (v := xs (i + 4)) C hS9 hb1 hb2 (vp_in_nI (by omega) (by omega)) (by rw [nI_clamp (by omega)]) dL_law_677 rfl ?_
    refine m_if_eq (pc' := 681) (tgt := 685) C dL_law_678 (by decide) rfl (fun c_678 => ?_) (fun c_678 => ?_)
    · exact absurd c_678 c_638
    · refine m_iconst (pc' := 682) (v := bI true) C dL_law_681 (by decide) rfl ?_
      refine m_goto (tgt := 686) C dL_law_682 (by decide) ?_
      refine m_callVi (pc' := 689) (As := [.int (xs (i + 1)), .int (nI (lc (xs (i + 2)))), .int (xs (i + 3)), .int (bI true)]) (rest := []) C (kX12_words C.2.2.1 (by decide) (by decide) hM_4 (xs (i + 1)) (xs (i + 3)) (lt := (lc (xs (i + 2)))) (lc_lt _) true) (cwV 4 C.1.2.2.2.2 (goodVL tm_6_84 tm_6_85 tm_6_86 tm_1_13 tm_6_87) rfl rfl rfl (by decide +kernel) ⟨by decide, by decide⟩) (by decide) hM_4.1 rfl rfl rfl (Nat.le_of_ble_eq_true rfl) dL_law_686 rfl ⟨by show _ ≤ 601024; omega, by show _ ≤ 7293034; omega⟩ (fun r_5 M5 q_5 => ?_)
      obtain ⟨hr_5, h100_5, hM_5, F_5⟩ := q_5
      have hX_5 := hX_4.fr F_5 (by decide)
      have h63_5 := (F_5 63 (by decide)).trans h63_4
      refine m_istore (pc' := 691) (lv' := [(6, .int (r_5)), (5, .int (nI (wdK (xs (i + 1)) (xs (i + 3)) (lc (xs (i + 2)))))), (0, (.ref b)), (1, .ref (ad 0)), (2, .ref (ad 52)), (3, .ref (ad 63)), (4, .int (nI i))]) C dL_law_689 (by decide) rfl rfl ?_
      refine m_aload_n (pc' := 692) C dL_law_691 rfl 4 rfl rfl ?_
      refine m_callVi (pc' := 695) (As := []) (rest := []) C (kX12_thrown C.2.2.1 (by decide) (by decide) hM_5.1 h100_5) (cwV 0 C.1.2.2.2.2 (goodVL tm_5_162 tm_5_163 tm_5_164 tm_1_13 tm_5_165) rfl rfl rfl (by decide +kernel) ⟨by decide, by decide⟩) (by decide) hM_5.1 rfl rfl rfl (Nat.le_of_ble_eq_true rfl) dL_law_692 rfl ⟨by show _ ≤ 601024; omega, by show _ ≤ 7293034; omega⟩ (fun r_6 N_6 q_6 => ?_)
      obtain ⟨e_6, E_6⟩ := q_6
      replace E_6 := E_6.symm
      subst E_6
      replace e_6 := e_6.symm
      subst e_6
      refine m_iload (pc' := 697) C dL_law_695 1 rfl rfl ?_
      refine m_icmp_eq (pc' := 700) (tgt := 702) C dL_law_697 (by decide) rfl (fun c_697 => ?_) (fun c_697 => ?_)
      · refine m_iload (pc' := 704) C dL_law_702 1 rfl rfl ?_
        refine m_if_ne (pc' := 707) (tgt := 719) C dL_law_704 (by decide) rfl (fun c_704 => ?_) (fun c_704 => ?_)
        · refine m_goto (tgt := 1073) C dL_law_719 (by decide) ?_
          refine m_lv [2, 3, 4, 5, 6] rfl ?_
          exact kk _ ⟨⟨_, _, _, _, _, _, _, _, hX_5, hM_5⟩, ⟨_, h63_5⟩⟩
        · have hKb : wdK (xs (i + 1)) (xs (i + 3)) (lc (xs (i + 2))) ≤ 2 := by unfold wdK; (repeat' split) <;> omega
          have hK0 : wdK (xs (i + 1)) (xs (i + 3)) (lc (xs (i + 2))) = 0 := (nI_eq (by omega) (by decide)).mp ((Classical.not_not.mp c_704).trans nI_0.symm)
          refine m_aload_n (pc' := 708) C dL_law_707 rfl 5 rfl rfl ?_
          refine m_iconst (pc' := 709) (v := nI 0) C dL_law_708 (by decide) rfl ?_
          refine m_lald (pc' := 710) (v := f_4 0) C 63 (by decide) h63_5 (vp_in_nI (by decide) (by decide)) rfl dL_law_709 rfl ?_
          refine m_iload (pc' := 712) C dL_law_710 0 rfl rfl ?_
          refine m_i2l (pc' := 713) (v := (r_5).toInt64) C dL_law_712 rfl rfl ?_
          refine m_lcmp (pc' := 714) (v := lg_cmp (f_4 0) ((r_5).toInt64)) C dL_law_713 rfl rfl ?_
          refine m_if_eq (pc' := 717) (tgt := 719) C dL_law_714 (by decide) rfl (fun c_714 => ?_) (fun c_714 => ?_)
          · refine m_goto (tgt := 1073) C dL_law_719 (by decide) ?_
            refine m_lv [2, 3, 4, 5, 6] rfl ?_
            exact kk _ ⟨⟨_, _, _, _, _, _, _, _, hX_5, hM_5⟩, ⟨_, h63_5⟩⟩
          · exact absurd (by rw [hv_4 hK0, hr_5 hK0]; exact lcmp_self _) c_714
      · exact absurd rfl c_697
set_option maxHeartbeats 4000000 in
set_option maxRecDepth 100000 in
theorem law_11 {p : Program} {l : Launch} {e : Env} {s : State} {m : MethodId} {args : Array Value} {below : List Frame} {meth : Method} {c : Code} {cells slots : Nat} {Q : State → Prop} {D : va_G} {cy : Nat → ClassId} {ad : Nat → Nat} {A : Nat → Prop} {M : Nat → va_E} (C : mC p s m args c cL_law 7 RL GT D cy ad 64 A) (hst9 : l.stackTraces = false) (hz9 : zK A s s.heap) (hx9 : xK s) {b L : Nat} {xs : Nat → Int32} (hS9 : va_X b L xs s s.heap) (hb1 : b < s.heap.size) (hb2 : ¬ A b) {i : Nat} (hi : i + 6 ≤ L) (hL : L ≤ 3072) (hIS : isS cy ad M) (hcs : cells + 1 ≤ 601024 ∧ slots + 6 ≤ 7293034) (kk : ∀ M' : Nat → va_E, isS cy ad M' → mW p l e { frames := 10, cells := 601024, slots := 7293034, locals := 396 } s m args below meth c D A 7 (cells + 1) (slots + 6) Q ad 64 M' 1073 [(0, (.ref b)), (1, .ref (ad 0)), (2, .ref (ad 52)), (3, .ref (ad 63)), (4, .int (nI i))] []) : mW p l e { frames := 10, cells := 601024, slots := 7293034, locals := 396 } s m args below meth c D A 7 cells slots Q ad 64 M 722 [(0, (.ref b)), (1, .ref (ad 0)), (2, .ref (ad 52)), (3, .ref (ad 63)), (4, .int (nI i))] [] := by
  obtain ⟨⟨T, ys, cnt, lim, O, B, fp, ot, hX, hM⟩, f0, h63⟩ := hIS
  refine m_aload_n (pc' := 723) C dL_law_722 rfl 1 rfl rfl ?_
  refine m_aload_n (pc' := 724) C dL_law_723 rfl 0 rfl rfl ?_
  refine m_iload (pc' := 726) C dL_law_724 4 rfl rfl ?_
  refine m_iconst (pc' := 727) (v := nI 1) C dL_law_726 (by decide) rfl ?_
  refine m_iadd (pc' := 728) (v := nI (i + 1)) C dL_law_727 (nI_add _ _) rfl ?_
  refine m_sald (pc' := 729) (v := xs (i + 1)) C hS9 hb1 hb2 (vp_in_nI (by omega) (by omega)) (by rw [nI_clamp (by omega)]) dL_law_728 rfl ?_
  refine m_aload_n (pc' := 730) C dL_law_729 rfl 0 rfl rfl ?_
  refine m_iload (pc' := 732) C dL_law_730 4 rfl rfl ?_
  refine m_iconst (pc' := 733) (v := nI 2) C dL_law_732 (by decide) rfl ?_
  refine m_iadd (pc' := 734) (v := nI (i + 2)) C dL_law_733 (nI_add _ _) rfl ?_
  refine m_sald (pc' := 735) (v := xs (i + 2)) C hS9 hb1 hb2 (vp_in_nI (by omega) (by omega)) (by rw [nI_clamp (by omega)]) dL_law_734 rfl ?_
  refine m_aload_n (pc' := 736) C dL_law_735 rfl 0 rfl rfl ?_
  refine m_iload (pc' := 738) C dL_law_736 4 rfl rfl ?_
  refine m_iconst (pc' := 739) (v := nI 3) C dL_law_738 (by decide) rfl ?_
  refine m_iadd (pc' := 740) (v := nI (i + 3)) C dL_law_739 (nI_add _ _) rfl ?_
  refine m_sald (pc' := 741) (v := xs (i + 3)) C hS9 hb1 hb2 (vp_in_nI (by omega) (by omega)) (by rw [nI_clamp (by omega)]) dL_law_740 rfl ?_
  refine m_if_eq (pc' := 744) (tgt := 748) C dL_law_741 (by decide) rfl (fun c_741 => ?_) (fun c_741 => ?_)
  · refine m_iconst (pc' := 749) (v := bI false) C dL_law_748 (by decide) rfl ?_
    refine m_aload_n (pc' := 750) C dL_law_749 rfl 3 rfl rfl ?_
    refine m_callH (pc' := 753) (As := [.ref (ad 0), .int (xs (i + 1)), .int (xs (i + 2)), .int (bI false), .ref (ad 63)]) (rest := []) C (kL_pairs C.2.2.1 hst9 (by decide) hX h63 (xs (i + 1)) (xs (i + 2)) false) hz9 hx9 (vx_cwSW 5 C.1.2.2.2.2 (goodSL tm_4_154 tm_4_155 tm_1_0 th_pairs) rfl rfl rfl (by decide +kernel) ⟨by decide, by decide⟩) rfl rfl (Nat.le_of_ble_eq_true rfl) dL_law_750 rfl ⟨by show _ ≤ 601024; omega, by show _ ≤ 7293034; omega⟩ (fun r_1 M1 q_1 => ?_)
    obtain ⟨e_1, ⟨f_1, h63_1, hv_1⟩, hX_1, F_1⟩ := q_1
    replace e_1 := e_1.symm
    subst e_1
    have hM_1 := hM.fr F_1 (by decide)
    refine m_istore (pc' := 755) (lv' := [(5, .int (nI (prK (xs (i + 1)) (xs (i + 2))))), (0, (.ref b)), (1, .ref (ad 0)), (2, .ref (ad 52)), (3, .ref (ad 63)), (4, .int (nI i))]) C dL_law_753 (by decide) rfl rfl ?_
    refine m_aload_n (pc' := 756) C dL_law_755 rfl 3 rfl rfl ?_
    refine m_aload_n (pc' := 757) C dL_law_756 rfl 1 rfl rfl ?_
    refine m_iload (pc' := 759) C dL_law_757 5 rfl rfl ?_
    refine m_iconst (pc' := 760) (v := nI 1) C dL_law_759 (by decide) rfl ?_
    refine m_iadd (pc' := 761) (v := nI (i + 1)) C dL_law_760 (nI_add _ _) rfl ?_
    refine m_sald (pc' := 762) (v := xs (i + 1)) C hS9 hb1 hb2 (vp_in_nI (by omega) (by omega)) (by rw [nI_clamp (by omega)]) dL_law_761 rfl ?_
    refine m_aload_n (pc' := 763) C dL_law_762 rfl 1 rfl rfl ?_
    refine m_iload (pc' := 765) C dL_law_763 5 rfl rfl ?_
    refine m_iconst (pc' := 766) (v := nI 2) C dL_law_765 (by decide) rfl ?_
    refine m_iadd (pc' := 767) (v := nI (i + 2)) C dL_law_766 (nI_add _ _) rfl ?_
    refine m_sald (pc' := 768) (v := xs (i + 2)) C hS9 hb1 hb2 (vp_in_nI (by omega) (by omega)) (by rw [nI_clamp (by omega)]) dL_law_767 rfl ?_
    refine m_aload_n (pc' := 769) C dL_law_768 rfl 1 rfl rfl ?_
    refine m_iload (pc' := 771) C dL_law_769 5 rfl rfl ?_
    refine m_iconst (pc' := 772) (v := nI 3) C dL_law_771 (by decide) rfl ?_
    refine m_iadd (pc' := 773) (v := nI (i + 3)) C dL_law_772 (nI_add _ _) rfl ?_
    refine m_sald (pc' := 774) (v := xs (i + 3)) C hS9 hb1 hb2 (vp_in_nI (by omega) (by omega)) (by rw [nI_clamp (by omega)]) dL_law_773 rfl ?_
    refine m_if_eq (pc' := 777) (tgt := 781) C dL_law_774 (by decide) rfl (fun c_774 => ?_) (fun c_774 => ?_)
    · refine m_iconst (pc' := 782) (v := bI false) C dL_law_781 (by decide) rfl ?_
      refine m_callVi (pc' := 785) (As := [.int (xs (i + 1)), .int (xs (i + 2)), .int (bI false)]) (rest := []) C (kX12_pairs C.2.2.1 (by decide) (by decide) hM_1 (xs (i + 1)) (xs (i + 2)) false) (cwV 3 C.1.2.2.2.2 (goodVL tm_6_110 tm_6_111 tm_6_112 tm_1_13 tm_6_113) rfl rfl rfl (by decide +kernel) ⟨by decide, by decide⟩) (by decide) hM_1.1 rfl rfl rfl (Nat.le_of_ble_eq_true rfl) dL_law_782 rfl ⟨by show _ ≤ 601024; omega, by show _ ≤ 7293034; omega⟩ (fun r_2 M2 q_2 => ?_)
      obtain ⟨hr_2, h100_2, hM_2, F_2⟩ := q_2
      have hX_2 := hX_1.fr F_2 (by decide)
      have h63_2 := (F_2 63 (by decide)).trans h63_1
      refine m_istore (pc' := 787) (lv' := [(6, .int (r_2)), (5, .int (nI (prK (xs (i + 1)) (xs (i + 2))))), (0, (.ref b)), (1, .ref (ad 0)), (2, .ref (ad 52)), (3, .ref (ad 63)), (4, .int (nI i))]) C dL_law_785 (by decide) rfl rfl ?_
      refine m_aload_n (pc' := 788) C dL_law_787 rfl 4 rfl rfl ?_
      refine m_callVi (pc' := 791) (As := []) (rest := []) C (kX12_thrown C.2.2.1 (by decide) (by decide) hM_2.1 h100_2) (cwV 0 C.1.2.2.2.2 (goodVL tm_5_162 tm_5_163 tm_5_164 tm_1_13 tm_5_165) rfl rfl rfl (by decide +kernel) ⟨by decide, by decide⟩) (by decide) hM_2.1 rfl rfl rfl (Nat.le_of_ble_eq_true rfl) dL_law_788 rfl ⟨by show _ ≤ 601024; omega, by show _ ≤ 7293034; omega⟩ (fun r_3 N_3 q_3 => ?_)
      obtain ⟨e_3, E_3⟩ := q_3
      replace E_3 := E_3.symm
      subst E_3
      replace e_3 := e_3.symm
      subst e_3
      refine m_iload (pc' := 793) C dL_law_791 1 rfl rfl ?_
      refine m_icmp_eq (pc' := 796) (tgt := 798) C dL_law_793 (by decide) rfl (fun c_793 => ?_) (fun c_793 => ?_)
      · refine m_iload (pc' := 800) C dL_law_798 1 rfl rfl ?_
        refine m_if_ne (pc' := 803) (tgt := 815) C dL_law_800 (by decide) rfl (fun c_800 => ?_) (fun c_800 => ?_)
        · refine m_goto (tgt := 1073) C dL_law_815 (by decide) ?_
          refine m_lv [2, 3, 4, 5, 6] rfl ?_
          exact kk _ ⟨⟨_, _, _, _, _, _, _, _, hX_2, hM_2⟩, ⟨_, h63_2⟩⟩
        · have hKb : prK (xs (i + 1)) (xs (i + 2)) ≤ 2 := by unfold prK; (repeat' split) <;> omega
          have hK0 : prK (xs (i + 1)) (xs (i + 2)) = 0 := (nI_eq (by omega) (by decide)).mp ((Classical.not_not.mp c_800).trans nI_0.symm)
          refine m_aload_n (pc' := 804) C dL_law_803 rfl 5 rfl rfl ?_
          refine m_iconst (pc' := 805) (v := nI 0) C dL_law_804 (by decide) rfl ?_
          refine m_lald (pc' := 806) (v := f_1 0) C 63 (by decide) h63_2 (vp_in_nI (by decide) (by decide)) rfl dL_law_805 rfl ?_
          refine m_iload (pc' := 808) C dL_law_806 0 rfl rfl ?_
          refine m_i2l (pc' := 809) (v := (r_2).toInt64) C dL_law_808 rfl rfl ?_
          refine m_lcmp (pc' := 810) (v := lg_cmp (f_1 0) ((r_2).toInt64)) C dL_law_809 rfl rfl ?_
          refine m_if_eq (pc' := 813) (tgt := 815) C dL_law_810 (by decide) rfl (fun c_810 => ?_) (fun c_810 => ?_)
          · refine m_goto (tgt := 1073) C dL_law_815 (by decide) ?_
            refine m_lv [2, 3, 4, 5, 6] rfl ?_
            exact kk _ ⟨⟨_, _, _, _, _, _, _, _, hX_2, hM_2⟩, ⟨_, h63_2⟩⟩
          · exact absurd (by rw [hv_1 hK0, hr_2 hK0]; exact lcmp_self _) c_810
      · exact absurd rfl c_793
    · exact absurd c_741 c_774
  · refine m_iconst (pc' := 745) (v := bI true) C dL_law_744 (by decide) rfl ?_
    refine m_goto (tgt := 749) C dL_law_745 (by decide) ?_
    refine m_aload_n (pc' := 750) C dL_law_749 rfl 3 rfl rfl ?_
    refine m_callH (pc' := 753) (As := [.ref (ad 0), .int (xs (i + 1)), .int (xs (i + 2)), .int (bI true), .ref (ad 63)]) (rest := []) C (kL_pairs C.2.2.1 hst9 (by decide) hX h63 (xs (i + 1)) (xs (i + 2)) true) hz9 hx9 (vx_cwSW 5 C.1.2.2.2.2 (goodSL tm_4_154 tm_4_155 tm_1_0 th_pairs) rfl rfl rfl (by decide +kernel) ⟨by decide, by decide⟩) rfl rfl (Nat.le_of_ble_eq_true rfl) dL_law_750 rfl ⟨by show _ ≤ 601024; omega, by show _ ≤ 7293034; omega⟩ (fun r_4 M4 q_4 => ?_)
    obtain ⟨e_4, ⟨f_4, h63_4, hv_4⟩, hX_4, F_4⟩ := q_4
    replace e_4 := e_4.symm
    subst e_4
    have hM_4 := hM.fr F_4 (by decide)
    refine m_istore (pc' := 755) (lv' := [(5, .int (nI (prK (xs (i + 1)) (xs (i + 2))))), (0, (.ref b)), (1, .ref (ad 0)), (2, .ref (ad 52)), (3, .ref (ad 63)), (4, .int (nI i))]) C dL_law_753 (by decide) rfl rfl ?_
    refine m_aload_n (pc' := 756) C dL_law_755 rfl 3 rfl rfl ?_
    refine m_aload_n (pc' := 757) C dL_law_756 rfl 1 rfl rfl ?_
    refine m_iload (pc' := 759) C dL_law_757 5 rfl rfl ?_
    refine m_iconst (pc' := 760) (v := nI 1) C dL_law_759 (by decide) rfl ?_
    refine m_iadd (pc' := 761) (v := nI (i + 1)) C dL_law_760 (nI_add _ _) rfl ?_
    refine m_sald (pc' := 762) (v := xs (i + 1)) C hS9 hb1 hb2 (vp_in_nI (by omega) (by omega)) (by rw [nI_clamp (by omega)]) dL_law_761 rfl ?_
    refine m_aload_n (pc' := 763) C dL_law_762 rfl 1 rfl rfl ?_
    refine m_iload (pc' := 765) C dL_law_763 5 rfl rfl ?_
    refine m_iconst (pc' := 766) (v := nI 2) C dL_law_765 (by decide) rfl ?_
    refine m_iadd (pc' := 767) (v := nI (i + 2)) C dL_law_766 (nI_add _ _) rfl ?_
    refine m_sald (pc' := 768) (v := xs (i + 2)) C hS9 hb1 hb2 (vp_in_nI (by omega) (by omega)) (by rw [nI_clamp (by omega)]) dL_law_767 rfl ?_
    refine m_aload_n (pc' := 769) C dL_law_768 rfl 1 rfl rfl ?_
    refine m_iload (pc' := 771) C dL_law_769 5 rfl rfl ?_
    refine m_iconst (pc' := 772) (v := nI 3) C dL_law_771 (by decide) rfl ?_
    refine m_iadd (pc' := 773) (v := nI (i + 3)) C dL_law_772 (nI_add _ _) rfl ?_
    refine m_sald (pc' := 774) (v := xs (i + 3)) C hS9 hb1 hb2 (vp_in_nI (by omega) (by omega)) (by rw [nI_clamp (by omega)]) dL_law_773 rfl ?_
    refine m_if_eq (pc' := 777) (tgt := 781) C dL_law_774 (by decide) rfl (fun c_774 => ?_) (fun c_774 => ?_)
    · exact absurd c_774 c_741
    · refine m_iconst (pc' := 778) (v := bI true) C dL_law_777 (by decide) rfl ?_
      refine m_goto (tgt := 782) C dL_law_778 (by decide) ?_
      refine m_callVi (pc' := 785) (As := [.int (xs (i + 1)), .int (xs (i + 2)), .int (bI true)]) (rest := []) C (kX12_pairs C.2.2.1 (by decide) (by decide) hM_4 (xs (i + 1)) (xs (i + 2)) true) (cwV 3 C.1.2.2.2.2 (goodVL tm_6_110 tm_6_111 tm_6_112 tm_1_13 tm_6_113) rfl rfl rfl (by decide +kernel) ⟨by decide, by decide⟩) (by decide) hM_4.1 rfl rfl rfl (Nat.le_of_ble_eq_true rfl) dL_law_782 rfl ⟨by show _ ≤ 601024; omega, by show _ ≤ 7293034; omega⟩ (fun r_5 M5 q_5 => ?_)
      obtain ⟨hr_5, h100_5, hM_5, F_5⟩ := q_5
      have hX_5 := hX_4.fr F_5 (by decide)
      have h63_5 := (F_5 63 (by decide)).trans h63_4
      refine m_istore (pc' := 787) (lv' := [(6, .int (r_5)), (5, .int (nI (prK (xs (i + 1)) (xs (i + 2))))), (0, (.ref b)), (1, .ref (ad 0)), (2, .ref (ad 52)), (3, .ref (ad 63)), (4, .int (nI i))]) C dL_law_785 (by decide) rfl rfl ?_
      refine m_aload_n (pc' := 788) C dL_law_787 rfl 4 rfl rfl ?_
      refine m_callVi (pc' := 791) (As := []) (rest := []) C (kX12_thrown C.2.2.1 (by decide) (by decide) hM_5.1 h100_5) (cwV 0 C.1.2.2.2.2 (goodVL tm_5_162 tm_5_163 tm_5_164 tm_1_13 tm_5_165) rfl rfl rfl (by decide +kernel) ⟨by decide, by decide⟩) (by decide) hM_5.1 rfl rfl rfl (Nat.le_of_ble_eq_true rfl) dL_law_788 rfl ⟨by show _ ≤ 601024; omega, by show _ ≤ 7293034; omega⟩ (fun r_6 N_6 q_6 => ?_)
      obtain ⟨e_6, E_6⟩ := q_6
      replace E_6 := E_6.symm
      subst E_6
      replace e_6 := e_6.symm
      subst e_6
      refine m_iload (pc' := 793) C dL_law_791 1 rfl rfl ?_
      refine m_icmp_eq (pc' := 796) (tgt := 798) C dL_law_793 (by decide) rfl (fun c_793 => ?_) (fun c_793 => ?_)
      · refine m_iload (pc' := 800) C dL_law_798 1 rfl rfl ?_
        refine m_if_ne (pc' := 803) (tgt := 815) C dL_law_800 (by decide) rfl (fun c_800 => ?_) (fun c_800 => ?_)
        · refine m_goto (tgt := 1073) C dL_law_815 (by decide) ?_
          refine m_lv [2, 3, 4, 5, 6] rfl ?_
          exact kk _ ⟨⟨_, _, _, _, _, _, _, _, hX_5, hM_5⟩, ⟨_, h63_5⟩⟩
        · have hKb : prK (xs (i + 1)) (xs (i + 2)) ≤ 2 := by unfold prK; (repeat' split) <;> omega
          have hK0 : prK (xs (i + 1)) (xs (i + 2)) = 0 := (nI_eq (by omega) (by decide)).mp ((Classical.not_not.mp c_800).trans nI_0.symm)
          refine m_aload_n (pc' := 804) C dL_law_803 rfl 5 rfl rfl ?_
          refine m_iconst (pc' := 805) (v := nI 0) C dL_law_804 (by decide) rfl ?_
          refine m_lald (pc' := 806) (v := f_4 0) C 63 (by decide) h63_5 (vp_in_nI (by decide) (by decide)) rfl dL_law_805 rfl ?_
          refine m_iload (pc' := 808) C dL_law_806 0 rfl rfl ?_
          refine m_i2l (pc' := 809) (v := (r_5).toInt64) C dL_law_808 rfl rfl ?_
          refine m_lcmp (pc' := 810) (v := lg_cmp (f_4 0) ((r_5).toInt64)) C dL_law_809 rfl rfl ?_
          refine m_if_eq (pc' := 813) (tgt := 815) C dL_law_810 (by decide) rfl (fun c_810 => ?_) (fun c_810 => ?_)
          · refine m_goto (tgt := 1073) C dL_law_815 (by decide) ?_
            refine m_lv [2, 3, 4, 5, 6] rfl ?_
            exact kk _ ⟨⟨_, _, _, _, _, _, _, _, hX_5, hM_5⟩, ⟨_, h63_5⟩⟩
          · exact absurd (by rw [hv_4 hK0, hr_5 hK0]; exact lcmp_self _) c_810
      · exact absurd rfl c_793
