set_option maxHeartbeats 4000000 in
set_option maxRecDepth 100000 in
theorem law_12 {p : Program} {l : Launch} {e : Env} {s : State} {m : MethodId} {args : Array Value} {below : List Frame} {meth : Method} {c : Code} {cells slots : Nat} {Q : State → Prop} {D : va_G} {cy : Nat → ClassId} {ad : Nat → Nat} {A : Nat → Prop} {M : Nat → va_E} (C : mC p s m args c cL_law 7 RL GT D cy ad 64 A) (hst9 : l.stackTraces = false) (hz9 : zK A s s.heap) (hx9 : xK s) {b L : Nat} {xs : Nat → Int32} (hS9 : va_X b L xs s s.heap) (hb1 : b < s.heap.size) (hb2 : ¬ A b) {i : Nat} (hi : i + 6 ≤ L) (hL : L ≤ 3072) (hIS : isS cy ad M) (hcs : cells + 1 ≤ 601024 ∧ slots + 6 ≤ 7293034) (kk : ∀ M' : Nat → va_E, isS cy ad M' → mW p l e { frames := 10, cells := 601024, slots := 7293034, locals := 396 } s m args below meth c D A 7 (cells + 1) (slots + 6) Q ad 64 M' 1073 [(0, (.ref b)), (1, .ref (ad 0)), (2, .ref (ad 52)), (3, .ref (ad 63)), (4, .int (nI i))] []) : mW p l e { frames := 10, cells := 601024, slots := 7293034, locals := 396 } s m args below meth c D A 7 cells slots Q ad 64 M 818 [(0, (.ref b)), (1, .ref (ad 0)), (2, .ref (ad 52)), (3, .ref (ad 63)), (4, .int (nI i))] [] := by
  obtain ⟨⟨T, ys, cnt, lim, O, B, fp, ot, hX, hM⟩, f0, h63⟩ := hIS
  refine m_aload_n (pc' := 819) C dL_law_818 rfl 1 rfl rfl ?_
  refine m_aload_n (pc' := 820) C dL_law_819 rfl 0 rfl rfl ?_
  refine m_iload (pc' := 822) C dL_law_820 4 rfl rfl ?_
  refine m_iconst (pc' := 823) (v := nI 1) C dL_law_822 (by decide) rfl ?_
  refine m_iadd (pc' := 824) (v := nI (i + 1)) C dL_law_823 (nI_add _ _) rfl ?_
  refine m_sald (pc' := 825) (v := xs (i + 1)) C hS9 hb1 hb2 (vp_in_nI (by omega) (by omega)) (by rw [nI_clamp (by omega)]) dL_law_824 rfl ?_
  refine m_aload_n (pc' := 826) C dL_law_825 rfl 0 rfl rfl ?_
  refine m_iload (pc' := 828) C dL_law_826 4 rfl rfl ?_
  refine m_iconst (pc' := 829) (v := nI 2) C dL_law_828 (by decide) rfl ?_
  refine m_iadd (pc' := 830) (v := nI (i + 2)) C dL_law_829 (nI_add _ _) rfl ?_
  refine m_sald (pc' := 831) (v := xs (i + 2)) C hS9 hb1 hb2 (vp_in_nI (by omega) (by omega)) (by rw [nI_clamp (by omega)]) dL_law_830 rfl ?_
  refine m_aload_n (pc' := 832) C dL_law_831 rfl 3 rfl rfl ?_
  refine m_callH (pc' := 835) (As := [.ref (ad 0), .int (xs (i + 1)), .int (xs (i + 2)), .ref (ad 63)]) (rest := []) C (kL_back C.2.2.1 hst9 (by decide) hX h63 (xs (i + 1)) (xs (i + 2))) hz9 hx9 (vx_cwSW 4 C.1.2.2.2.2 (goodSL tm_4_194 tm_4_195 tm_1_0 th_back) rfl rfl rfl (by decide +kernel) ⟨by decide, by decide⟩) rfl rfl (Nat.le_of_ble_eq_true rfl) dL_law_832 rfl ⟨by show _ ≤ 601024; omega, by show _ ≤ 7293034; omega⟩ (fun r_1 M1 q_1 => ?_)
  obtain ⟨e_1, ⟨f_1, h63_1, hv_1⟩, hX_1, F_1⟩ := q_1
  replace e_1 := e_1.symm
  subst e_1
  have hM_1 := hM.fr F_1 (by decide)
  refine m_istore (pc' := 837) (lv' := [(5, .int (nI (prK (xs (i + 1)) (xs (i + 2))))), (0, (.ref b)), (1, .ref (ad 0)), (2, .ref (ad 52)), (3, .ref (ad 63)), (4, .int (nI i))]) C dL_law_835 (by decide) rfl rfl ?_
  refine m_aload_n (pc' := 838) C dL_law_837 rfl 3 rfl rfl ?_
  refine m_aload_n (pc' := 839) C dL_law_838 rfl 1 rfl rfl ?_
  refine m_iload (pc' := 841) C dL_law_839 5 rfl rfl ?_
  refine m_iconst (pc' := 842) (v := nI 1) C dL_law_841 (by decide) rfl ?_
  refine m_iadd (pc' := 843) (v := nI (i + 1)) C dL_law_842 (nI_add _ _) rfl ?_
  refine m_sald (pc' := 844) (v := xs (i + 1)) C hS9 hb1 hb2 (vp_in_nI (by omega) (by omega)) (by rw [nI_clamp (by omega)]) dL_law_843 rfl ?_
  refine m_aload_n (pc' := 845) C dL_law_844 rfl 1 rfl rfl ?_
  refine m_iload (pc' := 847) C dL_law_845 5 rfl rfl ?_
  refine m_iconst (pc' := 848) (v := nI 2) C dL_law_847 (by decide) rfl ?_
  refine m_iadd (pc' := 849) (v := nI (i + 2)) C dL_law_848 (nI_add _ _) rfl ?_
  refine m_sald (pc' := 850) (v := xs (i + 2)) C hS9 hb1 hb2 (vp_in_nI (by omega) (by omega)) (by rw [nI_clamp (by omega)]) dL_law_849 rfl ?_
  refine m_callVi (pc' := 853) (As := [.int (xs (i + 1)), .int (xs (i + 2))]) (rest := []) C (kX12_back C.2.2.1 (by decide) (by decide) hM_1 (xs (i + 1)) (xs (i + 2))) (cwV 2 C.1.2.2.2.2 (goodVL tm_6_120 tm_6_121 tm_6_122 tm_1_13 tm_6_123) rfl rfl rfl (by decide +kernel) ⟨by decide, by decide⟩) (by decide) hM_1.1 rfl rfl rfl (Nat.le_of_ble_eq_true rfl) dL_law_850 rfl ⟨by show _ ≤ 601024; omega, by show _ ≤ 7293034; omega⟩ (fun r_2 M2 q_2 => ?_)
  obtain ⟨hr_2, h100_2, hM_2, F_2⟩ := q_2
  have hX_2 := hX_1.fr F_2 (by decide)
  have h63_2 := (F_2 63 (by decide)).trans h63_1
  refine m_istore (pc' := 855) (lv' := [(6, .int (r_2)), (5, .int (nI (prK (xs (i + 1)) (xs (i + 2))))), (0, (.ref b)), (1, .ref (ad 0)), (2, .ref (ad 52)), (3, .ref (ad 63)), (4, .int (nI i))]) C dL_law_853 (by decide) rfl rfl ?_
  refine m_aload_n (pc' := 856) C dL_law_855 rfl 4 rfl rfl ?_
  refine m_callVi (pc' := 859) (As := []) (rest := []) C (kX12_thrown C.2.2.1 (by decide) (by decide) hM_2.1 h100_2) (cwV 0 C.1.2.2.2.2 (goodVL tm_5_162 tm_5_163 tm_5_164 tm_1_13 tm_5_165) rfl rfl rfl (by decide +kernel) ⟨by decide, by decide⟩) (by decide) hM_2.1 rfl rfl rfl (Nat.le_of_ble_eq_true rfl) dL_law_856 rfl ⟨by show _ ≤ 601024; omega, by show _ ≤ 7293034; omega⟩ (fun r_3 N_3 q_3 => ?_)
  obtain ⟨e_3, E_3⟩ := q_3
  replace E_3 := E_3.symm
  subst E_3
  replace e_3 := e_3.symm
  subst e_3
  refine m_iload (pc' := 861) C dL_law_859 1 rfl rfl ?_
  refine m_icmp_eq (pc' := 864) (tgt := 866) C dL_law_861 (by decide) rfl (fun c_861 => ?_) (fun c_861 => ?_)
  · refine m_iload (pc' := 868) C dL_law_866 1 rfl rfl ?_
    refine m_if_ne (pc' := 871) (tgt := 883) C dL_law_868 (by decide) rfl (fun c_868 => ?_) (fun c_868 => ?_)
    · refine m_goto (tgt := 1073) C dL_law_883 (by decide) ?_
      refine m_lv [2, 3, 4, 5, 6] rfl ?_
      exact kk _ ⟨⟨_, _, _, _, _, _, _, _, hX_2, hM_2⟩, ⟨_, h63_2⟩⟩
    · have hKb : prK (xs (i + 1)) (xs (i + 2)) ≤ 2 := by unfold prK; (repeat' split) <;> omega
      have hK0 : prK (xs (i + 1)) (xs (i + 2)) = 0 := (nI_eq (by omega) (by decide)).mp ((Classical.not_not.mp c_868).trans nI_0.symm)
      refine m_aload_n (pc' := 872) C dL_law_871 rfl 5 rfl rfl ?_
      refine m_iconst (pc' := 873) (v := nI 0) C dL_law_872 (by decide) rfl ?_
      refine m_lald (pc' := 874) (v := f_1 0) C 63 (by decide) h63_2 (vp_in_nI (by decide) (by decide)) rfl dL_law_873 rfl ?_
      refine m_iload (pc' := 876) C dL_law_874 0 rfl rfl ?_
      refine m_i2l (pc' := 877) (v := (r_2).toInt64) C dL_law_876 rfl rfl ?_
      refine m_lcmp (pc' := 878) (v := lg_cmp (f_1 0) ((r_2).toInt64)) C dL_law_877 rfl rfl ?_
      refine m_if_eq (pc' := 881) (tgt := 883) C dL_law_878 (by decide) rfl (fun c_878 => ?_) (fun c_878 => ?_)
      · refine m_goto (tgt := 1073) C dL_law_883 (by decide) ?_
        refine m_lv [2, 3, 4, 5, 6] rfl ?_
        exact kk _ ⟨⟨_, _, _, _, _, _, _, _, hX_2, hM_2⟩, ⟨_, h63_2⟩⟩
      · exact absurd (by rw [hv_1 hK0, hr_2 hK0]; exact lcmp_self _) c_878
  · exact absurd rfl c_861
set_option maxHeartbeats 4000000 in
set_option maxRecDepth 100000 in
theorem law_13 {p : Program} {l : Launch} {e : Env} {s : State} {m : MethodId} {args : Array Value} {below : List Frame} {meth : Method} {c : Code} {cells slots : Nat} {Q : State → Prop} {D : va_G} {cy : Nat → ClassId} {ad : Nat → Nat} {A : Nat → Prop} {M : Nat → va_E} (C : mC p s m args c cL_law 7 RL GT D cy ad 64 A) (hst9 : l.stackTraces = false) (hz9 : zK A s s.heap) (hx9 : xK s) {b L : Nat} {xs : Nat → Int32} (hS9 : va_X b L xs s s.heap) (hb1 : b < s.heap.size) (hb2 : ¬ A b) {i : Nat} (hi : i + 6 ≤ L) (hL : L ≤ 3072) (hIS : isS cy ad M) (hcs : cells + 1 ≤ 601024 ∧ slots + 6 ≤ 7293034) (kk : ∀ M' : Nat → va_E, isS cy ad M' → mW p l e { frames := 10, cells := 601024, slots := 7293034, locals := 396 } s m args below meth c D A 7 (cells + 1) (slots + 6) Q ad 64 M' 1073 [(0, (.ref b)), (1, .ref (ad 0)), (2, .ref (ad 52)), (3, .ref (ad 63)), (4, .int (nI i))] []) : mW p l e { frames := 10, cells := 601024, slots := 7293034, locals := 396 } s m args below meth c D A 7 cells slots Q ad 64 M 886 [(0, (.ref b)), (1, .ref (ad 0)), (2, .ref (ad 52)), (3, .ref (ad 63)), (4, .int (nI i))] [] := by
  obtain ⟨⟨T, ys, cnt, lim, O, B, fp, ot, hX, hM⟩, f0, h63⟩ := hIS
  refine m_aload_n (pc' := 887) C dL_law_886 rfl 1 rfl rfl ?_
  refine m_aload_n (pc' := 888) C dL_law_887 rfl 0 rfl rfl ?_
  refine m_iload (pc' := 890) C dL_law_888 4 rfl rfl ?_
  refine m_iconst (pc' := 891) (v := nI 1) C dL_law_890 (by decide) rfl ?_
  refine m_iadd (pc' := 892) (v := nI (i + 1)) C dL_law_891 (nI_add _ _) rfl ?_
  refine m_sald (pc' := 893) (v := xs (i + 1)) C hS9 hb1 hb2 (vp_in_nI (by omega) (by omega)) (by rw [nI_clamp (by omega)]) dL_law_892 rfl ?_
  refine m_aload_n (pc' := 894) C dL_law_893 rfl 0 rfl rfl ?_
  refine m_iload (pc' := 896) C dL_law_894 4 rfl rfl ?_
  refine m_iconst (pc' := 897) (v := nI 2) C dL_law_896 (by decide) rfl ?_
  refine m_iadd (pc' := 898) (v := nI (i + 2)) C dL_law_897 (nI_add _ _) rfl ?_
  refine m_sald (pc' := 899) (v := xs (i + 2)) C hS9 hb1 hb2 (vp_in_nI (by omega) (by omega)) (by rw [nI_clamp (by omega)]) dL_law_898 rfl ?_
  refine m_aload_n (pc' := 900) C dL_law_899 rfl 3 rfl rfl ?_
  refine m_callH (pc' := 903) (As := [.ref (ad 0), .int (xs (i + 1)), .int (xs (i + 2)), .ref (ad 63)]) (rest := []) C (kL_patch C.2.2.1 hst9 (by decide) hX h63 (xs (i + 1)) (xs (i + 2))) hz9 hx9 (vx_cwSW 4 C.1.2.2.2.2 (goodSL tm_5_10 tm_5_11 tm_1_0 th_patch) rfl rfl rfl (by decide +kernel) ⟨by decide, by decide⟩) rfl rfl (Nat.le_of_ble_eq_true rfl) dL_law_900 rfl ⟨by show _ ≤ 601024; omega, by show _ ≤ 7293034; omega⟩ (fun r_1 M1 q_1 => ?_)
  obtain ⟨e_1, ⟨f_1, h63_1, hv_1⟩, hX_1, F_1⟩ := q_1
  replace e_1 := e_1.symm
  subst e_1
  have hM_1 := hM.fr F_1 (by decide)
  refine m_istore (pc' := 905) (lv' := [(5, .int (nI (paK O (xs (i + 1)) (xs (i + 2))))), (0, (.ref b)), (1, .ref (ad 0)), (2, .ref (ad 52)), (3, .ref (ad 63)), (4, .int (nI i))]) C dL_law_903 (by decide) rfl rfl ?_
  refine m_aload_n (pc' := 906) C dL_law_905 rfl 3 rfl rfl ?_
  refine m_aload_n (pc' := 907) C dL_law_906 rfl 1 rfl rfl ?_
  refine m_iload (pc' := 909) C dL_law_907 5 rfl rfl ?_
  refine m_iconst (pc' := 910) (v := nI 1) C dL_law_909 (by decide) rfl ?_
  refine m_iadd (pc' := 911) (v := nI (i + 1)) C dL_law_910 (nI_add _ _) rfl ?_
  refine m_sald (pc' := 912) (v := xs (i + 1)) C hS9 hb1 hb2 (vp_in_nI (by omega) (by omega)) (by rw [nI_clamp (by omega)]) dL_law_911 rfl ?_
  refine m_aload_n (pc' := 913) C dL_law_912 rfl 1 rfl rfl ?_
  refine m_iload (pc' := 915) C dL_law_913 5 rfl rfl ?_
  refine m_iconst (pc' := 916) (v := nI 2) C dL_law_915 (by decide) rfl ?_
  refine m_iadd (pc' := 917) (v := nI (i + 2)) C dL_law_916 (nI_add _ _) rfl ?_
  refine m_sald (pc' := 918) (v := xs (i + 2)) C hS9 hb1 hb2 (vp_in_nI (by omega) (by omega)) (by rw [nI_clamp (by omega)]) dL_law_917 rfl ?_
  refine m_callVi (pc' := 921) (As := [.int (xs (i + 1)), .int (xs (i + 2))]) (rest := []) C (kX12_patch C.2.2.1 (by decide) (by decide) hM_1 (xs (i + 1)) (xs (i + 2))) (cwV 2 C.1.2.2.2.2 (goodVL tm_6_136 tm_6_137 tm_6_138 tm_1_13 tm_6_139) rfl rfl rfl (by decide +kernel) ⟨by decide, by decide⟩) (by decide) hM_1.1 rfl rfl rfl (Nat.le_of_ble_eq_true rfl) dL_law_918 rfl ⟨by show _ ≤ 601024; omega, by show _ ≤ 7293034; omega⟩ (fun r_2 M2 q_2 => ?_)
  obtain ⟨hr_2, h100_2, hM_2, F_2⟩ := q_2
  have hX_2 := hX_1.fr F_2 (by decide)
  have h63_2 := (F_2 63 (by decide)).trans h63_1
  refine m_istore (pc' := 923) (lv' := [(6, .int (r_2)), (5, .int (nI (paK O (xs (i + 1)) (xs (i + 2))))), (0, (.ref b)), (1, .ref (ad 0)), (2, .ref (ad 52)), (3, .ref (ad 63)), (4, .int (nI i))]) C dL_law_921 (by decide) rfl rfl ?_
  refine m_aload_n (pc' := 924) C dL_law_923 rfl 4 rfl rfl ?_
  refine m_callVi (pc' := 927) (As := []) (rest := []) C (kX12_thrown C.2.2.1 (by decide) (by decide) hM_2.1 h100_2) (cwV 0 C.1.2.2.2.2 (goodVL tm_5_162 tm_5_163 tm_5_164 tm_1_13 tm_5_165) rfl rfl rfl (by decide +kernel) ⟨by decide, by decide⟩) (by decide) hM_2.1 rfl rfl rfl (Nat.le_of_ble_eq_true rfl) dL_law_924 rfl ⟨by show _ ≤ 601024; omega, by show _ ≤ 7293034; omega⟩ (fun r_3 N_3 q_3 => ?_)
  obtain ⟨e_3, E_3⟩ := q_3
  replace E_3 := E_3.symm
  subst E_3
  replace e_3 := e_3.symm
  subst e_3
  refine m_iload (pc' := 929) C dL_law_927 1 rfl rfl ?_
  refine m_icmp_eq (pc' := 932) (tgt := 934) C dL_law_929 (by decide) rfl (fun c_929 => ?_) (fun c_929 => ?_)
  · refine m_iload (pc' := 936) C dL_law_934 1 rfl rfl ?_
    refine m_if_ne (pc' := 939) (tgt := 951) C dL_law_936 (by decide) rfl (fun c_936 => ?_) (fun c_936 => ?_)
    · refine m_goto (tgt := 1073) C dL_law_951 (by decide) ?_
      refine m_lv [2, 3, 4, 5, 6] rfl ?_
      exact kk _ ⟨⟨_, _, _, _, _, _, _, _, hX_2, hM_2⟩, ⟨_, h63_2⟩⟩
    · have hKb : paK O (xs (i + 1)) (xs (i + 2)) ≤ 2 := by unfold paK; (repeat' split) <;> omega
      have hK0 : paK O (xs (i + 1)) (xs (i + 2)) = 0 := (nI_eq (by omega) (by decide)).mp ((Classical.not_not.mp c_936).trans nI_0.symm)
      refine m_aload_n (pc' := 940) C dL_law_939 rfl 5 rfl rfl ?_
      refine m_iconst (pc' := 941) (v := nI 0) C dL_law_940 (by decide) rfl ?_
      refine m_lald (pc' := 942) (v := f_1 0) C 63 (by decide) h63_2 (vp_in_nI (by decide) (by decide)) rfl dL_law_941 rfl ?_
      refine m_iload (pc' := 944) C dL_law_942 0 rfl rfl ?_
      refine m_i2l (pc' := 945) (v := (r_2).toInt64) C dL_law_944 rfl rfl ?_
      refine m_lcmp (pc' := 946) (v := lg_cmp (f_1 0) ((r_2).toInt64)) C dL_law_945 rfl rfl ?_
      refine m_if_eq (pc' := 949) (tgt := 951) C dL_law_946 (by decide) rfl (fun c_946 => ?_) (fun c_946 => ?_)
      · refine m_goto (tgt := 1073) C dL_law_951 (by decide) ?_
        refine m_lv [2, 3, 4, 5, 6] rfl ?_
        exact kk _ ⟨⟨_, _, _, _, _, _, _, _, hX_2, hM_2⟩, ⟨_, h63_2⟩⟩
      · exact absurd (by rw [hv_1 hK0, hr_2 hK0]; exact lcmp_self _) c_946
  · exact absurd rfl c_929
set_option maxHeartbeats 4000000 in
set_option maxRecDepth 100000 in
theorem law_14 {p : Program} {l : Launch} {e : Env} {s : State} {m : MethodId} {args : Array Value} {below : List Frame} {meth : Method} {c : Code} {cells slots : Nat} {Q : State → Prop} {D : va_G} {cy : Nat → ClassId} {ad : Nat → Nat} {A : Nat → Prop} {M : Nat → va_E} (C : mC p s m args c cL_law 7 RL GT D cy ad 64 A) (hst9 : l.stackTraces = false) (hz9 : zK A s s.heap) (hx9 : xK s) {b L : Nat} {xs : Nat → Int32} (hS9 : va_X b L xs s s.heap) (hb1 : b < s.heap.size) (hb2 : ¬ A b) {i : Nat} (hi : i + 6 ≤ L) (hL : L ≤ 3072) (hIS : isS cy ad M) (hcs : cells + 1 ≤ 601024 ∧ slots + 6 ≤ 7293034) (kk : ∀ M' : Nat → va_E, isS cy ad M' → mW p l e { frames := 10, cells := 601024, slots := 7293034, locals := 396 } s m args below meth c D A 7 (cells + 1) (slots + 6) Q ad 64 M' 1073 [(0, (.ref b)), (1, .ref (ad 0)), (2, .ref (ad 52)), (3, .ref (ad 63)), (4, .int (nI i))] []) : mW p l e { frames := 10, cells := 601024, slots := 7293034, locals := 396 } s m args below meth c D A 7 cells slots Q ad 64 M 954 [(0, (.ref b)), (1, .ref (ad 0)), (2, .ref (ad 52)), (3, .ref (ad 63)), (4, .int (nI i))] [] := by
  obtain ⟨⟨T, ys, cnt, lim, O, B, fp, ot, hX, hM⟩, f0, h63⟩ := hIS
  refine m_aload_n (pc' := 955) C dL_law_954 rfl 1 rfl rfl ?_
  refine m_aload_n (pc' := 956) C dL_law_955 rfl 0 rfl rfl ?_
  refine m_iload (pc' := 958) C dL_law_956 4 rfl rfl ?_
  refine m_iconst (pc' := 959) (v := nI 1) C dL_law_958 (by decide) rfl ?_
  refine m_iadd (pc' := 960) (v := nI (i + 1)) C dL_law_959 (nI_add _ _) rfl ?_
  refine m_sald (pc' := 961) (v := xs (i + 1)) C hS9 hb1 hb2 (vp_in_nI (by omega) (by omega)) (by rw [nI_clamp (by omega)]) dL_law_960 rfl ?_
  refine m_aload_n (pc' := 962) C dL_law_961 rfl 3 rfl rfl ?_
  refine m_callH (pc' := 965) (As := [.ref (ad 0), .int (xs (i + 1)), .ref (ad 63)]) (rest := []) C (kL_trim C.2.2.1 hst9 (by decide) hX h63 (xs (i + 1))) hz9 hx9 (vx_cwSW 3 C.1.2.2.2.2 (goodSL tm_5_37 tm_5_38 tm_1_0 th_trim) rfl rfl rfl (by decide +kernel) ⟨by decide, by decide⟩) rfl rfl (Nat.le_of_ble_eq_true rfl) dL_law_962 rfl ⟨by show _ ≤ 601024; omega, by show _ ≤ 7293034; omega⟩ (fun r_1 M1 q_1 => ?_)
  obtain ⟨e_1, ⟨f_1, h63_1, hv_1⟩, hX_1, F_1⟩ := q_1
  replace e_1 := e_1.symm
  subst e_1
  have hM_1 := hM.fr F_1 (by decide)
  refine m_istore (pc' := 967) (lv' := [(5, .int (nI (cuK O (xs (i + 1))))), (0, (.ref b)), (1, .ref (ad 0)), (2, .ref (ad 52)), (3, .ref (ad 63)), (4, .int (nI i))]) C dL_law_965 (by decide) rfl rfl ?_
  refine m_aload_n (pc' := 968) C dL_law_967 rfl 3 rfl rfl ?_
  refine m_aload_n (pc' := 969) C dL_law_968 rfl 1 rfl rfl ?_
  refine m_iload (pc' := 971) C dL_law_969 5 rfl rfl ?_
  refine m_iconst (pc' := 972) (v := nI 1) C dL_law_971 (by decide) rfl ?_
  refine m_iadd (pc' := 973) (v := nI (i + 1)) C dL_law_972 (nI_add _ _) rfl ?_
  refine m_sald (pc' := 974) (v := xs (i + 1)) C hS9 hb1 hb2 (vp_in_nI (by omega) (by omega)) (by rw [nI_clamp (by omega)]) dL_law_973 rfl ?_
  refine m_callVi (pc' := 977) (As := [.int (xs (i + 1))]) (rest := []) C (kX12_trim C.2.2.1 (by decide) (by decide) hM_1 (xs (i + 1))) (cwV 1 C.1.2.2.2.2 (goodVL tm_6_140 tm_6_141 tm_6_142 tm_1_13 tm_6_143) rfl rfl rfl (by decide +kernel) ⟨by decide, by decide⟩) (by decide) hM_1.1 rfl rfl rfl (Nat.le_of_ble_eq_true rfl) dL_law_974 rfl ⟨by show _ ≤ 601024; omega, by show _ ≤ 7293034; omega⟩ (fun r_2 M2 q_2 => ?_)
  obtain ⟨hr_2, h100_2, hM_2, F_2⟩ := q_2
  have hX_2 := hX_1.fr F_2 (by decide)
  have h63_2 := (F_2 63 (by decide)).trans h63_1
  refine m_istore (pc' := 979) (lv' := [(6, .int (r_2)), (5, .int (nI (cuK O (xs (i + 1))))), (0, (.ref b)), (1, .ref (ad 0)), (2, .ref (ad 52)), (3, .ref (ad 63)), (4, .int (nI i))]) C dL_law_977 (by decide) rfl rfl ?_
  refine m_aload_n (pc' := 980) C dL_law_979 rfl 4 rfl rfl ?_
  refine m_callVi (pc' := 983) (As := []) (rest := []) C (kX12_thrown C.2.2.1 (by decide) (by decide) hM_2.1 h100_2) (cwV 0 C.1.2.2.2.2 (goodVL tm_5_162 tm_5_163 tm_5_164 tm_1_13 tm_5_165) rfl rfl rfl (by decide +kernel) ⟨by decide, by decide⟩) (by decide) hM_2.1 rfl rfl rfl (Nat.le_of_ble_eq_true rfl) dL_law_980 rfl ⟨by show _ ≤ 601024; omega, by show _ ≤ 7293034; omega⟩ (fun r_3 N_3 q_3 => ?_)
  obtain ⟨e_3, E_3⟩ := q_3
  replace E_3 := E_3.symm
  subst E_3
  replace e_3 := e_3.symm
  subst e_3
  refine m_iload (pc' := 985) C dL_law_983 1 rfl rfl ?_
  refine m_icmp_eq (pc' := 988) (tgt := 990) C dL_law_985 (by decide) rfl (fun c_985 => ?_) (fun c_985 => ?_)
  · refine m_iload (pc' := 992) C dL_law_990 1 rfl rfl ?_
    refine m_if_ne (pc' := 995) (tgt := 1007) C dL_law_992 (by decide) rfl (fun c_992 => ?_) (fun c_992 => ?_)
    · refine m_goto (tgt := 1073) C dL_law_1007 (by decide) ?_
      refine m_lv [2, 3, 4, 5, 6] rfl ?_
      exact kk _ ⟨⟨_, _, _, _, _, _, _, _, hX_2, hM_2⟩, ⟨_, h63_2⟩⟩
    · have hKb : cuK O (xs (i + 1)) ≤ 2 := by unfold cuK; (repeat' split) <;> omega
      have hK0 : cuK O (xs (i + 1)) = 0 := (nI_eq (by omega) (by decide)).mp ((Classical.not_not.mp c_992).trans nI_0.symm)
      refine m_aload_n (pc' := 996) C dL_law_995 rfl 5 rfl rfl ?_
      refine m_iconst (pc' := 997) (v := nI 0) C dL_law_996 (by decide) rfl ?_
      refine m_lald (pc' := 998) (v := f_1 0) C 63 (by decide) h63_2 (vp_in_nI (by decide) (by decide)) rfl dL_law_997 rfl ?_
      refine m_iload (pc' := 1000) C dL_law_998 0 rfl rfl ?_
      refine m_i2l (pc' := 1001) (v := (r_2).toInt64) C dL_law_1000 rfl rfl ?_
      refine m_lcmp (pc' := 1002) (v := lg_cmp (f_1 0) ((r_2).toInt64)) C dL_law_1001 rfl rfl ?_
      refine m_if_eq (pc' := 1005) (tgt := 1007) C dL_law_1002 (by decide) rfl (fun c_1002 => ?_) (fun c_1002 => ?_)
      · refine m_goto (tgt := 1073) C dL_law_1007 (by decide) ?_
        refine m_lv [2, 3, 4, 5, 6] rfl ?_
        exact kk _ ⟨⟨_, _, _, _, _, _, _, _, hX_2, hM_2⟩, ⟨_, h63_2⟩⟩
      · exact absurd (by rw [hv_1 hK0, hr_2 hK0]; exact lcmp_self _) c_1002
  · exact absurd rfl c_985
set_option maxHeartbeats 4000000 in
set_option maxRecDepth 100000 in
theorem law_15 {p : Program} {l : Launch} {e : Env} {s : State} {m : MethodId} {args : Array Value} {below : List Frame} {meth : Method} {c : Code} {cells slots : Nat} {Q : State → Prop} {D : va_G} {cy : Nat → ClassId} {ad : Nat → Nat} {A : Nat → Prop} {M : Nat → va_E} (C : mC p s m args c cL_law 7 RL GT D cy ad 64 A) (hst9 : l.stackTraces = false) (hz9 : zK A s s.heap) (hx9 : xK s) {b L : Nat} {xs : Nat → Int32} (hS9 : va_X b L xs s s.heap) (hb1 : b < s.heap.size) (hb2 : ¬ A b) {i : Nat} (hi : i + 6 ≤ L) (hL : L ≤ 3072) (hIS : isS cy ad M) (hcs : cells + 1 ≤ 601024 ∧ slots + 6 ≤ 7293034) (kk : ∀ M' : Nat → va_E, isS cy ad M' → mW p l e { frames := 10, cells := 601024, slots := 7293034, locals := 396 } s m args below meth c D A 7 (cells + 1) (slots + 6) Q ad 64 M' 1073 [(0, (.ref b)), (1, .ref (ad 0)), (2, .ref (ad 52)), (3, .ref (ad 63)), (4, .int (nI i))] []) : mW p l e { frames := 10, cells := 601024, slots := 7293034, locals := 396 } s m args below meth c D A 7 cells slots Q ad 64 M 1010 [(0, (.ref b)), (1, .ref (ad 0)), (2, .ref (ad 52)), (3, .ref (ad 63)), (4, .int (nI i))] [] := by
  obtain ⟨⟨T, ys, cnt, lim, O, B, fp, ot, hX, hM⟩, f0, h63⟩ := hIS
  refine m_aload_n (pc' := 1011) C dL_law_1010 rfl 1 rfl rfl ?_
  obtain ⟨h1, h2, h3, h4, ⟨en, tk, od, hps⟩, h6, h7, h8, h9, h10, h11, h12, h13, h14, h15⟩ := id hX
  obtain ⟨p1, p2, p3, p4, p5⟩ := id hps
  refine m_callVi (pc' := 1014) (As := []) (rest := []) C (kX11_place C.2.2.1 (by decide) h2 ) (cwV 0 C.1.2.2.2.2 (goodVL tm_3_154 tm_3_155 tm_3_156 tm_1_1 tm_3_157) rfl rfl rfl (by decide +kernel) ⟨by decide, by decide⟩) (by decide) h2 rfl rfl rfl (Nat.le_of_ble_eq_true rfl) dL_law_1011 rfl ⟨by show _ ≤ 601024; omega, by show _ ≤ 7293034; omega⟩ (fun r_1 M1 q_1 => ?_)
  obtain ⟨e_1, q4⟩ := q_1
  replace q4 := q4.symm
  subst q4
  replace e_1 := e_1.symm
  subst e_1
  refine m_aload_n (pc' := 1015) C dL_law_1014 rfl 2 rfl rfl ?_
  refine m_callVi (pc' := 1018) (As := []) (rest := [.int (fp)]) C (kX12_place C.2.2.1 (by decide) (by decide) hM ) (cwV 0 C.1.2.2.2.2 (goodVL tm_6_144 tm_6_145 tm_6_146 tm_1_13 tm_6_147) rfl rfl rfl (by decide +kernel) ⟨by decide, by decide⟩) (by decide) hM.1 rfl rfl rfl (Nat.le_of_ble_eq_true rfl) dL_law_1015 rfl ⟨by show _ ≤ 601024; omega, by show _ ≤ 7293034; omega⟩ (fun r_2 M2 q_2 => ?_)
  obtain ⟨hr_2, h100_2, hM_2, F_2⟩ := q_2
  have hX_2 := hX.fr F_2 (by decide)
  have h63_2 := (F_2 63 (by decide)).trans h63
  replace hr_2 := hr_2.symm
  subst hr_2
  refine m_icmp_eq (pc' := 1021) (tgt := 1073) C dL_law_1018 (by decide) rfl (fun c_1018 => ?_) (fun c_1018 => ?_)
  · refine m_wid (k := cells + 1) (q := slots + 6) (by omega) (by omega) ?_
    refine m_lv [0, 1, 2, 3, 4] rfl ?_
    exact kk _ ⟨⟨_, _, _, _, _, _, _, _, hX_2, hM_2⟩, ⟨_, h63_2⟩⟩
  · exact absurd rfl c_1018
set_option maxHeartbeats 4000000 in
set_option maxRecDepth 100000 in
theorem law_16 {p : Program} {l : Launch} {e : Env} {s : State} {m : MethodId} {args : Array Value} {below : List Frame} {meth : Method} {c : Code} {cells slots : Nat} {Q : State → Prop} {D : va_G} {cy : Nat → ClassId} {ad : Nat → Nat} {A : Nat → Prop} {M : Nat → va_E} (C : mC p s m args c cL_law 7 RL GT D cy ad 64 A) (hst9 : l.stackTraces = false) (hz9 : zK A s s.heap) (hx9 : xK s) {b L : Nat} {xs : Nat → Int32} (hS9 : va_X b L xs s s.heap) (hb1 : b < s.heap.size) (hb2 : ¬ A b) {i : Nat} (hi : i + 6 ≤ L) (hL : L ≤ 3072) (hIS : isS cy ad M) (hcs : cells + 1 ≤ 601024 ∧ slots + 6 ≤ 7293034) (kk : ∀ M' : Nat → va_E, isS cy ad M' → mW p l e { frames := 10, cells := 601024, slots := 7293034, locals := 396 } s m args below meth c D A 7 (cells + 1) (slots + 6) Q ad 64 M' 1073 [(0, (.ref b)), (1, .ref (ad 0)), (2, .ref (ad 52)), (3, .ref (ad 63)), (4, .int (nI i))] []) : mW p l e { frames := 10, cells := 601024, slots := 7293034, locals := 396 } s m args below meth c D A 7 cells slots Q ad 64 M 1023 [(0, (.ref b)), (1, .ref (ad 0)), (2, .ref (ad 52)), (3, .ref (ad 63)), (4, .int (nI i))] [] := by
  obtain ⟨⟨T, ys, cnt, lim, O, B, fp, ot, hX, hM⟩, f0, h63⟩ := hIS
  refine m_aload_n (pc' := 1024) C dL_law_1023 rfl 1 rfl rfl ?_
  refine m_aload_n (pc' := 1025) C dL_law_1024 rfl 0 rfl rfl ?_
  refine m_iload (pc' := 1027) C dL_law_1025 4 rfl rfl ?_
  refine m_iconst (pc' := 1028) (v := nI 1) C dL_law_1027 (by decide) rfl ?_
  refine m_iadd (pc' := 1029) (v := nI (i + 1)) C dL_law_1028 (nI_add _ _) rfl ?_
  refine m_sald (pc' := 1030) (v := xs (i + 1)) C hS9 hb1 hb2 (vp_in_nI (by omega) (by omega)) (by rw [nI_clamp (by omega)]) dL_law_1029 rfl ?_
  obtain ⟨h1, h2, h3, h4, ⟨en, tk, od, hps⟩, h6, h7, h8, h9, h10, h11, h12, h13, h14, h15⟩ := id hX
  obtain ⟨p1, p2, p3, p4, p5⟩ := id hps
  refine m_callVi (pc' := 1033) (As := [.int (xs (i + 1))]) (rest := []) C (kX11_output C.2.2.1 (by decide) h2 p3 (xs (i + 1))) (cwV 1 C.1.2.2.2.2 (goodVL tm_3_158 tm_3_159 tm_3_160 tm_1_1 tm_3_161) rfl rfl rfl (by decide +kernel) ⟨by decide, by decide⟩) (by decide) h2 rfl rfl rfl (Nat.le_of_ble_eq_true rfl) dL_law_1030 rfl ⟨by show _ ≤ 601024; omega, by show _ ≤ 7293034; omega⟩ (fun r_1 M1 q_1 => ?_)
  obtain ⟨e_1, q4⟩ := q_1
  replace q4 := q4.symm
  subst q4
  rw [List.take_of_length_le h6] at e_1
  replace e_1 := e_1.symm
  subst e_1
  refine m_aload_n (pc' := 1034) C dL_law_1033 rfl 2 rfl rfl ?_
  refine m_aload_n (pc' := 1035) C dL_law_1034 rfl 0 rfl rfl ?_
  refine m_iload (pc' := 1037) C dL_law_1035 4 rfl rfl ?_
  refine m_iconst (pc' := 1038) (v := nI 1) C dL_law_1037 (by decide) rfl ?_
  refine m_iadd (pc' := 1039) (v := nI (i + 1)) C dL_law_1038 (nI_add _ _) rfl ?_
  refine m_sald (pc' := 1040) (v := xs (i + 1)) C hS9 hb1 hb2 (vp_in_nI (by omega) (by omega)) (by rw [nI_clamp (by omega)]) dL_law_1039 rfl ?_
  refine m_callVi (pc' := 1043) (As := [.int (xs (i + 1))]) (rest := [.int (rowAt O (xs (i + 1)))]) C (kX12_output C.2.2.1 (by decide) (by decide) hM (xs (i + 1))) (cwV 1 C.1.2.2.2.2 (goodVL tm_6_148 tm_6_149 tm_6_150 tm_1_13 tm_6_151) rfl rfl rfl (by decide +kernel) ⟨by decide, by decide⟩) (by decide) hM.1 rfl rfl rfl (Nat.le_of_ble_eq_true rfl) dL_law_1040 rfl ⟨by show _ ≤ 601024; omega, by show _ ≤ 7293034; omega⟩ (fun r_2 M2 q_2 => ?_)
  obtain ⟨hr_2, h100_2, hM_2, F_2⟩ := q_2
  have hX_2 := hX.fr F_2 (by decide)
  have h63_2 := (F_2 63 (by decide)).trans h63
  replace hr_2 := hr_2.symm
  subst hr_2
  refine m_icmp_eq (pc' := 1046) (tgt := 1073) C dL_law_1043 (by decide) rfl (fun c_1043 => ?_) (fun c_1043 => ?_)
  · refine m_wid (k := cells + 1) (q := slots + 6) (by omega) (by omega) ?_
    refine m_lv [0, 1, 2, 3, 4] rfl ?_
    exact kk _ ⟨⟨_, _, _, _, _, _, _, _, hX_2, hM_2⟩, ⟨_, h63_2⟩⟩
  · exact absurd rfl c_1043
set_option maxHeartbeats 4000000 in
set_option maxRecDepth 100000 in
theorem law_17 {p : Program} {l : Launch} {e : Env} {s : State} {m : MethodId} {args : Array Value} {below : List Frame} {meth : Method} {c : Code} {cells slots : Nat} {Q : State → Prop} {D : va_G} {cy : Nat → ClassId} {ad : Nat → Nat} {A : Nat → Prop} {M : Nat → va_E} (C : mC p s m args c cL_law 7 RL GT D cy ad 64 A) (hst9 : l.stackTraces = false) (hz9 : zK A s s.heap) (hx9 : xK s) {b L : Nat} {xs : Nat → Int32} (hS9 : va_X b L xs s s.heap) (hb1 : b < s.heap.size) (hb2 : ¬ A b) {i : Nat} (hi : i + 6 ≤ L) (hL : L ≤ 3072) (hIS : isS cy ad M) (hcs : cells + 1 ≤ 601024 ∧ slots + 6 ≤ 7293034) (kk : ∀ M' : Nat → va_E, isS cy ad M' → mW p l e { frames := 10, cells := 601024, slots := 7293034, locals := 396 } s m args below meth c D A 7 (cells + 1) (slots + 6) Q ad 64 M' 1073 [(0, (.ref b)), (1, .ref (ad 0)), (2, .ref (ad 52)), (3, .ref (ad 63)), (4, .int (nI i))] []) : mW p l e { frames := 10, cells := 601024, slots := 7293034, locals := 396 } s m args below meth c D A 7 cells slots Q ad 64 M 1048 [(0, (.ref b)), (1, .ref (ad 0)), (2, .ref (ad 52)), (3, .ref (ad 63)), (4, .int (nI i))] [] := by
  obtain ⟨⟨T, ys, cnt, lim, O, B, fp, ot, hX, hM⟩, f0, h63⟩ := hIS
  refine m_aload_n (pc' := 1049) C dL_law_1048 rfl 1 rfl rfl ?_
  refine m_aload_n (pc' := 1050) C dL_law_1049 rfl 0 rfl rfl ?_
  refine m_iload (pc' := 1052) C dL_law_1050 4 rfl rfl ?_
  refine m_iconst (pc' := 1053) (v := nI 1) C dL_law_1052 (by decide) rfl ?_
  refine m_iadd (pc' := 1054) (v := nI (i + 1)) C dL_law_1053 (nI_add _ _) rfl ?_
  refine m_sald (pc' := 1055) (v := xs (i + 1)) C hS9 hb1 hb2 (vp_in_nI (by omega) (by omega)) (by rw [nI_clamp (by omega)]) dL_law_1054 rfl ?_
  obtain ⟨h1, h2, h3, h4, ⟨en, tk, od, hps⟩, h6, h7, h8, h9, h10, h11, h12, h13, h14, h15⟩ := id hX
  obtain ⟨p1, p2, p3, p4, p5⟩ := id hps
  refine m_callVi (pc' := 1058) (As := [.int (xs (i + 1))]) (rest := []) C (kX11_data C.2.2.1 (by decide) h2 h8 (xs (i + 1))) (cwV 1 C.1.2.2.2.2 (goodVL tm_3_163 tm_3_164 tm_3_165 tm_1_1 tm_3_166) rfl rfl rfl (by decide +kernel) ⟨by decide, by decide⟩) (by decide) h2 rfl rfl rfl (Nat.le_of_ble_eq_true rfl) dL_law_1055 rfl ⟨by show _ ≤ 601024; omega, by show _ ≤ 7293034; omega⟩ (fun r_1 M1 q_1 => ?_)
  obtain ⟨e_1, q4⟩ := q_1
  replace q4 := q4.symm
  subst q4
  rw [List.take_of_length_le h9] at e_1
  replace e_1 := e_1.symm
  subst e_1
  refine m_aload_n (pc' := 1059) C dL_law_1058 rfl 2 rfl rfl ?_
  refine m_aload_n (pc' := 1060) C dL_law_1059 rfl 0 rfl rfl ?_
  refine m_iload (pc' := 1062) C dL_law_1060 4 rfl rfl ?_
  refine m_iconst (pc' := 1063) (v := nI 1) C dL_law_1062 (by decide) rfl ?_
  refine m_iadd (pc' := 1064) (v := nI (i + 1)) C dL_law_1063 (nI_add _ _) rfl ?_
  refine m_sald (pc' := 1065) (v := xs (i + 1)) C hS9 hb1 hb2 (vp_in_nI (by omega) (by omega)) (by rw [nI_clamp (by omega)]) dL_law_1064 rfl ?_
  refine m_callVi (pc' := 1068) (As := [.int (xs (i + 1))]) (rest := [.int (rowAt B (xs (i + 1)))]) C (kX12_data C.2.2.1 (by decide) (by decide) hM (xs (i + 1))) (cwV 1 C.1.2.2.2.2 (goodVL tm_6_152 tm_6_153 tm_6_154 tm_1_13 tm_6_155) rfl rfl rfl (by decide +kernel) ⟨by decide, by decide⟩) (by decide) hM.1 rfl rfl rfl (Nat.le_of_ble_eq_true rfl) dL_law_1065 rfl ⟨by show _ ≤ 601024; omega, by show _ ≤ 7293034; omega⟩ (fun r_2 M2 q_2 => ?_)
  obtain ⟨hr_2, h100_2, hM_2, F_2⟩ := q_2
  have hX_2 := hX.fr F_2 (by decide)
  have h63_2 := (F_2 63 (by decide)).trans h63
  replace hr_2 := hr_2.symm
  subst hr_2
  refine m_icmp_eq (pc' := 1071) (tgt := 1073) C dL_law_1068 (by decide) rfl (fun c_1068 => ?_) (fun c_1068 => ?_)
  · refine m_wid (k := cells + 1) (q := slots + 6) (by omega) (by omega) ?_
    refine m_lv [0, 1, 2, 3, 4] rfl ?_
    exact kk _ ⟨⟨_, _, _, _, _, _, _, _, hX_2, hM_2⟩, ⟨_, h63_2⟩⟩
  · exact absurd rfl c_1068
