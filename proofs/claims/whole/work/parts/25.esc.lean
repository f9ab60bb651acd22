set_option maxHeartbeats 4000000 in
set_option maxRecDepth 100000 in
theorem kX3_meaningOf {l : Launch} {D : va_G} {cy : Nat → ClassId} {ad : Nat → Nat} {n : Nat} {A : Nat → Prop} (hI : mI ad n A) {M : Nat → va_E} {T : List Nat} {i : Nat} (h256 : ∀ x ∈ T, x < 256) : mMi l yX3_meaningOf (gW yX3_meaningOf cX3_meaningOf 1 (some .int)) { frames := 0, cells := 0, slots := 0, locals := 0 } D cy ad n A [.int (chAt T i)] M (fun res M' => res = escI (T.getD i 0) ∧ M' = M) := by
  refine m_entry (cc := cX3_meaningOf) (maxL := 1) (ret := (some .int)) (own := RX3) (lv := [(0, .int (chAt T i))]) hI (by decide) rfl rfl (Nat.le_of_ble_eq_true rfl) rfl (fun pX eX sX mX aX bX tX cX C hrt0 hlk0 => ?_)
  refine m_iload_n (pc' := 1) C dX3_meaningOf_0 rfl 0 rfl rfl ?_
  refine dite (chAt T i = nI 92) (fun s1_92 => ?_) (fun s1_92 => ?_)
  · have e9 : T.getD i 0 = 92 := (chAt_eq h256 (by decide) (by decide)).mp s1_92
    refine m_tab (off := 123) (tgt := 124) C dX3_meaningOf_1 (by decide) (by rw [s1_92]; decide) (by decide) ?_
    refine m_bipush (pc' := 126) (v := nI 92) C dX3_meaningOf_124 (by decide) rfl ?_
    refine m_iret C hrt0 hlk0 rfl dX3_meaningOf_126 ?_
    exact ⟨by unfold escI; rw [e9]; rfl, rfl⟩
  refine dite (chAt T i = nI 97) (fun s1_97 => ?_) (fun s1_97 => ?_)
  · have e9 : T.getD i 0 = 97 := (chAt_eq h256 (by decide) (by decide)).mp s1_97
    refine m_tab (off := 126) (tgt := 127) C dX3_meaningOf_1 (by decide) (by rw [s1_97]; decide) (by decide) ?_
    refine m_bipush (pc' := 129) (v := nI 7) C dX3_meaningOf_127 (by decide) rfl ?_
    refine m_iret C hrt0 hlk0 rfl dX3_meaningOf_129 ?_
    exact ⟨by unfold escI; rw [e9]; rfl, rfl⟩
  refine dite (chAt T i = nI 98) (fun s1_98 => ?_) (fun s1_98 => ?_)
  · have e9 : T.getD i 0 = 98 := (chAt_eq h256 (by decide) (by decide)).mp s1_98
    refine m_tab (off := 129) (tgt := 130) C dX3_meaningOf_1 (by decide) (by rw [s1_98]; decide) (by decide) ?_
    refine m_bipush (pc' := 132) (v := nI 8) C dX3_meaningOf_130 (by decide) rfl ?_
    refine m_iret C hrt0 hlk0 rfl dX3_meaningOf_132 ?_
    exact ⟨by unfold escI; rw [e9]; rfl, rfl⟩
  refine dite (chAt T i = nI 102) (fun s1_102 => ?_) (fun s1_102 => ?_)
  · have e9 : T.getD i 0 = 102 := (chAt_eq h256 (by decide) (by decide)).mp s1_102
    refine m_tab (off := 132) (tgt := 133) C dX3_meaningOf_1 (by decide) (by rw [s1_102]; decide) (by decide) ?_
    refine m_bipush (pc' := 135) (v := nI 12) C dX3_meaningOf_133 (by decide) rfl ?_
    refine m_iret C hrt0 hlk0 rfl dX3_meaningOf_135 ?_
    exact ⟨by unfold escI; rw [e9]; rfl, rfl⟩
  refine dite (chAt T i = nI 110) (fun s1_110 => ?_) (fun s1_110 => ?_)
  · have e9 : T.getD i 0 = 110 := (chAt_eq h256 (by decide) (by decide)).mp s1_110
    refine m_tab (off := 135) (tgt := 136) C dX3_meaningOf_1 (by decide) (by rw [s1_110]; decide) (by decide) ?_
    refine m_bipush (pc' := 138) (v := nI 10) C dX3_meaningOf_136 (by decide) rfl ?_
    refine m_iret C hrt0 hlk0 rfl dX3_meaningOf_138 ?_
    exact ⟨by unfold escI; rw [e9]; rfl, rfl⟩
  refine dite (chAt T i = nI 114) (fun s1_114 => ?_) (fun s1_114 => ?_)
  · have e9 : T.getD i 0 = 114 := (chAt_eq h256 (by decide) (by decide)).mp s1_114
    refine m_tab (off := 138) (tgt := 139) C dX3_meaningOf_1 (by decide) (by rw [s1_114]; decide) (by decide) ?_
    refine m_bipush (pc' := 141) (v := nI 13) C dX3_meaningOf_139 (by decide) rfl ?_
    refine m_iret C hrt0 hlk0 rfl dX3_meaningOf_141 ?_
    exact ⟨by unfold escI; rw [e9]; rfl, rfl⟩
  refine dite (chAt T i = nI 116) (fun s1_116 => ?_) (fun s1_116 => ?_)
  · have e9 : T.getD i 0 = 116 := (chAt_eq h256 (by decide) (by decide)).mp s1_116
    refine m_tab (off := 141) (tgt := 142) C dX3_meaningOf_1 (by decide) (by rw [s1_116]; decide) (by decide) ?_
    refine m_bipush (pc' := 144) (v := nI 9) C dX3_meaningOf_142 (by decide) rfl ?_
    refine m_iret C hrt0 hlk0 rfl dX3_meaningOf_144 ?_
    exact ⟨by unfold escI; rw [e9]; rfl, rfl⟩
  refine dite (chAt T i = nI 118) (fun s1_118 => ?_) (fun s1_118 => ?_)
  · have e9 : T.getD i 0 = 118 := (chAt_eq h256 (by decide) (by decide)).mp s1_118
    refine m_tab (off := 144) (tgt := 145) C dX3_meaningOf_1 (by decide) (by rw [s1_118]; decide) (by decide) ?_
    refine m_bipush (pc' := 147) (v := nI 11) C dX3_meaningOf_145 (by decide) rfl ?_
    refine m_iret C hrt0 hlk0 rfl dX3_meaningOf_147 ?_
    exact ⟨by unfold escI; rw [e9]; rfl, rfl⟩
  have e9 : escC (T.getD i 0) = 0 := by
    unfold escC
    rw [if_neg (fun q => s1_92 ((chAt_eq h256 (by decide) (by decide)).mpr q))]
    rw [if_neg (fun q => s1_97 ((chAt_eq h256 (by decide) (by decide)).mpr q))]
    rw [if_neg (fun q => s1_98 ((chAt_eq h256 (by decide) (by decide)).mpr q))]
    rw [if_neg (fun q => s1_102 ((chAt_eq h256 (by decide) (by decide)).mpr q))]
    rw [if_neg (fun q => s1_110 ((chAt_eq h256 (by decide) (by decide)).mpr q))]
    rw [if_neg (fun q => s1_114 ((chAt_eq h256 (by decide) (by decide)).mpr q))]
    rw [if_neg (fun q => s1_116 ((chAt_eq h256 (by decide) (by decide)).mpr q))]
    rw [if_neg (fun q => s1_118 ((chAt_eq h256 (by decide) (by decide)).mpr q))]
  refine m_tab (off := 147) (tgt := 148) C dX3_meaningOf_1 (by decide) (tab_def [92, 97, 98, 102, 110, 114, 116, 118] (by decide) (by decide) (nmc (lv_neT s1_92 (by decide)) (nmc (lv_neT s1_97 (by decide)) (nmc (lv_neT s1_98 (by decide)) (nmc (lv_neT s1_102 (by decide)) (nmc (lv_neT s1_110 (by decide)) (nmc (lv_neT s1_114 (by decide)) (nmc (lv_neT s1_116 (by decide)) (nmc (lv_neT s1_118 (by decide)) List.not_mem_nil))))))))) (by decide) ?_
  refine m_iconst (pc' := 149) (v := (-1)) C dX3_meaningOf_148 (by decide) rfl ?_
  refine m_iret C hrt0 hlk0 rfl dX3_meaningOf_149 ?_
  exact ⟨by unfold escI; rw [e9]; rfl, rfl⟩
set_option maxHeartbeats 4000000 in
set_option maxRecDepth 100000 in
theorem kX3_value {l : Launch} {D : va_G} {cy : Nat → ClassId} {ad : Nat → Nat} {n : Nat} {A : Nat → Prop} (hI : mI ad n A) {M : Nat → va_E} {eo : Nat} {ev ee : Int32} (heo : eo < n) (he : M eo = .inr (3, [.int ev, .int ee])) : mMi l yX3_value (gW yX3_value cX3_value 1 (some .int)) { frames := 0, cells := 0, slots := 0, locals := 0 } D cy ad n A [.ref (ad eo)] M (fun res M' => res = ev ∧ M' = M) := by
  refine m_entry (cc := cX3_value) (maxL := 1) (ret := (some .int)) (own := RX3) (lv := [(0, .ref (ad eo))]) hI (by decide) rfl rfl (Nat.le_of_ble_eq_true rfl) rfl (fun pX eX sX mX aX bX tX cX C hrt0 hlk0 => ?_)
  refine m_aload_n (pc' := 1) C dX3_value_0 rfl 0 rfl rfl ?_
  refine m_get (pc' := 4) C eo heo he rfl inW_X3 0 (by decide) (gW_of tm_1_137) rfl rfl dX3_value_1 rfl ?_
  exact m_iret C hrt0 hlk0 rfl dX3_value_4 ⟨rfl, rfl⟩
set_option maxHeartbeats 4000000 in
set_option maxRecDepth 100000 in
theorem kX3_end {l : Launch} {D : va_G} {cy : Nat → ClassId} {ad : Nat → Nat} {n : Nat} {A : Nat → Prop} (hI : mI ad n A) {M : Nat → va_E} {eo : Nat} {ev ee : Int32} (heo : eo < n) (he : M eo = .inr (3, [.int ev, .int ee])) : mMi l yX3_end (gW yX3_end cX3_end 1 (some .int)) { frames := 0, cells := 0, slots := 0, locals := 0 } D cy ad n A [.ref (ad eo)] M (fun res M' => res = ee ∧ M' = M) := by
  refine m_entry (cc := cX3_end) (maxL := 1) (ret := (some .int)) (own := RX3) (lv := [(0, .ref (ad eo))]) hI (by decide) rfl rfl (Nat.le_of_ble_eq_true rfl) rfl (fun pX eX sX mX aX bX tX cX C hrt0 hlk0 => ?_)
  refine m_aload_n (pc' := 1) C dX3_end_0 rfl 0 rfl rfl ?_
  refine m_get (pc' := 4) C eo heo he rfl inW_X3 1 (by decide) (gW_of tm_1_138) rfl rfl dX3_end_1 rfl ?_
  exact m_iret C hrt0 hlk0 rfl dX3_end_4 ⟨rfl, rfl⟩
set_option maxHeartbeats 4000000 in
set_option maxRecDepth 100000 in
theorem kX3_readLetter {l : Launch} {D : va_G} {cy : Nat → ClassId} {ad : Nat → Nat} {n : Nat} {A : Nat → Prop} (hI : mI ad n A) {M : Nat → va_E} {r ra : Nat} {T : List Nat} (ht : isRow cy ad n M r ra 80 80 T) (hT : T.length ≤ 80) {eo : Nat} {ev ee : Int32} (heo : eo < n) (he : M eo = .inr (3, [.int ev, .int ee])) (hdj : eo ≠ r ∧ eo ≠ ra) {i : Nat} (hi : i ≤ 100) : mMi l yX3_readLetter (gW yX3_readLetter cX3_readLetter 3 (some .boolean)) { frames := 1, cells := 0, slots := 0, locals := 21 } D cy ad n A [.ref (ad eo), .ref (ad r), .int (nI i)] M (fun res M' => res = bI (escC (T.getD i 0) != 0) ∧ M' eo = .inr (3, [.int (escI (T.getD i 0)), .int (nI (i + 1))]) ∧ Fr [eo] M M') := by
  have h256 : ∀ x ∈ T, x < 256 := ht.2.2.2.2.1
  refine m_entry (cc := cX3_readLetter) (maxL := 3) (ret := (some .boolean)) (own := RX3) (lv := [(0, .ref (ad eo)), (1, .ref (ad r)), (2, .int (nI i))]) hI (by decide) rfl rfl (Nat.le_of_ble_eq_true rfl) rfl (fun pX eX sX mX aX bX tX cX C hrt0 hlk0 => ?_)
  refine m_aload_n (pc' := 1) C dX3_readLetter_0 rfl 0 rfl rfl ?_
  refine m_aload_n (pc' := 2) C dX3_readLetter_1 rfl 1 rfl rfl ?_
  refine m_iload_n (pc' := 3) C dX3_readLetter_2 rfl 2 rfl rfl ?_
  refine m_callVi (pc' := 6) (As := [.int (nI i)]) (rest := [.ref (ad eo)]) C (kX9_at hI ht (nI i)) (cwV 1 C.1.2.2.2.2 (goodV tm_2_139 tm_2_128 tm_2_129 tm_1_3 tm_2_130) rfl rfl rfl (by decide +kernel) ⟨by decide, by decide⟩) ht.1 ht.ob rfl rfl rfl (Nat.le_of_ble_eq_true rfl) dX3_readLetter_3 rfl ⟨by decide, by decide⟩ (fun x_1 N_1 q_1 => ?_)
  obtain ⟨e_1, E_1⟩ := q_1
  replace E_1 := E_1.symm
  subst E_1
  replace e_1 : x_1 = chAt T i := e_1.trans (rowAt_full hT (by omega) (by omega))
  replace e_1 := e_1.symm
  subst e_1
  refine m_callSi (pc' := 9) (As := [.int (chAt T i)]) (rest := [.ref (ad eo)]) C (kX3_meaningOf hI (i := i) h256) (cwS 1 C.1.2.2.2.2 (goodS tm_2_140 tm_2_141 tm_1_8 tm_2_142) rfl rfl rfl (by decide +kernel) ⟨by decide, by decide⟩) rfl rfl (Nat.le_of_ble_eq_true rfl) dX3_readLetter_6 rfl ⟨by decide, by decide⟩ (fun x_2 N_2 q_2 => ?_)
  obtain ⟨e_2, E_2⟩ := q_2
  replace E_2 := E_2.symm
  subst E_2
  replace e_2 := e_2.symm
  subst e_2
  refine m_put (pc' := 12) (ty := .int) (fs' := [.int (escI (T.getD i 0)), .int (ee)]) C eo heo he rfl inW_X3 tyX3 tyX3_ok nmX3 0 (by decide) (gW_of tm_1_137) rfl rfl (by decide +kernel) rfl rfl (by simp) rfl dX3_readLetter_9 rfl (fun M3 g_3 F_3 => ?_)
  refine m_aload_n (pc' := 13) C dX3_readLetter_12 rfl 0 rfl rfl ?_
  refine m_iload_n (pc' := 14) C dX3_readLetter_13 rfl 2 rfl rfl ?_
  refine m_iconst (pc' := 15) (v := nI 1) C dX3_readLetter_14 (by decide) rfl ?_
  refine m_iadd (pc' := 16) (v := nI (i + 1)) C dX3_readLetter_15 (nI_add _ _) rfl ?_
  refine m_put (pc' := 19) (ty := .int) (fs' := [.int (escI (T.getD i 0)), .int (nI (i + 1))]) C eo heo g_3 rfl inW_X3 tyX3 tyX3_ok nmX3 1 (by decide) (gW_of tm_1_138) rfl rfl (by decide +kernel) rfl rfl (by simp) rfl dX3_readLetter_16 rfl (fun M4 g_4 F_4 => ?_)
  refine m_aload_n (pc' := 20) C dX3_readLetter_19 rfl 0 rfl rfl ?_
  refine m_get (pc' := 23) C eo heo g_4 rfl inW_X3 0 (by decide) (gW_of tm_1_137) rfl rfl dX3_readLetter_20 rfl ?_
  refine m_iconst (pc' := 24) (v := (-1)) C dX3_readLetter_23 (by decide) rfl ?_
  refine m_icmp_eq (pc' := 27) (tgt := 31) C dX3_readLetter_24 (by decide) rfl (fun c_24 => ?_) (fun c_24 => ?_)
  · have hz : escC (T.getD i 0) = 0 := by
      unfold escI at c_24
      by_cases q : escC (T.getD i 0) = 0
      · exact q
      · rw [if_neg q] at c_24; exact absurd c_24.symm (neg1_nI (by have := escC_lt (T.getD i 0); omega))
    refine m_iconst (pc' := 32) (v := bI false) C dX3_readLetter_31 (by decide) rfl ?_
    refine m_iret C hrt0 hlk0 (nar_z _) dX3_readLetter_32 ?_
    refine ⟨?_, g_4, ((F_3.sub (by simp)).tr (F_4.sub (by simp)))⟩
    first | (rw [hz]; rfl) | (rw [bne_iff_ne.mpr hz])
  · have hz : ¬ escC (T.getD i 0) = 0 := fun q => c_24 (by unfold escI; rw [if_pos q])
    refine m_iconst (pc' := 28) (v := bI true) C dX3_readLetter_27 (by decide) rfl ?_
    refine m_goto (tgt := 32) C dX3_readLetter_28 (by decide) ?_
    refine m_iret C hrt0 hlk0 (nar_z _) dX3_readLetter_32 ?_
    refine ⟨?_, g_4, ((F_3.sub (by simp)).tr (F_4.sub (by simp)))⟩
    first | (rw [hz]; rfl) | (rw [bne_iff_ne.mpr hz])
set_option maxHeartbeats 4000000 in
set_option maxRecDepth 100000 in
theorem kX3_readOctal {l : Launch} {D : va_G} {cy : Nat → ClassId} {ad : Nat → Nat} {n : Nat} {A : Nat → Prop} (hI : mI ad n A) {M : Nat → va_E} {r ra : Nat} {T : List Nat} (ht : isRow cy ad n M r ra 80 80 T) (hT : T.length ≤ 80) {eo : Nat} {ev ee : Int32} (heo : eo < n) (he : M eo = .inr (3, [.int ev, .int ee])) (hdj : eo ≠ r ∧ eo ≠ ra) {i : Nat} (hi : i ≤ 101) : mMv l yX3_readOctal (gW yX3_readOctal cX3_readOctal 4 none) { frames := 1, cells := 0, slots := 0, locals := 22 } D cy ad n A [.ref (ad eo), .ref (ad r), .int (nI i)] M (fun M' => M' eo = .inr (3, [.int (nI (valN 8 (oct3 T i))), .int (nI (i + (oct3 T i).length))]) ∧ Fr [eo] M M') := by
  have h256 : ∀ x ∈ T, x < 256 := ht.2.2.2.2.1
  refine m_entry (cc := cX3_readOctal) (maxL := 4) (ret := none) (own := RX3) (lv := [(0, .ref (ad eo)), (1, .ref (ad r)), (2, .int (nI i))]) hI (by decide) rfl rfl (Nat.le_of_ble_eq_true rfl) rfl (fun pX eX sX mX aX bX tX cX C hrt0 hlk0 => ?_)
  refine m_aload_n (pc' := 1) C dX3_readOctal_0 rfl 0 rfl rfl ?_
  refine m_iconst (pc' := 2) (v := nI 0) C dX3_readOctal_1 (by decide) rfl ?_
  refine m_put (pc' := 5) (ty := .int) (fs' := [.int (nI (valN 8 [])), .int (ee)]) C eo heo he rfl inW_X3 tyX3 tyX3_ok nmX3 0 (by decide) (gW_of tm_1_137) rfl rfl (by decide +kernel) rfl rfl (by simp) rfl dX3_readOctal_2 rfl (fun M1 g_1 F_1 => ?_)
  refine m_aload_n (pc' := 6) C dX3_readOctal_5 rfl 0 rfl rfl ?_
  refine m_iload_n (pc' := 7) C dX3_readOctal_6 rfl 2 rfl rfl ?_
  refine m_put (pc' := 10) (ty := .int) (fs' := [.int (nI (valN 8 [])), .int (nI i)]) C eo heo g_1 rfl inW_X3 tyX3 tyX3_ok nmX3 1 (by decide) (gW_of tm_1_138) rfl rfl (by decide +kernel) rfl rfl (by simp) rfl dX3_readOctal_7 rfl (fun M2 g_2 F_2 => ?_)
  refine m_iconst (pc' := 11) (v := nI 0) C dX3_readOctal_10 (by decide) rfl ?_
  refine m_istore_n (pc' := 12) (lv' := [(3, .int (nI 0)), (0, .ref (ad eo)), (1, .ref (ad r)), (2, .int (nI i))]) C dX3_readOctal_11 rfl (by decide) rfl rfl ?_
  refine m_lv [1, 2, 3, 0] rfl ?_
  refine m_loop (σ := Nat × List Nat × (Nat → va_E)) (fun a => a.2.2) (fun a => [(0, .ref (ad eo)), (1, .ref (ad r)), (2, .int (nI i)), (3, .int (nI a.1))]) (fun a => a.2.1.length = a.1 ∧ oct3 T i = a.2.1 ++ dgr 8 T (i + a.1) (3 - a.1) ∧ (∀ x ∈ a.2.1, x < 8) ∧ a.2.2 eo = .inr (3, [.int (nI (valN 8 a.2.1)), .int (nI (i + a.1))]) ∧ Fr [eo] M a.2.2) (fun a => 3 - a.1) (0, [], M2) (⟨rfl, by simp [oct3, dgr], by simp, g_2, ((F_1.sub (by simp)).tr (F_2.sub (by simp)))⟩) ?_
  rintro ⟨k, ps, Mk⟩ hinv ih
  dsimp only at hinv ih ⊢
  obtain ⟨i1, i2, i3, i5, i6⟩ := hinv
  have hk3 : k ≤ 3 := by rw [← i1]; have h9 := oct3_len T i; rw [i2, List.length_append] at h9; omega
  have hvb : valN 8 ps < 2 ^ 9 := Nat.lt_of_lt_of_le (valN_lt ps i3) (by rw [i1]; exact Nat.pow_le_pow_right (by decide) hk3)
  refine m_iload_n (pc' := 13) C dX3_readOctal_12 rfl 3 rfl rfl ?_
  refine m_iconst (pc' := 14) (v := nI 3) C dX3_readOctal_13 (by decide) rfl ?_
  refine m_icmp_ge (pc' := 17) (tgt := 75) C dX3_readOctal_14 (by decide) rfl (fun c_14 => ?_) (fun c_14 => ?_)
  · have hk : 3 ≤ k := by
      rcases Nat.lt_or_ge k 3 with q | q
      · exact absurd c_14 (nI_ge q (by omega))
      · exact q
    have hds : oct3 T i = ps := by rw [i2, show 3 - k = 0 by omega, dgr_0, List.append_nil]
    refine m_vret C hrt0 hlk0 dX3_readOctal_75 ?_
    rw [hds, i1]
    exact ⟨i5, (i6.sub (by simp))⟩
  · have hlt : k < 3 := by
      rcases Nat.lt_or_ge k 3 with q | q
      · exact q
      · exact absurd (nI_le q (by omega)) c_14
    refine m_aload_n (pc' := 18) C dX3_readOctal_17 rfl 1 rfl rfl ?_
    refine m_aload_n (pc' := 19) C dX3_readOctal_18 rfl 0 rfl rfl ?_
    refine m_get (pc' := 22) C eo heo i5 rfl inW_X3 1 (by decide) (gW_of tm_1_138) rfl rfl dX3_readOctal_19 rfl ?_
    have Rr_3 := ht.fr i6 (by simp <;> omega) (by simp <;> omega)
    refine m_callVi (pc' := 25) (As := [.int (nI (i + k))]) (rest := []) C (kX9_at hI Rr_3 (nI (i + k))) (cwV 1 C.1.2.2.2.2 (goodV tm_2_139 tm_2_128 tm_2_129 tm_1_3 tm_2_130) rfl rfl rfl (by decide +kernel) ⟨by decide, by decide⟩) Rr_3.1 Rr_3.ob rfl rfl rfl (Nat.le_of_ble_eq_true rfl) dX3_readOctal_22 rfl ⟨by decide, by decide⟩ (fun x_4 N_4 q_4 => ?_)
    obtain ⟨e_4, E_4⟩ := q_4
    replace E_4 := E_4.symm
    subst E_4
    replace e_4 : x_4 = chAt T (i + k) := e_4.trans (rowAt_full hT (by omega) (by omega))
    replace e_4 := e_4.symm
    subst e_4
    refine m_bipush (pc' := 27) (v := nI 8) C dX3_readOctal_25 (by decide) rfl ?_
    refine m_callNi (pc' := 30) (As := [.int (chAt T (i + k)), .int (nI 8)]) (rest := []) C (kX11_digitOf hI (chAt T (i + k)) (nI 8)) ⟨va_cnB 2 C.1.2.2.2.2 (goodN tm_2_149) rfl rfl rfl (C.2.1.2 (RX3, 35, yX11_digitOf) (List.mem_of_getElem? (i := 0) rfl)) (C.1.2.2.2.2 _ (gW_of tm_1_1)) (by decide +kernel) ⟨by decide, by decide⟩, C.1.2.2.2.2 _ (gW_of tm_2_148), trivial⟩ rfl rfl (Nat.le_of_ble_eq_true rfl) dX3_readOctal_27 rfl ⟨by decide, by decide⟩ (fun x_5 N_5 q_5 => ?_)
    obtain ⟨e_5, E_5⟩ := q_5
    replace E_5 := E_5.symm
    subst E_5
    replace e_5 : x_5 = dI (T.getD (i + k) 0) 8 := e_5.trans (digI_at (by omega) h256)
    replace e_5 := e_5.symm
    subst e_5
    refine m_iconst (pc' := 31) (v := (-1)) C dX3_readOctal_30 (by decide) rfl ?_
    refine m_icmp_eq (pc' := 34) (tgt := 75) C dX3_readOctal_31 (by decide) rfl (fun c_31 => ?_) (fun c_31 => ?_)
    · have hdv := (dI_m1 (by decide)).mp c_31
      have hds : oct3 T i = ps := by rw [i2, dgr_n hdv, List.append_nil]
      refine m_vret C hrt0 hlk0 dX3_readOctal_75 ?_
      rw [hds, i1]
      exact ⟨i5, (i6.sub (by simp))⟩
    · have hdv : dvN (T.getD (i + k) 0) < 8 := Classical.not_not.mp (fun q => c_31 ((dI_m1 (by decide)).mpr q))
      refine m_aload_n (pc' := 35) C dX3_readOctal_34 rfl 0 rfl rfl ?_
      refine m_aload_n (pc' := 36) C dX3_readOctal_35 rfl 0 rfl rfl ?_
      refine m_get (pc' := 39) C eo heo i5 rfl inW_X3 0 (by decide) (gW_of tm_1_137) rfl rfl dX3_readOctal_36 rfl ?_
      refine m_bipush (pc' := 41) (v := nI 8) C dX3_readOctal_39 (by decide) rfl ?_
      refine m_imul (pc' := 42) (v := nI ((valN 8 ps) * 8)) C dX3_readOctal_41 (pk_mul _ _) rfl ?_
      refine m_aload_n (pc' := 43) C dX3_readOctal_42 rfl 1 rfl rfl ?_
      refine m_aload_n (pc' := 44) C dX3_readOctal_43 rfl 0 rfl rfl ?_
      refine m_get (pc' := 47) C eo heo i5 rfl inW_X3 1 (by decide) (gW_of tm_1_138) rfl rfl dX3_readOctal_44 rfl ?_
      refine m_callVi (pc' := 50) (As := [.int (nI (i + k))]) (rest := [.int (nI ((valN 8 ps) * 8)), .ref (ad eo)]) C (kX9_at hI Rr_3 (nI (i + k))) (cwV 1 C.1.2.2.2.2 (goodV tm_2_139 tm_2_128 tm_2_129 tm_1_3 tm_2_130) rfl rfl rfl (by decide +kernel) ⟨by decide, by decide⟩) Rr_3.1 Rr_3.ob rfl rfl rfl (Nat.le_of_ble_eq_true rfl) dX3_readOctal_47 rfl ⟨by decide, by decide⟩ (fun x_6 N_6 q_6 => ?_)
      obtain ⟨e_6, E_6⟩ := q_6
      replace E_6 := E_6.symm
      subst E_6
      replace e_6 : x_6 = chAt T (i + k) := e_6.trans (rowAt_full hT (by omega) (by omega))
      replace e_6 := e_6.symm
      subst e_6
      refine m_bipush (pc' := 52) (v := nI 8) C dX3_readOctal_50 (by decide) rfl ?_
      refine m_callNi (pc' := 55) (As := [.int (chAt T (i + k)), .int (nI 8)]) (rest := [.int (nI ((valN 8 ps) * 8)), .ref (ad eo)]) C (kX11_digitOf hI (chAt T (i + k)) (nI 8)) ⟨va_cnB 2 C.1.2.2.2.2 (goodN tm_2_149) rfl rfl rfl (C.2.1.2 (RX3, 35, yX11_digitOf) (List.mem_of_getElem? (i := 0) rfl)) (C.1.2.2.2.2 _ (gW_of tm_1_1)) (by decide +kernel) ⟨by decide, by decide⟩, C.1.2.2.2.2 _ (gW_of tm_2_148), trivial⟩ rfl rfl (Nat.le_of_ble_eq_true rfl) dX3_readOctal_52 rfl ⟨by decide, by decide⟩ (fun x_7 N_7 q_7 => ?_)
      obtain ⟨e_7, E_7⟩ := q_7
      replace E_7 := E_7.symm
      subst E_7
      replace e_7 : x_7 = nI (dvN (T.getD (i + k) 0)) := e_7.trans ((digI_at (by omega) h256).trans (by unfold dI; rw [if_pos hdv]))
      replace e_7 := e_7.symm
      subst e_7
      refine m_iadd (pc' := 56) (v := nI (valN 8 (ps ++ [dvN (T.getD (i + k) 0)]))) C dX3_readOctal_55 (by rw [nI_add, valN_s]) rfl ?_
      refine m_put (pc' := 59) (ty := .int) (fs' := [.int (nI (valN 8 (ps ++ [dvN (T.getD (i + k) 0)]))), .int (nI (i + k))]) C eo heo i5 rfl inW_X3 tyX3 tyX3_ok nmX3 0 (by decide) (gW_of tm_1_137) rfl rfl (by decide +kernel) rfl rfl (by simp) rfl dX3_readOctal_56 rfl (fun M8 g_8 F_8 => ?_)
      refine m_aload_n (pc' := 60) C dX3_readOctal_59 rfl 0 rfl rfl ?_
      refine m_dup (pc' := 61) C dX3_readOctal_60 rfl rfl ?_
      refine m_get (pc' := 64) C eo heo g_8 rfl inW_X3 1 (by decide) (gW_of tm_1_138) rfl rfl dX3_readOctal_61 rfl ?_
      refine m_iconst (pc' := 65) (v := nI 1) C dX3_readOctal_64 (by decide) rfl ?_
      refine m_iadd (pc' := 66) (v := nI (i + (k + 1))) C dX3_readOctal_65 (by rw [← Nat.add_assoc]; exact nI_add _ _) rfl ?_
      refine m_put (pc' := 69) (ty := .int) (fs' := [.int (nI (valN 8 (ps ++ [dvN (T.getD (i + k) 0)]))), .int (nI (i + (k + 1)))]) C eo heo g_8 rfl inW_X3 tyX3 tyX3_ok nmX3 1 (by decide) (gW_of tm_1_138) rfl rfl (by decide +kernel) rfl rfl (by simp) rfl dX3_readOctal_66 rfl (fun M9 g_9 F_9 => ?_)
      refine m_iinc (pc' := 72) (v := nI (k + 1)) (lv' := [(3, .int (nI (k + 1))), (0, .ref (ad eo)), (1, .ref (ad r)), (2, .int (nI i))]) C dX3_readOctal_69 (k := 3) rfl (nI_add _ _) (by decide) rfl rfl ?_
      refine m_goto (tgt := 12) C dX3_readOctal_72 (by decide) ?_
      refine m_lv [1, 2, 3, 0] rfl ?_
      exact ih (k + 1, ps ++ [dvN (T.getD (i + k) 0)], M9) (⟨by simp [i1], by rw [i2, show 3 - k = (3 - (k + 1)) + 1 by omega, dgr_s (by decide) hdv, List.append_assoc]; rfl, by intro x hx; rcases List.mem_append.mp hx with q | q; exact i3 x q; rw [List.mem_singleton.mp q]; exact hdv, g_9, (((i6.sub (by simp)).tr (F_8.sub (by simp))).tr (F_9.sub (by simp)))⟩) (by simp only; omega)
set_option maxHeartbeats 4000000 in
set_option maxRecDepth 100000 in
theorem kX3_readInFormat {l : Launch} {D : va_G} {cy : Nat → ClassId} {ad : Nat → Nat} {n : Nat} {A : Nat → Prop} (hI : mI ad n A) {M : Nat → va_E} {r ra : Nat} {T : List Nat} (ht : isRow cy ad n M r ra 80 80 T) (hT : T.length ≤ 80) {eo : Nat} {ev ee : Int32} (heo : eo < n) (he : M eo = .inr (3, [.int ev, .int ee])) (hdj : eo ≠ r ∧ eo ≠ ra) {i : Nat} (hi : i ≤ 100) : mMi l yX3_readInFormat (gW yX3_readInFormat cX3_readInFormat 3 (some .boolean)) { frames := 2, cells := 0, slots := 0, locals := 45 } D cy ad n A [.ref (ad eo), .ref (ad r), .int (nI i)] M (fun res M' => res = bI (escOk T i) ∧ M' eo = .inr (3, [.int (nI (escV T i)), .int (nI (escE T i))]) ∧ Fr [eo] M M') := by
  have h256 : ∀ x ∈ T, x < 256 := ht.2.2.2.2.1
  refine m_entry (cc := cX3_readInFormat) (maxL := 3) (ret := (some .boolean)) (own := RX3) (lv := [(0, .ref (ad eo)), (1, .ref (ad r)), (2, .int (nI i))]) hI (by decide) rfl rfl (Nat.le_of_ble_eq_true rfl) rfl (fun pX eX sX mX aX bX tX cX C hrt0 hlk0 => ?_)
  refine m_aload_n (pc' := 1) C dX3_readInFormat_0 rfl 0 rfl rfl ?_
  refine m_aload_n (pc' := 2) C dX3_readInFormat_1 rfl 1 rfl rfl ?_
  refine m_iload_n (pc' := 3) C dX3_readInFormat_2 rfl 2 rfl rfl ?_
  refine m_callVi (pc' := 6) (As := [.ref (ad r), .int (nI i)]) (rest := []) C (kX3_readLetter hI ht hT heo he hdj (by omega)) (cwV 2 C.1.2.2.2.2 (goodV tm_2_135 tm_2_137 tp_2 tm_1_8 tm_2_138) rfl rfl rfl (by decide +kernel) ⟨by decide, by decide⟩) heo he rfl rfl rfl (Nat.le_of_ble_eq_true rfl) dX3_readInFormat_3 rfl ⟨by decide, by decide⟩ (fun x_1 M1 q_1 => ?_)
  obtain ⟨e_1, g_1, F_1⟩ := q_1
  replace e_1 := e_1.symm
  subst e_1
  refine m_if_eq (pc' := 9) (tgt := 11) C dX3_readInFormat_6 (by decide) rfl (fun c_6 => ?_) (fun c_6 => ?_)
  · have hz : escC (T.getD i 0) = 0 := by have h9 := (bI_0 _).mp c_6; exact Classical.not_not.mp (fun q => by rw [bne_iff_ne.mpr q] at h9; cases h9)
    refine m_aload_n (pc' := 12) C dX3_readInFormat_11 rfl 0 rfl rfl ?_
    refine m_aload_n (pc' := 13) C dX3_readInFormat_12 rfl 1 rfl rfl ?_
    refine m_iload_n (pc' := 14) C dX3_readInFormat_13 rfl 2 rfl rfl ?_
    have Rr_3 := ht.fr F_1 (by simp <;> omega) (by simp <;> omega)
    refine m_callVv (pc' := 17) (As := [.ref (ad r), .int (nI i)]) (rest := []) C (kX3_readOctal hI Rr_3 hT heo g_1 hdj (by omega)) (cwV 2 C.1.2.2.2.2 (goodV tm_2_143 tm_2_145 tp_3 tm_1_8 tm_2_146) rfl rfl rfl (by decide +kernel) ⟨by decide, by decide⟩) heo g_1 rfl rfl rfl (Nat.le_of_ble_eq_true rfl) dX3_readInFormat_14 rfl ⟨by decide, by decide⟩ (fun M2 q_2 => ?_)
    obtain ⟨g_2, F_2⟩ := q_2
    refine m_aload_n (pc' := 18) C dX3_readInFormat_17 rfl 0 rfl rfl ?_
    refine m_get (pc' := 21) C eo heo g_2 rfl inW_X3 1 (by decide) (gW_of tm_1_138) rfl rfl dX3_readInFormat_18 rfl ?_
    refine m_iload_n (pc' := 22) C dX3_readInFormat_21 rfl 2 rfl rfl ?_
    refine m_icmp_le (pc' := 25) (tgt := 29) C dX3_readInFormat_22 (by decide) rfl (fun c_22 => ?_) (fun c_22 => ?_)
    · have hl : oct3 T i = [] := by
        rcases Nat.eq_zero_or_pos (oct3 T i).length with q | q
        · exact List.length_eq_zero_iff.mp q
        · exact absurd c_22 (nI_ge (by omega) (by have := oct3_len T i; omega))
      refine m_iconst (pc' := 30) (v := bI false) C dX3_readInFormat_29 (by decide) rfl ?_
      refine m_iret C hrt0 hlk0 (nar_z _) dX3_readInFormat_30 ?_
      refine ⟨?_, by unfold escV escE; rw [if_pos hz, if_pos hz]; exact g_2, ((F_1.sub (by simp)).tr (F_2.sub (by simp)))⟩
      unfold escOk
      rw [hz]
      first | (rw [hl]; rfl) | (rw [bne_iff_ne.mpr hl]; rfl)
    · have hl : ¬ oct3 T i = [] := fun q => c_22 (by rw [q]; exact nI_le (by simp) (by omega))
      refine m_iconst (pc' := 26) (v := bI true) C dX3_readInFormat_25 (by decide) rfl ?_
      refine m_goto (tgt := 30) C dX3_readInFormat_26 (by decide) ?_
      refine m_iret C hrt0 hlk0 (nar_z _) dX3_readInFormat_30 ?_
      refine ⟨?_, by unfold escV escE; rw [if_pos hz, if_pos hz]; exact g_2, ((F_1.sub (by simp)).tr (F_2.sub (by simp)))⟩
      unfold escOk
      rw [hz]
      first | (rw [hl]; rfl) | (rw [bne_iff_ne.mpr hl]; rfl)
  · have hz : ¬ escC (T.getD i 0) = 0 := bne_iff_ne.mp (ts_of c_6)
    refine m_iconst (pc' := 10) (v := bI true) C dX3_readInFormat_9 (by decide) rfl ?_
    refine m_iret C hrt0 hlk0 (nar_z _) dX3_readInFormat_10 ?_
    refine ⟨?_, by unfold escV escE; rw [if_neg hz, if_neg hz, show nI (escC (T.getD i 0)) = escI (T.getD i 0) by unfold escI; rw [if_neg hz]]; exact g_1, (F_1.sub (by simp))⟩
    unfold escOk
    rw [bne_iff_ne.mpr hz]; rfl
