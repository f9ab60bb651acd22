set_option maxHeartbeats 4000000 in
set_option maxRecDepth 100000 in
theorem kX7_stop {l : Launch} {D : va_G} {cy : Nat → ClassId} {ad : Nat → Nat} {n : Nat} {A : Nat → Prop} (hI : mI ad n A) {M : Nat → va_E} (hn : 52 ≤ n) {tot i : Nat} (hr : M 47 = rdO ad (nI tot) (nI i)) : mMi l yX7_stop (gW yX7_stop cX7_stop 1 (some .int)) { frames := 0, cells := 0, slots := 0, locals := 0 } D cy ad n A [.ref (ad 47)] M (fun res M' => res = nI i ∧ M' = M) := by
  refine m_entry (cc := cX7_stop) (maxL := 1) (ret := (some .int)) (own := RX7) (lv := [(0, .ref (ad 47))]) hI (by decide) rfl rfl (Nat.le_of_ble_eq_true rfl) rfl (fun pX eX sX mX aX bX tX cX C hrt0 hlk0 => ?_)
  refine m_aload_n (pc' := 1) C dX7_stop_0 rfl 0 rfl rfl ?_
  refine m_get (pc' := 4) C 47 (by omega) hr rfl inW_X7 4 (by decide) (gW_of tm_2_47) rfl rfl dX7_stop_1 rfl ?_
  exact m_iret C hrt0 hlk0 rfl dX7_stop_4 ⟨rfl, rfl⟩
set_option maxHeartbeats 4000000 in
set_option maxRecDepth 100000 in
theorem kX7_found {l : Launch} {D : va_G} {cy : Nat → ClassId} {ad : Nat → Nat} {n : Nat} {A : Nat → Prop} (hI : mI ad n A) {M : Nat → va_E} (hn : 52 ≤ n) {tot i : Nat} (hr : M 47 = rdO ad (nI tot) (nI i)) : mMq l yX7_found (gW yX7_found cX7_found 1 (some (.object "FormatDump$Row"))) { frames := 0, cells := 0, slots := 0, locals := 0 } D cy ad n A [.ref (ad 47)] M (fun res M' => res = some (ad 48) ∧ M' = M) := by
  refine m_entry (cc := cX7_found) (maxL := 1) (ret := (some (.object "FormatDump$Row"))) (own := RX7) (lv := [(0, .ref (ad 47))]) hI (by decide) rfl rfl (Nat.le_of_ble_eq_true rfl) rfl (fun pX eX sX mX aX bX tX cX C hrt0 hlk0 => ?_)
  refine m_aload_n (pc' := 1) C dX7_found_0 rfl 0 rfl rfl ?_
  refine m_get (pc' := 4) C 47 (by omega) hr rfl inW_X7 1 (by decide) (gW_of tm_2_44) rfl rfl dX7_found_1 rfl ?_
  exact m_aret C (some (ad 48)) hrt0 hlk0 (Or.inl ⟨_, rfl⟩) rfl dX7_found_4 ⟨rfl, rfl⟩
set_option maxHeartbeats 4000000 in
set_option maxRecDepth 100000 in
theorem kX7_readOne {l : Launch} {D : va_G} {cy : Nat → ClassId} {ad : Nat → Nat} {n : Nat} {A : Nat → Prop} (hI : mI ad n A) {M : Nat → va_E} (hn : 52 ≤ n) {tot i : Nat} (hr : M 47 = rdO ad (nI tot) (nI i)) {lim : Nat} {P : List Nat} (hg : isRow cy ad n M 5 6 2000 lim P) (hP : P.length ≤ lim) (hi : i ≤ P.length) {q : Nat} (hq6 : q < 256) (hq0 : q ≠ 0) : mMi l yX7_readOne (gW yX7_readOne cX7_readOne 2 (some .boolean)) { frames := 1, cells := 0, slots := 0, locals := 21 } D cy ad n A [.ref (ad 47), .int (nI q)] M (fun res M' => res = bI (decide (P.getD i 0 = q)) ∧ M' 47 = rdO ad (nI tot) (nI (if P.getD i 0 = q then i + 1 else i)) ∧ Fr [47] M M') := by
  have hl2 : lim ≤ 2000 := hg.2.2.1
  have h256 : ∀ x ∈ P, x < 256 := hg.2.2.2.2.1
  refine m_entry (cc := cX7_readOne) (maxL := 2) (ret := (some .boolean)) (own := RX7) (lv := [(0, .ref (ad 47)), (1, .int (nI q))]) hI (by decide) rfl rfl (Nat.le_of_ble_eq_true rfl) rfl (fun pX eX sX mX aX bX tX cX C hrt0 hlk0 => ?_)
  refine m_aload_n (pc' := 1) C dX7_readOne_0 rfl 0 rfl rfl ?_
  refine m_get (pc' := 4) C 47 (by omega) hr rfl inW_X7 0 (by decide) (gW_of tm_2_43) rfl rfl dX7_readOne_1 rfl ?_
  refine m_aload_n (pc' := 5) C dX7_readOne_4 rfl 0 rfl rfl ?_
  refine m_get (pc' := 8) C 47 (by omega) hr rfl inW_X7 4 (by decide) (gW_of tm_2_47) rfl rfl dX7_readOne_5 rfl ?_
  refine m_callVi (pc' := 11) (As := [.int (nI i)]) (rest := []) C (kX9_at hI hg (nI i)) (cwV 1 C.1.2.2.2.2 (goodV tm_4_216 tm_2_128 tm_2_129 tm_1_3 tm_2_130) rfl rfl rfl (by decide +kernel) ⟨by decide, by decide⟩) hg.1 hg.ob rfl rfl rfl (Nat.le_of_ble_eq_true rfl) dX7_readOne_8 rfl ⟨by decide, by decide⟩ (fun x_1 N_1 q_1 => ?_)
  obtain ⟨e_1, E_1⟩ := q_1
  replace E_1 := E_1.symm
  subst E_1
  replace e_1 : x_1 = chAt P i := e_1.trans (rowAt_full hP (by omega) (by omega))
  replace e_1 := e_1.symm
  subst e_1
  refine m_iload_n (pc' := 12) C dX7_readOne_11 rfl 1 rfl rfl ?_
  refine m_icmp_eq (pc' := 15) (tgt := 17) C dX7_readOne_12 (by decide) rfl (fun c_12 => ?_) (fun c_12 => ?_)
  · have h12 : P.getD i 0 = q := (chAt_eq h256 hq6 hq0).mp c_12
    refine m_aload_n (pc' := 18) C dX7_readOne_17 rfl 0 rfl rfl ?_
    refine m_dup (pc' := 19) C dX7_readOne_18 rfl rfl ?_
    refine m_get (pc' := 22) C 47 (by omega) hr rfl inW_X7 4 (by decide) (gW_of tm_2_47) rfl rfl dX7_readOne_19 rfl ?_
    refine m_iconst (pc' := 23) (v := nI 1) C dX7_readOne_22 (by decide) rfl ?_
    refine m_iadd (pc' := 24) (v := nI (i + 1)) C dX7_readOne_23 (nI_add _ _) rfl ?_
    refine m_put (pc' := 27) (ty := .int) (fs' := [.ref (ad 5), .ref (ad 48), .ref (ad 50), .int (nI tot), .int (nI (i + 1))]) C 47 (by omega) hr rfl inW_X7 tyX7 tyX7_ok nmX7 4 (by decide) (gW_of tm_2_47) rfl rfl (by decide +kernel) rfl rfl (by simp) rfl dX7_readOne_24 rfl (fun M2 g_2 F_2 => ?_)
    refine m_iconst (pc' := 28) (v := bI true) C dX7_readOne_27 (by decide) rfl ?_
    refine m_iret C hrt0 hlk0 (nar_z _) dX7_readOne_28 ?_
    rw [decide_eq_true h12, if_pos h12]
    exact ⟨rfl, g_2, (F_2.sub (by decide))⟩
  · have h12 : ¬ P.getD i 0 = q := fun z => c_12 ((chAt_eq h256 hq6 hq0).mpr z)
    refine m_iconst (pc' := 16) (v := bI false) C dX7_readOne_15 (by decide) rfl ?_
    refine m_iret C hrt0 hlk0 (nar_z _) dX7_readOne_16 ?_
    rw [decide_eq_false h12, if_neg h12]
    exact ⟨rfl, hr, Fr.rf⟩
set_option maxHeartbeats 4000000 in
set_option maxRecDepth 100000 in
theorem kX7_readAddress {l : Launch} {D : va_G} {cy : Nat → ClassId} {ad : Nat → Nat} {n : Nat} {A : Nat → Prop} (hI : mI ad n A) {M : Nat → va_E} (hn : 52 ≤ n) {tot i : Nat} (hr : M 47 = rdO ad (nI tot) (nI i)) {lim : Nat} {P : List Nat} (hg : isRow cy ad n M 5 6 2000 lim P) (hP : P.length ≤ lim) (hi : i ≤ P.length) (htot : tot < 2 ^ 20) : mMi l yX7_readAddress (gW yX7_readAddress cX7_readAddress 2 (some .boolean)) { frames := 1, cells := 0, slots := 0, locals := 22 } D cy ad n A [.ref (ad 47)] M (fun res M' => res = bI (decide (rAdr P tot i = 8)) ∧ M' 47 = rdO ad (nI tot) (nI (i + rAdr P tot i)) ∧ Fr [47] M M') := by
  have hl2 : lim ≤ 2000 := hg.2.2.1
  have h256 : ∀ x ∈ P, x < 256 := hg.2.2.2.2.1
  refine m_entry (cc := cX7_readAddress) (maxL := 2) (ret := (some .boolean)) (own := RX7) (lv := [(0, .ref (ad 47))]) hI (by decide) rfl rfl (Nat.le_of_ble_eq_true rfl) rfl (fun pX eX sX mX aX bX tX cX C hrt0 hlk0 => ?_)
  refine m_bipush (pc' := 2) (v := nI 28) C dX7_readAddress_0 (by decide) rfl ?_
  refine m_istore_n (pc' := 3) (lv' := [(1, .int (nI 28)), (0, .ref (ad 47))]) C dX7_readAddress_2 rfl (by decide) rfl rfl ?_
  rw [show nI 28 = nI (32 - 4 * 0) - nI 4 by decide]
  refine m_lv [1, 0] rfl ?_
  refine m_loop (σ := Nat × (Nat → va_E)) (fun a => a.2) (fun a => [(0, .ref (ad 47)), (1, .int (nI (32 - 4 * a.1) - nI 4))]) (fun a => mN (pAdr P tot i) 8 0 = mN (pAdr P tot i) (8 - a.1) a.1 ∧ a.1 ≤ 8 ∧ i + a.1 ≤ P.length ∧ a.2 47 = rdO ad (nI tot) (nI (i + a.1)) ∧ Fr [47] M a.2) (fun a => 8 - a.1) (0, M) (⟨rfl, Nat.zero_le _, hi, hr, Fr.rf⟩) ?_
  rintro ⟨k, Mk⟩ hinv ih
  dsimp only at hinv ih ⊢
  obtain ⟨i1, i2, i3, l1, l2⟩ := hinv
  refine m_iload_n (pc' := 4) C dX7_readAddress_3 rfl 1 rfl rfl ?_
  refine m_if_lt (pc' := 7) (tgt := 53) C dX7_readAddress_4 (by decide) rfl (fun c_4 => ?_) (fun c_4 => ?_)
  · have hk8 : k = 8 := by
      rcases Nat.lt_or_ge k 8 with z | z
      · exact absurd c_4 (by rw [pk_sub (by omega)]; exact nI_pos (by omega))
      · omega
    refine m_iconst (pc' := 54) (v := bI true) C dX7_readAddress_53 (by decide) rfl ?_
    refine m_iret C hrt0 hlk0 (nar_z _) dX7_readAddress_54 ?_
    have hst : rAdr P tot i = 8 := by unfold rAdr; rw [i1, hk8]; rfl
    rw [hst]
    rw [hk8] at l1
    exact ⟨rfl, l1, (l2.sub (by decide))⟩
  · have hk8 : k < 8 := by
      rcases Nat.lt_or_ge k 8 with z | z
      · exact z
      · exact absurd (by rw [show k = 8 by omega]; decide) c_4
    rw [show nI (32 - 4 * k) - nI 4 = nI (28 - 4 * k) from by rw [pk_sub (by omega)]; congr 1; omega]
    refine m_aload_n (pc' := 8) C dX7_readAddress_7 rfl 0 rfl rfl ?_
    refine m_get (pc' := 11) C 47 (by omega) l1 rfl inW_X7 0 (by decide) (gW_of tm_2_43) rfl rfl dX7_readAddress_8 rfl ?_
    refine m_aload_n (pc' := 12) C dX7_readAddress_11 rfl 0 rfl rfl ?_
    refine m_get (pc' := 15) C 47 (by omega) l1 rfl inW_X7 4 (by decide) (gW_of tm_2_47) rfl rfl dX7_readAddress_12 rfl ?_
    have R5_1 := hg.fr l2 (by decide) (by decide)
    refine m_callVi (pc' := 18) (As := [.int (nI (i + k))]) (rest := []) C (kX9_at hI R5_1 (nI (i + k))) (cwV 1 C.1.2.2.2.2 (goodV tm_4_216 tm_2_128 tm_2_129 tm_1_3 tm_2_130) rfl rfl rfl (by decide +kernel) ⟨by decide, by decide⟩) R5_1.1 R5_1.ob rfl rfl rfl (Nat.le_of_ble_eq_true rfl) dX7_readAddress_15 rfl ⟨by decide, by decide⟩ (fun x_2 N_2 q_2 => ?_)
    obtain ⟨e_2, E_2⟩ := q_2
    replace E_2 := E_2.symm
    subst E_2
    replace e_2 : x_2 = chAt P (i + k) := e_2.trans (rowAt_full hP (by omega) (by omega))
    replace e_2 := e_2.symm
    subst e_2
    refine m_bipush (pc' := 20) (v := nI 16) C dX7_readAddress_18 (by decide) rfl ?_
    refine m_callNi (pc' := 23) (As := [.int (chAt P (i + k)), .int (nI 16)]) (rest := []) C (kX11_digitOf hI (chAt P (i + k)) (nI 16)) ⟨va_cnB 2 C.1.2.2.2.2 (goodN tm_2_149) rfl rfl rfl (C.2.1.2 (RX7, 69, yX11_digitOf) (List.mem_of_getElem? (i := 8) rfl)) (C.1.2.2.2.2 _ (gW_of tm_1_1)) (by decide +kernel) ⟨by decide, by decide⟩, C.1.2.2.2.2 _ (gW_of tm_2_148), trivial⟩ rfl rfl (Nat.le_of_ble_eq_true rfl) dX7_readAddress_20 rfl ⟨by decide, by decide⟩ (fun x_3 N_3 q_3 => ?_)
    obtain ⟨e_3, E_3⟩ := q_3
    replace E_3 := E_3.symm
    subst E_3
    replace e_3 : x_3 = dI (P.getD (i + k) 0) 16 := e_3.trans (digI_at (Or.inr (Or.inr rfl)) h256)
    replace e_3 := e_3.symm
    subst e_3
    refine m_aload_n (pc' := 24) C dX7_readAddress_23 rfl 0 rfl rfl ?_
    refine m_get (pc' := 27) C 47 (by omega) l1 rfl inW_X7 3 (by decide) (gW_of tm_2_46) rfl rfl dX7_readAddress_24 rfl ?_
    refine m_iload_n (pc' := 28) C dX7_readAddress_27 rfl 1 rfl rfl ?_
    refine m_iushr (pc' := 29) (v := ushI (nI tot) (28 - 4 * k)) C dX7_readAddress_28 (ushI_eq (nI tot) (by omega)) rfl ?_
    refine m_bipush (pc' := 31) (v := nI 15) C dX7_readAddress_29 (by decide) rfl ?_
    refine m_iand (pc' := 32) (v := nI (tot / 2 ^ (28 - 4 * k) % 16)) C dX7_readAddress_31 (ush15 (by omega) (by omega)) rfl ?_
    refine m_icmp_eq (pc' := 35) (tgt := 37) C dX7_readAddress_32 (by decide) rfl (fun c_32 => ?_) (fun c_32 => ?_)
    · have h32 : dvN (P.getD (i + k) 0) = tot / 2 ^ (28 - 4 * k) % 16 := (dI_cmp (Nat.mod_lt _ (by decide))).mp c_32
      have hin0 : i + k < P.length := dv_in (by rw [h32]; exact Nat.mod_lt _ (by decide))
      have hin : i + (k + 1) ≤ P.length := by omega
      have hst : mN (pAdr P tot i) 8 0 = mN (pAdr P tot i) (8 - (k + 1)) (k + 1) := by rw [i1, show 8 - k = (8 - (k + 1)) + 1 by omega, mN_t (p := pAdr P tot i) (decide_eq_true h32)]
      refine m_aload_n (pc' := 38) C dX7_readAddress_37 rfl 0 rfl rfl ?_
      refine m_dup (pc' := 39) C dX7_readAddress_38 rfl rfl ?_
      refine m_get (pc' := 42) C 47 (by omega) l1 rfl inW_X7 4 (by decide) (gW_of tm_2_47) rfl rfl dX7_readAddress_39 rfl ?_
      refine m_iconst (pc' := 43) (v := nI 1) C dX7_readAddress_42 (by decide) rfl ?_
      refine m_iadd (pc' := 44) (v := nI ((i + k) + 1)) C dX7_readAddress_43 (nI_add _ _) rfl ?_
      refine m_put (pc' := 47) (ty := .int) (fs' := [.ref (ad 5), .ref (ad 48), .ref (ad 50), .int (nI tot), .int (nI ((i + k) + 1))]) C 47 (by omega) l1 rfl inW_X7 tyX7 tyX7_ok nmX7 4 (by decide) (gW_of tm_2_47) rfl rfl (by decide +kernel) rfl rfl (by simp) rfl dX7_readAddress_44 rfl (fun M4 g_4 F_4 => ?_)
      refine m_iinc (pc' := 50) (v := nI (28 - 4 * k) - nI 4) (lv' := [(1, .int (nI (28 - 4 * k) - nI 4)), (0, .ref (ad 47))]) C dX7_readAddress_47 (k := 1) rfl (by rw [Int32.sub_eq_add_neg]; rfl) (by decide) rfl rfl ?_
      refine m_goto (tgt := 3) C dX7_readAddress_50 (by decide) ?_
      rw [show 28 - 4 * k = 32 - 4 * (k + 1) by omega]
      refine m_lv [1, 0] rfl ?_
      exact ih (k + 1, M4) (⟨hst, by (try dsimp only); omega, hin, g_4, ((l2.sub (by decide)).tr (F_4.sub (by decide)))⟩) (by simp only; omega)
    · have h32 : ¬ dvN (P.getD (i + k) 0) = tot / 2 ^ (28 - 4 * k) % 16 := fun z => c_32 ((dI_cmp (Nat.mod_lt _ (by decide))).mpr z)
      have hst : rAdr P tot i = k := by unfold rAdr; rw [i1, show 8 - k = (8 - (k + 1)) + 1 by omega, mN_f (p := pAdr P tot i) (fun z => h32 (of_decide_eq_true z))]
      refine m_iconst (pc' := 36) (v := bI false) C dX7_readAddress_35 (by decide) rfl ?_
      refine m_iret C hrt0 hlk0 (nar_z _) dX7_readAddress_36 ?_
      rw [hst, decide_eq_false (by omega)]
      exact ⟨rfl, l1, (l2.sub (by decide))⟩
set_option maxHeartbeats 4000000 in
set_option maxRecDepth 100000 in
theorem kX7_readBlanks {l : Launch} {D : va_G} {cy : Nat → ClassId} {ad : Nat → Nat} {n : Nat} {A : Nat → Prop} (hI : mI ad n A) {M : Nat → va_E} (hn : 52 ≤ n) {tot i : Nat} (hr : M 47 = rdO ad (nI tot) (nI i)) {lim : Nat} {P : List Nat} (hg : isRow cy ad n M 5 6 2000 lim P) (hP : P.length ≤ lim) (hi : i ≤ P.length) {e : Nat} (he : e < 2 ^ 20) : mMi l yX7_readBlanks (gW yX7_readBlanks cX7_readBlanks 2 (some .boolean)) { frames := 1, cells := 0, slots := 0, locals := 21 } D cy ad n A [.ref (ad 47), .int (nI e)] M (fun res M' => res = bI (decide (e ≤ i + rBl P e i)) ∧ M' 47 = rdO ad (nI tot) (nI (i + rBl P e i)) ∧ Fr [47] M M') := by
  have hl2 : lim ≤ 2000 := hg.2.2.1
  have h256 : ∀ x ∈ P, x < 256 := hg.2.2.2.2.1
  refine m_entry (cc := cX7_readBlanks) (maxL := 2) (ret := (some .boolean)) (own := RX7) (lv := [(0, .ref (ad 47)), (1, .int (nI e))]) hI (by decide) rfl rfl (Nat.le_of_ble_eq_true rfl) rfl (fun pX eX sX mX aX bX tX cX C hrt0 hlk0 => ?_)
  refine m_lv [0, 1] rfl ?_
  refine m_loop (σ := Nat × (Nat → va_E)) (fun a => a.2) (fun a => [(0, .ref (ad 47)), (1, .int (nI e))]) (fun a => mN (pBl P i) (e - i) 0 = mN (pBl P i) (e - (i + a.1)) a.1 ∧ i + a.1 ≤ P.length ∧ (a.1 = 0 ∨ i + a.1 ≤ e) ∧ a.2 47 = rdO ad (nI tot) (nI (i + a.1)) ∧ Fr [47] M a.2) (fun a => e - (i + a.1)) (0, M) (⟨rfl, hi, Or.inl rfl, hr, Fr.rf⟩) ?_
  rintro ⟨k, Mk⟩ hinv ih
  dsimp only at hinv ih ⊢
  obtain ⟨i1, i3, i4, l1, l2⟩ := hinv
  refine m_aload_n (pc' := 1) C dX7_readBlanks_0 rfl 0 rfl rfl ?_
  refine m_get (pc' := 4) C 47 (by omega) l1 rfl inW_X7 4 (by decide) (gW_of tm_2_47) rfl rfl dX7_readBlanks_1 rfl ?_
  refine m_iload_n (pc' := 5) C dX7_readBlanks_4 rfl 1 rfl rfl ?_
  refine m_icmp_ge (pc' := 8) (tgt := 37) C dX7_readBlanks_5 (by decide) rfl (fun c_5 => ?_) (fun c_5 => ?_)
  · have n_5 : e ≤ (i + k) := (nI_leI (by omega) (by omega)).mp c_5
    have hst : rBl P e i = k := by unfold rBl; rw [i1, show e - (i + k) = 0 by omega]; rfl
    refine m_aload_n (pc' := 38) C dX7_readBlanks_37 rfl 0 rfl rfl ?_
    refine m_get (pc' := 41) C 47 (by omega) l1 rfl inW_X7 4 (by decide) (gW_of tm_2_47) rfl rfl dX7_readBlanks_38 rfl ?_
    refine m_iload_n (pc' := 42) C dX7_readBlanks_41 rfl 1 rfl rfl ?_
    refine m_icmp_lt (pc' := 45) (tgt := 49) C dX7_readBlanks_42 (by decide) rfl (fun c_42 => ?_) (fun c_42 => ?_)
    · have n_42 : (i + k) < e := (nI_ltI (by omega) (by omega)).mp c_42
      refine m_iconst (pc' := 50) (v := bI false) C dX7_readBlanks_49 (by decide) rfl ?_
      refine m_iret C hrt0 hlk0 (nar_z _) dX7_readBlanks_50 ?_
      rw [hst, decide_eq_false (by omega)]
      exact ⟨rfl, l1, (l2.sub (by decide))⟩
    · have n_42 : e ≤ (i + k) := Nat.le_of_not_lt (fun q => c_42 ((nI_ltI (by omega) (by omega)).mpr q))
      refine m_iconst (pc' := 46) (v := bI true) C dX7_readBlanks_45 (by decide) rfl ?_
      refine m_goto (tgt := 50) C dX7_readBlanks_46 (by decide) ?_
      refine m_iret C hrt0 hlk0 (nar_z _) dX7_readBlanks_50 ?_
      rw [hst, decide_eq_true (by omega)]
      exact ⟨rfl, l1, (l2.sub (by decide))⟩
  · have n_5 : (i + k) < e := Nat.lt_of_not_le (fun q => c_5 ((nI_leI (by omega) (by omega)).mpr q))
    refine m_aload_n (pc' := 9) C dX7_readBlanks_8 rfl 0 rfl rfl ?_
    refine m_get (pc' := 12) C 47 (by omega) l1 rfl inW_X7 0 (by decide) (gW_of tm_2_43) rfl rfl dX7_readBlanks_9 rfl ?_
    refine m_aload_n (pc' := 13) C dX7_readBlanks_12 rfl 0 rfl rfl ?_
    refine m_get (pc' := 16) C 47 (by omega) l1 rfl inW_X7 4 (by decide) (gW_of tm_2_47) rfl rfl dX7_readBlanks_13 rfl ?_
    have R5_1 := hg.fr l2 (by decide) (by decide)
    refine m_callVi (pc' := 19) (As := [.int (nI (i + k))]) (rest := []) C (kX9_at hI R5_1 (nI (i + k))) (cwV 1 C.1.2.2.2.2 (goodV tm_4_216 tm_2_128 tm_2_129 tm_1_3 tm_2_130) rfl rfl rfl (by decide +kernel) ⟨by decide, by decide⟩) R5_1.1 R5_1.ob rfl rfl rfl (Nat.le_of_ble_eq_true rfl) dX7_readBlanks_16 rfl ⟨by decide, by decide⟩ (fun x_2 N_2 q_2 => ?_)
    obtain ⟨e_2, E_2⟩ := q_2
    replace E_2 := E_2.symm
    subst E_2
    replace e_2 : x_2 = chAt P (i + k) := e_2.trans (rowAt_full hP (by omega) (by omega))
    replace e_2 := e_2.symm
    subst e_2
    refine m_bipush (pc' := 21) (v := nI 32) C dX7_readBlanks_19 (by decide) rfl ?_
    refine m_icmp_ne (pc' := 24) (tgt := 37) C dX7_readBlanks_21 (by decide) rfl (fun c_21 => ?_) (fun c_21 => ?_)
    · have h21 : ¬ P.getD (i + k) 0 = 32 := fun z => c_21 ((chAt_eq h256 (by decide) (by decide)).mpr z)
      have hst : rBl P e i = k := by unfold rBl; rw [i1, show e - (i + k) = (e - (i + (k + 1))) + 1 by omega, mN_f (p := pBl P i) (fun z => h21 (of_decide_eq_true z))]
      refine m_aload_n (pc' := 38) C dX7_readBlanks_37 rfl 0 rfl rfl ?_
      refine m_get (pc' := 41) C 47 (by omega) l1 rfl inW_X7 4 (by decide) (gW_of tm_2_47) rfl rfl dX7_readBlanks_38 rfl ?_
      refine m_iload_n (pc' := 42) C dX7_readBlanks_41 rfl 1 rfl rfl ?_
      refine m_icmp_lt (pc' := 45) (tgt := 49) C dX7_readBlanks_42 (by decide) rfl (fun c_42 => ?_) (fun c_42 => ?_)
      · have n_42 : (i + k) < e := (nI_ltI (by omega) (by omega)).mp c_42
        refine m_iconst (pc' := 50) (v := bI false) C dX7_readBlanks_49 (by decide) rfl ?_
        refine m_iret C hrt0 hlk0 (nar_z _) dX7_readBlanks_50 ?_
        rw [hst, decide_eq_false (by omega)]
        exact ⟨rfl, l1, (l2.sub (by decide))⟩
      · have n_42 : e ≤ (i + k) := Nat.le_of_not_lt (fun q => c_42 ((nI_ltI (by omega) (by omega)).mpr q))
        refine m_iconst (pc' := 46) (v := bI true) C dX7_readBlanks_45 (by decide) rfl ?_
        refine m_goto (tgt := 50) C dX7_readBlanks_46 (by decide) ?_
        refine m_iret C hrt0 hlk0 (nar_z _) dX7_readBlanks_50 ?_
        rw [hst, decide_eq_true (by omega)]
        exact ⟨rfl, l1, (l2.sub (by decide))⟩
    · have h21 : P.getD (i + k) 0 = 32 := (chAt_eq h256 (by decide) (by decide)).mp (Classical.not_not.mp c_21)
      have hin : i + (k + 1) ≤ P.length := gd_in h21 (by decide)
      have hst : mN (pBl P i) (e - i) 0 = mN (pBl P i) (e - (i + (k + 1))) (k + 1) := by rw [i1, show e - (i + k) = (e - (i + (k + 1))) + 1 by omega, mN_t (p := pBl P i) (decide_eq_true h21)]
      refine m_aload_n (pc' := 25) C dX7_readBlanks_24 rfl 0 rfl rfl ?_
      refine m_dup (pc' := 26) C dX7_readBlanks_25 rfl rfl ?_
      refine m_get (pc' := 29) C 47 (by omega) l1 rfl inW_X7 4 (by decide) (gW_of tm_2_47) rfl rfl dX7_readBlanks_26 rfl ?_
      refine m_iconst (pc' := 30) (v := nI 1) C dX7_readBlanks_29 (by decide) rfl ?_
      refine m_iadd (pc' := 31) (v := nI ((i + k) + 1)) C dX7_readBlanks_30 (nI_add _ _) rfl ?_
      refine m_put (pc' := 34) (ty := .int) (fs' := [.ref (ad 5), .ref (ad 48), .ref (ad 50), .int (nI tot), .int (nI ((i + k) + 1))]) C 47 (by omega) l1 rfl inW_X7 tyX7 tyX7_ok nmX7 4 (by decide) (gW_of tm_2_47) rfl rfl (by decide +kernel) rfl rfl (by simp) rfl dX7_readBlanks_31 rfl (fun M3 g_3 F_3 => ?_)
      refine m_goto (tgt := 0) C dX7_readBlanks_34 (by decide) ?_
      refine m_lv [0, 1] rfl ?_
      exact ih (k + 1, M3) (⟨hst, hin, by (try dsimp only); omega, g_3, ((l2.sub (by decide)).tr (F_3.sub (by decide)))⟩) (by simp only; omega)
set_option maxHeartbeats 4000000 in
set_option maxRecDepth 100000 in
theorem kX7_readSeen {l : Launch} {D : va_G} {cy : Nat → ClassId} {ad : Nat → Nat} {n : Nat} {A : Nat → Prop} (hI : mI ad n A) {M : Nat → va_E} (hn : 52 ≤ n) {tot i : Nat} (hr : M 47 = rdO ad (nI tot) (nI i)) {lim : Nat} {P : List Nat} (hg : isRow cy ad n M 5 6 2000 lim P) (hP : P.length ≤ lim) (hi : i ≤ P.length) {L : List Nat} (hl5 : isRow cy ad n M 50 51 32 32 L) (hL3 : L.length ≤ 32) : mMi l yX7_readSeen (gW yX7_readSeen cX7_readSeen 2 (some .boolean)) { frames := 2, cells := 0, slots := 0, locals := 42 } D cy ad n A [.ref (ad 47)] M (fun res M' => res = bI (decide (rSn P L i = L.length)) ∧ M' 47 = rdO ad (nI tot) (nI (i + rSn P L i)) ∧ Fr [47] M M') := by
  have hl2 : lim ≤ 2000 := hg.2.2.1
  have h256 : ∀ x ∈ P, x < 256 := hg.2.2.2.2.1
  have hl256 : ∀ x ∈ L, x < 256 := hl5.2.2.2.2.1
  refine m_entry (cc := cX7_readSeen) (maxL := 2) (ret := (some .boolean)) (own := RX7) (lv := [(0, .ref (ad 47))]) hI (by decide) rfl rfl (Nat.le_of_ble_eq_true rfl) rfl (fun pX eX sX mX aX bX tX cX C hrt0 hlk0 => ?_)
  refine m_iconst (pc' := 1) (v := nI 0) C dX7_readSeen_0 (by decide) rfl ?_
  refine m_istore_n (pc' := 2) (lv' := [(1, .int (nI 0)), (0, .ref (ad 47))]) C dX7_readSeen_1 rfl (by decide) rfl rfl ?_
  refine m_lv [1, 0] rfl ?_
  refine m_loop (σ := Nat × (Nat → va_E)) (fun a => a.2) (fun a => [(0, .ref (ad 47)), (1, .int (nI a.1))]) (fun a => mN (pSn P L i) L.length 0 = mN (pSn P L i) (L.length - a.1) a.1 ∧ i + a.1 ≤ P.length ∧ a.1 ≤ L.length ∧ a.2 47 = rdO ad (nI tot) (nI (i + a.1)) ∧ Fr [47] M a.2) (fun a => L.length - a.1) (0, M) (⟨rfl, hi, Nat.zero_le _, hr, Fr.rf⟩) ?_
  rintro ⟨k, Mk⟩ hinv ih
  dsimp only at hinv ih ⊢
  obtain ⟨i1, i3, i4, l1, l2⟩ := hinv
  refine m_iload_n (pc' := 3) C dX7_readSeen_2 rfl 1 rfl rfl ?_
  refine m_aload_n (pc' := 4) C dX7_readSeen_3 rfl 0 rfl rfl ?_
  refine m_get (pc' := 7) C 47 (by omega) l1 rfl inW_X7 2 (by decide) (gW_of tm_2_45) rfl rfl dX7_readSeen_4 rfl ?_
  have R50_1 := hl5.fr l2 (by decide) (by decide)
  refine m_callVi (pc' := 10) (As := []) (rest := [.int (nI k)]) C (kX9_size hI R50_1) (cwV 0 C.1.2.2.2.2 (goodV tm_4_207 tm_2_95 tm_2_96 tm_1_3 tm_2_97) rfl rfl rfl (by decide +kernel) ⟨by decide, by decide⟩) R50_1.1 R50_1.ob rfl rfl rfl (Nat.le_of_ble_eq_true rfl) dX7_readSeen_7 rfl ⟨by decide, by decide⟩ (fun x_2 N_2 q_2 => ?_)
  obtain ⟨e_2, E_2⟩ := q_2
  replace E_2 := E_2.symm
  subst E_2
  replace e_2 : x_2 = nI L.length := e_2.trans (by rw [Nat.min_eq_left hL3])
  replace e_2 := e_2.symm
  subst e_2
  refine m_icmp_ge (pc' := 13) (tgt := 39) C dX7_readSeen_10 (by decide) rfl (fun c_10 => ?_) (fun c_10 => ?_)
  · have n_10 : L.length ≤ k := (nI_leI (by omega) (by omega)).mp c_10
    refine m_iconst (pc' := 40) (v := bI true) C dX7_readSeen_39 (by decide) rfl ?_
    refine m_iret C hrt0 hlk0 (nar_z _) dX7_readSeen_40 ?_
    have hk9 : k = L.length := by omega
    have hst : rSn P L i = k := by unfold rSn; rw [i1, hk9, Nat.sub_self]; rfl
    rw [hst, decide_eq_true hk9]
    exact ⟨rfl, l1, (l2.sub (by decide))⟩
  · have n_10 : k < L.length := Nat.lt_of_not_le (fun q => c_10 ((nI_leI (by omega) (by omega)).mpr q))
    refine m_aload_n (pc' := 14) C dX7_readSeen_13 rfl 0 rfl rfl ?_
    refine m_aload_n (pc' := 15) C dX7_readSeen_14 rfl 0 rfl rfl ?_
    refine m_get (pc' := 18) C 47 (by omega) l1 rfl inW_X7 2 (by decide) (gW_of tm_2_45) rfl rfl dX7_readSeen_15 rfl ?_
    refine m_iload_n (pc' := 19) C dX7_readSeen_18 rfl 1 rfl rfl ?_
    refine m_callVi (pc' := 22) (As := [.int (nI k)]) (rest := [.ref (ad 47)]) C (kX9_at hI R50_1 (nI k)) (cwV 1 C.1.2.2.2.2 (goodV tm_4_216 tm_2_128 tm_2_129 tm_1_3 tm_2_130) rfl rfl rfl (by decide +kernel) ⟨by decide, by decide⟩) R50_1.1 R50_1.ob rfl rfl rfl (Nat.le_of_ble_eq_true rfl) dX7_readSeen_19 rfl ⟨by decide, by decide⟩ (fun x_3 N_3 q_3 => ?_)
    obtain ⟨e_3, E_3⟩ := q_3
    replace E_3 := E_3.symm
    subst E_3
    replace e_3 : x_3 = nI (L.getD k 0) := e_3.trans ((rowAt_full hL3 (by omega) (by omega)).trans (by unfold chAt; rw [if_pos n_10]))
    replace e_3 := e_3.symm
    subst e_3
    refine m_callNi (pc' := 25) (As := [.int (nI (L.getD k 0))]) (rest := [.ref (ad 47)]) C (kX11_seenAs hI (nI (L.getD k 0))) ⟨va_cnB 1 C.1.2.2.2.2 (goodN tm_4_192) rfl rfl rfl (C.2.1.2 (RX7, 81, yX11_seenAs) (List.mem_of_getElem? (i := 10) rfl)) (C.1.2.2.2.2 _ (gW_of tm_1_1)) (by decide +kernel) ⟨by decide, by decide⟩, C.1.2.2.2.2 _ (gW_of tm_4_191), trivial⟩ rfl rfl (Nat.le_of_ble_eq_true rfl) dX7_readSeen_22 rfl ⟨by decide, by decide⟩ (fun x_4 N_4 q_4 => ?_)
    obtain ⟨e_4, E_4⟩ := q_4
    replace E_4 := E_4.symm
    subst E_4
    replace e_4 : x_4 = nI (seN (L.getD k 0)) := e_4.trans (seI_eq _)
    replace e_4 := e_4.symm
    subst e_4
    have R5_6 := hg.fr l2 (by decide) (by decide)
    refine m_callVi (pc' := 28) (As := [.int (nI (seN (L.getD k 0)))]) (rest := []) C (kX7_readOne hI hn l1 R5_6 hP (by omega) (q := (seN (L.getD k 0))) (seN_lt (gd_lt0 hl256 _)) seN_pos) (cwV 1 C.1.2.2.2.2 (goodV tm_4_218 tm_4_220 tp_43 tm_1_12 tm_4_221) rfl rfl rfl (by decide +kernel) ⟨by decide, by decide⟩) (by omega) l1 rfl rfl rfl (Nat.le_of_ble_eq_true rfl) dX7_readSeen_25 rfl ⟨by decide, by decide⟩ (fun x_5 M5 q_5 => ?_)
    obtain ⟨e_5, g_5, F_5⟩ := q_5
    replace e_5 := e_5.symm
    subst e_5
    refine m_if_ne (pc' := 31) (tgt := 33) C dX7_readSeen_28 (by decide) rfl (fun c_28 => ?_) (fun c_28 => ?_)
    · have h28 : P.getD (i + k) 0 = seN (L.getD k 0) := of_decide_eq_true (ts_of c_28)
      rw [if_pos h28] at g_5
      have hin : i + (k + 1) ≤ P.length := gd_in h28 seN_pos
      have hst : mN (pSn P L i) L.length 0 = mN (pSn P L i) (L.length - (k + 1)) (k + 1) := by rw [i1, show L.length - k = (L.length - (k + 1)) + 1 by omega, mN_t (p := pSn P L i) (decide_eq_true h28)]
      refine m_iinc (pc' := 36) (v := nI (k + 1)) (lv' := [(1, .int (nI (k + 1))), (0, .ref (ad 47))]) C dX7_readSeen_33 (k := 1) rfl (nI_add _ _) (by decide) rfl rfl ?_
      refine m_goto (tgt := 2) C dX7_readSeen_36 (by decide) ?_
      refine m_lv [1, 0] rfl ?_
      exact ih (k + 1, M5) (⟨hst, hin, n_10, g_5, ((l2.sub (by decide)).tr (F_5.sub (by decide)))⟩) (by simp only; omega)
    · have h28 : ¬ P.getD (i + k) 0 = seN (L.getD k 0) := of_decide_eq_false ((bI_0 _).mp (Classical.not_not.mp c_28))
      rw [if_neg h28] at g_5
      have hst : rSn P L i = k := by unfold rSn; rw [i1, show L.length - k = (L.length - (k + 1)) + 1 by omega, mN_f (p := pSn P L i) (fun z => h28 (of_decide_eq_true z))]
      refine m_iconst (pc' := 32) (v := bI false) C dX7_readSeen_31 (by decide) rfl ?_
      refine m_iret C hrt0 hlk0 (nar_z _) dX7_readSeen_32 ?_
      rw [hst, decide_eq_false (by omega)]
      exact ⟨rfl, g_5, ((l2.sub (by decide)).tr (F_5.sub (by decide)))⟩
set_option maxHeartbeats 4000000 in
set_option maxRecDepth 100000 in
theorem kX7_readPair {l : Launch} {D : va_G} {cy : Nat → ClassId} {ad : Nat → Nat} {n : Nat} {A : Nat → Prop} (hI : mI ad n A) {M : Nat → va_E} (hn : 52 ≤ n) {tot i : Nat} (hr : M 47 = rdO ad (nI tot) (nI i)) {lim : Nat} {P : List Nat} (hg : isRow cy ad n M 5 6 2000 lim P) (hP : P.length ≤ lim) (hi : i ≤ P.length) {L : List Nat} (hl5 : isRow cy ad n M 50 51 32 32 L) {Fd : List Nat} (hf4 : isRow cy ad n M 48 49 256 256 Fd) : mMi l yX7_readPair (gW yX7_readPair cX7_readPair 3 (some .boolean)) { frames := 1, cells := 0, slots := 0, locals := 22 } D cy ad n A [.ref (ad 47)] M (fun res M' => res = bI (rPr P i).1 ∧ M' 47 = rdO ad (nI (if (rPr P i).1 = true then tot + 1 else tot)) (nI (rPr P i).2) ∧ isRow cy ad n M' 50 51 32 32 (L ++ (if (rPr P i).1 = true then [rBy P i] else [])) ∧ isRow cy ad n M' 48 49 256 256 (Fd ++ (if (rPr P i).1 = true then [rBy P i] else [])) ∧ Fr [47, 48, 49, 50, 51] M M') := by
  have hl2 : lim ≤ 2000 := hg.2.2.1
  have h256 : ∀ x ∈ P, x < 256 := hg.2.2.2.2.1
  refine m_entry (cc := cX7_readPair) (maxL := 3) (ret := (some .boolean)) (own := RX7) (lv := [(0, .ref (ad 47))]) hI (by decide) rfl rfl (Nat.le_of_ble_eq_true rfl) rfl (fun pX eX sX mX aX bX tX cX C hrt0 hlk0 => ?_)
  refine m_aload_n (pc' := 1) C dX7_readPair_0 rfl 0 rfl rfl ?_
  refine m_get (pc' := 4) C 47 (by omega) hr rfl inW_X7 0 (by decide) (gW_of tm_2_43) rfl rfl dX7_readPair_1 rfl ?_
  refine m_aload_n (pc' := 5) C dX7_readPair_4 rfl 0 rfl rfl ?_
  refine m_get (pc' := 8) C 47 (by omega) hr rfl inW_X7 4 (by decide) (gW_of tm_2_47) rfl rfl dX7_readPair_5 rfl ?_
  refine m_callVi (pc' := 11) (As := [.int (nI i)]) (rest := []) C (kX9_at hI hg (nI i)) (cwV 1 C.1.2.2.2.2 (goodV tm_4_216 tm_2_128 tm_2_129 tm_1_3 tm_2_130) rfl rfl rfl (by decide +kernel) ⟨by decide, by decide⟩) hg.1 hg.ob rfl rfl rfl (Nat.le_of_ble_eq_true rfl) dX7_readPair_8 rfl ⟨by decide, by decide⟩ (fun x_1 N_1 q_1 => ?_)
  obtain ⟨e_1, E_1⟩ := q_1
  replace E_1 := E_1.symm
  subst E_1
  replace e_1 : x_1 = chAt P i := e_1.trans (rowAt_full hP (by omega) (by omega))
  replace e_1 := e_1.symm
  subst e_1
  refine m_bipush (pc' := 13) (v := nI 16) C dX7_readPair_11 (by decide) rfl ?_
  refine m_callNi (pc' := 16) (As := [.int (chAt P i), .int (nI 16)]) (rest := []) C (kX11_digitOf hI (chAt P i) (nI 16)) ⟨va_cnB 2 C.1.2.2.2.2 (goodN tm_2_149) rfl rfl rfl (C.2.1.2 (RX7, 69, yX11_digitOf) (List.mem_of_getElem? (i := 8) rfl)) (C.1.2.2.2.2 _ (gW_of tm_1_1)) (by decide +kernel) ⟨by decide, by decide⟩, C.1.2.2.2.2 _ (gW_of tm_2_148), trivial⟩ rfl rfl (Nat.le_of_ble_eq_true rfl) dX7_readPair_13 rfl ⟨by decide, by decide⟩ (fun x_2 N_2 q_2 => ?_)
  obtain ⟨e_2, E_2⟩ := q_2
  replace E_2 := E_2.symm
  subst E_2
  replace e_2 : x_2 = dI (P.getD i 0) 16 := e_2.trans (digI_at (Or.inr (Or.inr rfl)) h256)
  replace e_2 := e_2.symm
  subst e_2
  refine m_istore_n (pc' := 17) (lv' := [(1, .int (dI (P.getD i 0) 16)), (0, .ref (ad 47))]) C dX7_readPair_16 rfl (by decide) rfl rfl ?_
  refine m_iload_n (pc' := 18) C dX7_readPair_17 rfl 0 rfl rfl ?_
  refine m_iconst (pc' := 19) (v := (-1)) C dX7_readPair_18 (by decide) rfl ?_
  refine m_icmp_ne (pc' := 22) (tgt := 24) C dX7_readPair_19 (by decide) rfl (fun c_19 => ?_) (fun c_19 => ?_)
  · have h19 : dvN (P.getD i 0) < 16 := Classical.not_not.mp (fun z => c_19 ((dI_m1 (by decide)).mpr z))
    have e19 : dI (P.getD i 0) 16 = nI (dvN (P.getD i 0)) := if_pos h19
    rw [e19]
    have hin1 := dv_in h19
    refine m_aload_n (pc' := 25) C dX7_readPair_24 rfl 1 rfl rfl ?_
    refine m_dup (pc' := 26) C dX7_readPair_25 rfl rfl ?_
    refine m_get (pc' := 29) C 47 (by omega) hr rfl inW_X7 4 (by decide) (gW_of tm_2_47) rfl rfl dX7_readPair_26 rfl ?_
    refine m_iconst (pc' := 30) (v := nI 1) C dX7_readPair_29 (by decide) rfl ?_
    refine m_iadd (pc' := 31) (v := nI (i + 1)) C dX7_readPair_30 (nI_add _ _) rfl ?_
    refine m_put (pc' := 34) (ty := .int) (fs' := [.ref (ad 5), .ref (ad 48), .ref (ad 50), .int (nI tot), .int (nI (i + 1))]) C 47 (by omega) hr rfl inW_X7 tyX7 tyX7_ok nmX7 4 (by decide) (gW_of tm_2_47) rfl rfl (by decide +kernel) rfl rfl (by simp) rfl dX7_readPair_31 rfl (fun M3 g_3 F_3 => ?_)
    refine m_aload_n (pc' := 35) C dX7_readPair_34 rfl 1 rfl rfl ?_
    refine m_get (pc' := 38) C 47 (by omega) g_3 rfl inW_X7 0 (by decide) (gW_of tm_2_43) rfl rfl dX7_readPair_35 rfl ?_
    refine m_aload_n (pc' := 39) C dX7_readPair_38 rfl 1 rfl rfl ?_
    refine m_get (pc' := 42) C 47 (by omega) g_3 rfl inW_X7 4 (by decide) (gW_of tm_2_47) rfl rfl dX7_readPair_39 rfl ?_
    have R5_4 := hg.fr F_3 (by decide) (by decide)
    refine m_callVi (pc' := 45) (As := [.int (nI (i + 1))]) (rest := []) C (kX9_at hI R5_4 (nI (i + 1))) (cwV 1 C.1.2.2.2.2 (goodV tm_4_216 tm_2_128 tm_2_129 tm_1_3 tm_2_130) rfl rfl rfl (by decide +kernel) ⟨by decide, by decide⟩) R5_4.1 R5_4.ob rfl rfl rfl (Nat.le_of_ble_eq_true rfl) dX7_readPair_42 rfl ⟨by decide, by decide⟩ (fun x_5 N_5 q_5 => ?_)
    obtain ⟨e_5, E_5⟩ := q_5
    replace E_5 := E_5.symm
    subst E_5
    replace e_5 : x_5 = chAt P (i + 1) := e_5.trans (rowAt_full hP (by omega) (by omega))
    replace e_5 := e_5.symm
    subst e_5
    refine m_bipush (pc' := 47) (v := nI 16) C dX7_readPair_45 (by decide) rfl ?_
    refine m_callNi (pc' := 50) (As := [.int (chAt P (i + 1)), .int (nI 16)]) (rest := []) C (kX11_digitOf hI (chAt P (i + 1)) (nI 16)) ⟨va_cnB 2 C.1.2.2.2.2 (goodN tm_2_149) rfl rfl rfl (C.2.1.2 (RX7, 69, yX11_digitOf) (List.mem_of_getElem? (i := 8) rfl)) (C.1.2.2.2.2 _ (gW_of tm_1_1)) (by decide +kernel) ⟨by decide, by decide⟩, C.1.2.2.2.2 _ (gW_of tm_2_148), trivial⟩ rfl rfl (Nat.le_of_ble_eq_true rfl) dX7_readPair_47 rfl ⟨by decide, by decide⟩ (fun x_6 N_6 q_6 => ?_)
    obtain ⟨e_6, E_6⟩ := q_6
    replace E_6 := E_6.symm
    subst E_6
    replace e_6 : x_6 = dI (P.getD (i + 1) 0) 16 := e_6.trans (digI_at (Or.inr (Or.inr rfl)) h256)
    replace e_6 := e_6.symm
    subst e_6
    refine m_istore_n (pc' := 51) (lv' := [(2, .int (dI (P.getD (i + 1) 0) 16)), (1, .int (nI (dvN (P.getD i 0)))), (0, .ref (ad 47))]) C dX7_readPair_50 rfl (by decide) rfl rfl ?_
    refine m_iload_n (pc' := 52) C dX7_readPair_51 rfl 0 rfl rfl ?_
    refine m_iconst (pc' := 53) (v := (-1)) C dX7_readPair_52 (by decide) rfl ?_
    refine m_icmp_ne (pc' := 56) (tgt := 58) C dX7_readPair_53 (by decide) rfl (fun c_53 => ?_) (fun c_53 => ?_)
    · have h53 : dvN (P.getD (i + 1) 0) < 16 := Classical.not_not.mp (fun z => c_53 ((dI_m1 (by decide)).mpr z))
      have e53 : dI (P.getD (i + 1) 0) 16 = nI (dvN (P.getD (i + 1) 0)) := if_pos h53
      rw [e53]
      have hby : rBy P i < 256 := by unfold rBy; omega
      refine m_aload_n (pc' := 59) C dX7_readPair_58 rfl 2 rfl rfl ?_
      refine m_dup (pc' := 60) C dX7_readPair_59 rfl rfl ?_
      refine m_get (pc' := 63) C 47 (by omega) g_3 rfl inW_X7 4 (by decide) (gW_of tm_2_47) rfl rfl dX7_readPair_60 rfl ?_
      refine m_iconst (pc' := 64) (v := nI 1) C dX7_readPair_63 (by decide) rfl ?_
      refine m_iadd (pc' := 65) (v := nI ((i + 1) + 1)) C dX7_readPair_64 (nI_add _ _) rfl ?_
      refine m_put (pc' := 68) (ty := .int) (fs' := [.ref (ad 5), .ref (ad 48), .ref (ad 50), .int (nI tot), .int (nI ((i + 1) + 1))]) C 47 (by omega) g_3 rfl inW_X7 tyX7 tyX7_ok nmX7 4 (by decide) (gW_of tm_2_47) rfl rfl (by decide +kernel) rfl rfl (by simp) rfl dX7_readPair_65 rfl (fun M7 g_7 F_7 => ?_)
      refine m_aload_n (pc' := 69) C dX7_readPair_68 rfl 2 rfl rfl ?_
      refine m_dup (pc' := 70) C dX7_readPair_69 rfl rfl ?_
      refine m_get (pc' := 73) C 47 (by omega) g_7 rfl inW_X7 3 (by decide) (gW_of tm_2_46) rfl rfl dX7_readPair_70 rfl ?_
      refine m_iconst (pc' := 74) (v := nI 1) C dX7_readPair_73 (by decide) rfl ?_
      refine m_iadd (pc' := 75) (v := nI (tot + 1)) C dX7_readPair_74 (nI_add _ _) rfl ?_
      refine m_put (pc' := 78) (ty := .int) (fs' := [.ref (ad 5), .ref (ad 48), .ref (ad 50), .int (nI (tot + 1)), .int (nI ((i + 1) + 1))]) C 47 (by omega) g_7 rfl inW_X7 tyX7 tyX7_ok nmX7 3 (by decide) (gW_of tm_2_46) rfl rfl (by decide +kernel) rfl rfl (by simp) rfl dX7_readPair_75 rfl (fun M8 g_8 F_8 => ?_)
      refine m_aload_n (pc' := 79) C dX7_readPair_78 rfl 2 rfl rfl ?_
      refine m_get (pc' := 82) C 47 (by omega) g_8 rfl inW_X7 2 (by decide) (gW_of tm_2_45) rfl rfl dX7_readPair_79 rfl ?_
      refine m_iload_n (pc' := 83) C dX7_readPair_82 rfl 1 rfl rfl ?_
      refine m_bipush (pc' := 85) (v := nI 16) C dX7_readPair_83 (by decide) rfl ?_
      refine m_imul (pc' := 86) (v := nI ((dvN (P.getD i 0)) * 16)) C dX7_readPair_85 (pk_mul _ _) rfl ?_
      refine m_iload_n (pc' := 87) C dX7_readPair_86 rfl 0 rfl rfl ?_
      refine m_iadd (pc' := 88) (v := nI (rBy P i)) C dX7_readPair_87 (nI_add _ _) rfl ?_
      have R50_9 := hl5.fr F_3 (by decide) (by decide)
      have R50_10 := R50_9.fr F_7 (by decide) (by decide)
      have R50_11 := R50_10.fr F_8 (by decide) (by decide)
      refine m_callVv (pc' := 91) (As := [.int (nI (rBy P i))]) (rest := []) C (kX9_add hI R50_11 (nI (rBy P i))) (cwV 1 C.1.2.2.2.2 (goodV tm_4_230 tm_2_211 tm_2_212 tm_1_3 tm_2_213) rfl rfl rfl (by decide +kernel) ⟨by decide, by decide⟩) R50_11.1 R50_11.ob rfl rfl rfl (Nat.le_of_ble_eq_true rfl) dX7_readPair_88 rfl ⟨by decide, by decide⟩ (fun M12 q_12 => ?_)
      obtain ⟨R_12, F_12⟩ := q_12
      rw [lowb_nI hby] at R_12
      refine m_aload_n (pc' := 92) C dX7_readPair_91 rfl 2 rfl rfl ?_
      have f47_13 : M12 47 = .inr (7, [.ref (ad 5), .ref (ad 48), .ref (ad 50), .int (nI (tot + 1)), .int (nI ((i + 1) + 1))]) := (F_12 47 (by decide)).trans g_8
      refine m_get (pc' := 95) C 47 (by omega) f47_13 rfl inW_X7 1 (by decide) (gW_of tm_2_44) rfl rfl dX7_readPair_92 rfl ?_
      refine m_iload_n (pc' := 96) C dX7_readPair_95 rfl 1 rfl rfl ?_
      refine m_bipush (pc' := 98) (v := nI 16) C dX7_readPair_96 (by decide) rfl ?_
      refine m_imul (pc' := 99) (v := nI ((dvN (P.getD i 0)) * 16)) C dX7_readPair_98 (pk_mul _ _) rfl ?_
      refine m_iload_n (pc' := 100) C dX7_readPair_99 rfl 0 rfl rfl ?_
      refine m_iadd (pc' := 101) (v := nI (rBy P i)) C dX7_readPair_100 (nI_add _ _) rfl ?_
      have R48_14 := hf4.fr F_3 (by decide) (by decide)
      have R48_15 := R48_14.fr F_7 (by decide) (by decide)
      have R48_16 := R48_15.fr F_8 (by decide) (by decide)
      have R48_17 := R48_16.fr F_12 (by decide) (by decide)
      refine m_callVv (pc' := 104) (As := [.int (nI (rBy P i))]) (rest := []) C (kX9_add hI R48_17 (nI (rBy P i))) (cwV 1 C.1.2.2.2.2 (goodV tm_4_230 tm_2_211 tm_2_212 tm_1_3 tm_2_213) rfl rfl rfl (by decide +kernel) ⟨by decide, by decide⟩) R48_17.1 R48_17.ob rfl rfl rfl (Nat.le_of_ble_eq_true rfl) dX7_readPair_101 rfl ⟨by decide, by decide⟩ (fun M18 q_18 => ?_)
      obtain ⟨R_18, F_18⟩ := q_18
      rw [lowb_nI hby] at R_18
      refine m_iconst (pc' := 105) (v := bI true) C dX7_readPair_104 (by decide) rfl ?_
      refine m_iret C hrt0 hlk0 (nar_z _) dX7_readPair_105 ?_
      have f47_19 : M18 47 = .inr (7, [.ref (ad 5), .ref (ad 48), .ref (ad 50), .int (nI (tot + 1)), .int (nI ((i + 1) + 1))]) := (F_18 47 (by decide)).trans f47_13
      have R50_20 := R_12.fr F_18 (by decide) (by decide)
      have hpr : rPr P i = (true, i + 2) := by unfold rPr; rw [if_neg (fun z => z h19), if_neg (fun z => z h53)]
      rw [hpr]
      exact ⟨rfl, f47_19, R50_20, R_18, (((((F_3.sub (by decide)).tr (F_7.sub (by decide))).tr (F_8.sub (by decide))).tr (F_12.sub (by decide))).tr (F_18.sub (by decide)))⟩
    · have h53 : ¬ dvN (P.getD (i + 1) 0) < 16 := (dI_m1 (by decide)).mp (Classical.not_not.mp c_53)
      refine m_iconst (pc' := 57) (v := bI false) C dX7_readPair_56 (by decide) rfl ?_
      refine m_iret C hrt0 hlk0 (nar_z _) dX7_readPair_57 ?_
      have R50_21 := hl5.fr F_3 (by decide) (by decide)
      have R48_22 := hf4.fr F_3 (by decide) (by decide)
      have hpr : rPr P i = (false, i + 1) := by unfold rPr; rw [if_neg (fun z => z h19), if_pos h53]
      rw [hpr]
      exact ⟨rfl, g_3, by dsimp only; rw [if_neg Bool.false_ne_true, List.append_nil]; exact R50_21, by dsimp only; rw [if_neg Bool.false_ne_true, List.append_nil]; exact R48_22, (F_3.sub (by decide))⟩
  · have h19 : ¬ dvN (P.getD i 0) < 16 := (dI_m1 (by decide)).mp (Classical.not_not.mp c_19)
    refine m_iconst (pc' := 23) (v := bI false) C dX7_readPair_22 (by decide) rfl ?_
    refine m_iret C hrt0 hlk0 (nar_z _) dX7_readPair_23 ?_
    have hpr : rPr P i = (false, i) := by unfold rPr; rw [if_pos h19]
    rw [hpr]
    exact ⟨rfl, hr, by dsimp only; rw [if_neg Bool.false_ne_true, List.append_nil]; exact hl5, by dsimp only; rw [if_neg Bool.false_ne_true, List.append_nil]; exact hf4, Fr.rf⟩
set_option maxHeartbeats 4000000 in
set_option maxRecDepth 100000 in
theorem kX7_readPairs {l : Launch} {D : va_G} {cy : Nat → ClassId} {ad : Nat → Nat} {n : Nat} {A : Nat → Prop} (hI : mI ad n A) {M : Nat → va_E} (hn : 52 ≤ n) {tot i : Nat} (hr : M 47 = rdO ad (nI tot) (nI i)) {lim : Nat} {P : List Nat} (hg : isRow cy ad n M 5 6 2000 lim P) (hP : P.length ≤ lim) (hi : i ≤ P.length) {L0 : List Nat} (hl5 : isRow cy ad n M 50 51 32 32 L0) {Fd : List Nat} (hf4 : isRow cy ad n M 48 49 256 256 Fd) {c g : Nat} (hc1 : 1 ≤ c) (hc32 : c ≤ 32) (hg1 : 0 < g) (hg32 : g ≤ 32) : mMi l yX7_readPairs (gW yX7_readPairs cX7_readPairs 4 (some .boolean)) { frames := 2, cells := 0, slots := 0, locals := 44 } D cy ad n A [.ref (ad 47), .int (nI c), .int (nI g)] M (fun res M' => res = bI (rPs P c g c 0 i []).1 ∧ M' 47 = rdO ad (nI (tot + (rPs P c g c 0 i []).2.2.length)) (nI (rPs P c g c 0 i []).2.1) ∧ isRow cy ad n M' 50 51 32 32 (rPs P c g c 0 i []).2.2 ∧ isRow cy ad n M' 48 49 256 256 (Fd ++ (rPs P c g c 0 i []).2.2) ∧ Fr [47, 48, 49, 50, 51] M M') := by
  have hl2 : lim ≤ 2000 := hg.2.2.1
  have h256 : ∀ x ∈ P, x < 256 := hg.2.2.2.2.1
  refine m_entry (cc := cX7_readPairs) (maxL := 4) (ret := (some .boolean)) (own := RX7) (lv := [(0, .ref (ad 47)), (1, .int (nI c)), (2, .int (nI g))]) hI (by decide) rfl rfl (Nat.le_of_ble_eq_true rfl) rfl (fun pX eX sX mX aX bX tX cX C hrt0 hlk0 => ?_)
  refine m_aload_n (pc' := 1) C dX7_readPairs_0 rfl 0 rfl rfl ?_
  refine m_get (pc' := 4) C 47 (by omega) hr rfl inW_X7 2 (by decide) (gW_of tm_2_45) rfl rfl dX7_readPairs_1 rfl ?_
  refine m_callVv (pc' := 7) (As := []) (rest := []) C (kX9_clear hI hl5.pre) (cwV 0 C.1.2.2.2.2 (goodV tm_4_206 tm_2_99 tm_2_100 tm_1_3 tm_2_101) rfl rfl rfl (by decide +kernel) ⟨by decide, by decide⟩) hl5.1 hl5.ob rfl rfl rfl (Nat.le_of_ble_eq_true rfl) dX7_readPairs_4 rfl ⟨by decide, by decide⟩ (fun M1 q_1 => ?_)
  obtain ⟨R_1, F_1⟩ := q_1
  refine m_iconst (pc' := 8) (v := nI 0) C dX7_readPairs_7 (by decide) rfl ?_
  refine m_istore_n (pc' := 9) (lv' := [(3, .int (nI 0)), (0, .ref (ad 47)), (1, .int (nI c)), (2, .int (nI g))]) C dX7_readPairs_8 rfl (by decide) rfl rfl ?_
  refine m_lv [1, 2, 3, 0] rfl ?_
  have f47_2 : M1 47 = .inr (7, [.ref (ad 5), .ref (ad 48), .ref (ad 50), .int (nI tot), .int (nI i)]) := (F_1 47 (by decide)).trans hr
  have R48_3 := hf4.fr F_1 (by decide) (by decide)
  refine m_loop (σ := Nat × Nat × List Nat × (Nat → va_E)) (fun a => a.2.2.2) (fun a => [(0, .ref (ad 47)), (1, .int (nI c)), (2, .int (nI g)), (3, .int (nI a.1))]) (fun a => (rPs P c g c 0 i []) = rPs P c g (c - a.1) a.1 a.2.1 a.2.2.1 ∧ a.1 ≤ c ∧ a.2.1 ≤ P.length ∧ a.2.2.1.length = a.1 ∧ a.2.2.2 47 = rdO ad (nI (tot + a.2.2.1.length)) (nI a.2.1) ∧ isRow cy ad n a.2.2.2 50 51 32 32 a.2.2.1 ∧ isRow cy ad n a.2.2.2 48 49 256 256 (Fd ++ a.2.2.1) ∧ Fr [47, 48, 49, 50, 51] M a.2.2.2) (fun a => c - a.1) (0, i, [], M1) (⟨rfl, Nat.zero_le _, hi, rfl, f47_2, R_1, by (try dsimp only); rw [List.append_nil]; exact R48_3, (F_1.sub (by decide))⟩) ?_
  rintro ⟨k, j, L, Mk⟩ hinv ih
  dsimp only at hinv ih ⊢
  obtain ⟨i1, i2, i3, i4, l1, l2, l3, l4⟩ := hinv
  refine m_iload_n (pc' := 10) C dX7_readPairs_9 rfl 3 rfl rfl ?_
  refine m_iload_n (pc' := 11) C dX7_readPairs_10 rfl 1 rfl rfl ?_
  refine m_icmp_ge (pc' := 14) (tgt := 71) C dX7_readPairs_11 (by decide) rfl (fun c_11 => ?_) (fun c_11 => ?_)
  · have n_11 : c ≤ k := (nI_leI (by omega) (by omega)).mp c_11
    have hfin : (rPs P c g c 0 i []) = (true, j, L) := by rw [i1, show c - k = 0 by omega]; rfl
    refine m_iconst (pc' := 72) (v := bI true) C dX7_readPairs_71 (by decide) rfl ?_
    refine m_iret C hrt0 hlk0 (nar_z _) dX7_readPairs_72 ?_
    rw [hfin]
    exact ⟨rfl, l1, l2, l3, l4⟩
  · have n_11 : k < c := Nat.lt_of_not_le (fun q => c_11 ((nI_leI (by omega) (by omega)).mpr q))
    refine m_iload_n (pc' := 15) C dX7_readPairs_14 rfl 3 rfl rfl ?_
    refine m_if_le (pc' := 18) (tgt := 36) C dX7_readPairs_15 (by decide) rfl (fun c_15 => ?_) (fun c_15 => ?_)
    · have n_15 : k = 0 := by
        rcases Nat.eq_zero_or_pos k with z | z
        · exact z
        · exact absurd c_15 (nI_nle z (by omega))
      have hnb : ¬ (0 < k ∧ P.getD j 0 = 32) := fun z => by omega
      refine m_aload_n (pc' := 37) C dX7_readPairs_36 rfl 0 rfl rfl ?_
      have R5_5 := hg.fr l4 (by decide) (by decide)
      refine m_callVi (pc' := 40) (As := []) (rest := []) C (kX7_readPair hI hn l1 R5_5 hP (by omega) l2 l3) (cwV 0 C.1.2.2.2.2 (goodV tm_4_226 tm_4_228 tp_45 tm_1_12 tm_4_229) rfl rfl rfl (by decide +kernel) ⟨by decide, by decide⟩) (by omega) l1 rfl rfl rfl (Nat.le_of_ble_eq_true rfl) dX7_readPairs_37 rfl ⟨by decide, by decide⟩ (fun x_4 M4 q_4 => ?_)
      obtain ⟨e_4, g_4, RL_4, RF_4, F_4⟩ := q_4
      replace e_4 := e_4.symm
      subst e_4
      refine m_if_ne (pc' := 43) (tgt := 45) C dX7_readPairs_40 (by decide) rfl (fun c_40 => ?_) (fun c_40 => ?_)
      · have h40 : ¬ (rPr P j).1 = false := by rw [ts_of c_40]; decide
        have e40 := rPr_t h40
        have hin2 : j + 2 ≤ P.length := by have := rPr_le i3; rw [e40] at this; exact this
        rw [e40] at g_4 RL_4 RF_4
        replace g_4 : M4 47 = rdO ad (nI (tot + (L ++ [rBy P j]).length)) (nI (j + 2)) := by rw [List.length_append]; exact g_4
        replace RL_4 : isRow cy ad n M4 50 51 32 32 (L ++ [rBy P j]) := RL_4
        replace RF_4 : isRow cy ad n M4 48 49 256 256 (Fd ++ (L ++ [rBy P j])) := by rw [← List.append_assoc]; exact RF_4
        have hlen9 : (L ++ [rBy P j]).length = k + 1 := by rw [List.length_append, i4]; rfl
        refine m_iload_n (pc' := 46) C dX7_readPairs_45 rfl 3 rfl rfl ?_
        refine m_iload_n (pc' := 47) C dX7_readPairs_46 rfl 1 rfl rfl ?_
        refine m_iload_n (pc' := 48) C dX7_readPairs_47 rfl 2 rfl rfl ?_
        refine m_callNi (pc' := 51) (As := [.int (nI k), .int (nI c), .int (nI g)]) (rest := []) C (kX11_endsGroup hI (by omega) (by omega) (by omega) hg1) ⟨va_cnB 3 C.1.2.2.2.2 (goodN tm_4_176) rfl rfl rfl (C.2.1.2 (RX7, 75, yX11_endsGroup) (List.mem_of_getElem? (i := 9) rfl)) (C.1.2.2.2.2 _ (gW_of tm_1_1)) (by decide +kernel) ⟨by decide, by decide⟩, C.1.2.2.2.2 _ (gW_of tm_4_175), trivial⟩ rfl rfl (Nat.le_of_ble_eq_true rfl) dX7_readPairs_48 rfl ⟨by decide, by decide⟩ (fun x_6 N_6 q_6 => ?_)
        obtain ⟨e_6, E_6⟩ := q_6
        replace E_6 := E_6.symm
        subst E_6
        replace e_6 := e_6.symm
        subst e_6
        refine m_if_eq (pc' := 54) (tgt := 65) C dX7_readPairs_51 (by decide) rfl (fun c_51 => ?_) (fun c_51 => ?_)
        · have h51 : egB k c g = false := (bI_0 _).mp c_51
          have hin := hin2
          have hst : (rPs P c g c 0 i []) = rPs P c g (c - (k + 1)) (k + 1) (j + 2) (L ++ [rBy P j]) := by rw [i1, show c - k = (c - (k + 1)) + 1 by omega, rPs, if_neg hnb, if_neg h40, if_pos h51]
          refine m_iinc (pc' := 68) (v := nI (k + 1)) (lv' := [(3, .int (nI (k + 1))), (0, .ref (ad 47)), (1, .int (nI c)), (2, .int (nI g))]) C dX7_readPairs_65 (k := 3) rfl (nI_add _ _) (by decide) rfl rfl ?_
          refine m_goto (tgt := 9) C dX7_readPairs_68 (by decide) ?_
          refine m_lv [1, 2, 3, 0] rfl ?_
          exact ih (k + 1, j + 2, L ++ [rBy P j], M4) (⟨hst, by (try dsimp only); omega, hin, hlen9, g_4, RL_4, RF_4, (l4.tr (F_4.sub (by decide)))⟩) (by simp only; omega)
        · have h51 : ¬ egB k c g = false := by rw [ts_of c_51]; decide
          refine m_aload_n (pc' := 55) C dX7_readPairs_54 rfl 0 rfl rfl ?_
          refine m_bipush (pc' := 57) (v := nI 32) C dX7_readPairs_55 (by decide) rfl ?_
          have R5_8 := R5_5.fr F_4 (by decide) (by decide)
          refine m_callVi (pc' := 60) (As := [.int (nI 32)]) (rest := []) C (kX7_readOne hI hn g_4 R5_8 hP (by omega) (q := 32) (by decide) (by decide)) (cwV 1 C.1.2.2.2.2 (goodV tm_4_218 tm_4_220 tp_43 tm_1_12 tm_4_221) rfl rfl rfl (by decide +kernel) ⟨by decide, by decide⟩) (by omega) g_4 rfl rfl rfl (Nat.le_of_ble_eq_true rfl) dX7_readPairs_57 rfl ⟨by decide, by decide⟩ (fun x_7 M7 q_7 => ?_)
          obtain ⟨e_7, g_7, F_7⟩ := q_7
          replace e_7 := e_7.symm
          subst e_7
          refine m_if_ne (pc' := 63) (tgt := 65) C dX7_readPairs_60 (by decide) rfl (fun c_60 => ?_) (fun c_60 => ?_)
          · have h60 : P.getD (j + 2) 0 = 32 := of_decide_eq_true (ts_of c_60)
            rw [if_pos h60] at g_7
            have hin : j + 3 ≤ P.length := gd_in h60 (by decide)
            have hst : (rPs P c g c 0 i []) = rPs P c g (c - (k + 1)) (k + 1) (j + 3) (L ++ [rBy P j]) := by rw [i1, show c - k = (c - (k + 1)) + 1 by omega, rPs, if_neg hnb, if_neg h40, if_neg h51, if_pos h60]
            refine m_iinc (pc' := 68) (v := nI (k + 1)) (lv' := [(3, .int (nI (k + 1))), (0, .ref (ad 47)), (1, .int (nI c)), (2, .int (nI g))]) C dX7_readPairs_65 (k := 3) rfl (nI_add _ _) (by decide) rfl rfl ?_
            refine m_goto (tgt := 9) C dX7_readPairs_68 (by decide) ?_
            have R50_9 := RL_4.fr F_7 (by decide) (by decide)
            have R48_10 := RF_4.fr F_7 (by decide) (by decide)
            refine m_lv [1, 2, 3, 0] rfl ?_
            exact ih (k + 1, j + 3, L ++ [rBy P j], M7) (⟨hst, by (try dsimp only); omega, hin, hlen9, g_7, R50_9, R48_10, ((l4.tr (F_4.sub (by decide))).tr (F_7.sub (by decide)))⟩) (by simp only; omega)
          · have h60 : ¬ P.getD (j + 2) 0 = 32 := of_decide_eq_false ((bI_0 _).mp (Classical.not_not.mp c_60))
            rw [if_neg h60] at g_7
            have hfin : (rPs P c g c 0 i []) = (false, j + 2, L ++ [rBy P j]) := by rw [i1, show c - k = (c - (k + 1)) + 1 by omega, rPs, if_neg hnb, if_neg h40, if_neg h51, if_neg h60]
            refine m_iconst (pc' := 64) (v := bI false) C dX7_readPairs_63 (by decide) rfl ?_
            refine m_iret C hrt0 hlk0 (nar_z _) dX7_readPairs_64 ?_
            have R50_11 := RL_4.fr F_7 (by decide) (by decide)
            have R48_12 := RF_4.fr F_7 (by decide) (by decide)
            rw [hfin]
            exact ⟨rfl, g_7, R50_11, R48_12, ((l4.tr (F_4.sub (by decide))).tr (F_7.sub (by decide)))⟩
      · have h40 : (rPr P j).1 = false := (bI_0 _).mp (Classical.not_not.mp c_40)
        have hfin : (rPs P c g c 0 i []) = (false, (rPr P j).2, L) := by rw [i1, show c - k = (c - (k + 1)) + 1 by omega, rPs, if_neg hnb, if_pos h40]
        refine m_iconst (pc' := 44) (v := bI false) C dX7_readPairs_43 (by decide) rfl ?_
        refine m_iret C hrt0 hlk0 (nar_z _) dX7_readPairs_44 ?_
        rw [h40] at g_4 RL_4 RF_4
        rw [if_neg Bool.false_ne_true] at g_4 RL_4 RF_4
        rw [List.append_nil] at RL_4 RF_4
        rw [hfin]
        exact ⟨rfl, g_4, RL_4, RF_4, (l4.tr (F_4.sub (by decide)))⟩
    · have n_15 : 0 < k := by
        rcases Nat.eq_zero_or_pos k with z | z
        · exact absurd (by rw [z]; decide) c_15
        · exact z
      refine m_aload_n (pc' := 19) C dX7_readPairs_18 rfl 0 rfl rfl ?_
      refine m_get (pc' := 22) C 47 (by omega) l1 rfl inW_X7 0 (by decide) (gW_of tm_2_43) rfl rfl dX7_readPairs_19 rfl ?_
      refine m_aload_n (pc' := 23) C dX7_readPairs_22 rfl 0 rfl rfl ?_
      refine m_get (pc' := 26) C 47 (by omega) l1 rfl inW_X7 4 (by decide) (gW_of tm_2_47) rfl rfl dX7_readPairs_23 rfl ?_
      have R5_13 := hg.fr l4 (by decide) (by decide)
      refine m_callVi (pc' := 29) (As := [.int (nI j)]) (rest := []) C (kX9_at hI R5_13 (nI j)) (cwV 1 C.1.2.2.2.2 (goodV tm_4_216 tm_2_128 tm_2_129 tm_1_3 tm_2_130) rfl rfl rfl (by decide +kernel) ⟨by decide, by decide⟩) R5_13.1 R5_13.ob rfl rfl rfl (Nat.le_of_ble_eq_true rfl) dX7_readPairs_26 rfl ⟨by decide, by decide⟩ (fun x_14 N_14 q_14 => ?_)
      obtain ⟨e_14, E_14⟩ := q_14
      replace E_14 := E_14.symm
      subst E_14
      replace e_14 : x_14 = chAt P j := e_14.trans (rowAt_full hP (by omega) (by omega))
      replace e_14 := e_14.symm
      subst e_14
      refine m_bipush (pc' := 31) (v := nI 32) C dX7_readPairs_29 (by decide) rfl ?_
      refine m_icmp_ne (pc' := 34) (tgt := 36) C dX7_readPairs_31 (by decide) rfl (fun c_31 => ?_) (fun c_31 => ?_)
      · have hnb : ¬ (0 < k ∧ P.getD j 0 = 32) := fun z => c_31 ((chAt_eq h256 (by decide) (by decide)).mpr z.2)
        refine m_aload_n (pc' := 37) C dX7_readPairs_36 rfl 0 rfl rfl ?_
        refine m_callVi (pc' := 40) (As := []) (rest := []) C (kX7_readPair hI hn l1 R5_13 hP (by omega) l2 l3) (cwV 0 C.1.2.2.2.2 (goodV tm_4_226 tm_4_228 tp_45 tm_1_12 tm_4_229) rfl rfl rfl (by decide +kernel) ⟨by decide, by decide⟩) (by omega) l1 rfl rfl rfl (Nat.le_of_ble_eq_true rfl) dX7_readPairs_37 rfl ⟨by decide, by decide⟩ (fun x_15 M15 q_15 => ?_)
        obtain ⟨e_15, g_15, RL_15, RF_15, F_15⟩ := q_15
        replace e_15 := e_15.symm
        subst e_15
        refine m_if_ne (pc' := 43) (tgt := 45) C dX7_readPairs_40 (by decide) rfl (fun c_40 => ?_) (fun c_40 => ?_)
        · have h40 : ¬ (rPr P j).1 = false := by rw [ts_of c_40]; decide
          have e40 := rPr_t h40
          have hin2 : j + 2 ≤ P.length := by have := rPr_le i3; rw [e40] at this; exact this
          rw [e40] at g_15 RL_15 RF_15
          replace g_15 : M15 47 = rdO ad (nI (tot + (L ++ [rBy P j]).length)) (nI (j + 2)) := by rw [List.length_append]; exact g_15
          replace RL_15 : isRow cy ad n M15 50 51 32 32 (L ++ [rBy P j]) := RL_15
          replace RF_15 : isRow cy ad n M15 48 49 256 256 (Fd ++ (L ++ [rBy P j])) := by rw [← List.append_assoc]; exact RF_15
          have hlen9 : (L ++ [rBy P j]).length = k + 1 := by rw [List.length_append, i4]; rfl
          refine m_iload_n (pc' := 46) C dX7_readPairs_45 rfl 3 rfl rfl ?_
          refine m_iload_n (pc' := 47) C dX7_readPairs_46 rfl 1 rfl rfl ?_
          refine m_iload_n (pc' := 48) C dX7_readPairs_47 rfl 2 rfl rfl ?_
          refine m_callNi (pc' := 51) (As := [.int (nI k), .int (nI c), .int (nI g)]) (rest := []) C (kX11_endsGroup hI (by omega) (by omega) (by omega) hg1) ⟨va_cnB 3 C.1.2.2.2.2 (goodN tm_4_176) rfl rfl rfl (C.2.1.2 (RX7, 75, yX11_endsGroup) (List.mem_of_getElem? (i := 9) rfl)) (C.1.2.2.2.2 _ (gW_of tm_1_1)) (by decide +kernel) ⟨by decide, by decide⟩, C.1.2.2.2.2 _ (gW_of tm_4_175), trivial⟩ rfl rfl (Nat.le_of_ble_eq_true rfl) dX7_readPairs_48 rfl ⟨by decide, by decide⟩ (fun x_16 N_16 q_16 => ?_)
          obtain ⟨e_16, E_16⟩ := q_16
          replace E_16 := E_16.symm
          subst E_16
          replace e_16 := e_16.symm
          subst e_16
          refine m_if_eq (pc' := 54) (tgt := 65) C dX7_readPairs_51 (by decide) rfl (fun c_51 => ?_) (fun c_51 => ?_)
          · have h51 : egB k c g = false := (bI_0 _).mp c_51
            have hin := hin2
            have hst : (rPs P c g c 0 i []) = rPs P c g (c - (k + 1)) (k + 1) (j + 2) (L ++ [rBy P j]) := by rw [i1, show c - k = (c - (k + 1)) + 1 by omega, rPs, if_neg hnb, if_neg h40, if_pos h51]
            refine m_iinc (pc' := 68) (v := nI (k + 1)) (lv' := [(3, .int (nI (k + 1))), (0, .ref (ad 47)), (1, .int (nI c)), (2, .int (nI g))]) C dX7_readPairs_65 (k := 3) rfl (nI_add _ _) (by decide) rfl rfl ?_
            refine m_goto (tgt := 9) C dX7_readPairs_68 (by decide) ?_
            refine m_lv [1, 2, 3, 0] rfl ?_
            exact ih (k + 1, j + 2, L ++ [rBy P j], M15) (⟨hst, by (try dsimp only); omega, hin, hlen9, g_15, RL_15, RF_15, (l4.tr (F_15.sub (by decide)))⟩) (by simp only; omega)
          · have h51 : ¬ egB k c g = false := by rw [ts_of c_51]; decide
            refine m_aload_n (pc' := 55) C dX7_readPairs_54 rfl 0 rfl rfl ?_
            refine m_bipush (pc' := 57) (v := nI 32) C dX7_readPairs_55 (by decide) rfl ?_
            have R5_18 := R5_13.fr F_15 (by decide) (by decide)
            refine m_callVi (pc' := 60) (As := [.int (nI 32)]) (rest := []) C (kX7_readOne hI hn g_15 R5_18 hP (by omega) (q := 32) (by decide) (by decide)) (cwV 1 C.1.2.2.2.2 (goodV tm_4_218 tm_4_220 tp_43 tm_1_12 tm_4_221) rfl rfl rfl (by decide +kernel) ⟨by decide, by decide⟩) (by omega) g_15 rfl rfl rfl (Nat.le_of_ble_eq_true rfl) dX7_readPairs_57 rfl ⟨by decide, by decide⟩ (fun x_17 M17 q_17 => ?_)
            obtain ⟨e_17, g_17, F_17⟩ := q_17
            replace e_17 := e_17.symm
            subst e_17
            refine m_if_ne (pc' := 63) (tgt := 65) C dX7_readPairs_60 (by decide) rfl (fun c_60 => ?_) (fun c_60 => ?_)
            · have h60 : P.getD (j + 2) 0 = 32 := of_decide_eq_true (ts_of c_60)
              rw [if_pos h60] at g_17
              have hin : j + 3 ≤ P.length := gd_in h60 (by decide)
              have hst : (rPs P c g c 0 i []) = rPs P c g (c - (k + 1)) (k + 1) (j + 3) (L ++ [rBy P j]) := by rw [i1, show c - k = (c - (k + 1)) + 1 by omega, rPs, if_neg hnb, if_neg h40, if_neg h51, if_pos h60]
              refine m_iinc (pc' := 68) (v := nI (k + 1)) (lv' := [(3, .int (nI (k + 1))), (0, .ref (ad 47)), (1, .int (nI c)), (2, .int (nI g))]) C dX7_readPairs_65 (k := 3) rfl (nI_add _ _) (by decide) rfl rfl ?_
              refine m_goto (tgt := 9) C dX7_readPairs_68 (by decide) ?_
              have R50_19 := RL_15.fr F_17 (by decide) (by decide)
              have R48_20 := RF_15.fr F_17 (by decide) (by decide)
              refine m_lv [1, 2, 3, 0] rfl ?_
              exact ih (k + 1, j + 3, L ++ [rBy P j], M17) (⟨hst, by (try dsimp only); omega, hin, hlen9, g_17, R50_19, R48_20, ((l4.tr (F_15.sub (by decide))).tr (F_17.sub (by decide)))⟩) (by simp only; omega)
            · have h60 : ¬ P.getD (j + 2) 0 = 32 := of_decide_eq_false ((bI_0 _).mp (Classical.not_not.mp c_60))
              rw [if_neg h60] at g_17
              have hfin : (rPs P c g c 0 i []) = (false, j + 2, L ++ [rBy P j]) := by rw [i1, show c - k = (c - (k + 1)) + 1 by omega, rPs, if_neg hnb, if_neg h40, if_neg h51, if_neg h60]
              refine m_iconst (pc' := 64) (v := bI false) C dX7_readPairs_63 (by decide) rfl ?_
              refine m_iret C hrt0 hlk0 (nar_z _) dX7_readPairs_64 ?_
              have R50_21 := RL_15.fr F_17 (by decide) (by decide)
              have R48_22 := RF_15.fr F_17 (by decide) (by decide)
              rw [hfin]
              exact ⟨rfl, g_17, R50_21, R48_22, ((l4.tr (F_15.sub (by decide))).tr (F_17.sub (by decide)))⟩
        · have h40 : (rPr P j).1 = false := (bI_0 _).mp (Classical.not_not.mp c_40)
          have hfin : (rPs P c g c 0 i []) = (false, (rPr P j).2, L) := by rw [i1, show c - k = (c - (k + 1)) + 1 by omega, rPs, if_neg hnb, if_pos h40]
          refine m_iconst (pc' := 44) (v := bI false) C dX7_readPairs_43 (by decide) rfl ?_
          refine m_iret C hrt0 hlk0 (nar_z _) dX7_readPairs_44 ?_
          rw [h40] at g_15 RL_15 RF_15
          rw [if_neg Bool.false_ne_true] at g_15 RL_15 RF_15
          rw [List.append_nil] at RL_15 RF_15
          rw [hfin]
          exact ⟨rfl, g_15, RL_15, RF_15, (l4.tr (F_15.sub (by decide)))⟩
      · have h31 : P.getD j 0 = 32 := (chAt_eq h256 (by decide) (by decide)).mp (Classical.not_not.mp c_31)
        have hfin : (rPs P c g c 0 i []) = (true, j, L) := by rw [i1, show c - k = (c - (k + 1)) + 1 by omega, rPs, if_pos ⟨n_15, h31⟩]
        refine m_iconst (pc' := 35) (v := bI true) C dX7_readPairs_34 (by decide) rfl ?_
        refine m_iret C hrt0 hlk0 (nar_z _) dX7_readPairs_35 ?_
        rw [hfin]
        exact ⟨rfl, l1, l2, l3, l4⟩
set_option maxHeartbeats 4000000 in
set_option maxRecDepth 100000 in
theorem kX7_readLine {l : Launch} {D : va_G} {cy : Nat → ClassId} {ad : Nat → Nat} {n : Nat} {A : Nat → Prop} (hI : mI ad n A) {M : Nat → va_E} (hn : 52 ≤ n) {tot i : Nat} (hr : M 47 = rdO ad (nI tot) (nI i)) {lim : Nat} {P : List Nat} (hg : isRow cy ad n M 5 6 2000 lim P) (hP : P.length ≤ lim) (hi : i ≤ P.length) (htot : tot < 2 ^ 20) {L0 : List Nat} (hl5 : isRow cy ad n M 50 51 32 32 L0) {Fd : List Nat} (hf4 : isRow cy ad n M 48 49 256 256 Fd) {c g : Nat} (hc1 : 1 ≤ c) (hc32 : c ≤ 32) (hg1 : 0 < g) (hg32 : g ≤ 32) : mMi l yX7_readLine (gW yX7_readLine cX7_readLine 5 (some .boolean)) { frames := 3, cells := 0, slots := 0, locals := 67 } D cy ad n A [.ref (ad 47), .int (nI c), .int (nI g), .int (nI (pwN c g))] M (fun res M' => res = bI (rLine P c g tot i).1 ∧ (∃ (t2 : Nat) (L2 Fd2 : List Nat), M' 47 = rdO ad (nI t2) (nI (rLine P c g tot i).2.1) ∧ isRow cy ad n M' 50 51 32 32 L2 ∧ isRow cy ad n M' 48 49 256 256 Fd2 ∧ ((rLine P c g tot i).1 = true → L2 = (rLine P c g tot i).2.2 ∧ Fd2 = Fd ++ (rLine P c g tot i).2.2 ∧ t2 = tot + (rLine P c g tot i).2.2.length)) ∧ Fr [47, 48, 49, 50, 51] M M') := by
  have hl2 : lim ≤ 2000 := hg.2.2.1
  have h256 : ∀ x ∈ P, x < 256 := hg.2.2.2.2.1
  refine m_entry (cc := cX7_readLine) (maxL := 5) (ret := (some .boolean)) (own := RX7) (lv := [(0, .ref (ad 47)), (1, .int (nI c)), (2, .int (nI g)), (3, .int (nI (pwN c g)))]) hI (by decide) rfl rfl (Nat.le_of_ble_eq_true rfl) rfl (fun pX eX sX mX aX bX tX cX C hrt0 hlk0 => ?_)
  refine m_aload_n (pc' := 1) C dX7_readLine_0 rfl 0 rfl rfl ?_
  refine m_callVi (pc' := 4) (As := []) (rest := []) C (kX7_readAddress hI hn hr hg hP (by omega) htot) (cwV 0 C.1.2.2.2.2 (goodV tm_4_212 tm_4_214 tp_42 tm_1_12 tm_4_215) rfl rfl rfl (by decide +kernel) ⟨by decide, by decide⟩) (by omega) hr rfl rfl rfl (Nat.le_of_ble_eq_true rfl) dX7_readLine_1 rfl ⟨by decide, by decide⟩ (fun x_1 M1 q_1 => ?_)
  obtain ⟨e_1, g_1, F_1⟩ := q_1
  replace e_1 := e_1.symm
  subst e_1
  refine m_if_eq (pc' := 7) (tgt := 25) C dX7_readLine_4 (by decide) rfl (fun c_4 => ?_) (fun c_4 => ?_)
  · have h4 : ¬ rAdr P tot i = 8 := of_decide_eq_false ((bI_0 _).mp c_4)
    have hfin : (rLine P c g tot i) = (false, i + rAdr P tot i, []) := by unfold rLine; rw [if_pos h4]
    refine m_iconst (pc' := 26) (v := bI false) C dX7_readLine_25 (by decide) rfl ?_
    refine m_iret C hrt0 hlk0 (nar_z _) dX7_readLine_26 ?_
    have R50_2 := hl5.fr F_1 (by decide) (by decide)
    have R48_3 := hf4.fr F_1 (by decide) (by decide)
    rw [hfin]
    exact ⟨rfl, ⟨_, _, _, g_1, R50_2, R48_3, fun z => by cases z⟩, (F_1.sub (by decide))⟩
  · have h4 : rAdr P tot i = 8 := of_decide_eq_true (ts_of c_4)
    have hin8 := rAdr_le (tot := tot) hi
    rw [h4] at hin8 g_1
    refine m_aload_n (pc' := 8) C dX7_readLine_7 rfl 0 rfl rfl ?_
    refine m_bipush (pc' := 10) (v := nI 58) C dX7_readLine_8 (by decide) rfl ?_
    have R5_5 := hg.fr F_1 (by decide) (by decide)
    refine m_callVi (pc' := 13) (As := [.int (nI 58)]) (rest := []) C (kX7_readOne hI hn g_1 R5_5 hP (by omega) (q := 58) (by decide) (by decide)) (cwV 1 C.1.2.2.2.2 (goodV tm_4_218 tm_4_220 tp_43 tm_1_12 tm_4_221) rfl rfl rfl (by decide +kernel) ⟨by decide, by decide⟩) (by omega) g_1 rfl rfl rfl (Nat.le_of_ble_eq_true rfl) dX7_readLine_10 rfl ⟨by decide, by decide⟩ (fun x_4 M4 q_4 => ?_)
    obtain ⟨e_4, g_4, F_4⟩ := q_4
    replace e_4 := e_4.symm
    subst e_4
    refine m_if_eq (pc' := 16) (tgt := 25) C dX7_readLine_13 (by decide) rfl (fun c_13 => ?_) (fun c_13 => ?_)
    · have h13 : ¬ P.getD (i + 8) 0 = 58 := of_decide_eq_false ((bI_0 _).mp c_13)
      rw [if_neg h13] at g_4
      have hfin : (rLine P c g tot i) = (false, i + 8, []) := by unfold rLine; rw [if_neg (fun z => z h4), if_pos h13]
      refine m_iconst (pc' := 26) (v := bI false) C dX7_readLine_25 (by decide) rfl ?_
      refine m_iret C hrt0 hlk0 (nar_z _) dX7_readLine_26 ?_
      have R50_6 := hl5.fr F_1 (by decide) (by decide)
      have R50_7 := R50_6.fr F_4 (by decide) (by decide)
      have R48_8 := hf4.fr F_1 (by decide) (by decide)
      have R48_9 := R48_8.fr F_4 (by decide) (by decide)
      rw [hfin]
      exact ⟨rfl, ⟨_, _, _, g_4, R50_7, R48_9, fun z => by cases z⟩, ((F_1.sub (by decide)).tr (F_4.sub (by decide)))⟩
    · have h13 : P.getD (i + 8) 0 = 58 := of_decide_eq_true (ts_of c_13)
      rw [if_pos h13] at g_4
      have hin9a := gd_in h13 (by decide)
      refine m_aload_n (pc' := 17) C dX7_readLine_16 rfl 0 rfl rfl ?_
      refine m_bipush (pc' := 19) (v := nI 32) C dX7_readLine_17 (by decide) rfl ?_
      have R5_11 := R5_5.fr F_4 (by decide) (by decide)
      refine m_callVi (pc' := 22) (As := [.int (nI 32)]) (rest := []) C (kX7_readOne hI hn g_4 R5_11 hP (by omega) (q := 32) (by decide) (by decide)) (cwV 1 C.1.2.2.2.2 (goodV tm_4_218 tm_4_220 tp_43 tm_1_12 tm_4_221) rfl rfl rfl (by decide +kernel) ⟨by decide, by decide⟩) (by omega) g_4 rfl rfl rfl (Nat.le_of_ble_eq_true rfl) dX7_readLine_19 rfl ⟨by decide, by decide⟩ (fun x_10 M10 q_10 => ?_)
      obtain ⟨e_10, g_10, F_10⟩ := q_10
      replace e_10 := e_10.symm
      subst e_10
      refine m_if_ne (pc' := 25) (tgt := 27) C dX7_readLine_22 (by decide) rfl (fun c_22 => ?_) (fun c_22 => ?_)
      · have h22 : P.getD (i + 9) 0 = 32 := of_decide_eq_true (ts_of c_22)
        rw [if_pos h22] at g_10
        have hin10 : i + 10 ≤ P.length := gd_in h22 (by decide)
        refine m_aload_n (pc' := 28) C dX7_readLine_27 rfl 0 rfl rfl ?_
        refine m_get (pc' := 31) C 47 (by omega) g_10 rfl inW_X7 4 (by decide) (gW_of tm_2_47) rfl rfl dX7_readLine_28 rfl ?_
        refine m_iload_n (pc' := 32) C dX7_readLine_31 rfl 3 rfl rfl ?_
        refine m_iadd (pc' := 33) (v := nI ((i + 10) + (pwN c g))) C dX7_readLine_32 (nI_add _ _) rfl ?_
        refine m_istore (pc' := 35) (lv' := [(4, .int (nI ((i + 10) + (pwN c g)))), (0, .ref (ad 47)), (1, .int (nI c)), (2, .int (nI g)), (3, .int (nI (pwN c g)))]) C dX7_readLine_33 (by decide) rfl rfl ?_
        refine m_aload_n (pc' := 36) C dX7_readLine_35 rfl 1 rfl rfl ?_
        refine m_iload_n (pc' := 37) C dX7_readLine_36 rfl 2 rfl rfl ?_
        refine m_iload_n (pc' := 38) C dX7_readLine_37 rfl 3 rfl rfl ?_
        have R5_13 := R5_11.fr F_10 (by decide) (by decide)
        have R50_14 := hl5.fr F_1 (by decide) (by decide)
        have R50_15 := R50_14.fr F_4 (by decide) (by decide)
        have R50_16 := R50_15.fr F_10 (by decide) (by decide)
        have R48_17 := hf4.fr F_1 (by decide) (by decide)
        have R48_18 := R48_17.fr F_4 (by decide) (by decide)
        have R48_19 := R48_18.fr F_10 (by decide) (by decide)
        refine m_callVi (pc' := 41) (As := [.int (nI c), .int (nI g)]) (rest := []) C (kX7_readPairs hI hn g_10 R5_13 hP hin10 R50_16 R48_19 hc1 hc32 hg1 hg32) (cwV 2 C.1.2.2.2.2 (goodV tm_4_222 tm_4_224 tp_44 tm_1_12 tm_4_225) rfl rfl rfl (by decide +kernel) ⟨by decide, by decide⟩) (by omega) g_10 rfl rfl rfl (Nat.le_of_ble_eq_true rfl) dX7_readLine_38 rfl ⟨by decide, by decide⟩ (fun x_12 M12 q_12 => ?_)
        obtain ⟨e_12, g_12, RL_12, RF_12, F_12⟩ := q_12
        replace e_12 := e_12.symm
        subst e_12
        have hle9 := rPs_le (P := P) (c := c) (g := g) c 0 (i + 10) [] hin10
        obtain ⟨a9, ha9⟩ : ∃ z, z = (rPs P c g c 0 (i + 10) []).2.1 := ⟨_, rfl⟩
        obtain ⟨L9, hL9⟩ : ∃ z, z = (rPs P c g c 0 (i + 10) []).2.2 := ⟨_, rfl⟩
        rw [← ha9, ← hL9] at g_12
        rw [← hL9] at RL_12 RF_12
        rw [← ha9, ← hL9] at hle9
        have hL3 : L9.length ≤ 32 := by have := hle9.2; rw [List.length_nil] at this; omega
        have hin9 := hle9.1
        refine m_if_eq (pc' := 44) (tgt := 62) C dX7_readLine_41 (by decide) rfl (fun c_41 => ?_) (fun c_41 => ?_)
        · have h41 : (rPs P c g c 0 (i + 10) []).1 = false := (bI_0 _).mp c_41
          have hfin : (rLine P c g tot i) = (false, a9, []) := by unfold rLine; rw [if_neg (fun z => z h4), if_neg (fun z => z h13), if_neg (fun z => z h22), if_pos h41, ha9]
          refine m_iconst (pc' := 63) (v := bI false) C dX7_readLine_62 (by decide) rfl ?_
          refine m_iret C hrt0 hlk0 (nar_z _) dX7_readLine_63 ?_
          rw [hfin]
          exact ⟨rfl, ⟨_, _, _, g_12, RL_12, RF_12, fun z => by cases z⟩, ((((F_1.sub (by decide)).tr (F_4.sub (by decide))).tr (F_10.sub (by decide))).tr (F_12.sub (by decide)))⟩
        · have h41 : ¬ (rPs P c g c 0 (i + 10) []).1 = false := by rw [ts_of c_41]; decide
          have hmid : (rLine P c g tot i) = (if a9 + rBl P (i + 10 + pwN c g + 1) a9 < i + 10 + pwN c g + 1 then (false, a9 + rBl P (i + 10 + pwN c g + 1) a9, []) else if ¬ rSn P L9 (a9 + rBl P (i + 10 + pwN c g + 1) a9) = L9.length then (false, a9 + rBl P (i + 10 + pwN c g + 1) a9 + rSn P L9 (a9 + rBl P (i + 10 + pwN c g + 1) a9), []) else if P.getD (a9 + rBl P (i + 10 + pwN c g + 1) a9 + L9.length) 0 = 10 then (true, a9 + rBl P (i + 10 + pwN c g + 1) a9 + L9.length + 1, L9) else (false, a9 + rBl P (i + 10 + pwN c g + 1) a9 + L9.length, [])) := by
            unfold rLine
            rw [if_neg (fun z => z h4), if_neg (fun z => z h13), if_neg (fun z => z h22), if_neg h41, ha9, hL9]
          refine m_aload_n (pc' := 45) C dX7_readLine_44 rfl 1 rfl rfl ?_
          refine m_iload (pc' := 47) C dX7_readLine_45 0 rfl rfl ?_
          refine m_iconst (pc' := 48) (v := nI 1) C dX7_readLine_47 (by decide) rfl ?_
          refine m_iadd (pc' := 49) (v := nI (((i + 10) + (pwN c g)) + 1)) C dX7_readLine_48 (nI_add _ _) rfl ?_
          have R5_21 := R5_13.fr F_12 (by decide) (by decide)
          refine m_callVi (pc' := 52) (As := [.int (nI (((i + 10) + (pwN c g)) + 1))]) (rest := []) C (kX7_readBlanks hI hn g_12 R5_21 hP (by omega) (e := (((i + 10) + (pwN c g)) + 1)) (by have := pwN_le c g; omega)) (cwV 1 C.1.2.2.2.2 (goodV tm_4_232 tm_4_234 tp_46 tm_1_12 tm_4_235) rfl rfl rfl (by decide +kernel) ⟨by decide, by decide⟩) (by omega) g_12 rfl rfl rfl (Nat.le_of_ble_eq_true rfl) dX7_readLine_49 rfl ⟨by decide, by decide⟩ (fun x_20 M20 q_20 => ?_)
          obtain ⟨e_20, g_20, F_20⟩ := q_20
          replace e_20 := e_20.symm
          subst e_20
          refine m_if_eq (pc' := 55) (tgt := 62) C dX7_readLine_52 (by decide) rfl (fun c_52 => ?_) (fun c_52 => ?_)
          · have h52 : a9 + rBl P (i + 10 + pwN c g + 1) a9 < i + 10 + pwN c g + 1 := Nat.lt_of_not_le (of_decide_eq_false ((bI_0 _).mp c_52))
            rw [if_pos h52] at hmid
            have hfin := hmid
            refine m_iconst (pc' := 63) (v := bI false) C dX7_readLine_62 (by decide) rfl ?_
            refine m_iret C hrt0 hlk0 (nar_z _) dX7_readLine_63 ?_
            have R50_22 := RL_12.fr F_20 (by decide) (by decide)
            have R48_23 := RF_12.fr F_20 (by decide) (by decide)
            rw [hfin]
            exact ⟨rfl, ⟨_, _, _, g_20, R50_22, R48_23, fun z => by cases z⟩, (((((F_1.sub (by decide)).tr (F_4.sub (by decide))).tr (F_10.sub (by decide))).tr (F_12.sub (by decide))).tr (F_20.sub (by decide)))⟩
          · have h52 : ¬ a9 + rBl P (i + 10 + pwN c g + 1) a9 < i + 10 + pwN c g + 1 := Nat.not_lt.mpr (of_decide_eq_true (ts_of c_52))
            rw [if_neg h52] at hmid
            have hinb := rBl_le (e := i + 10 + pwN c g + 1) hin9
            obtain ⟨b9, hb9⟩ : ∃ z, z = a9 + rBl P (i + 10 + pwN c g + 1) a9 := ⟨_, rfl⟩
            rw [← hb9] at hmid hinb g_20
            refine m_aload_n (pc' := 56) C dX7_readLine_55 rfl 1 rfl rfl ?_
            have R5_25 := R5_21.fr F_20 (by decide) (by decide)
            have R50_26 := RL_12.fr F_20 (by decide) (by decide)
            refine m_callVi (pc' := 59) (As := []) (rest := []) C (kX7_readSeen hI hn g_20 R5_25 hP (by omega) R50_26 hL3) (cwV 0 C.1.2.2.2.2 (goodV tm_4_236 tm_4_238 tp_47 tm_1_12 tm_4_239) rfl rfl rfl (by decide +kernel) ⟨by decide, by decide⟩) (by omega) g_20 rfl rfl rfl (Nat.le_of_ble_eq_true rfl) dX7_readLine_56 rfl ⟨by decide, by decide⟩ (fun x_24 M24 q_24 => ?_)
            obtain ⟨e_24, g_24, F_24⟩ := q_24
            replace e_24 := e_24.symm
            subst e_24
            refine m_if_ne (pc' := 62) (tgt := 64) C dX7_readLine_59 (by decide) rfl (fun c_59 => ?_) (fun c_59 => ?_)
            · have h59 : rSn P L9 b9 = L9.length := of_decide_eq_true (ts_of c_59)
              rw [if_neg (fun z => z h59)] at hmid
              have hins := rSn_le (L := L9) hinb
              rw [h59] at hins g_24
              refine m_aload_n (pc' := 65) C dX7_readLine_64 rfl 1 rfl rfl ?_
              refine m_bipush (pc' := 67) (v := nI 10) C dX7_readLine_65 (by decide) rfl ?_
              have R5_28 := R5_25.fr F_24 (by decide) (by decide)
              refine m_callVi (pc' := 70) (As := [.int (nI 10)]) (rest := []) C (kX7_readOne hI hn g_24 R5_28 hP (by omega) (q := 10) (by decide) (by decide)) (cwV 1 C.1.2.2.2.2 (goodV tm_4_218 tm_4_220 tp_43 tm_1_12 tm_4_221) rfl rfl rfl (by decide +kernel) ⟨by decide, by decide⟩) (by omega) g_24 rfl rfl rfl (Nat.le_of_ble_eq_true rfl) dX7_readLine_67 rfl ⟨by decide, by decide⟩ (fun x_27 M27 q_27 => ?_)
              obtain ⟨e_27, g_27, F_27⟩ := q_27
              replace e_27 := e_27.symm
              subst e_27
              refine m_iret C hrt0 hlk0 (nar_z _) dX7_readLine_70 ?_
              have R50_29 := R50_26.fr F_24 (by decide) (by decide)
              have R50_30 := R50_29.fr F_27 (by decide) (by decide)
              have R48_31 := RF_12.fr F_20 (by decide) (by decide)
              have R48_32 := R48_31.fr F_24 (by decide) (by decide)
              have R48_33 := R48_32.fr F_27 (by decide) (by decide)
              by_cases h70 : P.getD (b9 + L9.length) 0 = 10
              · rw [if_pos h70] at hmid g_27
                rw [hmid, decide_eq_true h70]
                exact ⟨rfl, ⟨_, _, _, g_27, R50_30, R48_33, fun _ => ⟨rfl, rfl, rfl⟩⟩, (((((((F_1.sub (by decide)).tr (F_4.sub (by decide))).tr (F_10.sub (by decide))).tr (F_12.sub (by decide))).tr (F_20.sub (by decide))).tr (F_24.sub (by decide))).tr (F_27.sub (by decide)))⟩
              · rw [if_neg h70] at hmid g_27
                rw [hmid, decide_eq_false h70]
                exact ⟨rfl, ⟨_, _, _, g_27, R50_30, R48_33, fun z => by cases z⟩, (((((((F_1.sub (by decide)).tr (F_4.sub (by decide))).tr (F_10.sub (by decide))).tr (F_12.sub (by decide))).tr (F_20.sub (by decide))).tr (F_24.sub (by decide))).tr (F_27.sub (by decide)))⟩
            · have h59 : ¬ rSn P L9 b9 = L9.length := of_decide_eq_false ((bI_0 _).mp (Classical.not_not.mp c_59))
              rw [if_pos h59] at hmid
              have hfin := hmid
              refine m_iconst (pc' := 63) (v := bI false) C dX7_readLine_62 (by decide) rfl ?_
              refine m_iret C hrt0 hlk0 (nar_z _) dX7_readLine_63 ?_
              have R50_34 := R50_26.fr F_24 (by decide) (by decide)
              have R48_35 := RF_12.fr F_20 (by decide) (by decide)
              have R48_36 := R48_35.fr F_24 (by decide) (by decide)
              rw [hfin]
              exact ⟨rfl, ⟨_, _, _, g_24, R50_34, R48_36, fun z => by cases z⟩, ((((((F_1.sub (by decide)).tr (F_4.sub (by decide))).tr (F_10.sub (by decide))).tr (F_12.sub (by decide))).tr (F_20.sub (by decide))).tr (F_24.sub (by decide)))⟩
      · have h22 : ¬ P.getD (i + 9) 0 = 32 := of_decide_eq_false ((bI_0 _).mp (Classical.not_not.mp c_22))
        rw [if_neg h22] at g_10
        have hfin : (rLine P c g tot i) = (false, i + 9, []) := by unfold rLine; rw [if_neg (fun z => z h4), if_neg (fun z => z h13), if_pos h22]
        refine m_iconst (pc' := 26) (v := bI false) C dX7_readLine_25 (by decide) rfl ?_
        refine m_iret C hrt0 hlk0 (nar_z _) dX7_readLine_26 ?_
        have R50_37 := hl5.fr F_1 (by decide) (by decide)
        have R50_38 := R50_37.fr F_4 (by decide) (by decide)
        have R50_39 := R50_38.fr F_10 (by decide) (by decide)
        have R48_40 := hf4.fr F_1 (by decide) (by decide)
        have R48_41 := R48_40.fr F_4 (by decide) (by decide)
        have R48_42 := R48_41.fr F_10 (by decide) (by decide)
        rw [hfin]
        exact ⟨rfl, ⟨_, _, _, g_10, R50_39, R48_42, fun z => by cases z⟩, (((F_1.sub (by decide)).tr (F_4.sub (by decide))).tr (F_10.sub (by decide)))⟩
set_option maxHeartbeats 4000000 in
set_option maxRecDepth 100000 in
theorem kX7_readPage {l : Launch} {D : va_G} {cy : Nat → ClassId} {ad : Nat → Nat} {n : Nat} {A : Nat → Prop} (hI : mI ad n A) {M : Nat → va_E} (hn : 52 ≤ n) {tot i : Nat} (hr : M 47 = rdO ad (nI tot) (nI i)) {lim : Nat} {P : List Nat} (hg : isRow cy ad n M 5 6 2000 lim P) (hP : P.length ≤ lim) {L0 : List Nat} (hl5 : isRow cy ad n M 50 51 32 32 L0) {Fd : List Nat} (hf4 : isRow cy ad n M 48 49 256 256 Fd) {c g : Nat} (hc1 : 1 ≤ c) (hc32 : c ≤ 32) (hg1 : 0 < g) (hg32 : g ≤ 32) : mMi l yX7_readPage (gW yX7_readPage cX7_readPage 6 (some .boolean)) { frames := 4, cells := 0, slots := 0, locals := 91 } D cy ad n A [.ref (ad 47), .int (nI c), .int (nI g)] M (fun res M' => res = bI (rPg P c g 2000 0 true []).1 ∧ (∃ (t2 : Nat) (L2 Fd2 : List Nat), M' 47 = rdO ad (nI t2) (nI (rPg P c g 2000 0 true []).2.1) ∧ isRow cy ad n M' 50 51 32 32 L2 ∧ isRow cy ad n M' 48 49 256 256 Fd2 ∧ ((rPg P c g 2000 0 true []).1 = true → Fd2 = (rPg P c g 2000 0 true []).2.2)) ∧ Fr [47, 48, 49, 50, 51] M M') := by
  have hl2 : lim ≤ 2000 := hg.2.2.1
  have h256 : ∀ x ∈ P, x < 256 := hg.2.2.2.2.1
  refine m_entry (cc := cX7_readPage) (maxL := 6) (ret := (some .boolean)) (own := RX7) (lv := [(0, .ref (ad 47)), (1, .int (nI c)), (2, .int (nI g))]) hI (by decide) rfl rfl (Nat.le_of_ble_eq_true rfl) rfl (fun pX eX sX mX aX bX tX cX C hrt0 hlk0 => ?_)
  refine m_iload_n (pc' := 1) C dX7_readPage_0 rfl 1 rfl rfl ?_
  refine m_iload_n (pc' := 2) C dX7_readPage_1 rfl 2 rfl rfl ?_
  refine m_callNi (pc' := 5) (As := [.int (nI c), .int (nI g)]) (rest := []) C (kX11_pairsWidth hI (q := c) (g := g) (by omega) (by omega) hg1) ⟨va_cnB 2 C.1.2.2.2.2 (goodN tm_4_173) rfl rfl rfl (C.2.1.2 (RX7, 33, yX11_pairsWidth) (List.mem_of_getElem? (i := 7) rfl)) (C.1.2.2.2.2 _ (gW_of tm_1_1)) (by decide +kernel) ⟨by decide, by decide⟩, C.1.2.2.2.2 _ (gW_of tm_4_172), trivial⟩ rfl rfl (Nat.le_of_ble_eq_true rfl) dX7_readPage_2 rfl ⟨by decide, by decide⟩ (fun x_1 N_1 q_1 => ?_)
  obtain ⟨e_1, E_1⟩ := q_1
  replace E_1 := E_1.symm
  subst E_1
  replace e_1 := e_1.symm
  subst e_1
  refine m_istore_n (pc' := 6) (lv' := [(3, .int (nI (pwN c g))), (0, .ref (ad 47)), (1, .int (nI c)), (2, .int (nI g))]) C dX7_readPage_5 rfl (by decide) rfl rfl ?_
  refine m_iconst (pc' := 7) (v := bI true) C dX7_readPage_6 (by decide) rfl ?_
  refine m_istore (pc' := 9) (lv' := [(4, .int (bI true)), (3, .int (nI (pwN c g))), (0, .ref (ad 47)), (1, .int (nI c)), (2, .int (nI g))]) C dX7_readPage_7 (by decide) rfl rfl ?_
  refine m_aload_n (pc' := 10) C dX7_readPage_9 rfl 2 rfl rfl ?_
  refine m_get (pc' := 13) C 47 (by omega) hr rfl inW_X7 1 (by decide) (gW_of tm_2_44) rfl rfl dX7_readPage_10 rfl ?_
  refine m_callVv (pc' := 16) (As := []) (rest := []) C (kX9_clear hI hf4.pre) (cwV 0 C.1.2.2.2.2 (goodV tm_4_206 tm_2_99 tm_2_100 tm_1_3 tm_2_101) rfl rfl rfl (by decide +kernel) ⟨by decide, by decide⟩) hf4.1 hf4.ob rfl rfl rfl (Nat.le_of_ble_eq_true rfl) dX7_readPage_13 rfl ⟨by decide, by decide⟩ (fun M2 q_2 => ?_)
  obtain ⟨R_2, F_2⟩ := q_2
  refine m_aload_n (pc' := 17) C dX7_readPage_16 rfl 2 rfl rfl ?_
  refine m_iconst (pc' := 18) (v := nI 0) C dX7_readPage_17 (by decide) rfl ?_
  have f47_3 : M2 47 = .inr (7, [.ref (ad 5), .ref (ad 48), .ref (ad 50), .int (nI tot), .int (nI i)]) := (F_2 47 (by decide)).trans hr
  refine m_put (pc' := 21) (ty := .int) (fs' := [.ref (ad 5), .ref (ad 48), .ref (ad 50), .int (nI 0), .int (nI i)]) C 47 (by omega) f47_3 rfl inW_X7 tyX7 tyX7_ok nmX7 3 (by decide) (gW_of tm_2_46) rfl rfl (by decide +kernel) rfl rfl (by simp) rfl dX7_readPage_18 rfl (fun M4 g_4 F_4 => ?_)
  refine m_aload_n (pc' := 22) C dX7_readPage_21 rfl 2 rfl rfl ?_
  refine m_iconst (pc' := 23) (v := nI 0) C dX7_readPage_22 (by decide) rfl ?_
  refine m_put (pc' := 26) (ty := .int) (fs' := [.ref (ad 5), .ref (ad 48), .ref (ad 50), .int (nI 0), .int (nI 0)]) C 47 (by omega) g_4 rfl inW_X7 tyX7 tyX7_ok nmX7 4 (by decide) (gW_of tm_2_47) rfl rfl (by decide +kernel) rfl rfl (by simp) rfl dX7_readPage_23 rfl (fun M5 g_5 F_5 => ?_)
  refine m_iconst (pc' := 27) (v := nI 0) C dX7_readPage_26 (by decide) rfl ?_
  refine m_istore (pc' := 29) (lv' := [(5, .int (nI 0)), (4, .int (bI true)), (3, .int (nI (pwN c g))), (0, .ref (ad 47)), (1, .int (nI c)), (2, .int (nI g))]) C dX7_readPage_27 (by decide) rfl rfl ?_
  refine m_lv [3, 4, 5, 2, 1, 0] rfl ?_
  have R50_6 := hl5.fr F_2 (by decide) (by decide)
  have R50_7 := R50_6.fr F_4 (by decide) (by decide)
  have R50_8 := R50_7.fr F_5 (by decide) (by decide)
  have R48_9 := R_2.fr F_4 (by decide) (by decide)
  have R48_10 := R48_9.fr F_5 (by decide) (by decide)
  refine m_loop (σ := Nat × Nat × Bool × List Nat × List Nat × (Nat → va_E)) (fun a => a.2.2.2.2.2) (fun a => [(0, .ref (ad 47)), (1, .int (nI c)), (2, .int (nI g)), (3, .int (nI (pwN c g))), (4, .int (bI a.2.2.1)), (5, .int (nI a.1))]) (fun a => (rPg P c g 2000 0 true []) = rPg P c g (2000 - a.1) a.2.1 a.2.2.1 a.2.2.2.1 ∧ (a.1 ≤ 2000 ∧ a.2.1 ≤ P.length ∧ a.2.2.2.1.length ≤ 32 * a.1) ∧ a.2.2.2.2.2 47 = rdO ad (nI a.2.2.2.1.length) (nI a.2.1) ∧ isRow cy ad n a.2.2.2.2.2 50 51 32 32 a.2.2.2.2.1 ∧ isRow cy ad n a.2.2.2.2.2 48 49 256 256 a.2.2.2.1 ∧ Fr [47, 48, 49, 50, 51] M a.2.2.2.2.2) (fun a => 2000 - a.1) (0, 0, true, [], L0, M5) (⟨rfl, ⟨Nat.zero_le _, Nat.zero_le _, Nat.le_refl _⟩, g_5, R50_8, R48_10, (((F_2.sub (by decide)).tr (F_4.sub (by decide))).tr (F_5.sub (by decide)))⟩) ?_
  rintro ⟨k, j, fu, X, L, Mk⟩ hinv ih
  dsimp only at hinv ih ⊢
  obtain ⟨i1, ⟨i2, i3, i4⟩, l1, l2, l3, l4⟩ := hinv
  refine m_iload (pc' := 31) C dX7_readPage_29 5 rfl rfl ?_
  refine m_sipush (pc' := 34) (v := nI 2000) C dX7_readPage_31 (by decide) rfl ?_
  refine m_icmp_ge (pc' := 37) (tgt := 92) C dX7_readPage_34 (by decide) rfl (fun c_34 => ?_) (fun c_34 => ?_)
  · have n_34 : 2000 ≤ k := (nI_leI (by omega) (by omega)).mp c_34
    have hfin : (rPg P c g 2000 0 true []) = (true, j, X) := by rw [i1, show 2000 - k = 0 by omega]; rfl
    refine m_iconst (pc' := 93) (v := bI true) C dX7_readPage_92 (by decide) rfl ?_
    refine m_iret C hrt0 hlk0 (nar_z _) dX7_readPage_93 ?_
    rw [hfin]
    exact ⟨rfl, ⟨_, _, _, l1, l2, l3, fun _ => rfl⟩, l4⟩
  · have n_34 : k < 2000 := Nat.lt_of_not_le (fun q => c_34 ((nI_leI (by omega) (by omega)).mpr q))
    refine m_aload_n (pc' := 38) C dX7_readPage_37 rfl 0 rfl rfl ?_
    refine m_get (pc' := 41) C 47 (by omega) l1 rfl inW_X7 4 (by decide) (gW_of tm_2_47) rfl rfl dX7_readPage_38 rfl ?_
    refine m_aload_n (pc' := 42) C dX7_readPage_41 rfl 0 rfl rfl ?_
    refine m_get (pc' := 45) C 47 (by omega) l1 rfl inW_X7 0 (by decide) (gW_of tm_2_43) rfl rfl dX7_readPage_42 rfl ?_
    have R5_11 := hg.fr l4 (by decide) (by decide)
    refine m_callVi (pc' := 48) (As := []) (rest := [.int (nI j)]) C (kX9_size hI R5_11) (cwV 0 C.1.2.2.2.2 (goodV tm_4_207 tm_2_95 tm_2_96 tm_1_3 tm_2_97) rfl rfl rfl (by decide +kernel) ⟨by decide, by decide⟩) R5_11.1 R5_11.ob rfl rfl rfl (Nat.le_of_ble_eq_true rfl) dX7_readPage_45 rfl ⟨by decide, by decide⟩ (fun x_12 N_12 q_12 => ?_)
    obtain ⟨e_12, E_12⟩ := q_12
    replace E_12 := E_12.symm
    subst E_12
    replace e_12 : x_12 = nI P.length := e_12.trans (by rw [Nat.min_eq_left hP])
    replace e_12 := e_12.symm
    subst e_12
    refine m_icmp_ge (pc' := 51) (tgt := 92) C dX7_readPage_48 (by decide) rfl (fun c_48 => ?_) (fun c_48 => ?_)
    · have n_48 : P.length ≤ j := (nI_leI (by omega) (by omega)).mp c_48
      have hfin : (rPg P c g 2000 0 true []) = (true, j, X) := by cases h9 : 2000 - k with | zero => rw [i1, h9]; rfl | succ f => rw [i1, h9, rPg, if_pos n_48]
      refine m_iconst (pc' := 93) (v := bI true) C dX7_readPage_92 (by decide) rfl ?_
      refine m_iret C hrt0 hlk0 (nar_z _) dX7_readPage_93 ?_
      rw [hfin]
      exact ⟨rfl, ⟨_, _, _, l1, l2, l3, fun _ => rfl⟩, l4⟩
    · have n_48 : j < P.length := Nat.lt_of_not_le (fun q => c_48 ((nI_leI (by omega) (by omega)).mpr q))
      refine m_iload (pc' := 53) C dX7_readPage_51 4 rfl rfl ?_
      refine m_if_eq (pc' := 56) (tgt := 66) C dX7_readPage_53 (by decide) rfl (fun c_53 => ?_) (fun c_53 => ?_)
      · have hfin : (rPg P c g 2000 0 true []) = (false, j, []) := by rw [i1, show 2000 - k = (2000 - (k + 1)) + 1 by omega, rPg, if_neg (by omega), if_pos ((bI_0 _).mp c_53)]
        refine m_iconst (pc' := 67) (v := bI false) C dX7_readPage_66 (by decide) rfl ?_
        refine m_iret C hrt0 hlk0 (nar_z _) dX7_readPage_67 ?_
        rw [hfin]
        exact ⟨rfl, ⟨_, _, _, l1, l2, l3, fun z => by cases z⟩, l4⟩
      · refine m_aload_n (pc' := 57) C dX7_readPage_56 rfl 0 rfl rfl ?_
        refine m_iload_n (pc' := 58) C dX7_readPage_57 rfl 1 rfl rfl ?_
        refine m_iload_n (pc' := 59) C dX7_readPage_58 rfl 2 rfl rfl ?_
        refine m_iload_n (pc' := 60) C dX7_readPage_59 rfl 3 rfl rfl ?_
        refine m_callVi (pc' := 63) (As := [.int (nI c), .int (nI g), .int (nI (pwN c g))]) (rest := []) C (kX7_readLine hI hn l1 R5_11 hP (by omega) (by omega) l2 l3 hc1 hc32 hg1 hg32) (cwV 3 C.1.2.2.2.2 (goodV tm_4_208 tm_4_210 tp_41 tm_1_12 tm_4_211) rfl rfl rfl (by decide +kernel) ⟨by decide, by decide⟩) (by omega) l1 rfl rfl rfl (Nat.le_of_ble_eq_true rfl) dX7_readPage_60 rfl ⟨by decide, by decide⟩ (fun x_13 M13 q_13 => ?_)
        obtain ⟨e_13, ⟨t_13, L_13, D_13, g_13, RL_13, RF_13, ok_13⟩, F_13⟩ := q_13
        replace e_13 := e_13.symm
        subst e_13
        refine m_if_ne (pc' := 66) (tgt := 68) C dX7_readPage_63 (by decide) rfl (fun c_63 => ?_) (fun c_63 => ?_)
        · have h63 : (rLine P c g X.length j).1 = true := ts_of c_63
          obtain ⟨z1, z2, z3⟩ := ok_13 h63
          rw [z1] at RL_13
          rw [z2] at RF_13
          rw [z3] at g_13
          have hle := rLine_le (c := c) (g := g) (tot := X.length) i3
          have hl9 : (rLine P c g X.length j).2.2.length ≤ 32 := by have := hle.2; omega
          refine m_aload_n (pc' := 69) C dX7_readPage_68 rfl 0 rfl rfl ?_
          refine m_get (pc' := 72) C 47 (by omega) g_13 rfl inW_X7 2 (by decide) (gW_of tm_2_45) rfl rfl dX7_readPage_69 rfl ?_
          refine m_callVi (pc' := 75) (As := []) (rest := []) C (kX9_size hI RL_13) (cwV 0 C.1.2.2.2.2 (goodV tm_4_207 tm_2_95 tm_2_96 tm_1_3 tm_2_97) rfl rfl rfl (by decide +kernel) ⟨by decide, by decide⟩) RL_13.1 RL_13.ob rfl rfl rfl (Nat.le_of_ble_eq_true rfl) dX7_readPage_72 rfl ⟨by decide, by decide⟩ (fun x_14 N_14 q_14 => ?_)
          obtain ⟨e_14, E_14⟩ := q_14
          replace E_14 := E_14.symm
          subst E_14
          replace e_14 : x_14 = nI ((rLine P c g X.length j).2.2).length := e_14.trans (by rw [Nat.min_eq_left hl9])
          replace e_14 := e_14.symm
          subst e_14
          refine m_iload_n (pc' := 76) C dX7_readPage_75 rfl 1 rfl rfl ?_
          refine m_icmp_ne (pc' := 79) (tgt := 83) C dX7_readPage_76 (by decide) rfl (fun c_76 => ?_) (fun c_76 => ?_)
          · have n_76 : ¬ (((rLine P c g X.length j).2.2).length) = c := fun q => c_76 ((nI_eq (by omega) (by omega)).mpr q)
            have hst : (rPg P c g 2000 0 true []) = rPg P c g (2000 - (k + 1)) (rLine P c g X.length j).2.1 (decide ((rLine P c g X.length j).2.2.length = c)) (X ++ (rLine P c g X.length j).2.2) := by rw [i1, show 2000 - k = (2000 - (k + 1)) + 1 by omega, rPg, if_neg (by omega), if_neg (by rw [ts_of c_53]; decide), if_neg (by rw [h63]; decide)]
            refine m_iconst (pc' := 84) (v := bI (decide ((rLine P c g X.length j).2.2.length = c))) C dX7_readPage_83 (by rw [decide_eq_false n_76]; rfl) rfl ?_
            refine m_istore (pc' := 86) (lv' := [(4, .int (bI (decide ((rLine P c g X.length j).2.2.length = c)))), (0, .ref (ad 47)), (1, .int (nI c)), (2, .int (nI g)), (3, .int (nI (pwN c g))), (5, .int (nI k))]) C dX7_readPage_84 (by decide) rfl rfl ?_
            refine m_iinc (pc' := 89) (v := nI (k + 1)) (lv' := [(5, .int (nI (k + 1))), (4, .int (bI (decide ((rLine P c g X.length j).2.2.length = c)))), (0, .ref (ad 47)), (1, .int (nI c)), (2, .int (nI g)), (3, .int (nI (pwN c g)))]) C dX7_readPage_86 (k := 5) rfl (nI_add _ _) (by decide) rfl rfl ?_
            refine m_goto (tgt := 29) C dX7_readPage_89 (by decide) ?_
            refine m_lv [2, 3, 4, 5, 1, 0] rfl ?_
            exact ih (k + 1, (rLine P c g X.length j).2.1, decide ((rLine P c g X.length j).2.2.length = c), X ++ (rLine P c g X.length j).2.2, (rLine P c g X.length j).2.2, M13) (⟨hst, ⟨by (try dsimp only); omega, hle.1, by rw [List.length_append]; have := hle.2; omega⟩, by (try dsimp only); rw [List.length_append]; exact g_13, RL_13, RF_13, (l4.tr (F_13.sub (by decide)))⟩) (by simp only; omega)
          · have n_76 : (((rLine P c g X.length j).2.2).length) = c := (nI_eq (by omega) (by omega)).mp (Classical.not_not.mp c_76)
            have hst : (rPg P c g 2000 0 true []) = rPg P c g (2000 - (k + 1)) (rLine P c g X.length j).2.1 (decide ((rLine P c g X.length j).2.2.length = c)) (X ++ (rLine P c g X.length j).2.2) := by rw [i1, show 2000 - k = (2000 - (k + 1)) + 1 by omega, rPg, if_neg (by omega), if_neg (by rw [ts_of c_53]; decide), if_neg (by rw [h63]; decide)]
            refine m_iconst (pc' := 80) (v := bI (decide ((rLine P c g X.length j).2.2.length = c))) C dX7_readPage_79 (by rw [decide_eq_true n_76]; rfl) rfl ?_
            refine m_goto (tgt := 84) C dX7_readPage_80 (by decide) ?_
            refine m_istore (pc' := 86) (lv' := [(4, .int (bI (decide ((rLine P c g X.length j).2.2.length = c)))), (0, .ref (ad 47)), (1, .int (nI c)), (2, .int (nI g)), (3, .int (nI (pwN c g))), (5, .int (nI k))]) C dX7_readPage_84 (by decide) rfl rfl ?_
            refine m_iinc (pc' := 89) (v := nI (k + 1)) (lv' := [(5, .int (nI (k + 1))), (4, .int (bI (decide ((rLine P c g X.length j).2.2.length = c)))), (0, .ref (ad 47)), (1, .int (nI c)), (2, .int (nI g)), (3, .int (nI (pwN c g)))]) C dX7_readPage_86 (k := 5) rfl (nI_add _ _) (by decide) rfl rfl ?_
            refine m_goto (tgt := 29) C dX7_readPage_89 (by decide) ?_
            refine m_lv [2, 3, 4, 5, 1, 0] rfl ?_
            exact ih (k + 1, (rLine P c g X.length j).2.1, decide ((rLine P c g X.length j).2.2.length = c), X ++ (rLine P c g X.length j).2.2, (rLine P c g X.length j).2.2, M13) (⟨hst, ⟨by (try dsimp only); omega, hle.1, by rw [List.length_append]; have := hle.2; omega⟩, by (try dsimp only); rw [List.length_append]; exact g_13, RL_13, RF_13, (l4.tr (F_13.sub (by decide)))⟩) (by simp only; omega)
        · have h63 : (rLine P c g X.length j).1 = false := (bI_0 _).mp (Classical.not_not.mp c_63)
          have hfin : (rPg P c g 2000 0 true []) = (false, (rLine P c g X.length j).2.1, []) := by rw [i1, show 2000 - k = (2000 - (k + 1)) + 1 by omega, rPg, if_neg (by omega), if_neg (by rw [ts_of c_53]; decide), if_pos h63]
          refine m_iconst (pc' := 67) (v := bI false) C dX7_readPage_66 (by decide) rfl ?_
          refine m_iret C hrt0 hlk0 (nar_z _) dX7_readPage_67 ?_
          rw [hfin]
          exact ⟨rfl, ⟨_, _, _, g_13, RL_13, RF_13, fun z => by cases z⟩, (l4.tr (F_13.sub (by decide)))⟩
