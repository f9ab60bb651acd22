set_option maxHeartbeats 4000000 in
set_option maxRecDepth 100000 in
theorem kX12_thrown {l : Launch} {D : va_G} {cy : Nat → ClassId} {ad : Nat → Nat} {n : Nat} {A : Nat → Prop} (hI : mI ad n A) {M : Nat → va_E} (hn : 63 ≤ n) (hn2 : n ≤ 100) (hro : rO ad M) {x : Int32} (h0 : M 100 = gh (.int x)) : mMi l yX12_thrown (gW yX12_thrown cX12_thrown 1 (some .int)) { frames := 0, cells := 0, slots := 0, locals := 0 } D cy ad n A [.ref (ad 52)] M (fun res M' => res = x ∧ M' = M) := by
  refine m_entry (cc := cX12_thrown) (maxL := 1) (ret := (some .int)) (own := RX12) (lv := [(0, .ref (ad 52))]) hI (by decide) rfl rfl (Nat.le_of_ble_eq_true rfl) rfl (fun pX eX sX mX aX bX tX cX C hrt0 hlk0 => ?_)
  refine m_aload_n (pc' := 1) C dX12_thrown_0 rfl 0 rfl rfl ?_
  refine r_get C hn hro inW_X12 0 (by decide) ⟨rfl, rfl, rfl⟩ (gW_of tm_5_50) (r_at 0 rfl h0) dX12_thrown_1 rfl ?_
  exact m_iret C hrt0 hlk0 rfl dX12_thrown_4 ⟨rfl, rfl⟩
set_option maxHeartbeats 4000000 in
set_option maxRecDepth 100000 in
theorem kX12_refused {l : Launch} {D : va_G} {cy : Nat → ClassId} {ad : Nat → Nat} {n : Nat} {A : Nat → Prop} (hI : mI ad n A) {M : Nat → va_E} (hn : 63 ≤ n) (hn2 : n ≤ 100) (hro : rO ad M) {k : Nat} (hk : k < 2 ^ 20) : mMi l yX12_refused (gW yX12_refused cX12_refused 2 (some .boolean)) { frames := 0, cells := 0, slots := 0, locals := 0 } D cy ad n A [.ref (ad 52), .int (nI k)] M (fun res M' => res = bI (decide (0 < k)) ∧ rO ad M' ∧ M' 100 = gh (.int (nI k)) ∧ Fr [52, 100] M M') := by
  refine m_entry (cc := cX12_refused) (maxL := 2) (ret := (some .boolean)) (own := RX12) (lv := [(0, .ref (ad 52)), (1, .int (nI k))]) hI (by decide) rfl rfl (Nat.le_of_ble_eq_true rfl) rfl (fun pX eX sX mX aX bX tX cX C hrt0 hlk0 => ?_)
  refine m_aload_n (pc' := 1) C dX12_refused_0 rfl 0 rfl rfl ?_
  refine m_iload_n (pc' := 2) C dX12_refused_1 rfl 1 rfl rfl ?_
  refine r_put (ty := .int) C hn hn2 hro inW_X12 0 100 (by decide) rfl ⟨rfl, rfl, rfl, rfl⟩ (gW_of tm_5_50) (by decide +kernel) rfl rfl (fun _ => rfl) dX12_refused_2 rfl (fun M1 go_1 g_1 F_1 => ?_)
  refine m_iload_n (pc' := 6) C dX12_refused_5 rfl 1 rfl rfl ?_
  refine m_if_le (pc' := 9) (tgt := 13) C dX12_refused_6 (by decide) rfl (fun c_6 => ?_) (fun c_6 => ?_)
  · have n_6 : k = 0 := by
      rcases Nat.eq_zero_or_pos k with z | z
      · exact z
      · exact absurd c_6 (nI_nle z (by omega))
    refine m_iconst (pc' := 14) (v := bI false) C dX12_refused_13 (by decide) rfl ?_
    refine m_iret C hrt0 hlk0 (nar_z _) dX12_refused_14 ?_
    exact ⟨by rw [decide_eq_false (by omega)], go_1, g_1, (F_1.sub (by decide))⟩
  · have n_6 : 0 < k := by
      rcases Nat.eq_zero_or_pos k with z | z
      · exact absurd (by rw [z]; decide) c_6
      · exact z
    refine m_iconst (pc' := 10) (v := bI true) C dX12_refused_9 (by decide) rfl ?_
    refine m_goto (tgt := 14) C dX12_refused_10 (by decide) ?_
    refine m_iret C hrt0 hlk0 (nar_z _) dX12_refused_14 ?_
    exact ⟨by rw [decide_eq_true n_6], go_1, g_1, (F_1.sub (by decide))⟩
set_option maxHeartbeats 4000000 in
set_option maxRecDepth 100000 in
theorem kX12_isIn {l : Launch} {D : va_G} {cy : Nat → ClassId} {ad : Nat → Nat} {n : Nat} {A : Nat → Prop} (hI : mI ad n A) {M : Nat → va_E} (x lo hi : Int32) : mMi l yX12_isIn (gW yX12_isIn cX12_isIn 3 (some .boolean)) { frames := 0, cells := 0, slots := 0, locals := 0 } D cy ad n A [.int (x), .int (lo), .int (hi)] M (fun res M' => res = bI (decide (lo ≤ x ∧ x ≤ hi)) ∧ M' = M) := by
  refine m_entry (cc := cX12_isIn) (maxL := 3) (ret := (some .boolean)) (own := RX12) (lv := [(0, .int (x)), (1, .int (lo)), (2, .int (hi))]) hI (by decide) rfl rfl (Nat.le_of_ble_eq_true rfl) rfl (fun pX eX sX mX aX bX tX cX C hrt0 hlk0 => ?_)
  refine m_iload_n (pc' := 1) C dX12_isIn_0 rfl 0 rfl rfl ?_
  refine m_iload_n (pc' := 2) C dX12_isIn_1 rfl 1 rfl rfl ?_
  refine m_icmp_lt (pc' := 5) (tgt := 14) C dX12_isIn_2 (by decide) rfl (fun c_2 => ?_) (fun c_2 => ?_)
  · refine m_iconst (pc' := 15) (v := bI false) C dX12_isIn_14 (by decide) rfl ?_
    refine m_iret C hrt0 hlk0 (nar_z _) dX12_isIn_15 ?_
    refine ⟨?_, rfl⟩
    first | (rw [decide_eq_true ⟨Int32.not_lt.mp c_2, Int32.not_lt.mp c_7⟩]; done) | (rw [decide_eq_false (fun q => absurd q.1 (Int32.not_le.mpr c_2))]; done) | (rw [decide_eq_false (fun q => absurd q.2 (Int32.not_le.mpr c_7))]; done)
  · refine m_iload_n (pc' := 6) C dX12_isIn_5 rfl 0 rfl rfl ?_
    refine m_iload_n (pc' := 7) C dX12_isIn_6 rfl 2 rfl rfl ?_
    refine m_icmp_gt (pc' := 10) (tgt := 14) C dX12_isIn_7 (by decide) rfl (fun c_7 => ?_) (fun c_7 => ?_)
    · refine m_iconst (pc' := 15) (v := bI false) C dX12_isIn_14 (by decide) rfl ?_
      refine m_iret C hrt0 hlk0 (nar_z _) dX12_isIn_15 ?_
      refine ⟨?_, rfl⟩
      first | (rw [decide_eq_true ⟨Int32.not_lt.mp c_2, Int32.not_lt.mp c_7⟩]; done) | (rw [decide_eq_false (fun q => absurd q.1 (Int32.not_le.mpr c_2))]; done) | (rw [decide_eq_false (fun q => absurd q.2 (Int32.not_le.mpr c_7))]; done)
    · refine m_iconst (pc' := 11) (v := bI true) C dX12_isIn_10 (by decide) rfl ?_
      refine m_goto (tgt := 15) C dX12_isIn_11 (by decide) ?_
      refine m_iret C hrt0 hlk0 (nar_z _) dX12_isIn_15 ?_
      refine ⟨?_, rfl⟩
      first | (rw [decide_eq_true ⟨Int32.not_lt.mp c_2, Int32.not_lt.mp c_7⟩]; done) | (rw [decide_eq_false (fun q => absurd q.1 (Int32.not_le.mpr c_2))]; done) | (rw [decide_eq_false (fun q => absurd q.2 (Int32.not_le.mpr c_7))]; done)
set_option maxHeartbeats 4000000 in
set_option maxRecDepth 100000 in
theorem kX12_put {l : Launch} {D : va_G} {cy : Nat → ClassId} {ad : Nat → Nat} {n : Nat} {A : Nat → Prop} (hI : mI ad n A) {M : Nat → va_E} (hn : 63 ≤ n) (hn2 : n ≤ 100) (hro : rO ad M) {lim : Nat} {O : List Nat} (hout : isOut cy M lim O) {x : Nat} (hx : x < 256) : mMv l yX12_put (gW yX12_put cX12_put 2 none) { frames := 0, cells := 0, slots := 0, locals := 0 } D cy ad n A [.ref (ad 52), .int (nI x)] M (fun M' => rO ad M' ∧ isOut cy M' lim (O ++ [x]) ∧ Fr [52, 59, 111, 113] M M') := by
  obtain ⟨o1, o2, o3, o4, o5, o6, g, o7, o8⟩ := hout
  refine m_entry (cc := cX12_put) (maxL := 2) (ret := none) (own := RX12) (lv := [(0, .ref (ad 52)), (1, .int (nI x))]) hI (by decide) rfl rfl (Nat.le_of_ble_eq_true rfl) rfl (fun pX eX sX mX aX bX tX cX C hrt0 hlk0 => ?_)
  refine m_aload_n (pc' := 1) C dX12_put_0 rfl 0 rfl rfl ?_
  refine r_get C hn hro inW_X12 11 (by decide) ⟨rfl, rfl, rfl⟩ (gW_of tm_5_61) (r_at 11 rfl o4) dX12_put_1 rfl ?_
  refine m_aload_n (pc' := 5) C dX12_put_4 rfl 0 rfl rfl ?_
  refine r_get C hn hro inW_X12 10 (by decide) ⟨rfl, rfl, rfl⟩ (gW_of tm_5_60) (r_at 10 rfl o3) dX12_put_5 rfl ?_
  refine m_icmp_lt (pc' := 11) (tgt := 19) C dX12_put_8 (by decide) rfl (fun c_8 => ?_) (fun c_8 => ?_)
  · have n_8 : (min O.length lim) < lim := (nI_ltI (by omega) (by omega)).mp c_8
    refine m_aload_n (pc' := 20) C dX12_put_19 rfl 0 rfl rfl ?_
    refine r_get C hn hro inW_X12 12 (by decide) ⟨rfl, rfl, rfl⟩ (gW_of tm_5_62) rfl dX12_put_20 rfl ?_
    refine m_aload_n (pc' := 24) C dX12_put_23 rfl 0 rfl rfl ?_
    refine r_get C hn hro inW_X12 11 (by decide) ⟨rfl, rfl, rfl⟩ (gW_of tm_5_61) (r_at 11 rfl o4) dX12_put_24 rfl ?_
    refine m_iload_n (pc' := 28) C dX12_put_27 rfl 1 rfl rfl ?_
    refine m_i2c (pc' := 29) (v := nI x) C dX12_put_28 (i2c_nI (by omega)) rfl ?_
    refine m_cast (pc' := 30) (E' := .inl (cy 0, 2000, .inl (fun i => nI (va_up g (min O.length lim) x i)))) C 59 (by omega) o7 (vp_in_nI (by omega) (by decide)) (by rw [nI_clamp (by omega), show vp_nar .char (nI x) = nI x from nar_cv (by omega), upd_nI]) dX12_put_29 rfl (fun M1 g_1 F_1 => ?_)
    refine m_aload_n (pc' := 31) C dX12_put_30 rfl 0 rfl rfl ?_
    refine m_dup (pc' := 32) C dX12_put_31 rfl rfl ?_
    have ro_2 := hro.fr F_1 (by decide)
    have ff11_3 : M1 111 = gh (.int (nI (min O.length lim))) := (F_1 111 (by decide)).trans o4
    refine r_get C hn ro_2 inW_X12 11 (by decide) ⟨rfl, rfl, rfl⟩ (gW_of tm_5_61) (r_at 11 rfl ff11_3) dX12_put_32 rfl ?_
    refine m_iconst (pc' := 36) (v := nI 1) C dX12_put_35 (by decide) rfl ?_
    refine m_iadd (pc' := 37) (v := nI ((min O.length lim) + 1)) C dX12_put_36 (nI_add _ _) rfl ?_
    refine r_put (ty := .int) C hn hn2 ro_2 inW_X12 11 111 (by decide) rfl ⟨rfl, rfl, rfl, rfl⟩ (gW_of tm_5_61) (by decide +kernel) rfl rfl (fun _ => rfl) dX12_put_37 rfl (fun M4 go_4 g_4 F_4 => ?_)
    refine m_vret C hrt0 hlk0 dX12_put_40 ?_
    have ff10_5 : M1 110 = gh (.int (nI lim)) := (F_1 110 (by decide)).trans o3
    have ff10_6 : M4 110 = gh (.int (nI lim)) := (F_4 110 (by decide)).trans ff10_5
    have ff13_7 : M1 113 = gh (.int (bI (decide (lim < O.length)))) := (F_1 113 (by decide)).trans o5
    have ff13_8 : M4 113 = gh (.int (bI (decide (lim < O.length)))) := (F_4 113 (by decide)).trans ff13_7
    have f59_9 : M4 59 = .inl (cy 0, 2000, .inl (fun i => nI (va_up g (min O.length lim) x i))) := (F_4 59 (by decide)).trans g_1
    have hle : O.length < lim := by omega
    have hmin : min O.length lim = O.length := by omega
    refine ⟨go_4, ⟨o1, ?_, ff10_6, ?_, ?_, ?_⟩, ((F_1.sub (by decide)).tr (F_4.sub (by decide)))⟩
    · intro z hz
      rcases List.mem_append.mp hz with q | q
      · exact o2 z q
      · rw [List.mem_singleton.mp q]; exact hx
    · rw [List.length_append]; simp only [List.length_singleton]; rw [show min (O.length + 1) lim = min O.length lim + 1 by omega]; exact g_4
    · rw [List.length_append]; simp only [List.length_singleton]; rw [decide_eq_false (by omega), ← decide_eq_false (show ¬ lim < O.length by omega)]; exact ff13_8
    · rw [List.take_of_length_le (show (O ++ [x]).length ≤ lim by rw [List.length_append]; simp; omega)]
      exact isA.push (L := O) (g := g) (by rw [← hmin]; exact f59_9) (by omega) (fun i hi => by rw [o8 i (by rw [List.length_take]; omega), getD_take (by omega)])
  · have n_8 : lim ≤ (min O.length lim) := Nat.le_of_not_lt (fun q => c_8 ((nI_ltI (by omega) (by omega)).mpr q))
    refine m_aload_n (pc' := 12) C dX12_put_11 rfl 0 rfl rfl ?_
    refine m_iconst (pc' := 13) (v := bI true) C dX12_put_12 (by decide) rfl ?_
    refine r_put (ty := .boolean) C hn hn2 hro inW_X12 13 113 (by decide) rfl ⟨rfl, rfl, rfl, rfl⟩ (gW_of tm_5_63) (by decide +kernel) (nar_z _) (fit_z _) (fun _ => rfl) dX12_put_13 rfl (fun M10 go_10 g_10 F_10 => ?_)
    refine m_goto (tgt := 40) C dX12_put_16 (by decide) ?_
    refine m_vret C hrt0 hlk0 dX12_put_40 ?_
    have ff10_11 : M10 110 = gh (.int (nI lim)) := (F_10 110 (by decide)).trans o3
    have ff11_12 : M10 111 = gh (.int (nI (min O.length lim))) := (F_10 111 (by decide)).trans o4
    have f59_13 : M10 59 = .inl (cy 0, 2000, .inl (fun i => nI (g i))) := (F_10 59 (by decide)).trans o7
    have hle : lim ≤ O.length := by omega
    refine ⟨go_10, ⟨o1, ?_, ff10_11, ?_, ?_, ?_⟩, (F_10.sub (by decide))⟩
    · intro z hz
      rcases List.mem_append.mp hz with q | q
      · exact o2 z q
      · rw [List.mem_singleton.mp q]; exact hx
    · rw [List.length_append, show min (O.length + [x].length) lim = min O.length lim by simp; omega]; exact ff11_12
    · rw [List.length_append, decide_eq_true (by simp; omega)]; exact g_10
    · rw [List.take_append_of_le_length hle]
      exact ⟨o6, g, f59_13, o8⟩
set_option maxHeartbeats 4000000 in
set_option maxRecDepth 100000 in
theorem kX12_putMany {l : Launch} {D : va_G} {cy : Nat → ClassId} {ad : Nat → Nat} {n : Nat} {A : Nat → Prop} (hI : mI ad n A) {M : Nat → va_E} (hn : 63 ≤ n) (hn2 : n ≤ 100) (hro : rO ad M) {lim : Nat} {O : List Nat} (hout : isOut cy M lim O) {x : Nat} (hx : x < 256) (q : Int32) : mMv l yX12_putMany (gW yX12_putMany cX12_putMany 4 none) { frames := 1, cells := 0, slots := 0, locals := 21 } D cy ad n A [.ref (ad 52), .int (nI x), .int q] M (fun M' => rO ad M' ∧ isOut cy M' lim (O ++ List.replicate (cl q) x) ∧ Fr [52, 59, 111, 113] M M') := by
  refine m_entry (cc := cX12_putMany) (maxL := 4) (ret := none) (own := RX12) (lv := [(0, .ref (ad 52)), (1, .int (nI x)), (2, .int (q))]) hI (by decide) rfl rfl (Nat.le_of_ble_eq_true rfl) rfl (fun pX eX sX mX aX bX tX cX C hrt0 hlk0 => ?_)
  refine m_iconst (pc' := 1) (v := nI 0) C dX12_putMany_0 (by decide) rfl ?_
  refine m_istore_n (pc' := 2) (lv' := [(3, .int (nI 0)), (0, .ref (ad 52)), (1, .int (nI x)), (2, .int (q))]) C dX12_putMany_1 rfl (by decide) rfl rfl ?_
  refine m_lv [1, 2, 3, 0] rfl ?_
  refine m_loop (σ := Nat × (Nat → va_E)) (fun a => a.2) (fun a => [(0, .ref (ad 52)), (1, .int (nI x)), (2, .int (q)), (3, .int (nI a.1))]) (fun a => a.1 ≤ cl q ∧ rO ad a.2 ∧ isOut cy a.2 lim (O ++ List.replicate a.1 x) ∧ Fr [52, 59, 111, 113] M a.2) (fun a => cl q - a.1) (0, M) (⟨Nat.zero_le _, hro, by (try dsimp only); rw [List.replicate_zero, List.append_nil]; exact hout, Fr.rf⟩) ?_
  rintro ⟨k, Mk⟩ hinv ih
  dsimp only at hinv ih ⊢
  obtain ⟨i1, l1, l2, l3⟩ := hinv
  have hq9 : cl q < 2 ^ 31 := clamp_lt q
  refine m_iload_n (pc' := 3) C dX12_putMany_2 rfl 3 rfl rfl ?_
  refine m_iload_n (pc' := 4) C dX12_putMany_3 rfl 2 rfl rfl ?_
  refine m_icmp_ge (pc' := 7) (tgt := 18) C dX12_putMany_4 (by decide) rfl (fun c_4 => ?_) (fun c_4 => ?_)
  · have n_4 : cl q ≤ k := (le_clamp (by omega)).mp c_4
    refine m_vret C hrt0 hlk0 dX12_putMany_18 ?_
    have hk9 : k = cl q := by omega
    subst hk9
    exact ⟨l1, l2, l3⟩
  · have n_4 : k < cl q := Nat.lt_of_not_le (fun z => c_4 ((le_clamp (by omega)).mpr z))
    refine m_aload_n (pc' := 8) C dX12_putMany_7 rfl 0 rfl rfl ?_
    refine m_iload_n (pc' := 9) C dX12_putMany_8 rfl 1 rfl rfl ?_
    refine m_callVv (pc' := 12) (As := [.int (nI x)]) (rest := []) C (kX12_put hI hn hn2 l1 l2 (x := x) hx) (cwV 1 C.1.2.2.2.2 (goodV tm_5_239 tm_6_1 tp_57 tm_1_13 tm_6_2) rfl rfl rfl (by decide +kernel) ⟨by decide, by decide⟩) (by omega) l1 rfl rfl rfl (Nat.le_of_ble_eq_true rfl) dX12_putMany_9 rfl ⟨by decide, by decide⟩ (fun M1 q_1 => ?_)
    obtain ⟨pro_1, pout_1, F_1⟩ := q_1
    refine m_iinc (pc' := 15) (v := nI (k + 1)) (lv' := [(3, .int (nI (k + 1))), (0, .ref (ad 52)), (1, .int (nI x)), (2, .int (q))]) C dX12_putMany_12 (k := 3) rfl (nI_add _ _) (by decide) rfl rfl ?_
    refine m_goto (tgt := 2) C dX12_putMany_15 (by decide) ?_
    refine m_lv [1, 2, 3, 0] rfl ?_
    exact ih (k + 1, M1) (⟨by (try dsimp only); omega, pro_1, by (try dsimp only); rw [List.replicate_succ', ← List.append_assoc]; exact pout_1, (l3.tr (F_1.sub (by decide)))⟩) (by simp only; omega)
set_option maxHeartbeats 4000000 in
set_option maxRecDepth 100000 in
theorem kX12_begin {l : Launch} {D : va_G} {cy : Nat → ClassId} {ad : Nat → Nat} {n : Nat} {A : Nat → Prop} (hI : mI ad n A) {M : Nat → va_E} (hn : 63 ≤ n) (hn2 : n ≤ 100) (hro : rO ad M) {lim : Nat} {O : List Nat} (hout : isOutR cy M lim O) : mMv l yX12_begin (gW yX12_begin cX12_begin 1 none) { frames := 0, cells := 0, slots := 0, locals := 0 } D cy ad n A [.ref (ad 52)] M (fun M' => rO ad M' ∧ isOut cy M' lim [] ∧ Fr [52, 111, 113] M M') := by
  obtain ⟨o1, o0, o2, o3, o4, ⟨b9, o5⟩, o7⟩ := hout
  refine m_entry (cc := cX12_begin) (maxL := 1) (ret := none) (own := RX12) (lv := [(0, .ref (ad 52))]) hI (by decide) rfl rfl (Nat.le_of_ble_eq_true rfl) rfl (fun pX eX sX mX aX bX tX cX C hrt0 hlk0 => ?_)
  refine m_aload_n (pc' := 1) C dX12_begin_0 rfl 0 rfl rfl ?_
  refine m_iconst (pc' := 2) (v := nI 0) C dX12_begin_1 (by decide) rfl ?_
  refine r_put (ty := .int) C hn hn2 hro inW_X12 11 111 (by decide) rfl ⟨rfl, rfl, rfl, rfl⟩ (gW_of tm_5_61) (by decide +kernel) rfl rfl (fun _ => rfl) dX12_begin_2 rfl (fun M1 go_1 g_1 F_1 => ?_)
  refine m_aload_n (pc' := 6) C dX12_begin_5 rfl 0 rfl rfl ?_
  refine m_iconst (pc' := 7) (v := bI false) C dX12_begin_6 (by decide) rfl ?_
  refine r_put (ty := .boolean) C hn hn2 go_1 inW_X12 13 113 (by decide) rfl ⟨rfl, rfl, rfl, rfl⟩ (gW_of tm_5_63) (by decide +kernel) (nar_z _) (fit_z _) (fun _ => rfl) dX12_begin_7 rfl (fun M2 go_2 g_2 F_2 => ?_)
  refine m_vret C hrt0 hlk0 dX12_begin_10 ?_
  have ff10_3 : M1 110 = gh (.int (nI lim)) := (F_1 110 (by decide)).trans o3
  have ff10_4 : M2 110 = gh (.int (nI lim)) := (F_2 110 (by decide)).trans ff10_3
  have ff11_5 : M2 111 = gh (.int (nI 0)) := (F_2 111 (by decide)).trans g_1
  have o9 := o7.fr ((F_1.sub (S' := [52, 111, 113]) (by decide)).tr (F_2.sub (S' := [52, 111, 113]) (by decide))) (by decide)
  exact ⟨go_2, ⟨o1, (fun x hx => by cases hx), ff10_4, by rw [List.length_nil, Nat.zero_min]; exact ff11_5, by rw [List.length_nil, decide_eq_false (Nat.not_lt_zero _)]; exact g_2, ⟨by rw [List.take_nil]; exact Nat.zero_le _, o9.2.choose, o9.2.choose_spec.1, (fun i hi => by rw [List.take_nil] at hi; cases hi)⟩⟩, ((F_1.sub (by decide)).tr (F_2.sub (by decide)))⟩
set_option maxHeartbeats 4000000 in
set_option maxRecDepth 100000 in
theorem kX12_end {l : Launch} {D : va_G} {cy : Nat → ClassId} {ad : Nat → Nat} {n : Nat} {A : Nat → Prop} (hI : mI ad n A) {M : Nat → va_E} (hn : 63 ≤ n) (hn2 : n ≤ 100) (hro : rO ad M) {lim : Nat} {O : List Nat} (hout : isOut cy M lim O) : mMi l yX12_end (gW yX12_end cX12_end 1 (some .int)) { frames := 0, cells := 0, slots := 0, locals := 0 } D cy ad n A [.ref (ad 52)] M (fun res M' => res = pgI lim O ∧ rO ad M' ∧ isOutR cy M' lim (pgO lim O) ∧ Fr [52, 111] M M') := by
  obtain ⟨o1, o2, o3, o4, o5, o6b⟩ := hout
  refine m_entry (cc := cX12_end) (maxL := 1) (ret := (some .int)) (own := RX12) (lv := [(0, .ref (ad 52))]) hI (by decide) rfl rfl (Nat.le_of_ble_eq_true rfl) rfl (fun pX eX sX mX aX bX tX cX C hrt0 hlk0 => ?_)
  refine m_aload_n (pc' := 1) C dX12_end_0 rfl 0 rfl rfl ?_
  refine m_aload_n (pc' := 2) C dX12_end_1 rfl 0 rfl rfl ?_
  refine r_get C hn hro inW_X12 13 (by decide) ⟨rfl, rfl, rfl⟩ (gW_of tm_5_63) (r_at 13 rfl o5) dX12_end_2 rfl ?_
  refine m_if_eq (pc' := 8) (tgt := 12) C dX12_end_5 (by decide) rfl (fun c_5 => ?_) (fun c_5 => ?_)
  · have hov : ¬ lim < O.length := of_decide_eq_false ((bI_0 _).mp c_5)
    have hpg : (pgO lim O).length = min O.length lim := by unfold pgO; rw [if_neg hov, Nat.min_eq_left (by omega)]
    refine m_aload_n (pc' := 13) C dX12_end_12 rfl 0 rfl rfl ?_
    refine r_get C hn hro inW_X12 11 (by decide) ⟨rfl, rfl, rfl⟩ (gW_of tm_5_61) (r_at 11 rfl o4) dX12_end_13 rfl ?_
    refine r_put (ty := .int) C hn hn2 hro inW_X12 11 111 (by decide) rfl ⟨rfl, rfl, rfl, rfl⟩ (gW_of tm_5_61) (by decide +kernel) rfl rfl (fun _ => rfl) dX12_end_16 rfl (fun M1 go_1 g_1 F_1 => ?_)
    refine m_aload_n (pc' := 20) C dX12_end_19 rfl 0 rfl rfl ?_
    have ff13_2 : M1 113 = gh (.int (bI (decide (lim < O.length)))) := (F_1 113 (by decide)).trans o5
    refine r_get C hn go_1 inW_X12 13 (by decide) ⟨rfl, rfl, rfl⟩ (gW_of tm_5_63) (r_at 13 rfl ff13_2) dX12_end_20 rfl ?_
    refine m_if_eq (pc' := 26) (tgt := 31) C dX12_end_23 (by decide) rfl (fun c_23 => ?_) (fun c_23 => ?_)
    · refine m_aload_n (pc' := 32) C dX12_end_31 rfl 0 rfl rfl ?_
      refine r_get C hn go_1 inW_X12 11 (by decide) ⟨rfl, rfl, rfl⟩ (gW_of tm_5_61) (r_at 11 rfl g_1) dX12_end_32 rfl ?_
      refine m_iret C hrt0 hlk0 rfl dX12_end_35 ?_
      have ff10_3 : M1 110 = gh (.int (nI lim)) := (F_1 110 (by decide)).trans o3
      have o9 := o6b.fr (F_1.sub (S' := [52, 111]) (by decide)) (by decide)
      refine ⟨?_, go_1, ⟨o1, ?_, ?_, ff10_3, by rw [hpg]; exact g_1, ⟨_, ff13_2⟩, ?_⟩, (F_1.sub (by decide))⟩
      · unfold pgI; rw [if_neg hov, Nat.min_eq_left (by omega)]
      · unfold pgO; split; exact Nat.zero_le _; omega
      · unfold pgO; rw [if_neg hov]; exact o2
      · unfold pgO
        obtain ⟨z1, g9, z2, z3⟩ := o9
        rw [if_neg hov]; rw [List.take_of_length_le (by omega)] at z1 z3; exact ⟨z1, g9, z2, z3⟩
    · exact absurd (by rw [decide_eq_false hov]; rfl) c_23
  · have hov : lim < O.length := of_decide_eq_true (ts_of c_5)
    have hpg : (pgO lim O).length = 0 := by unfold pgO; rw [if_pos hov]; rfl
    refine m_iconst (pc' := 9) (v := nI 0) C dX12_end_8 (by decide) rfl ?_
    refine m_goto (tgt := 16) C dX12_end_9 (by decide) ?_
    refine r_put (ty := .int) C hn hn2 hro inW_X12 11 111 (by decide) rfl ⟨rfl, rfl, rfl, rfl⟩ (gW_of tm_5_61) (by decide +kernel) rfl rfl (fun _ => rfl) dX12_end_16 rfl (fun M4 go_4 g_4 F_4 => ?_)
    refine m_aload_n (pc' := 20) C dX12_end_19 rfl 0 rfl rfl ?_
    have ff13_5 : M4 113 = gh (.int (bI (decide (lim < O.length)))) := (F_4 113 (by decide)).trans o5
    refine r_get C hn go_4 inW_X12 13 (by decide) ⟨rfl, rfl, rfl⟩ (gW_of tm_5_63) (r_at 13 rfl ff13_5) dX12_end_20 rfl ?_
    refine m_if_eq (pc' := 26) (tgt := 31) C dX12_end_23 (by decide) rfl (fun c_23 => ?_) (fun c_23 => ?_)
    · exact absurd c_23 (by rw [decide_eq_true hov]; decide)
    · refine m_bipush (pc' := 28) (v := (-3)) C dX12_end_26 (by decide) rfl ?_
      refine m_goto (tgt := 35) C dX12_end_28 (by decide) ?_
      refine m_iret C hrt0 hlk0 rfl dX12_end_35 ?_
      have ff10_6 : M4 110 = gh (.int (nI lim)) := (F_4 110 (by decide)).trans o3
      have o9 := o6b.fr (F_4.sub (S' := [52, 111]) (by decide)) (by decide)
      refine ⟨?_, go_4, ⟨o1, ?_, ?_, ff10_6, by rw [hpg]; exact g_4, ⟨_, ff13_5⟩, ?_⟩, (F_4.sub (by decide))⟩
      · unfold pgI; rw [if_pos hov]
      · unfold pgO; split; exact Nat.zero_le _; omega
      · unfold pgO; rw [if_pos hov]; intro x hx; cases hx
      · unfold pgO
        obtain ⟨z1, g9, z2, z3⟩ := o9
        rw [if_pos hov]; exact ⟨Nat.zero_le _, g9, z2, fun i hi => by cases hi⟩
