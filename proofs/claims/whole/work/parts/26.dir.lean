set_option maxHeartbeats 4000000 in
set_option maxRecDepth 100000 in
theorem kX2_forget {l : Launch} {D : va_G} {cy : Nat → ClassId} {ad : Nat → Nat} {n : Nat} {A : Nat → Prop} (hI : mI ad n A) {M : Nat → va_E} {dd : Nat} {fl fp fb fm fz sw sp : Bool} {wd pr bt lt en : Int32} (hdd : dd < n) (hd : M dd = .inr (2, [.int (bI fl), .int (bI fp), .int (bI fb), .int (bI fm), .int (bI fz), .int (bI sw), .int (bI sp), .int (wd), .int (pr), .int (bt), .int (lt), .int (en)])) : mMv l yX2_forget (gW yX2_forget cX2_forget 1 none) { frames := 0, cells := 0, slots := 0, locals := 0 } D cy ad n A [.ref (ad dd)] M (fun M' => M' dd = .inr (2, [.int (bI false), .int (bI false), .int (bI false), .int (bI false), .int (bI false), .int (bI false), .int (bI false), .int (nI 0), .int ((-1)), .int (nI 32), .int ((-1)), .int (nI 0)]) ∧ Fr [dd] M M') := by
  refine m_entry (cc := cX2_forget) (maxL := 1) (ret := none) (own := RX2) (lv := [(0, .ref (ad dd))]) hI (by decide) rfl rfl (Nat.le_of_ble_eq_true rfl) rfl (fun pX eX sX mX aX bX tX cX C hrt0 hlk0 => ?_)
  refine m_aload_n (pc' := 1) C dX2_forget_0 rfl 0 rfl rfl ?_
  refine m_iconst (pc' := 2) (v := bI false) C dX2_forget_1 (by decide) rfl ?_
  refine m_put (pc' := 5) (ty := .boolean) (fs' := [.int (bI false), .int (bI fp), .int (bI fb), .int (bI fm), .int (bI fz), .int (bI sw), .int (bI sp), .int (wd), .int (pr), .int (bt), .int (lt), .int (en)]) C dd hdd hd rfl inW_X2 tyX2 tyX2_ok nmX2 0 (by decide) (gW_of tm_1_154) rfl rfl (by decide +kernel) (nar_z _) (fit_z _) (by simp) rfl dX2_forget_2 rfl (fun M1 g_1 F_1 => ?_)
  refine m_aload_n (pc' := 6) C dX2_forget_5 rfl 0 rfl rfl ?_
  refine m_iconst (pc' := 7) (v := bI false) C dX2_forget_6 (by decide) rfl ?_
  refine m_put (pc' := 10) (ty := .boolean) (fs' := [.int (bI false), .int (bI false), .int (bI fb), .int (bI fm), .int (bI fz), .int (bI sw), .int (bI sp), .int (wd), .int (pr), .int (bt), .int (lt), .int (en)]) C dd hdd g_1 rfl inW_X2 tyX2 tyX2_ok nmX2 1 (by decide) (gW_of tm_1_156) rfl rfl (by decide +kernel) (nar_z _) (fit_z _) (by simp) rfl dX2_forget_7 rfl (fun M2 g_2 F_2 => ?_)
  refine m_aload_n (pc' := 11) C dX2_forget_10 rfl 0 rfl rfl ?_
  refine m_iconst (pc' := 12) (v := bI false) C dX2_forget_11 (by decide) rfl ?_
  refine m_put (pc' := 15) (ty := .boolean) (fs' := [.int (bI false), .int (bI false), .int (bI false), .int (bI fm), .int (bI fz), .int (bI sw), .int (bI sp), .int (wd), .int (pr), .int (bt), .int (lt), .int (en)]) C dd hdd g_2 rfl inW_X2 tyX2 tyX2_ok nmX2 2 (by decide) (gW_of tm_1_158) rfl rfl (by decide +kernel) (nar_z _) (fit_z _) (by simp) rfl dX2_forget_12 rfl (fun M3 g_3 F_3 => ?_)
  refine m_aload_n (pc' := 16) C dX2_forget_15 rfl 0 rfl rfl ?_
  refine m_iconst (pc' := 17) (v := bI false) C dX2_forget_16 (by decide) rfl ?_
  refine m_put (pc' := 20) (ty := .boolean) (fs' := [.int (bI false), .int (bI false), .int (bI false), .int (bI false), .int (bI fz), .int (bI sw), .int (bI sp), .int (wd), .int (pr), .int (bt), .int (lt), .int (en)]) C dd hdd g_3 rfl inW_X2 tyX2 tyX2_ok nmX2 3 (by decide) (gW_of tm_1_160) rfl rfl (by decide +kernel) (nar_z _) (fit_z _) (by simp) rfl dX2_forget_17 rfl (fun M4 g_4 F_4 => ?_)
  refine m_aload_n (pc' := 21) C dX2_forget_20 rfl 0 rfl rfl ?_
  refine m_iconst (pc' := 22) (v := bI false) C dX2_forget_21 (by decide) rfl ?_
  refine m_put (pc' := 25) (ty := .boolean) (fs' := [.int (bI false), .int (bI false), .int (bI false), .int (bI false), .int (bI false), .int (bI sw), .int (bI sp), .int (wd), .int (pr), .int (bt), .int (lt), .int (en)]) C dd hdd g_4 rfl inW_X2 tyX2 tyX2_ok nmX2 4 (by decide) (gW_of tm_1_162) rfl rfl (by decide +kernel) (nar_z _) (fit_z _) (by simp) rfl dX2_forget_22 rfl (fun M5 g_5 F_5 => ?_)
  refine m_aload_n (pc' := 26) C dX2_forget_25 rfl 0 rfl rfl ?_
  refine m_iconst (pc' := 27) (v := bI false) C dX2_forget_26 (by decide) rfl ?_
  refine m_put (pc' := 30) (ty := .boolean) (fs' := [.int (bI false), .int (bI false), .int (bI false), .int (bI false), .int (bI false), .int (bI false), .int (bI sp), .int (wd), .int (pr), .int (bt), .int (lt), .int (en)]) C dd hdd g_5 rfl inW_X2 tyX2 tyX2_ok nmX2 5 (by decide) (gW_of tm_1_164) rfl rfl (by decide +kernel) (nar_z _) (fit_z _) (by simp) rfl dX2_forget_27 rfl (fun M6 g_6 F_6 => ?_)
  refine m_aload_n (pc' := 31) C dX2_forget_30 rfl 0 rfl rfl ?_
  refine m_iconst (pc' := 32) (v := bI false) C dX2_forget_31 (by decide) rfl ?_
  refine m_put (pc' := 35) (ty := .boolean) (fs' := [.int (bI false), .int (bI false), .int (bI false), .int (bI false), .int (bI false), .int (bI false), .int (bI false), .int (wd), .int (pr), .int (bt), .int (lt), .int (en)]) C dd hdd g_6 rfl inW_X2 tyX2 tyX2_ok nmX2 6 (by decide) (gW_of tm_1_166) rfl rfl (by decide +kernel) (nar_z _) (fit_z _) (by simp) rfl dX2_forget_32 rfl (fun M7 g_7 F_7 => ?_)
  refine m_aload_n (pc' := 36) C dX2_forget_35 rfl 0 rfl rfl ?_
  refine m_iconst (pc' := 37) (v := nI 0) C dX2_forget_36 (by decide) rfl ?_
  refine m_put (pc' := 40) (ty := .int) (fs' := [.int (bI false), .int (bI false), .int (bI false), .int (bI false), .int (bI false), .int (bI false), .int (bI false), .int (nI 0), .int (pr), .int (bt), .int (lt), .int (en)]) C dd hdd g_7 rfl inW_X2 tyX2 tyX2_ok nmX2 7 (by decide) (gW_of tm_1_167) rfl rfl (by decide +kernel) rfl rfl (by simp) rfl dX2_forget_37 rfl (fun M8 g_8 F_8 => ?_)
  refine m_aload_n (pc' := 41) C dX2_forget_40 rfl 0 rfl rfl ?_
  refine m_iconst (pc' := 42) (v := (-1)) C dX2_forget_41 (by decide) rfl ?_
  refine m_put (pc' := 45) (ty := .int) (fs' := [.int (bI false), .int (bI false), .int (bI false), .int (bI false), .int (bI false), .int (bI false), .int (bI false), .int (nI 0), .int ((-1)), .int (bt), .int (lt), .int (en)]) C dd hdd g_8 rfl inW_X2 tyX2 tyX2_ok nmX2 8 (by decide) (gW_of tm_1_169) rfl rfl (by decide +kernel) rfl rfl (by simp) rfl dX2_forget_42 rfl (fun M9 g_9 F_9 => ?_)
  refine m_aload_n (pc' := 46) C dX2_forget_45 rfl 0 rfl rfl ?_
  refine m_bipush (pc' := 48) (v := nI 32) C dX2_forget_46 (by decide) rfl ?_
  refine m_put (pc' := 51) (ty := .int) (fs' := [.int (bI false), .int (bI false), .int (bI false), .int (bI false), .int (bI false), .int (bI false), .int (bI false), .int (nI 0), .int ((-1)), .int (nI 32), .int (lt), .int (en)]) C dd hdd g_9 rfl inW_X2 tyX2 tyX2_ok nmX2 9 (by decide) (gW_of tm_1_171) rfl rfl (by decide +kernel) rfl rfl (by simp) rfl dX2_forget_48 rfl (fun M10 g_10 F_10 => ?_)
  refine m_aload_n (pc' := 52) C dX2_forget_51 rfl 0 rfl rfl ?_
  refine m_iconst (pc' := 53) (v := (-1)) C dX2_forget_52 (by decide) rfl ?_
  refine m_put (pc' := 56) (ty := .int) (fs' := [.int (bI false), .int (bI false), .int (bI false), .int (bI false), .int (bI false), .int (bI false), .int (bI false), .int (nI 0), .int ((-1)), .int (nI 32), .int ((-1)), .int (en)]) C dd hdd g_10 rfl inW_X2 tyX2 tyX2_ok nmX2 10 (by decide) (gW_of tm_1_173) rfl rfl (by decide +kernel) rfl rfl (by simp) rfl dX2_forget_53 rfl (fun M11 g_11 F_11 => ?_)
  refine m_aload_n (pc' := 57) C dX2_forget_56 rfl 0 rfl rfl ?_
  refine m_iconst (pc' := 58) (v := nI 0) C dX2_forget_57 (by decide) rfl ?_
  refine m_put (pc' := 61) (ty := .int) (fs' := [.int (bI false), .int (bI false), .int (bI false), .int (bI false), .int (bI false), .int (bI false), .int (bI false), .int (nI 0), .int ((-1)), .int (nI 32), .int ((-1)), .int (nI 0)]) C dd hdd g_11 rfl inW_X2 tyX2 tyX2_ok nmX2 11 (by decide) (gW_of tm_1_175) rfl rfl (by decide +kernel) rfl rfl (by simp) rfl dX2_forget_58 rfl (fun M12 g_12 F_12 => ?_)
  refine m_vret C hrt0 hlk0 dX2_forget_61 ?_
  exact ⟨g_12, ((((((((((((F_1.sub (by simp)).tr (F_2.sub (by simp))).tr (F_3.sub (by simp))).tr (F_4.sub (by simp))).tr (F_5.sub (by simp))).tr (F_6.sub (by simp))).tr (F_7.sub (by simp))).tr (F_8.sub (by simp))).tr (F_9.sub (by simp))).tr (F_10.sub (by simp))).tr (F_11.sub (by simp))).tr (F_12.sub (by simp)))⟩
set_option maxHeartbeats 4000000 in
set_option maxRecDepth 100000 in
theorem kX2_isSigned {l : Launch} {D : va_G} {cy : Nat → ClassId} {ad : Nat → Nat} {n : Nat} {A : Nat → Prop} (hI : mI ad n A) {M : Nat → va_E} {dd : Nat} {fl fp fb fm fz sw sp : Bool} {wd pr bt lt en : Int32} (hdd : dd < n) (hd : M dd = .inr (2, [.int (bI fl), .int (bI fp), .int (bI fb), .int (bI fm), .int (bI fz), .int (bI sw), .int (bI sp), .int (wd), .int (pr), .int (bt), .int (lt), .int (en)])) : mMi l yX2_isSigned (gW yX2_isSigned cX2_isSigned 1 (some .boolean)) { frames := 0, cells := 0, slots := 0, locals := 0 } D cy ad n A [.ref (ad dd)] M (fun res M' => res = bI (decide (lt = nI 100 ∨ lt = nI 105)) ∧ M' = M) := by
  refine m_entry (cc := cX2_isSigned) (maxL := 1) (ret := (some .boolean)) (own := RX2) (lv := [(0, .ref (ad dd))]) hI (by decide) rfl rfl (Nat.le_of_ble_eq_true rfl) rfl (fun pX eX sX mX aX bX tX cX C hrt0 hlk0 => ?_)
  refine m_aload_n (pc' := 1) C dX2_isSigned_0 rfl 0 rfl rfl ?_
  refine m_get (pc' := 4) C dd hdd hd rfl inW_X2 10 (by decide) (gW_of tm_1_173) rfl rfl dX2_isSigned_1 rfl ?_
  refine m_bipush (pc' := 6) (v := nI 100) C dX2_isSigned_4 (by decide) rfl ?_
  refine m_icmp_eq (pc' := 9) (tgt := 18) C dX2_isSigned_6 (by decide) rfl (fun c_6 => ?_) (fun c_6 => ?_)
  · refine m_iconst (pc' := 19) (v := bI true) C dX2_isSigned_18 (by decide) rfl ?_
    refine m_goto (tgt := 23) C dX2_isSigned_19 (by decide) ?_
    refine m_iret C hrt0 hlk0 (nar_z _) dX2_isSigned_23 ?_
    exact ⟨by first | (simp [*]; done) | (simp_all; done), rfl⟩
  · refine m_aload_n (pc' := 10) C dX2_isSigned_9 rfl 0 rfl rfl ?_
    refine m_get (pc' := 13) C dd hdd hd rfl inW_X2 10 (by decide) (gW_of tm_1_173) rfl rfl dX2_isSigned_10 rfl ?_
    refine m_bipush (pc' := 15) (v := nI 105) C dX2_isSigned_13 (by decide) rfl ?_
    refine m_icmp_ne (pc' := 18) (tgt := 22) C dX2_isSigned_15 (by decide) rfl (fun c_15 => ?_) (fun c_15 => ?_)
    · refine m_iconst (pc' := 23) (v := bI false) C dX2_isSigned_22 (by decide) rfl ?_
      refine m_iret C hrt0 hlk0 (nar_z _) dX2_isSigned_23 ?_
      exact ⟨by first | (simp [*]; done) | (simp_all; done), rfl⟩
    · refine m_iconst (pc' := 19) (v := bI true) C dX2_isSigned_18 (by decide) rfl ?_
      refine m_goto (tgt := 23) C dX2_isSigned_19 (by decide) ?_
      refine m_iret C hrt0 hlk0 (nar_z _) dX2_isSigned_23 ?_
      exact ⟨by first | (simp [*]; done) | (simp_all; done), rfl⟩
set_option maxHeartbeats 4000000 in
set_option maxRecDepth 100000 in
theorem kX2_isHexadecimal {l : Launch} {D : va_G} {cy : Nat → ClassId} {ad : Nat → Nat} {n : Nat} {A : Nat → Prop} (hI : mI ad n A) {M : Nat → va_E} {dd : Nat} {fl fp fb fm fz sw sp : Bool} {wd pr bt lt en : Int32} (hdd : dd < n) (hd : M dd = .inr (2, [.int (bI fl), .int (bI fp), .int (bI fb), .int (bI fm), .int (bI fz), .int (bI sw), .int (bI sp), .int (wd), .int (pr), .int (bt), .int (lt), .int (en)])) : mMi l yX2_isHexadecimal (gW yX2_isHexadecimal cX2_isHexadecimal 1 (some .boolean)) { frames := 0, cells := 0, slots := 0, locals := 0 } D cy ad n A [.ref (ad dd)] M (fun res M' => res = bI (decide (lt = nI 120 ∨ lt = nI 88)) ∧ M' = M) := by
  refine m_entry (cc := cX2_isHexadecimal) (maxL := 1) (ret := (some .boolean)) (own := RX2) (lv := [(0, .ref (ad dd))]) hI (by decide) rfl rfl (Nat.le_of_ble_eq_true rfl) rfl (fun pX eX sX mX aX bX tX cX C hrt0 hlk0 => ?_)
  refine m_aload_n (pc' := 1) C dX2_isHexadecimal_0 rfl 0 rfl rfl ?_
  refine m_get (pc' := 4) C dd hdd hd rfl inW_X2 10 (by decide) (gW_of tm_1_173) rfl rfl dX2_isHexadecimal_1 rfl ?_
  refine m_bipush (pc' := 6) (v := nI 120) C dX2_isHexadecimal_4 (by decide) rfl ?_
  refine m_icmp_eq (pc' := 9) (tgt := 18) C dX2_isHexadecimal_6 (by decide) rfl (fun c_6 => ?_) (fun c_6 => ?_)
  · refine m_iconst (pc' := 19) (v := bI true) C dX2_isHexadecimal_18 (by decide) rfl ?_
    refine m_goto (tgt := 23) C dX2_isHexadecimal_19 (by decide) ?_
    refine m_iret C hrt0 hlk0 (nar_z _) dX2_isHexadecimal_23 ?_
    exact ⟨by first | (simp [*]; done) | (simp_all; done), rfl⟩
  · refine m_aload_n (pc' := 10) C dX2_isHexadecimal_9 rfl 0 rfl rfl ?_
    refine m_get (pc' := 13) C dd hdd hd rfl inW_X2 10 (by decide) (gW_of tm_1_173) rfl rfl dX2_isHexadecimal_10 rfl ?_
    refine m_bipush (pc' := 15) (v := nI 88) C dX2_isHexadecimal_13 (by decide) rfl ?_
    refine m_icmp_ne (pc' := 18) (tgt := 22) C dX2_isHexadecimal_15 (by decide) rfl (fun c_15 => ?_) (fun c_15 => ?_)
    · refine m_iconst (pc' := 23) (v := bI false) C dX2_isHexadecimal_22 (by decide) rfl ?_
      refine m_iret C hrt0 hlk0 (nar_z _) dX2_isHexadecimal_23 ?_
      exact ⟨by first | (simp [*]; done) | (simp_all; done), rfl⟩
    · refine m_iconst (pc' := 19) (v := bI true) C dX2_isHexadecimal_18 (by decide) rfl ?_
      refine m_goto (tgt := 23) C dX2_isHexadecimal_19 (by decide) ?_
      refine m_iret C hrt0 hlk0 (nar_z _) dX2_isHexadecimal_23 ?_
      exact ⟨by first | (simp [*]; done) | (simp_all; done), rfl⟩
set_option maxHeartbeats 4000000 in
set_option maxRecDepth 100000 in
theorem kX2_base {l : Launch} {D : va_G} {cy : Nat → ClassId} {ad : Nat → Nat} {n : Nat} {A : Nat → Prop} (hI : mI ad n A) {M : Nat → va_E} {dd : Nat} {fl fp fb fm fz sw sp : Bool} {wd pr bt lt en : Int32} (hdd : dd < n) (hd : M dd = .inr (2, [.int (bI fl), .int (bI fp), .int (bI fb), .int (bI fm), .int (bI fz), .int (bI sw), .int (bI sp), .int (wd), .int (pr), .int (bt), .int (lt), .int (en)])) : mMi l yX2_base (gW yX2_base cX2_base 1 (some .int)) { frames := 1, cells := 0, slots := 0, locals := 20 } D cy ad n A [.ref (ad dd)] M (fun res M' => res = (if lt = nI 111 then nI 8 else if lt = nI 120 ∨ lt = nI 88 then nI 16 else nI 10) ∧ M' = M) := by
  refine m_entry (cc := cX2_base) (maxL := 1) (ret := (some .int)) (own := RX2) (lv := [(0, .ref (ad dd))]) hI (by decide) rfl rfl (Nat.le_of_ble_eq_true rfl) rfl (fun pX eX sX mX aX bX tX cX C hrt0 hlk0 => ?_)
  refine m_aload_n (pc' := 1) C dX2_base_0 rfl 0 rfl rfl ?_
  refine m_get (pc' := 4) C dd hdd hd rfl inW_X2 10 (by decide) (gW_of tm_1_173) rfl rfl dX2_base_1 rfl ?_
  refine m_bipush (pc' := 6) (v := nI 111) C dX2_base_4 (by decide) rfl ?_
  refine m_icmp_ne (pc' := 9) (tgt := 12) C dX2_base_6 (by decide) rfl (fun c_6 => ?_) (fun c_6 => ?_)
  · refine m_aload_n (pc' := 13) C dX2_base_12 rfl 0 rfl rfl ?_
    refine m_callVi (pc' := 16) (As := []) (rest := []) C (kX2_isHexadecimal hI hdd hd) (cwV 0 C.1.2.2.2.2 (goodV tm_3_112 tm_3_113 tm_3_114 tm_1_9 tm_3_115) rfl rfl rfl (by decide +kernel) ⟨by decide, by decide⟩) hdd hd rfl rfl rfl (Nat.le_of_ble_eq_true rfl) dX2_base_13 rfl ⟨by decide, by decide⟩ (fun x_1 N_1 q_1 => ?_)
    obtain ⟨e_1, E_1⟩ := q_1
    replace E_1 := E_1.symm
    subst E_1
    replace e_1 := e_1.symm
    subst e_1
    refine m_if_eq (pc' := 19) (tgt := 24) C dX2_base_16 (by decide) rfl (fun c_16 => ?_) (fun c_16 => ?_)
    · rw [bI_0, decide_eq_false_iff_not] at c_16
      refine m_bipush (pc' := 26) (v := nI 10) C dX2_base_24 (by decide) rfl ?_
      refine m_iret C hrt0 hlk0 rfl dX2_base_26 ?_
      exact ⟨by first | rw [if_pos (Classical.not_not.mp c_6)] | rw [if_neg c_6, if_pos c_16] | rw [if_neg c_6, if_neg c_16], rfl⟩
    · replace c_16 := of_decide_eq_true (ts_of c_16)
      refine m_bipush (pc' := 21) (v := nI 16) C dX2_base_19 (by decide) rfl ?_
      refine m_goto (tgt := 26) C dX2_base_21 (by decide) ?_
      refine m_iret C hrt0 hlk0 rfl dX2_base_26 ?_
      exact ⟨by first | rw [if_pos (Classical.not_not.mp c_6)] | rw [if_neg c_6, if_pos c_16] | rw [if_neg c_6, if_neg c_16], rfl⟩
  · refine m_bipush (pc' := 11) (v := nI 8) C dX2_base_9 (by decide) rfl ?_
    refine m_iret C hrt0 hlk0 rfl dX2_base_11 ?_
    exact ⟨by first | rw [if_pos (Classical.not_not.mp c_6)] | rw [if_neg c_6, if_pos c_16] | rw [if_neg c_6, if_neg c_16], rfl⟩
set_option maxHeartbeats 4000000 in
set_option maxRecDepth 100000 in
theorem kX2_fillsWithZeros {l : Launch} {D : va_G} {cy : Nat → ClassId} {ad : Nat → Nat} {n : Nat} {A : Nat → Prop} (hI : mI ad n A) {M : Nat → va_E} {dd : Nat} {fl fp fb fm fz sw sp : Bool} {wd pr bt lt en : Int32} (hdd : dd < n) (hd : M dd = .inr (2, [.int (bI fl), .int (bI fp), .int (bI fb), .int (bI fm), .int (bI fz), .int (bI sw), .int (bI sp), .int (wd), .int (pr), .int (bt), .int (lt), .int (en)])) : mMi l yX2_fillsWithZeros (gW yX2_fillsWithZeros cX2_fillsWithZeros 1 (some .boolean)) { frames := 0, cells := 0, slots := 0, locals := 0 } D cy ad n A [.ref (ad dd)] M (fun res M' => res = bI (fz && !fl && decide (pr = -1)) ∧ M' = M) := by
  refine m_entry (cc := cX2_fillsWithZeros) (maxL := 1) (ret := (some .boolean)) (own := RX2) (lv := [(0, .ref (ad dd))]) hI (by decide) rfl rfl (Nat.le_of_ble_eq_true rfl) rfl (fun pX eX sX mX aX bX tX cX C hrt0 hlk0 => ?_)
  refine m_aload_n (pc' := 1) C dX2_fillsWithZeros_0 rfl 0 rfl rfl ?_
  refine m_get (pc' := 4) C dd hdd hd rfl inW_X2 4 (by decide) (gW_of tm_1_162) rfl rfl dX2_fillsWithZeros_1 rfl ?_
  refine m_if_eq (pc' := 7) (tgt := 26) C dX2_fillsWithZeros_4 (by decide) rfl (fun c_4 => ?_) (fun c_4 => ?_)
  · have hz := (bI_0 _).mp c_4
    refine m_iconst (pc' := 27) (v := bI false) C dX2_fillsWithZeros_26 (by decide) rfl ?_
    refine m_iret C hrt0 hlk0 (nar_z _) dX2_fillsWithZeros_27 ?_
    exact ⟨by first | (simp [*]; done) | (simp_all; done), rfl⟩
  · have hz := ts_of c_4
    refine m_aload_n (pc' := 8) C dX2_fillsWithZeros_7 rfl 0 rfl rfl ?_
    refine m_get (pc' := 11) C dd hdd hd rfl inW_X2 0 (by decide) (gW_of tm_1_154) rfl rfl dX2_fillsWithZeros_8 rfl ?_
    refine m_if_ne (pc' := 14) (tgt := 26) C dX2_fillsWithZeros_11 (by decide) rfl (fun c_11 => ?_) (fun c_11 => ?_)
    · have hl := ts_of c_11
      refine m_iconst (pc' := 27) (v := bI false) C dX2_fillsWithZeros_26 (by decide) rfl ?_
      refine m_iret C hrt0 hlk0 (nar_z _) dX2_fillsWithZeros_27 ?_
      exact ⟨by first | (simp [*]; done) | (simp_all; done), rfl⟩
    · have hl := (bI_0 _).mp (Classical.not_not.mp c_11)
      refine m_aload_n (pc' := 15) C dX2_fillsWithZeros_14 rfl 0 rfl rfl ?_
      refine m_get (pc' := 18) C dd hdd hd rfl inW_X2 8 (by decide) (gW_of tm_1_169) rfl rfl dX2_fillsWithZeros_15 rfl ?_
      refine m_iconst (pc' := 19) (v := (-1)) C dX2_fillsWithZeros_18 (by decide) rfl ?_
      refine m_icmp_ne (pc' := 22) (tgt := 26) C dX2_fillsWithZeros_19 (by decide) rfl (fun c_19 => ?_) (fun c_19 => ?_)
      · refine m_iconst (pc' := 27) (v := bI false) C dX2_fillsWithZeros_26 (by decide) rfl ?_
        refine m_iret C hrt0 hlk0 (nar_z _) dX2_fillsWithZeros_27 ?_
        exact ⟨by first | (simp [*]; done) | (simp_all; done), rfl⟩
      · refine m_iconst (pc' := 23) (v := bI true) C dX2_fillsWithZeros_22 (by decide) rfl ?_
        refine m_goto (tgt := 27) C dX2_fillsWithZeros_23 (by decide) ?_
        refine m_iret C hrt0 hlk0 (nar_z _) dX2_fillsWithZeros_27 ?_
        exact ⟨by first | (simp [*]; done) | (simp_all; done), rfl⟩
set_option maxHeartbeats 4000000 in
set_option maxRecDepth 100000 in
theorem kX2_noteFlag {l : Launch} {D : va_G} {cy : Nat → ClassId} {ad : Nat → Nat} {n : Nat} {A : Nat → Prop} (hI : mI ad n A) {M : Nat → va_E} {dd : Nat} {fl fp fb fm fz sw sp : Bool} {wd pr bt lt en : Int32} (hdd : dd < n) (hd : M dd = .inr (2, [.int (bI fl), .int (bI fp), .int (bI fb), .int (bI fm), .int (bI fz), .int (bI sw), .int (bI sp), .int (wd), .int (pr), .int (bt), .int (lt), .int (en)])) {T : List Nat} {j : Nat} (h256 : ∀ x ∈ T, x < 256) : mMi l yX2_noteFlag (gW yX2_noteFlag cX2_noteFlag 2 (some .boolean)) { frames := 0, cells := 0, slots := 0, locals := 0 } D cy ad n A [.ref (ad dd), .int (chAt T j)] M (fun res M' => res = bI (flC (T.getD j 0)) ∧ M' dd = .inr (2, [.int (bI (fl || (T.getD j 0 == 45))), .int (bI (fp || (T.getD j 0 == 43))), .int (bI (fb || (T.getD j 0 == 32))), .int (bI (fm || (T.getD j 0 == 35))), .int (bI (fz || (T.getD j 0 == 48))), .int (bI sw), .int (bI sp), .int (wd), .int (pr), .int (bt), .int (lt), .int (en)]) ∧ Fr [dd] M M') := by
  refine m_entry (cc := cX2_noteFlag) (maxL := 2) (ret := (some .boolean)) (own := RX2) (lv := [(0, .ref (ad dd)), (1, .int (chAt T j))]) hI (by decide) rfl rfl (Nat.le_of_ble_eq_true rfl) rfl (fun pX eX sX mX aX bX tX cX C hrt0 hlk0 => ?_)
  refine m_iload_n (pc' := 1) C dX2_noteFlag_0 rfl 1 rfl rfl ?_
  refine dite (chAt T j = nI 32) (fun s1_32 => ?_) (fun s1_32 => ?_)
  · have e9 : T.getD j 0 = 32 := (chAt_eq h256 (by decide) (by decide)).mp s1_32
    refine m_look (off := 65) (tgt := 66) C dX2_noteFlag_1 (by decide) (by rw [s1_32]; decide) (by decide) ?_
    refine m_aload_n (pc' := 67) C dX2_noteFlag_66 rfl 0 rfl rfl ?_
    refine m_iconst (pc' := 68) (v := bI true) C dX2_noteFlag_67 (by decide) rfl ?_
    refine m_put (pc' := 71) (ty := .boolean) (fs' := [.int (bI fl), .int (bI fp), .int (bI true), .int (bI fm), .int (bI fz), .int (bI sw), .int (bI sp), .int (wd), .int (pr), .int (bt), .int (lt), .int (en)]) C dd hdd hd rfl inW_X2 tyX2 tyX2_ok nmX2 2 (by decide) (gW_of tm_1_158) rfl rfl (by decide +kernel) (nar_z _) (fit_z _) (by simp) rfl dX2_noteFlag_68 rfl (fun M1 g_1 F_1 => ?_)
    refine m_iconst (pc' := 72) (v := bI true) C dX2_noteFlag_71 (by decide) rfl ?_
    refine m_iret C hrt0 hlk0 (nar_z _) dX2_noteFlag_72 ?_
    refine ⟨?_, ?_, (F_1.sub (by simp))⟩
    · generalize T.getD j 0 = c at *
      first | (subst e9; rfl) | (unfold flC; simp [e9]; done)
    · rw [g_1]
      generalize T.getD j 0 = c at *
      first | (subst e9; simp; done) | (simp [e9]; done)
  refine dite (chAt T j = nI 35) (fun s1_35 => ?_) (fun s1_35 => ?_)
  · have e9 : T.getD j 0 = 35 := (chAt_eq h256 (by decide) (by decide)).mp s1_35
    refine m_look (off := 72) (tgt := 73) C dX2_noteFlag_1 (by decide) (by rw [s1_35]; decide) (by decide) ?_
    refine m_aload_n (pc' := 74) C dX2_noteFlag_73 rfl 0 rfl rfl ?_
    refine m_iconst (pc' := 75) (v := bI true) C dX2_noteFlag_74 (by decide) rfl ?_
    refine m_put (pc' := 78) (ty := .boolean) (fs' := [.int (bI fl), .int (bI fp), .int (bI fb), .int (bI true), .int (bI fz), .int (bI sw), .int (bI sp), .int (wd), .int (pr), .int (bt), .int (lt), .int (en)]) C dd hdd hd rfl inW_X2 tyX2 tyX2_ok nmX2 3 (by decide) (gW_of tm_1_160) rfl rfl (by decide +kernel) (nar_z _) (fit_z _) (by simp) rfl dX2_noteFlag_75 rfl (fun M2 g_2 F_2 => ?_)
    refine m_iconst (pc' := 79) (v := bI true) C dX2_noteFlag_78 (by decide) rfl ?_
    refine m_iret C hrt0 hlk0 (nar_z _) dX2_noteFlag_79 ?_
    refine ⟨?_, ?_, (F_2.sub (by simp))⟩
    · generalize T.getD j 0 = c at *
      first | (subst e9; rfl) | (unfold flC; simp [e9]; done)
    · rw [g_2]
      generalize T.getD j 0 = c at *
      first | (subst e9; simp; done) | (simp [e9]; done)
  refine dite (chAt T j = nI 43) (fun s1_43 => ?_) (fun s1_43 => ?_)
  · have e9 : T.getD j 0 = 43 := (chAt_eq h256 (by decide) (by decide)).mp s1_43
    refine m_look (off := 58) (tgt := 59) C dX2_noteFlag_1 (by decide) (by rw [s1_43]; decide) (by decide) ?_
    refine m_aload_n (pc' := 60) C dX2_noteFlag_59 rfl 0 rfl rfl ?_
    refine m_iconst (pc' := 61) (v := bI true) C dX2_noteFlag_60 (by decide) rfl ?_
    refine m_put (pc' := 64) (ty := .boolean) (fs' := [.int (bI fl), .int (bI true), .int (bI fb), .int (bI fm), .int (bI fz), .int (bI sw), .int (bI sp), .int (wd), .int (pr), .int (bt), .int (lt), .int (en)]) C dd hdd hd rfl inW_X2 tyX2 tyX2_ok nmX2 1 (by decide) (gW_of tm_1_156) rfl rfl (by decide +kernel) (nar_z _) (fit_z _) (by simp) rfl dX2_noteFlag_61 rfl (fun M3 g_3 F_3 => ?_)
    refine m_iconst (pc' := 65) (v := bI true) C dX2_noteFlag_64 (by decide) rfl ?_
    refine m_iret C hrt0 hlk0 (nar_z _) dX2_noteFlag_65 ?_
    refine ⟨?_, ?_, (F_3.sub (by simp))⟩
    · generalize T.getD j 0 = c at *
      first | (subst e9; rfl) | (unfold flC; simp [e9]; done)
    · rw [g_3]
      generalize T.getD j 0 = c at *
      first | (subst e9; simp; done) | (simp [e9]; done)
  refine dite (chAt T j = nI 45) (fun s1_45 => ?_) (fun s1_45 => ?_)
  · have e9 : T.getD j 0 = 45 := (chAt_eq h256 (by decide) (by decide)).mp s1_45
    refine m_look (off := 51) (tgt := 52) C dX2_noteFlag_1 (by decide) (by rw [s1_45]; decide) (by decide) ?_
    refine m_aload_n (pc' := 53) C dX2_noteFlag_52 rfl 0 rfl rfl ?_
    refine m_iconst (pc' := 54) (v := bI true) C dX2_noteFlag_53 (by decide) rfl ?_
    refine m_put (pc' := 57) (ty := .boolean) (fs' := [.int (bI true), .int (bI fp), .int (bI fb), .int (bI fm), .int (bI fz), .int (bI sw), .int (bI sp), .int (wd), .int (pr), .int (bt), .int (lt), .int (en)]) C dd hdd hd rfl inW_X2 tyX2 tyX2_ok nmX2 0 (by decide) (gW_of tm_1_154) rfl rfl (by decide +kernel) (nar_z _) (fit_z _) (by simp) rfl dX2_noteFlag_54 rfl (fun M4 g_4 F_4 => ?_)
    refine m_iconst (pc' := 58) (v := bI true) C dX2_noteFlag_57 (by decide) rfl ?_
    refine m_iret C hrt0 hlk0 (nar_z _) dX2_noteFlag_58 ?_
    refine ⟨?_, ?_, (F_4.sub (by simp))⟩
    · generalize T.getD j 0 = c at *
      first | (subst e9; rfl) | (unfold flC; simp [e9]; done)
    · rw [g_4]
      generalize T.getD j 0 = c at *
      first | (subst e9; simp; done) | (simp [e9]; done)
  refine dite (chAt T j = nI 48) (fun s1_48 => ?_) (fun s1_48 => ?_)
  · have e9 : T.getD j 0 = 48 := (chAt_eq h256 (by decide) (by decide)).mp s1_48
    refine m_look (off := 79) (tgt := 80) C dX2_noteFlag_1 (by decide) (by rw [s1_48]; decide) (by decide) ?_
    refine m_aload_n (pc' := 81) C dX2_noteFlag_80 rfl 0 rfl rfl ?_
    refine m_iconst (pc' := 82) (v := bI true) C dX2_noteFlag_81 (by decide) rfl ?_
    refine m_put (pc' := 85) (ty := .boolean) (fs' := [.int (bI fl), .int (bI fp), .int (bI fb), .int (bI fm), .int (bI true), .int (bI sw), .int (bI sp), .int (wd), .int (pr), .int (bt), .int (lt), .int (en)]) C dd hdd hd rfl inW_X2 tyX2 tyX2_ok nmX2 4 (by decide) (gW_of tm_1_162) rfl rfl (by decide +kernel) (nar_z _) (fit_z _) (by simp) rfl dX2_noteFlag_82 rfl (fun M5 g_5 F_5 => ?_)
    refine m_iconst (pc' := 86) (v := bI true) C dX2_noteFlag_85 (by decide) rfl ?_
    refine m_iret C hrt0 hlk0 (nar_z _) dX2_noteFlag_86 ?_
    refine ⟨?_, ?_, (F_5.sub (by simp))⟩
    · generalize T.getD j 0 = c at *
      first | (subst e9; rfl) | (unfold flC; simp [e9]; done)
    · rw [g_5]
      generalize T.getD j 0 = c at *
      first | (subst e9; simp; done) | (simp [e9]; done)
  have e9 : (T.getD j 0 == 45) = false ∧ (T.getD j 0 == 43) = false ∧ (T.getD j 0 == 32) = false ∧ (T.getD j 0 == 35) = false ∧ (T.getD j 0 == 48) = false := ⟨beq_eq_false_iff_ne.mpr (fun q => s1_45 ((chAt_eq h256 (by decide) (by decide)).mpr q)), beq_eq_false_iff_ne.mpr (fun q => s1_43 ((chAt_eq h256 (by decide) (by decide)).mpr q)), beq_eq_false_iff_ne.mpr (fun q => s1_32 ((chAt_eq h256 (by decide) (by decide)).mpr q)), beq_eq_false_iff_ne.mpr (fun q => s1_35 ((chAt_eq h256 (by decide) (by decide)).mpr q)), beq_eq_false_iff_ne.mpr (fun q => s1_48 ((chAt_eq h256 (by decide) (by decide)).mpr q))⟩
  refine m_look (off := 86) (tgt := 87) C dX2_noteFlag_1 (by decide) ((lv_osw s1_32 (by decide)).trans ((lv_osw s1_35 (by decide)).trans ((lv_osw s1_43 (by decide)).trans ((lv_osw s1_45 (by decide)).trans ((lv_osw s1_48 (by decide)).trans rfl))))) (by decide) ?_
  refine m_iconst (pc' := 88) (v := bI false) C dX2_noteFlag_87 (by decide) rfl ?_
  refine m_iret C hrt0 hlk0 (nar_z _) dX2_noteFlag_88 ?_
  refine ⟨?_, ?_, Fr.rf⟩
  · generalize T.getD j 0 = c at *
    first | (subst e9; rfl) | (unfold flC; simp [e9]; done)
  · rw [hd]
    generalize T.getD j 0 = c at *
    first | (subst e9; simp; done) | (simp [e9]; done)
set_option maxHeartbeats 4000000 in
set_option maxRecDepth 100000 in
theorem kX2_readFlags {l : Launch} {D : va_G} {cy : Nat → ClassId} {ad : Nat → Nat} {n : Nat} {A : Nat → Prop} (hI : mI ad n A) {M : Nat → va_E} {r ra : Nat} {T : List Nat} (ht : isRow cy ad n M r ra 80 80 T) (hT : T.length ≤ 80) {dd : Nat} {sw sp : Bool} {wd pr bt lt : Int32} {i : Nat} (hdd : dd < n) (hd : M dd = .inr (2, [.int (bI false), .int (bI false), .int (bI false), .int (bI false), .int (bI false), .int (bI sw), .int (bI sp), .int (wd), .int (pr), .int (bt), .int (lt), .int (nI i)])) (hdj : dd ≠ r ∧ dd ≠ ra) (hi : i ≤ 100) : mMv l yX2_readFlags (gW yX2_readFlags cX2_readFlags 2 none) { frames := 1, cells := 0, slots := 0, locals := 21 } D cy ad n A [.ref (ad dd), .ref (ad r)] M (fun M' => M' dd = .inr (2, [.int (bI (has 45 (flR (T.drop i)))), .int (bI (has 43 (flR (T.drop i)))), .int (bI (has 32 (flR (T.drop i)))), .int (bI (has 35 (flR (T.drop i)))), .int (bI (has 48 (flR (T.drop i)))), .int (bI sw), .int (bI sp), .int (wd), .int (pr), .int (bt), .int (lt), .int (nI (i + (flR (T.drop i)).length))]) ∧ Fr [dd] M M') := by
  have h256 : ∀ x ∈ T, x < 256 := ht.2.2.2.2.1
  refine m_entry (cc := cX2_readFlags) (maxL := 2) (ret := none) (own := RX2) (lv := [(0, .ref (ad dd)), (1, .ref (ad r))]) hI (by decide) rfl rfl (Nat.le_of_ble_eq_true rfl) rfl (fun pX eX sX mX aX bX tX cX C hrt0 hlk0 => ?_)
  refine m_lv [0, 1] rfl ?_
  refine m_loop (σ := Nat × List Nat × (Nat → va_E)) (fun a => a.2.2) (fun a => [(0, .ref (ad dd)), (1, .ref (ad r))]) (fun a => a.2.1.length = a.1 ∧ flR (T.drop i) = a.2.1 ++ flR (T.drop (i + a.1)) ∧ a.2.2 dd = .inr (2, [.int (bI (has 45 a.2.1)), .int (bI (has 43 a.2.1)), .int (bI (has 32 a.2.1)), .int (bI (has 35 a.2.1)), .int (bI (has 48 a.2.1)), .int (bI sw), .int (bI sp), .int (wd), .int (pr), .int (bt), .int (lt), .int (nI (i + a.1))]) ∧ Fr [dd] M a.2.2) (fun a => T.length - (i + a.1)) (0, [], M) (⟨rfl, rfl, hd, Fr.rf⟩) ?_
  rintro ⟨k, ps, Mk⟩ hinv ih
  dsimp only at hinv ih ⊢
  obtain ⟨i1, i2, i5, i6⟩ := hinv
  have hb9 : i + k ≤ 200 := by have h9 := flR_len (T.drop i); rw [i2, List.length_append, List.length_drop] at h9; omega
  refine m_aload_n (pc' := 1) C dX2_readFlags_0 rfl 0 rfl rfl ?_
  refine m_get (pc' := 4) C dd hdd i5 rfl inW_X2 11 (by decide) (gW_of tm_1_175) rfl rfl dX2_readFlags_1 rfl ?_
  refine m_aload_n (pc' := 5) C dX2_readFlags_4 rfl 1 rfl rfl ?_
  have Rr_1 := ht.fr i6 (by simp <;> omega) (by simp <;> omega)
  refine m_callVi (pc' := 8) (As := []) (rest := [.int (nI (i + k))]) C (kX9_size hI Rr_1) (cwV 0 C.1.2.2.2.2 (goodV tm_2_162 tm_2_95 tm_2_96 tm_1_3 tm_2_97) rfl rfl rfl (by decide +kernel) ⟨by decide, by decide⟩) Rr_1.1 Rr_1.ob rfl rfl rfl (Nat.le_of_ble_eq_true rfl) dX2_readFlags_5 rfl ⟨by decide, by decide⟩ (fun x_2 N_2 q_2 => ?_)
  obtain ⟨e_2, E_2⟩ := q_2
  replace E_2 := E_2.symm
  subst E_2
  replace e_2 : x_2 = nI T.length := e_2.trans (by rw [Nat.min_eq_left hT])
  replace e_2 := e_2.symm
  subst e_2
  refine m_icmp_ge (pc' := 11) (tgt := 39) C dX2_readFlags_8 (by decide) rfl (fun c_8 => ?_) (fun c_8 => ?_)
  · have hge : T.length ≤ i + k := by
      rcases Nat.lt_or_ge (i + k) T.length with q | q
      · exact absurd c_8 (nI_ge q (by omega))
      · exact q
    have hds : flR (T.drop i) = ps := by rw [i2, flR_e hge, List.append_nil]
    refine m_vret C hrt0 hlk0 dX2_readFlags_39 ?_
    rw [hds, i1]
    exact ⟨i5, (i6.sub (by simp))⟩
  · have hlt : i + k < T.length := by
      rcases Nat.lt_or_ge (i + k) T.length with q | q
      · exact q
      · exact absurd (nI_le q (by omega)) c_8
    refine m_aload_n (pc' := 12) C dX2_readFlags_11 rfl 0 rfl rfl ?_
    refine m_aload_n (pc' := 13) C dX2_readFlags_12 rfl 1 rfl rfl ?_
    refine m_aload_n (pc' := 14) C dX2_readFlags_13 rfl 0 rfl rfl ?_
    refine m_get (pc' := 17) C dd hdd i5 rfl inW_X2 11 (by decide) (gW_of tm_1_175) rfl rfl dX2_readFlags_14 rfl ?_
    refine m_callVi (pc' := 20) (As := [.int (nI (i + k))]) (rest := [.ref (ad dd)]) C (kX9_at hI Rr_1 (nI (i + k))) (cwV 1 C.1.2.2.2.2 (goodV tm_2_163 tm_2_128 tm_2_129 tm_1_3 tm_2_130) rfl rfl rfl (by decide +kernel) ⟨by decide, by decide⟩) Rr_1.1 Rr_1.ob rfl rfl rfl (Nat.le_of_ble_eq_true rfl) dX2_readFlags_17 rfl ⟨by decide, by decide⟩ (fun x_3 N_3 q_3 => ?_)
    obtain ⟨e_3, E_3⟩ := q_3
    replace E_3 := E_3.symm
    subst E_3
    replace e_3 : x_3 = chAt T (i + k) := e_3.trans (rowAt_full hT (by omega) (by omega))
    replace e_3 := e_3.symm
    subst e_3
    refine m_callVi (pc' := 23) (As := [.int (chAt T (i + k))]) (rest := []) C (kX2_noteFlag hI hdd i5 (j := i + k) h256) (cwV 1 C.1.2.2.2.2 (goodV tm_2_164 tm_2_166 tp_5 tm_1_9 tm_2_167) rfl rfl rfl (by decide +kernel) ⟨by decide, by decide⟩) hdd i5 rfl rfl rfl (Nat.le_of_ble_eq_true rfl) dX2_readFlags_20 rfl ⟨by decide, by decide⟩ (fun x_4 M4 q_4 => ?_)
    obtain ⟨e_4, g_4, F_4⟩ := q_4
    replace e_4 := e_4.symm
    subst e_4
    refine m_if_eq (pc' := 26) (tgt := 39) C dX2_readFlags_23 (by decide) rfl (fun c_23 => ?_) (fun c_23 => ?_)
    · have hfl := (bI_0 _).mp c_23
      have hds : flR (T.drop i) = ps := by rw [i2, flR_n hlt hfl, List.append_nil]
      have hz : (T.getD (i + k) 0 == 45) = false ∧ (T.getD (i + k) 0 == 43) = false ∧ (T.getD (i + k) 0 == 32) = false ∧ (T.getD (i + k) 0 == 35) = false ∧ (T.getD (i + k) 0 == 48) = false := by
        unfold flC at hfl
        simp only [Bool.or_eq_false_iff] at hfl
        exact ⟨hfl.1.1.1.1, hfl.1.1.1.2, hfl.1.1.2, hfl.1.2, hfl.2⟩
      refine m_vret C hrt0 hlk0 dX2_readFlags_39 ?_
      rw [hds, i1]
      refine ⟨?_, ((i6.sub (by simp)).tr (F_4.sub (by simp)))⟩
      rw [g_4, hz.1, hz.2.1, hz.2.2.1, hz.2.2.2.1, hz.2.2.2.2, Bool.or_false, Bool.or_false, Bool.or_false, Bool.or_false, Bool.or_false]
    · have hfl := ts_of c_23
      refine m_aload_n (pc' := 27) C dX2_readFlags_26 rfl 0 rfl rfl ?_
      refine m_dup (pc' := 28) C dX2_readFlags_27 rfl rfl ?_
      refine m_get (pc' := 31) C dd hdd g_4 rfl inW_X2 11 (by decide) (gW_of tm_1_175) rfl rfl dX2_readFlags_28 rfl ?_
      refine m_iconst (pc' := 32) (v := nI 1) C dX2_readFlags_31 (by decide) rfl ?_
      refine m_iadd (pc' := 33) (v := nI (i + (k + 1))) C dX2_readFlags_32 (by rw [← Nat.add_assoc]; exact nI_add _ _) rfl ?_
      refine m_put (pc' := 36) (ty := .int) (fs' := [.int (bI ((has 45 ps) || (T.getD (i + k) 0 == 45))), .int (bI ((has 43 ps) || (T.getD (i + k) 0 == 43))), .int (bI ((has 32 ps) || (T.getD (i + k) 0 == 32))), .int (bI ((has 35 ps) || (T.getD (i + k) 0 == 35))), .int (bI ((has 48 ps) || (T.getD (i + k) 0 == 48))), .int (bI sw), .int (bI sp), .int (wd), .int (pr), .int (bt), .int (lt), .int (nI (i + (k + 1)))]) C dd hdd g_4 rfl inW_X2 tyX2 tyX2_ok nmX2 11 (by decide) (gW_of tm_1_175) rfl rfl (by decide +kernel) rfl rfl (by simp) rfl dX2_readFlags_33 rfl (fun M5 g_5 F_5 => ?_)
      refine m_goto (tgt := 0) C dX2_readFlags_36 (by decide) ?_
      refine m_lv [0, 1] rfl ?_
      exact ih (k + 1, ps ++ [T.getD (i + k) 0], M5) (⟨by simp [i1], by rw [i2, flR_s hlt hfl, List.append_assoc]; rfl, by rw [has_s, has_s, has_s, has_s, has_s]; exact g_5, (((i6.sub (by simp)).tr (F_4.sub (by simp))).tr (F_5.sub (by simp)))⟩) (by simp only; omega)
