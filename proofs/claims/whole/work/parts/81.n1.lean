set_option maxHeartbeats 4000000 in
set_option maxRecDepth 100000 in
theorem kX9_init {l : Launch} {D : va_G} {cy : Nat → ClassId} {ad : Nat → Nat} {n : Nat} {A : Nat → Prop} (hI : mI ad n A) {M : Nat → va_E} {r cap : Nat} (hr : r < n) (hr0 : M r = .inr (9, [.null, .int (0), .int (0), .int (0)])) (hcap : cap ≤ 2000) : mCt l yX9_init (gW yX9_init cX9_init 2 none) { frames := 1, cells := 1, slots := cap, locals := 20 } D cy ad n (n + 1) A [.ref (ad r), .int (nI cap)] M 1 cap (fun ad' M' => isRow cy ad' (n + 1) M' r n cap cap [] ∧ Kp n [r] M M') := by
  have hEx0 : Ex (n) ad ad := Ex.rf
  have hKp0 : Kp (n) [r] M M := Kp.rf
  refine m_entryN (cc := cX9_init) (maxL := 2) (ret := none) (own := RX9) (lv := [(0, .ref (ad r)), (1, .int (nI cap))]) hI (by decide) rfl rfl rfl (Nat.le_of_ble_eq_true rfl) rfl (fun pX eX sX mX aX bX tX cX C hrt0 hlk0 hnm9 hao9 => ?_)
  refine m_aload_n (pc' := 1) C dX9_init_0 rfl 0 rfl rfl ?_
  refine m_objI (pc' := 4) C (gW_of tm_1_51) (gW_of tm_1_27) (gW_of tm_1_28) dX9_init_1 rfl (Nat.le_of_ble_eq_true rfl) (Nat.le_of_ble_eq_true rfl) (Nat.le_of_ble_eq_true rfl) ?_
  refine m_aload_n (pc' := 5) C dX9_init_4 rfl 0 rfl rfl ?_
  refine m_iload_n (pc' := 6) C dX9_init_5 rfl 1 rfl rfl ?_
  refine m_newa (pc' := 8) (atype := .int) (ty := .int) (N := cap) (a0 := (cap, .inl (fun _ => 0))) C 1 (fun ad => [(0, .ref (ad r)), (1, .int (nI cap))]) (fun ad => [.ref (ad r)]) (fun ad9 he9 => by refine ⟨?_, ?_⟩ <;> (first | rfl | simp only [he9 r (by omega)])) rfl (gW_of tm_1_45) rfl (fun _ => by simp) (fun _ => rfl) (by rw [Int32.not_lt]; exact nI_pos' (by omega)) (nI_clamp (by omega)) (by show cap * 4 ≤ _; omega) (by show _ ≤ _; simp) (by show _ ≤ _; simp) dX9_init_6 rfl (fun ad M1 he_1 g_1 hm_1 C => ?_)
  have hI := C.2.2.1
  have fr_2 : M1 r = .inr (9, [.null, .int (0), .int (0), .int (0)]) := (hm_1 r (by omega)).trans hr0
  have kp_3 := hKp0.nw hm_1 (by omega)
  have ex_4 := hEx0.tr he_1 (by omega)
  refine m_putF (pc' := 11) (ty := (.array .int)) (fs' := [.ref (ad n), .int (0), .int (0), .int (0)]) C r (by omega) fr_2 rfl inW_X9 tyX9 tyX9_ok nmX9 0 (by decide) (gW_of tm_1_52) rfl rfl hnm9 rfl (by decide +kernel) rfl rfl (by simp) rfl dX9_init_8 rfl (fun M5 g_5 F_5 => ?_)
  refine m_aload_n (pc' := 12) C dX9_init_11 rfl 0 rfl rfl ?_
  refine m_iload_n (pc' := 13) C dX9_init_12 rfl 1 rfl rfl ?_
  refine m_put (pc' := 16) (ty := .int) (fs' := [.ref (ad n), .int (nI cap), .int (0), .int (0)]) C r (by omega) g_5 rfl inW_X9 tyX9 tyX9_ok nmX9 1 (by decide) (gW_of tm_1_53) rfl rfl (by decide +kernel) rfl rfl (by simp) rfl dX9_init_13 rfl (fun M6 g_6 F_6 => ?_)
  refine m_aload_n (pc' := 17) C dX9_init_16 rfl 0 rfl rfl ?_
  refine m_iconst (pc' := 18) (v := nI 0) C dX9_init_17 (by decide) rfl ?_
  refine m_put (pc' := 21) (ty := .int) (fs' := [.ref (ad n), .int (nI cap), .int (nI 0), .int (0)]) C r (by omega) g_6 rfl inW_X9 tyX9 tyX9_ok nmX9 2 (by decide) (gW_of tm_1_54) rfl rfl (by decide +kernel) rfl rfl (by simp) rfl dX9_init_18 rfl (fun M7 g_7 F_7 => ?_)
  refine m_aload_n (pc' := 22) C dX9_init_21 rfl 0 rfl rfl ?_
  refine m_iconst (pc' := 23) (v := bI false) C dX9_init_22 (by decide) rfl ?_
  refine m_put (pc' := 26) (ty := .boolean) (fs' := [.ref (ad n), .int (nI cap), .int (nI 0), .int (bI false)]) C r (by omega) g_7 rfl inW_X9 tyX9 tyX9_ok nmX9 3 (by decide) (gW_of tm_1_55) rfl rfl (by decide +kernel) (nar_z _) (fit_z _) (by simp) rfl dX9_init_23 rfl (fun M8 g_8 F_8 => ?_)
  have fn_9 : M5 n = .inl (cy 1, cap, .inl (fun _ => 0)) := (F_5 n (by simp <;> omega)).trans g_1
  have fn_10 : M6 n = .inl (cy 1, cap, .inl (fun _ => 0)) := (F_6 n (by simp <;> omega)).trans fn_9
  have fn_11 : M7 n = .inl (cy 1, cap, .inl (fun _ => 0)) := (F_7 n (by simp <;> omega)).trans fn_10
  have fn_12 : M8 n = .inl (cy 1, cap, .inl (fun _ => 0)) := (F_8 n (by simp <;> omega)).trans fn_11
  have kp_13 := kp_3.fr F_5 (by simp <;> omega)
  have kp_14 := kp_13.fr F_6 (by simp <;> omega)
  have kp_15 := kp_14.fr F_7 (by simp <;> omega)
  have kp_16 := kp_15.fr F_8 (by simp <;> omega)
  exact m_vretN C hrt0 hlk0 dX9_init_26 ex_4 (by rfl) (by first | rfl | omega) (fun _ _ => rfl) ⟨isRow.mk0 (by omega) (by omega) hcap g_8 fn_12, kp_16⟩
set_option maxHeartbeats 4000000 in
set_option maxRecDepth 100000 in
theorem kX4_init {l : Launch} {D : va_G} {cy : Nat → ClassId} {ad : Nat → Nat} {n : Nat} {A : Nat → Prop} (hI : mI ad n A) {M : Nat → va_E} {fo : Nat} (hr : fo < n) (hr0 : M fo = .inr (4, [.null, .int (0), .int (0)])) : mCt l yX4_init (gW yX4_init cX4_init 1 none) { frames := 1, cells := 1, slots := 22, locals := 20 } D cy ad n (n + 1) A [.ref (ad fo)] M 1 22 (fun ad' M' => isFig cy ad' (n + 1) M' fo n [] false ∧ Kp n [fo] M M') := by
  have hEx0 : Ex (n) ad ad := Ex.rf
  have hKp0 : Kp (n) [fo] M M := Kp.rf
  refine m_entryN (cc := cX4_init) (maxL := 1) (ret := none) (own := RX4) (lv := [(0, .ref (ad fo))]) hI (by decide) rfl rfl rfl (Nat.le_of_ble_eq_true rfl) rfl (fun pX eX sX mX aX bX tX cX C hrt0 hlk0 hnm9 hao9 => ?_)
  refine m_aload_n (pc' := 1) C dX4_init_0 rfl 0 rfl rfl ?_
  refine m_objI (pc' := 4) C (gW_of tm_1_34) (gW_of tm_1_27) (gW_of tm_1_28) dX4_init_1 rfl (Nat.le_of_ble_eq_true rfl) (Nat.le_of_ble_eq_true rfl) (Nat.le_of_ble_eq_true rfl) ?_
  refine m_aload_n (pc' := 5) C dX4_init_4 rfl 0 rfl rfl ?_
  refine m_bipush (pc' := 7) (v := nI 22) C dX4_init_5 (by decide) rfl ?_
  refine m_newa (pc' := 9) (atype := .int) (ty := .int) (N := 22) (a0 := (22, .inl (fun _ => 0))) C 1 (fun ad => [(0, .ref (ad fo))]) (fun ad => [.ref (ad fo)]) (fun ad9 he9 => by refine ⟨?_, ?_⟩ <;> (first | rfl | simp only [he9 fo (by omega)])) rfl (gW_of tm_1_45) rfl (fun _ => by simp) (fun _ => rfl) (by decide) (by decide) (by decide) (by show _ ≤ _; simp) (by show _ ≤ _; simp) dX4_init_7 rfl (fun ad M1 he_1 g_1 hm_1 C => ?_)
  have hI := C.2.2.1
  have ffo_2 : M1 fo = .inr (4, [.null, .int (0), .int (0)]) := (hm_1 fo (by omega)).trans hr0
  have kp_3 := hKp0.nw hm_1 (by omega)
  have ex_4 := hEx0.tr he_1 (by omega)
  refine m_putF (pc' := 12) (ty := (.array .int)) (fs' := [.ref (ad n), .int (0), .int (0)]) C fo (by omega) ffo_2 rfl inW_X4 tyX4 tyX4_ok nmX4 0 (by decide) (gW_of tm_1_35) rfl rfl hnm9 rfl (by decide +kernel) rfl rfl (by simp) rfl dX4_init_9 rfl (fun M5 g_5 F_5 => ?_)
  refine m_aload_n (pc' := 13) C dX4_init_12 rfl 0 rfl rfl ?_
  refine m_iconst (pc' := 14) (v := nI 0) C dX4_init_13 (by decide) rfl ?_
  refine m_put (pc' := 17) (ty := .int) (fs' := [.ref (ad n), .int (nI 0), .int (0)]) C fo (by omega) g_5 rfl inW_X4 tyX4 tyX4_ok nmX4 1 (by decide) (gW_of tm_1_36) rfl rfl (by decide +kernel) rfl rfl (by simp) rfl dX4_init_14 rfl (fun M6 g_6 F_6 => ?_)
  refine m_aload_n (pc' := 18) C dX4_init_17 rfl 0 rfl rfl ?_
  refine m_iconst (pc' := 19) (v := bI false) C dX4_init_18 (by decide) rfl ?_
  refine m_put (pc' := 22) (ty := .boolean) (fs' := [.ref (ad n), .int (nI 0), .int (bI false)]) C fo (by omega) g_6 rfl inW_X4 tyX4 tyX4_ok nmX4 2 (by decide) (gW_of tm_1_37) rfl rfl (by decide +kernel) (nar_z _) (fit_z _) (by simp) rfl dX4_init_19 rfl (fun M7 g_7 F_7 => ?_)
  have fn_8 : M5 n = .inl (cy 1, 22, .inl (fun _ => 0)) := (F_5 n (by simp <;> omega)).trans g_1
  have fn_9 : M6 n = .inl (cy 1, 22, .inl (fun _ => 0)) := (F_6 n (by simp <;> omega)).trans fn_8
  have fn_10 : M7 n = .inl (cy 1, 22, .inl (fun _ => 0)) := (F_7 n (by simp <;> omega)).trans fn_9
  have kp_11 := kp_3.fr F_5 (by simp <;> omega)
  have kp_12 := kp_11.fr F_6 (by simp <;> omega)
  have kp_13 := kp_12.fr F_7 (by simp <;> omega)
  exact m_vretN C hrt0 hlk0 dX4_init_22 ex_4 (by rfl) (by first | rfl | omega) (fun _ _ => rfl) ⟨⟨by omega, by omega, by decide, (fun x hx => by cases hx), fun _ => 0, g_7, fn_10, (fun i hi => by cases hi)⟩, kp_13⟩
set_option maxHeartbeats 4000000 in
set_option maxRecDepth 100000 in
theorem kX5_init {l : Launch} {D : va_G} {cy : Nat → ClassId} {ad : Nat → Nat} {n : Nat} {A : Nat → Prop} (hI : mI ad n A) {M : Nat → va_E} {o : Nat} (hr : o < n) (hr0 : M o = .inr (5, [.long (0), .int (0)])) : mCt l yX5_init (gW yX5_init cX5_init 1 none) { frames := 1, cells := 0, slots := 0, locals := 20 } D cy ad n n A [.ref (ad o)] M 0 0 (fun ad' M' => M' o = .inr (5, [.long (0), .int (bI false)]) ∧ Kp n [o] M M') := by
  have hEx0 : Ex (n) ad ad := Ex.rf
  have hKp0 : Kp (n) [o] M M := Kp.rf
  refine m_entryN (cc := cX5_init) (maxL := 1) (ret := none) (own := RX5) (lv := [(0, .ref (ad o))]) hI (by decide) rfl rfl rfl (Nat.le_of_ble_eq_true rfl) rfl (fun pX eX sX mX aX bX tX cX C hrt0 hlk0 hnm9 hao9 => ?_)
  refine m_aload_n (pc' := 1) C dX5_init_0 rfl 0 rfl rfl ?_
  refine m_objI (pc' := 4) C (gW_of tm_1_101) (gW_of tm_1_27) (gW_of tm_1_28) dX5_init_1 rfl (Nat.le_of_ble_eq_true rfl) (Nat.le_of_ble_eq_true rfl) (Nat.le_of_ble_eq_true rfl) ?_
  refine m_aload_n (pc' := 5) C dX5_init_4 rfl 0 rfl rfl ?_
  refine m_lconst (pc' := 6) (v := 0) C dX5_init_5 (by decide) rfl ?_
  refine m_put (pc' := 9) (ty := .long) (fs' := [.long (0), .int (0)]) C o (by omega) hr0 rfl inW_X5 tyX5 tyX5_ok nmX5 0 (by decide) (gW_of tm_1_102) rfl rfl (by decide +kernel) rfl rfl (by simp) rfl dX5_init_6 rfl (fun M1 g_1 F_1 => ?_)
  refine m_aload_n (pc' := 10) C dX5_init_9 rfl 0 rfl rfl ?_
  refine m_iconst (pc' := 11) (v := bI false) C dX5_init_10 (by decide) rfl ?_
  refine m_put (pc' := 14) (ty := .boolean) (fs' := [.long (0), .int (bI false)]) C o (by omega) g_1 rfl inW_X5 tyX5 tyX5_ok nmX5 1 (by decide) (gW_of tm_1_103) rfl rfl (by decide +kernel) (nar_z _) (fit_z _) (by simp) rfl dX5_init_11 rfl (fun M2 g_2 F_2 => ?_)
  have kp_3 := hKp0.fr F_1 (by simp <;> omega)
  have kp_4 := kp_3.fr F_2 (by simp <;> omega)
  exact m_vretN C hrt0 hlk0 dX5_init_14 hEx0 (by rfl) (by first | rfl | omega) (fun _ _ => rfl) ⟨g_2, kp_4⟩
set_option maxHeartbeats 4000000 in
set_option maxRecDepth 100000 in
theorem kX3_init {l : Launch} {D : va_G} {cy : Nat → ClassId} {ad : Nat → Nat} {n : Nat} {A : Nat → Prop} (hI : mI ad n A) {M : Nat → va_E} {o : Nat} (hr : o < n) (hr0 : M o = .inr (3, [.int (0), .int (0)])) : mCt l yX3_init (gW yX3_init cX3_init 1 none) { frames := 1, cells := 0, slots := 0, locals := 20 } D cy ad n n A [.ref (ad o)] M 0 0 (fun ad' M' => M' o = .inr (3, [.int (nI 0), .int (nI 0)]) ∧ Kp n [o] M M') := by
  have hEx0 : Ex (n) ad ad := Ex.rf
  have hKp0 : Kp (n) [o] M M := Kp.rf
  refine m_entryN (cc := cX3_init) (maxL := 1) (ret := none) (own := RX3) (lv := [(0, .ref (ad o))]) hI (by decide) rfl rfl rfl (Nat.le_of_ble_eq_true rfl) rfl (fun pX eX sX mX aX bX tX cX C hrt0 hlk0 hnm9 hao9 => ?_)
  refine m_aload_n (pc' := 1) C dX3_init_0 rfl 0 rfl rfl ?_
  refine m_objI (pc' := 4) C (gW_of tm_1_136) (gW_of tm_1_27) (gW_of tm_1_28) dX3_init_1 rfl (Nat.le_of_ble_eq_true rfl) (Nat.le_of_ble_eq_true rfl) (Nat.le_of_ble_eq_true rfl) ?_
  refine m_aload_n (pc' := 5) C dX3_init_4 rfl 0 rfl rfl ?_
  refine m_iconst (pc' := 6) (v := nI 0) C dX3_init_5 (by decide) rfl ?_
  refine m_put (pc' := 9) (ty := .int) (fs' := [.int (nI 0), .int (0)]) C o (by omega) hr0 rfl inW_X3 tyX3 tyX3_ok nmX3 0 (by decide) (gW_of tm_1_137) rfl rfl (by decide +kernel) rfl rfl (by simp) rfl dX3_init_6 rfl (fun M1 g_1 F_1 => ?_)
  refine m_aload_n (pc' := 10) C dX3_init_9 rfl 0 rfl rfl ?_
  refine m_iconst (pc' := 11) (v := nI 0) C dX3_init_10 (by decide) rfl ?_
  refine m_put (pc' := 14) (ty := .int) (fs' := [.int (nI 0), .int (nI 0)]) C o (by omega) g_1 rfl inW_X3 tyX3 tyX3_ok nmX3 1 (by decide) (gW_of tm_1_138) rfl rfl (by decide +kernel) rfl rfl (by simp) rfl dX3_init_11 rfl (fun M2 g_2 F_2 => ?_)
  have kp_3 := hKp0.fr F_1 (by simp <;> omega)
  have kp_4 := kp_3.fr F_2 (by simp <;> omega)
  exact m_vretN C hrt0 hlk0 dX3_init_14 hEx0 (by rfl) (by first | rfl | omega) (fun _ _ => rfl) ⟨g_2, kp_4⟩
set_option maxHeartbeats 4000000 in
set_option maxRecDepth 100000 in
theorem kX2_init {l : Launch} {D : va_G} {cy : Nat → ClassId} {ad : Nat → Nat} {n : Nat} {A : Nat → Prop} (hI : mI ad n A) {M : Nat → va_E} {o : Nat} (hr : o < n) (hr0 : M o = .inr (2, [.int (0), .int (0), .int (0), .int (0), .int (0), .int (0), .int (0), .int (0), .int (0), .int (0), .int (0), .int (0)])) : mCt l yX2_init (gW yX2_init cX2_init 1 none) { frames := 1, cells := 0, slots := 0, locals := 20 } D cy ad n n A [.ref (ad o)] M 0 0 (fun ad' M' => M' o = .inr (2, [.int (bI false), .int (bI false), .int (bI false), .int (bI false), .int (bI false), .int (bI false), .int (bI false), .int (nI 0), .int ((-1)), .int (nI 32), .int ((-1)), .int (nI 0)]) ∧ Kp n [o] M M') := by
  have hEx0 : Ex (n) ad ad := Ex.rf
  have hKp0 : Kp (n) [o] M M := Kp.rf
  refine m_entryN (cc := cX2_init) (maxL := 1) (ret := none) (own := RX2) (lv := [(0, .ref (ad o))]) hI (by decide) rfl rfl rfl (Nat.le_of_ble_eq_true rfl) rfl (fun pX eX sX mX aX bX tX cX C hrt0 hlk0 hnm9 hao9 => ?_)
  refine m_aload_n (pc' := 1) C dX2_init_0 rfl 0 rfl rfl ?_
  refine m_objI (pc' := 4) C (gW_of tm_1_149) (gW_of tm_1_27) (gW_of tm_1_28) dX2_init_1 rfl (Nat.le_of_ble_eq_true rfl) (Nat.le_of_ble_eq_true rfl) (Nat.le_of_ble_eq_true rfl) ?_
  refine m_aload_n (pc' := 5) C dX2_init_4 rfl 0 rfl rfl ?_
  refine m_callVv (pc' := 8) (As := []) (rest := []) C (kX2_forget hI (fl := false) (fp := false) (fb := false) (fm := false) (fz := false) (sw := false) (sp := false) (by omega) hr0) (cwV 0 C.1.2.2.2.2 (goodV tm_1_150 tm_1_152 tp_0 tm_1_9 tm_1_153) rfl rfl rfl (by decide +kernel) ⟨by decide, by decide⟩) (by omega) hr0 rfl rfl rfl (Nat.le_of_ble_eq_true rfl) dX2_init_5 rfl ⟨by decide, by decide⟩ (fun M1 q_1 => ?_)
  obtain ⟨g_1, F_1⟩ := q_1
  have kp_2 := hKp0.fr F_1 (by simp <;> omega)
  exact m_vretN C hrt0 hlk0 dX2_init_8 hEx0 (by rfl) (by first | rfl | omega) (fun _ _ => rfl) ⟨g_1, kp_2⟩
set_option maxHeartbeats 4000000 in
set_option maxRecDepth 100000 in
theorem kX0_init {l : Launch} {D : va_G} {cy : Nat → ClassId} {ad : Nat → Nat} {o : Nat} {A : Nat → Prop} (hI : mI ad (o + 1) A) {M : Nat → va_E} (hr0 : M o = .inr (0, [.null, .int (0), .long (0)])) : mCt l yX0_init (gW yX0_init cX0_init 1 none) { frames := 2, cells := 2, slots := 84, locals := 41 } D cy ad (o + 1) (o + 3) A [.ref (ad o)] M 2 84 (fun ad' M' => isArg cy ad' (o + 3) M' o (.inl 0) ∧ Kp (o + 1) [o] M M') := by
  have hEx0 : Ex (o + 1) ad ad := Ex.rf
  have hKp0 : Kp (o + 1) [o] M M := Kp.rf
  refine m_entryN (cc := cX0_init) (maxL := 1) (ret := none) (own := RX0) (lv := [(0, .ref (ad o))]) hI (by decide) rfl rfl rfl (Nat.le_of_ble_eq_true rfl) rfl (fun pX eX sX mX aX bX tX cX C hrt0 hlk0 hnm9 hao9 => ?_)
  refine m_aload_n (pc' := 1) C dX0_init_0 rfl 0 rfl rfl ?_
  refine m_objI (pc' := 4) C (gW_of tm_1_77) (gW_of tm_1_27) (gW_of tm_1_28) dX0_init_1 rfl (Nat.le_of_ble_eq_true rfl) (Nat.le_of_ble_eq_true rfl) (Nat.le_of_ble_eq_true rfl) ?_
  refine m_aload_n (pc' := 5) C dX0_init_4 rfl 0 rfl rfl ?_
  refine m_new (pc' := 8) (fs := [.null, .int (0), .int (0), .int (0)]) (ci := 9) C (fun ad => [(0, .ref (ad o))]) (fun ad => [.ref (ad o)]) (fun ad9 he9 => by refine ⟨?_, ?_⟩ <;> (first | rfl | simp only [he9 o (by omega)])) inW_X9 tyX9 tyX9_ok (gW_of tm_1_78) (gW_of tm_1_47) (gW_of tm_1_3) rfl (by decide +kernel) (by show _ ≤ _; simp) (by show _ ≤ _; simp) dX0_init_5 rfl (fun ad M1 he_1 g_1 hm_1 C => ?_)
  have hI := C.2.2.1
  have fo_2 : M1 o = .inr (0, [.null, .int (0), .long (0)]) := (hm_1 o (by omega)).trans hr0
  have kp_3 := hKp0.nw hm_1 (by omega)
  have ex_4 := hEx0.tr he_1 (by omega)
  refine m_dup (pc' := 9) C dX0_init_8 rfl rfl ?_
  refine m_bipush (pc' := 11) (v := nI 80) C dX0_init_9 (by decide) rfl ?_
  refine m_callI (pc' := 14) (As := [.int (nI 80)]) (b := o + 1) C hao9 (kX9_init hI (r := o + 1) (cap := 80) (by omega) g_1 (by decide)) (fun ad => [(0, .ref (ad o))]) (fun ad => [.ref (ad (o + 1)), .ref (ad o)]) (fun ad9 he9 => by refine ⟨?_, ?_⟩ <;> (first | rfl | simp only [he9 o (by omega), he9 (o + 1) (by omega)])) (cwI 1 C.1.2.2.2.2 (goodN tm_1_50) rfl rfl rfl (C.1.2.2.2.2 _ (gW_of tm_1_3)) (C.1.2.2.2.2 _ (gW_of tm_1_79)) (C.1.2.2.2.2 _ (gW_of tm_1_49)) rfl (by decide +kernel) ⟨by decide, by decide⟩) rfl rfl (Nat.le_of_ble_eq_true rfl) dX0_init_11 rfl ⟨by show _ ≤ _; simp, by show _ ≤ _; simp⟩ (fun ad M5 he_5 q_5 C => ?_)
  obtain ⟨rw_5, kq_5⟩ := q_5
  have hI := C.2.2.1
  have fo_6 : M5 o = .inr (0, [.null, .int (0), .long (0)]) := (kq_5 o (by omega) (by simp <;> omega)).trans fo_2
  have kp_7 := kp_3.kp kq_5 (by omega) (by simp <;> omega)
  have ex_8 := ex_4.tr he_5 (by omega)
  refine m_putF (pc' := 17) (ty := (.object "FormatDump$Row")) (fs' := [.ref (ad (o + 1)), .int (0), .long (0)]) C o (by omega) fo_6 rfl inW_X0 tyX0 tyX0_ok nmX0 0 (by decide) (gW_of tm_1_80) rfl rfl hnm9 rfl (by decide +kernel) rfl rfl (by simp) rfl dX0_init_14 rfl (fun M9 g_9 F_9 => ?_)
  refine m_aload_n (pc' := 18) C dX0_init_17 rfl 0 rfl rfl ?_
  refine m_iconst (pc' := 19) (v := bI false) C dX0_init_18 (by decide) rfl ?_
  refine m_put (pc' := 22) (ty := .boolean) (fs' := [.ref (ad (o + 1)), .int (bI false), .long (0)]) C o (by omega) g_9 rfl inW_X0 tyX0 tyX0_ok nmX0 1 (by decide) (gW_of tm_1_83) rfl rfl (by decide +kernel) (nar_z _) (fit_z _) (by simp) rfl dX0_init_19 rfl (fun M10 g_10 F_10 => ?_)
  refine m_aload_n (pc' := 23) C dX0_init_22 rfl 0 rfl rfl ?_
  refine m_lconst (pc' := 24) (v := 0) C dX0_init_23 (by decide) rfl ?_
  refine m_put (pc' := 27) (ty := .long) (fs' := [.ref (ad (o + 1)), .int (bI false), .long (0)]) C o (by omega) g_10 rfl inW_X0 tyX0 tyX0_ok nmX0 2 (by decide) (gW_of tm_1_86) rfl rfl (by decide +kernel) rfl rfl (by simp) rfl dX0_init_24 rfl (fun M11 g_11 F_11 => ?_)
  have xro1_12 := rw_5.fr F_9 (by simp <;> omega) (by simp <;> omega)
  have kp_13 := kp_7.fr F_9 (by simp <;> omega)
  have xro1_14 := xro1_12.fr F_10 (by simp <;> omega) (by simp <;> omega)
  have kp_15 := kp_13.fr F_10 (by simp <;> omega)
  have xro1_16 := xro1_14.fr F_11 (by simp <;> omega) (by simp <;> omega)
  have kp_17 := kp_15.fr F_11 (by simp <;> omega)
  exact m_vretN C hrt0 hlk0 dX0_init_27 ex_8 (by rfl) (by first | rfl | omega) (fun _ _ => rfl) ⟨⟨by omega, false, 0, [], g_11, xro1_16, by decide, rfl, rfl⟩, kp_17⟩
set_option maxHeartbeats 4000000 in
set_option maxRecDepth 100000 in
theorem kX1_init {l : Launch} {D : va_G} {cy : Nat → ClassId} {ad : Nat → Nat}  {A : Nat → Prop} (hI : mI ad 10 A) {M : Nat → va_E} (hr0 : M 9 = .inr (1, [.null, .null, .int (0), .int (0), .int (0)])) : mCt l yX1_init (gW yX1_init cX1_init 2 none) { frames := 3, cells := 26, slots := 706, locals := 61 } D cy ad 10 36 A [.ref (ad 9)] M 26 706 (fun ad' M' => isArgs cy ad' 36 M' (fun _ => .inl 0) 0 0 0 ∧ Kp 10 [9] M M') := by
  have hEx0 : Ex (10) ad ad := Ex.rf
  have hKp0 : Kp (10) [9] M M := Kp.rf
  refine m_entryN (cc := cX1_init) (maxL := 2) (ret := none) (own := RX1) (lv := [(0, .ref (ad 9))]) hI (by decide) rfl rfl rfl (Nat.le_of_ble_eq_true rfl) rfl (fun pX eX sX mX aX bX tX cX C hrt0 hlk0 hnm9 hao9 => ?_)
  refine m_aload_n (pc' := 1) C dX1_init_0 rfl 0 rfl rfl ?_
  refine m_objI (pc' := 4) C (gW_of tm_1_70) (gW_of tm_1_27) (gW_of tm_1_28) dX1_init_1 rfl (Nat.le_of_ble_eq_true rfl) (Nat.le_of_ble_eq_true rfl) (Nat.le_of_ble_eq_true rfl) ?_
  refine m_aload_n (pc' := 5) C dX1_init_4 rfl 0 rfl rfl ?_
  refine m_bipush (pc' := 7) (v := nI 8) C dX1_init_5 (by decide) rfl ?_
  refine m_newq (pc' := 10) (N := 8) C hao9 (fun ad => [(0, .ref (ad 9))]) (fun ad => [.ref (ad 9)]) (fun ad9 he9 => by refine ⟨?_, ?_⟩ <;> (first | rfl | simp only [he9 9 (by omega)])) (gW_of tm_1_71) (by decide) (by decide) (by decide) (by show _ ≤ _; simp) (by show _ ≤ _; simp) dX1_init_7 rfl (fun ad M1 he_1 g_1 hm_1 C => ?_)
  have hI := C.2.2.1
  have f9_2 : M1 9 = .inr (1, [.null, .null, .int (0), .int (0), .int (0)]) := (hm_1 9 (by omega)).trans hr0
  have kp_3 := hKp0.nw hm_1 (by omega)
  have ex_4 := hEx0.tr he_1 (by omega)
  refine m_putF (pc' := 13) (ty := (.array (.object "FormatDump$Argument"))) (fs' := [.ref (ad 10), .null, .int (0), .int (0), .int (0)]) C 9 (by omega) f9_2 rfl inW_X1 tyX1 tyX1_ok nmX1 0 (by decide) (gW_of tm_1_109) rfl rfl hnm9 rfl (by decide +kernel) rfl rfl (by simp) rfl dX1_init_10 rfl (fun M5 g_5 F_5 => ?_)
  refine m_iconst (pc' := 14) (v := nI 0) C dX1_init_13 (by decide) rfl ?_
  refine m_istore_n (pc' := 15) (lv' := [(1, .int (nI 0)), (0, .ref (ad 9))]) C dX1_init_14 rfl (by decide) rfl rfl ?_
  refine m_iload_n (pc' := 16) C dX1_init_15 rfl 0 rfl rfl ?_
  refine m_bipush (pc' := 18) (v := nI 8) C dX1_init_16 (by decide) rfl ?_
  refine m_icmp_ge (pc' := 21) (tgt := 40) C dX1_init_18 (by decide) rfl (fun c9 => ?_) (fun c9 => ?_)
  · exact absurd c9 (by decide)
  refine m_aload_n (pc' := 22) C dX1_init_21 rfl 1 rfl rfl ?_
  refine m_get (pc' := 25) C 9 (by omega) g_5 rfl inW_X1 0 (by decide) (gW_of tm_1_109) rfl rfl dX1_init_22 rfl ?_
  refine m_iload_n (pc' := 26) C dX1_init_25 rfl 0 rfl rfl ?_
  have f10_6 : M5 10 = .inl (cy 4, 8, .inr (.inr (.inr (.inr (fun _ => none))))) := (F_5 10 (by simp <;> omega)).trans g_1
  have kp_7 := kp_3.fr F_5 (by simp <;> omega)
  refine m_new (pc' := 29) (fs := [.null, .int (0), .long (0)]) (ci := 0) C (fun ad => [(1, .int (nI 0)), (0, .ref (ad 9))]) (fun ad => [.int (nI 0), .ref (ad 10)]) (fun ad9 he9 => by refine ⟨?_, ?_⟩ <;> (first | rfl | simp only [he9 10 (by omega), he9 9 (by omega)])) inW_X0 tyX0 tyX0_ok (gW_of tm_1_71) (gW_of tm_1_73) (gW_of tm_1_5) rfl (by decide +kernel) (by show _ ≤ _; simp) (by show _ ≤ _; simp) dX1_init_26 rfl (fun ad M8 he_8 g_8 hm_8 C => ?_)
  have hI := C.2.2.1
  have f9_9 : M8 9 = .inr (1, [.ref (ad 10), .null, .int (0), .int (0), .int (0)]) := ((hm_8 9 (by omega)).trans g_5).trans (by rw [he_8 10 (by omega)])
  have f10_10 : M8 10 = .inl (cy 4, 8, .inr (.inr (.inr (.inr (fun _ => none))))) := (hm_8 10 (by omega)).trans f10_6
  have kp_11 := kp_7.nw hm_8 (by omega)
  have ex_12 := ex_4.tr he_8 (by omega)
  refine m_dup (pc' := 30) C dX1_init_29 rfl rfl ?_
  refine m_callI (pc' := 33) (As := []) (b := 11) C hao9 (kX0_init hI (o := 11) g_8) (fun ad => [(1, .int (nI 0)), (0, .ref (ad 9))]) (fun ad => [.ref (ad 11), .int (nI 0), .ref (ad 10)]) (fun ad9 he9 => by refine ⟨?_, ?_⟩ <;> (first | rfl | simp only [he9 10 (by omega), he9 11 (by omega), he9 9 (by omega)])) (cwI 0 C.1.2.2.2.2 (goodN tm_1_76) rfl rfl rfl (C.1.2.2.2.2 _ (gW_of tm_1_5)) (C.1.2.2.2.2 _ (gW_of tm_1_74)) (C.1.2.2.2.2 _ (gW_of tm_1_75)) rfl (by decide +kernel) ⟨by decide, by decide⟩) rfl rfl (Nat.le_of_ble_eq_true rfl) dX1_init_30 rfl ⟨by show _ ≤ _; simp, by show _ ≤ _; simp⟩ (fun ad M13 he_13 q_13 C => ?_)
  obtain ⟨ag_13, kq_13⟩ := q_13
  have hI := C.2.2.1
  have f9_14 : M13 9 = .inr (1, [.ref (ad 10), .null, .int (0), .int (0), .int (0)]) := ((kq_13 9 (by omega) (by simp <;> omega)).trans f9_9).trans (by rw [he_13 10 (by omega)])
  have f10_15 : M13 10 = .inl (cy 4, 8, .inr (.inr (.inr (.inr (fun _ => none))))) := (kq_13 10 (by omega) (by simp <;> omega)).trans f10_10
  have kp_16 := kp_11.kp kq_13 (by omega) (by simp <;> omega)
  have ex_17 := ex_12.tr he_13 (by omega)
  obtain ⟨fs_19, hfs_19⟩ := ag_13.obj
  refine m_aast (pc' := 34) (E' := .inl (cy 4, 8, .inr (.inr (.inr (.inr (va_up (fun _ => none) 0 (some (ad 11)))))))) C 10 11 (by omega) (by omega) f10_15 hfs_19 (vp_in_nI (by decide) (by decide)) (by rfl) dX1_init_33 rfl (fun M18 g_18 F_18 => ?_)
  refine m_iinc (pc' := 37) (v := nI 1) (lv' := [(1, .int (nI 1)), (0, .ref (ad 9))]) C dX1_init_34 (k := 0) rfl (by decide) (by decide) rfl rfl ?_
  refine m_goto (tgt := 15) C dX1_init_37 (by decide) ?_
  refine m_iload_n (pc' := 16) C dX1_init_15 rfl 0 rfl rfl ?_
  refine m_bipush (pc' := 18) (v := nI 8) C dX1_init_16 (by decide) rfl ?_
  refine m_icmp_ge (pc' := 21) (tgt := 40) C dX1_init_18 (by decide) rfl (fun c9 => ?_) (fun c9 => ?_)
  · exact absurd c9 (by decide)
  refine m_aload_n (pc' := 22) C dX1_init_21 rfl 1 rfl rfl ?_
  have f9_20 : M18 9 = .inr (1, [.ref (ad 10), .null, .int (0), .int (0), .int (0)]) := (F_18 9 (by simp <;> omega)).trans f9_14
  refine m_get (pc' := 25) C 9 (by omega) f9_20 rfl inW_X1 0 (by decide) (gW_of tm_1_109) rfl rfl dX1_init_22 rfl ?_
  refine m_iload_n (pc' := 26) C dX1_init_25 rfl 0 rfl rfl ?_
  have xa11_21 := ag_13.fr F_18 (by simp <;> omega) (by simp <;> omega) (by simp <;> omega)
  have kp_22 := kp_16.fr F_18 (by simp <;> omega)
  refine m_new (pc' := 29) (fs := [.null, .int (0), .long (0)]) (ci := 0) C (fun ad => [(1, .int (nI 1)), (0, .ref (ad 9))]) (fun ad => [.int (nI 1), .ref (ad 10)]) (fun ad9 he9 => by refine ⟨?_, ?_⟩ <;> (first | rfl | simp only [he9 10 (by omega), he9 9 (by omega)])) inW_X0 tyX0 tyX0_ok (gW_of tm_1_71) (gW_of tm_1_73) (gW_of tm_1_5) rfl (by decide +kernel) (by show _ ≤ _; simp) (by show _ ≤ _; simp) dX1_init_26 rfl (fun ad M23 he_23 g_23 hm_23 C => ?_)
  have hI := C.2.2.1
  have f9_24 : M23 9 = .inr (1, [.ref (ad 10), .null, .int (0), .int (0), .int (0)]) := ((hm_23 9 (by omega)).trans f9_20).trans (by rw [he_23 10 (by omega)])
  have f10_25 : M23 10 = .inl (cy 4, 8, .inr (.inr (.inr (.inr (va_up (fun _ => none) 0 (some (ad 11))))))) := ((hm_23 10 (by omega)).trans g_18).trans (by rw [he_23 11 (by omega)])
  have xa11_26 := xa11_21.ex he_23 (by omega) (fun k9 hk9 => by simp only [List.mem_cons, List.not_mem_nil, or_false] at hk9; exact hm_23 k9 (by omega)) (n' := 15)
  have kp_27 := kp_22.nw hm_23 (by omega)
  have ex_28 := ex_17.tr he_23 (by omega)
  refine m_dup (pc' := 30) C dX1_init_29 rfl rfl ?_
  refine m_callI (pc' := 33) (As := []) (b := 14) C hao9 (kX0_init hI (o := 14) g_23) (fun ad => [(1, .int (nI 1)), (0, .ref (ad 9))]) (fun ad => [.ref (ad 14), .int (nI 1), .ref (ad 10)]) (fun ad9 he9 => by refine ⟨?_, ?_⟩ <;> (first | rfl | simp only [he9 10 (by omega), he9 14 (by omega), he9 9 (by omega)])) (cwI 0 C.1.2.2.2.2 (goodN tm_1_76) rfl rfl rfl (C.1.2.2.2.2 _ (gW_of tm_1_5)) (C.1.2.2.2.2 _ (gW_of tm_1_74)) (C.1.2.2.2.2 _ (gW_of tm_1_75)) rfl (by decide +kernel) ⟨by decide, by decide⟩) rfl rfl (Nat.le_of_ble_eq_true rfl) dX1_init_30 rfl ⟨by show _ ≤ _; simp, by show _ ≤ _; simp⟩ (fun ad M29 he_29 q_29 C => ?_)
  obtain ⟨ag_29, kq_29⟩ := q_29
  have hI := C.2.2.1
  have f9_30 : M29 9 = .inr (1, [.ref (ad 10), .null, .int (0), .int (0), .int (0)]) := ((kq_29 9 (by omega) (by simp <;> omega)).trans f9_24).trans (by rw [he_29 10 (by omega)])
  have f10_31 : M29 10 = .inl (cy 4, 8, .inr (.inr (.inr (.inr (va_up (fun _ => none) 0 (some (ad 11))))))) := ((kq_29 10 (by omega) (by simp <;> omega)).trans f10_25).trans (by rw [he_29 11 (by omega)])
  have xa11_32 := xa11_26.ex he_29 (by omega) (fun k9 hk9 => by simp only [List.mem_cons, List.not_mem_nil, or_false] at hk9; exact kq_29 k9 (by omega) (by simp <;> omega)) (n' := 17)
  have kp_33 := kp_27.kp kq_29 (by omega) (by simp <;> omega)
  have ex_34 := ex_28.tr he_29 (by omega)
  obtain ⟨fs_36, hfs_36⟩ := ag_29.obj
  refine m_aast (pc' := 34) (E' := .inl (cy 4, 8, .inr (.inr (.inr (.inr (va_up (va_up (fun _ => none) 0 (some (ad 11))) 1 (some (ad 14)))))))) C 10 14 (by omega) (by omega) f10_31 hfs_36 (vp_in_nI (by decide) (by decide)) (by rfl) dX1_init_33 rfl (fun M35 g_35 F_35 => ?_)
  refine m_iinc (pc' := 37) (v := nI 2) (lv' := [(1, .int (nI 2)), (0, .ref (ad 9))]) C dX1_init_34 (k := 0) rfl (by decide) (by decide) rfl rfl ?_
  refine m_goto (tgt := 15) C dX1_init_37 (by decide) ?_
  refine m_iload_n (pc' := 16) C dX1_init_15 rfl 0 rfl rfl ?_
  refine m_bipush (pc' := 18) (v := nI 8) C dX1_init_16 (by decide) rfl ?_
  refine m_icmp_ge (pc' := 21) (tgt := 40) C dX1_init_18 (by decide) rfl (fun c9 => ?_) (fun c9 => ?_)
  · exact absurd c9 (by decide)
  refine m_aload_n (pc' := 22) C dX1_init_21 rfl 1 rfl rfl ?_
  have f9_37 : M35 9 = .inr (1, [.ref (ad 10), .null, .int (0), .int (0), .int (0)]) := (F_35 9 (by simp <;> omega)).trans f9_30
  refine m_get (pc' := 25) C 9 (by omega) f9_37 rfl inW_X1 0 (by decide) (gW_of tm_1_109) rfl rfl dX1_init_22 rfl ?_
  refine m_iload_n (pc' := 26) C dX1_init_25 rfl 0 rfl rfl ?_
  have xa11_38 := xa11_32.fr F_35 (by simp <;> omega) (by simp <;> omega) (by simp <;> omega)
  have xa14_39 := ag_29.fr F_35 (by simp <;> omega) (by simp <;> omega) (by simp <;> omega)
  have kp_40 := kp_33.fr F_35 (by simp <;> omega)
  refine m_new (pc' := 29) (fs := [.null, .int (0), .long (0)]) (ci := 0) C (fun ad => [(1, .int (nI 2)), (0, .ref (ad 9))]) (fun ad => [.int (nI 2), .ref (ad 10)]) (fun ad9 he9 => by refine ⟨?_, ?_⟩ <;> (first | rfl | simp only [he9 10 (by omega), he9 9 (by omega)])) inW_X0 tyX0 tyX0_ok (gW_of tm_1_71) (gW_of tm_1_73) (gW_of tm_1_5) rfl (by decide +kernel) (by show _ ≤ _; simp) (by show _ ≤ _; simp) dX1_init_26 rfl (fun ad M41 he_41 g_41 hm_41 C => ?_)
  have hI := C.2.2.1
  have f9_42 : M41 9 = .inr (1, [.ref (ad 10), .null, .int (0), .int (0), .int (0)]) := ((hm_41 9 (by omega)).trans f9_37).trans (by rw [he_41 10 (by omega)])
  have f10_43 : M41 10 = .inl (cy 4, 8, .inr (.inr (.inr (.inr (va_up (va_up (fun _ => none) 0 (some (ad 11))) 1 (some (ad 14))))))) := ((hm_41 10 (by omega)).trans g_35).trans (by rw [he_41 11 (by omega), he_41 14 (by omega)])
  have xa11_44 := xa11_38.ex he_41 (by omega) (fun k9 hk9 => by simp only [List.mem_cons, List.not_mem_nil, or_false] at hk9; exact hm_41 k9 (by omega)) (n' := 18)
  have xa14_45 := xa14_39.ex he_41 (by omega) (fun k9 hk9 => by simp only [List.mem_cons, List.not_mem_nil, or_false] at hk9; exact hm_41 k9 (by omega)) (n' := 18)
  have kp_46 := kp_40.nw hm_41 (by omega)
  have ex_47 := ex_34.tr he_41 (by omega)
  refine m_dup (pc' := 30) C dX1_init_29 rfl rfl ?_
  refine m_callI (pc' := 33) (As := []) (b := 17) C hao9 (kX0_init hI (o := 17) g_41) (fun ad => [(1, .int (nI 2)), (0, .ref (ad 9))]) (fun ad => [.ref (ad 17), .int (nI 2), .ref (ad 10)]) (fun ad9 he9 => by refine ⟨?_, ?_⟩ <;> (first | rfl | simp only [he9 10 (by omega), he9 17 (by omega), he9 9 (by omega)])) (cwI 0 C.1.2.2.2.2 (goodN tm_1_76) rfl rfl rfl (C.1.2.2.2.2 _ (gW_of tm_1_5)) (C.1.2.2.2.2 _ (gW_of tm_1_74)) (C.1.2.2.2.2 _ (gW_of tm_1_75)) rfl (by decide +kernel) ⟨by decide, by decide⟩) rfl rfl (Nat.le_of_ble_eq_true rfl) dX1_init_30 rfl ⟨by show _ ≤ _; simp, by show _ ≤ _; simp⟩ (fun ad M48 he_48 q_48 C => ?_)
  obtain ⟨ag_48, kq_48⟩ := q_48
  have hI := C.2.2.1
  have f9_49 : M48 9 = .inr (1, [.ref (ad 10), .null, .int (0), .int (0), .int (0)]) := ((kq_48 9 (by omega) (by simp <;> omega)).trans f9_42).trans (by rw [he_48 10 (by omega)])
  have f10_50 : M48 10 = .inl (cy 4, 8, .inr (.inr (.inr (.inr (va_up (va_up (fun _ => none) 0 (some (ad 11))) 1 (some (ad 14))))))) := ((kq_48 10 (by omega) (by simp <;> omega)).trans f10_43).trans (by rw [he_48 11 (by omega), he_48 14 (by omega)])
  have xa11_51 := xa11_44.ex he_48 (by omega) (fun k9 hk9 => by simp only [List.mem_cons, List.not_mem_nil, or_false] at hk9; exact kq_48 k9 (by omega) (by simp <;> omega)) (n' := 20)
  have xa14_52 := xa14_45.ex he_48 (by omega) (fun k9 hk9 => by simp only [List.mem_cons, List.not_mem_nil, or_false] at hk9; exact kq_48 k9 (by omega) (by simp <;> omega)) (n' := 20)
  have kp_53 := kp_46.kp kq_48 (by omega) (by simp <;> omega)
  have ex_54 := ex_47.tr he_48 (by omega)
  obtain ⟨fs_56, hfs_56⟩ := ag_48.obj
  refine m_aast (pc' := 34) (E' := .inl (cy 4, 8, .inr (.inr (.inr (.inr (va_up (va_up (va_up (fun _ => none) 0 (some (ad 11))) 1 (some (ad 14))) 2 (some (ad 17)))))))) C 10 17 (by omega) (by omega) f10_50 hfs_56 (vp_in_nI (by decide) (by decide)) (by rfl) dX1_init_33 rfl (fun M55 g_55 F_55 => ?_)
  refine m_iinc (pc' := 37) (v := nI 3) (lv' := [(1, .int (nI 3)), (0, .ref (ad 9))]) C dX1_init_34 (k := 0) rfl (by decide) (by decide) rfl rfl ?_
  refine m_goto (tgt := 15) C dX1_init_37 (by decide) ?_
  refine m_iload_n (pc' := 16) C dX1_init_15 rfl 0 rfl rfl ?_
  refine m_bipush (pc' := 18) (v := nI 8) C dX1_init_16 (by decide) rfl ?_
  refine m_icmp_ge (pc' := 21) (tgt := 40) C dX1_init_18 (by decide) rfl (fun c9 => ?_) (fun c9 => ?_)
  · exact absurd c9 (by decide)
  refine m_aload_n (pc' := 22) C dX1_init_21 rfl 1 rfl rfl ?_
  have f9_57 : M55 9 = .inr (1, [.ref (ad 10), .null, .int (0), .int (0), .int (0)]) := (F_55 9 (by simp <;> omega)).trans f9_49
  refine m_get (pc' := 25) C 9 (by omega) f9_57 rfl inW_X1 0 (by decide) (gW_of tm_1_109) rfl rfl dX1_init_22 rfl ?_
  refine m_iload_n (pc' := 26) C dX1_init_25 rfl 0 rfl rfl ?_
  have xa11_58 := xa11_51.fr F_55 (by simp <;> omega) (by simp <;> omega) (by simp <;> omega)
  have xa14_59 := xa14_52.fr F_55 (by simp <;> omega) (by simp <;> omega) (by simp <;> omega)
  have xa17_60 := ag_48.fr F_55 (by simp <;> omega) (by simp <;> omega) (by simp <;> omega)
  have kp_61 := kp_53.fr F_55 (by simp <;> omega)
  refine m_new (pc' := 29) (fs := [.null, .int (0), .long (0)]) (ci := 0) C (fun ad => [(1, .int (nI 3)), (0, .ref (ad 9))]) (fun ad => [.int (nI 3), .ref (ad 10)]) (fun ad9 he9 => by refine ⟨?_, ?_⟩ <;> (first | rfl | simp only [he9 10 (by omega), he9 9 (by omega)])) inW_X0 tyX0 tyX0_ok (gW_of tm_1_71) (gW_of tm_1_73) (gW_of tm_1_5) rfl (by decide +kernel) (by show _ ≤ _; simp) (by show _ ≤ _; simp) dX1_init_26 rfl (fun ad M62 he_62 g_62 hm_62 C => ?_)
  have hI := C.2.2.1
  have f9_63 : M62 9 = .inr (1, [.ref (ad 10), .null, .int (0), .int (0), .int (0)]) := ((hm_62 9 (by omega)).trans f9_57).trans (by rw [he_62 10 (by omega)])
  have f10_64 : M62 10 = .inl (cy 4, 8, .inr (.inr (.inr (.inr (va_up (va_up (va_up (fun _ => none) 0 (some (ad 11))) 1 (some (ad 14))) 2 (some (ad 17))))))) := ((hm_62 10 (by omega)).trans g_55).trans (by rw [he_62 11 (by omega), he_62 14 (by omega), he_62 17 (by omega)])
  have xa11_65 := xa11_58.ex he_62 (by omega) (fun k9 hk9 => by simp only [List.mem_cons, List.not_mem_nil, or_false] at hk9; exact hm_62 k9 (by omega)) (n' := 21)
  have xa14_66 := xa14_59.ex he_62 (by omega) (fun k9 hk9 => by simp only [List.mem_cons, List.not_mem_nil, or_false] at hk9; exact hm_62 k9 (by omega)) (n' := 21)
  have xa17_67 := xa17_60.ex he_62 (by omega) (fun k9 hk9 => by simp only [List.mem_cons, List.not_mem_nil, or_false] at hk9; exact hm_62 k9 (by omega)) (n' := 21)
  have kp_68 := kp_61.nw hm_62 (by omega)
  have ex_69 := ex_54.tr he_62 (by omega)
  refine m_dup (pc' := 30) C dX1_init_29 rfl rfl ?_
  refine m_callI (pc' := 33) (As := []) (b := 20) C hao9 (kX0_init hI (o := 20) g_62) (fun ad => [(1, .int (nI 3)), (0, .ref (ad 9))]) (fun ad => [.ref (ad 20), .int (nI 3), .ref (ad 10)]) (fun ad9 he9 => by refine ⟨?_, ?_⟩ <;> (first | rfl | simp only [he9 10 (by omega), he9 20 (by omega), he9 9 (by omega)])) (cwI 0 C.1.2.2.2.2 (goodN tm_1_76) rfl rfl rfl (C.1.2.2.2.2 _ (gW_of tm_1_5)) (C.1.2.2.2.2 _ (gW_of tm_1_74)) (C.1.2.2.2.2 _ (gW_of tm_1_75)) rfl (by decide +kernel) ⟨by decide, by decide⟩) rfl rfl (Nat.le_of_ble_eq_true rfl) dX1_init_30 rfl ⟨by show _ ≤ _; simp, by show _ ≤ _; simp⟩ (fun ad M70 he_70 q_70 C => ?_)
  obtain ⟨ag_70, kq_70⟩ := q_70
  have hI := C.2.2.1
  have f9_71 : M70 9 = .inr (1, [.ref (ad 10), .null, .int (0), .int (0), .int (0)]) := ((kq_70 9 (by omega) (by simp <;> omega)).trans f9_63).trans (by rw [he_70 10 (by omega)])
  have f10_72 : M70 10 = .inl (cy 4, 8, .inr (.inr (.inr (.inr (va_up (va_up (va_up (fun _ => none) 0 (some (ad 11))) 1 (some (ad 14))) 2 (some (ad 17))))))) := ((kq_70 10 (by omega) (by simp <;> omega)).trans f10_64).trans (by rw [he_70 11 (by omega), he_70 14 (by omega), he_70 17 (by omega)])
  have xa11_73 := xa11_65.ex he_70 (by omega) (fun k9 hk9 => by simp only [List.mem_cons, List.not_mem_nil, or_false] at hk9; exact kq_70 k9 (by omega) (by simp <;> omega)) (n' := 23)
  have xa14_74 := xa14_66.ex he_70 (by omega) (fun k9 hk9 => by simp only [List.mem_cons, List.not_mem_nil, or_false] at hk9; exact kq_70 k9 (by omega) (by simp <;> omega)) (n' := 23)
  have xa17_75 := xa17_67.ex he_70 (by omega) (fun k9 hk9 => by simp only [List.mem_cons, List.not_mem_nil, or_false] at hk9; exact kq_70 k9 (by omega) (by simp <;> omega)) (n' := 23)
  have kp_76 := kp_68.kp kq_70 (by omega) (by simp <;> omega)
  have ex_77 := ex_69.tr he_70 (by omega)
  obtain ⟨fs_79, hfs_79⟩ := ag_70.obj
  refine m_aast (pc' := 34) (E' := .inl (cy 4, 8, .inr (.inr (.inr (.inr (va_up (va_up (va_up (va_up (fun _ => none) 0 (some (ad 11))) 1 (some (ad 14))) 2 (some (ad 17))) 3 (some (ad 20)))))))) C 10 20 (by omega) (by omega) f10_72 hfs_79 (vp_in_nI (by decide) (by decide)) (by rfl) dX1_init_33 rfl (fun M78 g_78 F_78 => ?_)
  refine m_iinc (pc' := 37) (v := nI 4) (lv' := [(1, .int (nI 4)), (0, .ref (ad 9))]) C dX1_init_34 (k := 0) rfl (by decide) (by decide) rfl rfl ?_
  refine m_goto (tgt := 15) C dX1_init_37 (by decide) ?_
  refine m_iload_n (pc' := 16) C dX1_init_15 rfl 0 rfl rfl ?_
  refine m_bipush (pc' := 18) (v := nI 8) C dX1_init_16 (by decide) rfl ?_
  refine m_icmp_ge (pc' := 21) (tgt := 40) C dX1_init_18 (by decide) rfl (fun c9 => ?_) (fun c9 => ?_)
  · exact absurd c9 (by decide)
  refine m_aload_n (pc' := 22) C dX1_init_21 rfl 1 rfl rfl ?_
  have f9_80 : M78 9 = .inr (1, [.ref (ad 10), .null, .int (0), .int (0), .int (0)]) := (F_78 9 (by simp <;> omega)).trans f9_71
  refine m_get (pc' := 25) C 9 (by omega) f9_80 rfl inW_X1 0 (by decide) (gW_of tm_1_109) rfl rfl dX1_init_22 rfl ?_
  refine m_iload_n (pc' := 26) C dX1_init_25 rfl 0 rfl rfl ?_
  have xa11_81 := xa11_73.fr F_78 (by simp <;> omega) (by simp <;> omega) (by simp <;> omega)
  have xa14_82 := xa14_74.fr F_78 (by simp <;> omega) (by simp <;> omega) (by simp <;> omega)
  have xa17_83 := xa17_75.fr F_78 (by simp <;> omega) (by simp <;> omega) (by simp <;> omega)
  have xa20_84 := ag_70.fr F_78 (by simp <;> omega) (by simp <;> omega) (by simp <;> omega)
  have kp_85 := kp_76.fr F_78 (by simp <;> omega)
  refine m_new (pc' := 29) (fs := [.null, .int (0), .long (0)]) (ci := 0) C (fun ad => [(1, .int (nI 4)), (0, .ref (ad 9))]) (fun ad => [.int (nI 4), .ref (ad 10)]) (fun ad9 he9 => by refine ⟨?_, ?_⟩ <;> (first | rfl | simp only [he9 10 (by omega), he9 9 (by omega)])) inW_X0 tyX0 tyX0_ok (gW_of tm_1_71) (gW_of tm_1_73) (gW_of tm_1_5) rfl (by decide +kernel) (by show _ ≤ _; simp) (by show _ ≤ _; simp) dX1_init_26 rfl (fun ad M86 he_86 g_86 hm_86 C => ?_)
  have hI := C.2.2.1
  have f9_87 : M86 9 = .inr (1, [.ref (ad 10), .null, .int (0), .int (0), .int (0)]) := ((hm_86 9 (by omega)).trans f9_80).trans (by rw [he_86 10 (by omega)])
  have f10_88 : M86 10 = .inl (cy 4, 8, .inr (.inr (.inr (.inr (va_up (va_up (va_up (va_up (fun _ => none) 0 (some (ad 11))) 1 (some (ad 14))) 2 (some (ad 17))) 3 (some (ad 20))))))) := ((hm_86 10 (by omega)).trans g_78).trans (by rw [he_86 11 (by omega), he_86 14 (by omega), he_86 17 (by omega), he_86 20 (by omega)])
  have xa11_89 := xa11_81.ex he_86 (by omega) (fun k9 hk9 => by simp only [List.mem_cons, List.not_mem_nil, or_false] at hk9; exact hm_86 k9 (by omega)) (n' := 24)
  have xa14_90 := xa14_82.ex he_86 (by omega) (fun k9 hk9 => by simp only [List.mem_cons, List.not_mem_nil, or_false] at hk9; exact hm_86 k9 (by omega)) (n' := 24)
  have xa17_91 := xa17_83.ex he_86 (by omega) (fun k9 hk9 => by simp only [List.mem_cons, List.not_mem_nil, or_false] at hk9; exact hm_86 k9 (by omega)) (n' := 24)
  have xa20_92 := xa20_84.ex he_86 (by omega) (fun k9 hk9 => by simp only [List.mem_cons, List.not_mem_nil, or_false] at hk9; exact hm_86 k9 (by omega)) (n' := 24)
  have kp_93 := kp_85.nw hm_86 (by omega)
  have ex_94 := ex_77.tr he_86 (by omega)
  refine m_dup (pc' := 30) C dX1_init_29 rfl rfl ?_
  refine m_callI (pc' := 33) (As := []) (b := 23) C hao9 (kX0_init hI (o := 23) g_86) (fun ad => [(1, .int (nI 4)), (0, .ref (ad 9))]) (fun ad => [.ref (ad 23), .int (nI 4), .ref (ad 10)]) (fun ad9 he9 => by refine ⟨?_, ?_⟩ <;> (first | rfl | simp only [he9 10 (by omega), he9 23 (by omega), he9 9 (by omega)])) (cwI 0 C.1.2.2.2.2 (goodN tm_1_76) rfl rfl rfl (C.1.2.2.2.2 _ (gW_of tm_1_5)) (C.1.2.2.2.2 _ (gW_of tm_1_74)) (C.1.2.2.2.2 _ (gW_of tm_1_75)) rfl (by decide +kernel) ⟨by decide, by decide⟩) rfl rfl (Nat.le_of_ble_eq_true rfl) dX1_init_30 rfl ⟨by show _ ≤ _; simp, by show _ ≤ _; simp⟩ (fun ad M95 he_95 q_95 C => ?_)
  obtain ⟨ag_95, kq_95⟩ := q_95
  have hI := C.2.2.1
  have f9_96 : M95 9 = .inr (1, [.ref (ad 10), .null, .int (0), .int (0), .int (0)]) := ((kq_95 9 (by omega) (by simp <;> omega)).trans f9_87).trans (by rw [he_95 10 (by omega)])
  have f10_97 : M95 10 = .inl (cy 4, 8, .inr (.inr (.inr (.inr (va_up (va_up (va_up (va_up (fun _ => none) 0 (some (ad 11))) 1 (some (ad 14))) 2 (some (ad 17))) 3 (some (ad 20))))))) := ((kq_95 10 (by omega) (by simp <;> omega)).trans f10_88).trans (by rw [he_95 11 (by omega), he_95 14 (by omega), he_95 17 (by omega), he_95 20 (by omega)])
  have xa11_98 := xa11_89.ex he_95 (by omega) (fun k9 hk9 => by simp only [List.mem_cons, List.not_mem_nil, or_false] at hk9; exact kq_95 k9 (by omega) (by simp <;> omega)) (n' := 26)
  have xa14_99 := xa14_90.ex he_95 (by omega) (fun k9 hk9 => by simp only [List.mem_cons, List.not_mem_nil, or_false] at hk9; exact kq_95 k9 (by omega) (by simp <;> omega)) (n' := 26)
  have xa17_100 := xa17_91.ex he_95 (by omega) (fun k9 hk9 => by simp only [List.mem_cons, List.not_mem_nil, or_false] at hk9; exact kq_95 k9 (by omega) (by simp <;> omega)) (n' := 26)
  have xa20_101 := xa20_92.ex he_95 (by omega) (fun k9 hk9 => by simp only [List.mem_cons, List.not_mem_nil, or_false] at hk9; exact kq_95 k9 (by omega) (by simp <;> omega)) (n' := 26)
  have kp_102 := kp_93.kp kq_95 (by omega) (by simp <;> omega)
  have ex_103 := ex_94.tr he_95 (by omega)
  obtain ⟨fs_105, hfs_105⟩ := ag_95.obj
  refine m_aast (pc' := 34) (E' := .inl (cy 4, 8, .inr (.inr (.inr (.inr (va_up (va_up (va_up (va_up (va_up (fun _ => none) 0 (some (ad 11))) 1 (some (ad 14))) 2 (some (ad 17))) 3 (some (ad 20))) 4 (some (ad 23)))))))) C 10 23 (by omega) (by omega) f10_97 hfs_105 (vp_in_nI (by decide) (by decide)) (by rfl) dX1_init_33 rfl (fun M104 g_104 F_104 => ?_)
  refine m_iinc (pc' := 37) (v := nI 5) (lv' := [(1, .int (nI 5)), (0, .ref (ad 9))]) C dX1_init_34 (k := 0) rfl (by decide) (by decide) rfl rfl ?_
  refine m_goto (tgt := 15) C dX1_init_37 (by decide) ?_
  refine m_iload_n (pc' := 16) C dX1_init_15 rfl 0 rfl rfl ?_
  refine m_bipush (pc' := 18) (v := nI 8) C dX1_init_16 (by decide) rfl ?_
  refine m_icmp_ge (pc' := 21) (tgt := 40) C dX1_init_18 (by decide) rfl (fun c9 => ?_) (fun c9 => ?_)
  · exact absurd c9 (by decide)
  refine m_aload_n (pc' := 22) C dX1_init_21 rfl 1 rfl rfl ?_
  have f9_106 : M104 9 = .inr (1, [.ref (ad 10), .null, .int (0), .int (0), .int (0)]) := (F_104 9 (by simp <;> omega)).trans f9_96
  refine m_get (pc' := 25) C 9 (by omega) f9_106 rfl inW_X1 0 (by decide) (gW_of tm_1_109) rfl rfl dX1_init_22 rfl ?_
  refine m_iload_n (pc' := 26) C dX1_init_25 rfl 0 rfl rfl ?_
  have xa11_107 := xa11_98.fr F_104 (by simp <;> omega) (by simp <;> omega) (by simp <;> omega)
  have xa14_108 := xa14_99.fr F_104 (by simp <;> omega) (by simp <;> omega) (by simp <;> omega)
  have xa17_109 := xa17_100.fr F_104 (by simp <;> omega) (by simp <;> omega) (by simp <;> omega)
  have xa20_110 := xa20_101.fr F_104 (by simp <;> omega) (by simp <;> omega) (by simp <;> omega)
  have xa23_111 := ag_95.fr F_104 (by simp <;> omega) (by simp <;> omega) (by simp <;> omega)
  have kp_112 := kp_102.fr F_104 (by simp <;> omega)
  refine m_new (pc' := 29) (fs := [.null, .int (0), .long (0)]) (ci := 0) C (fun ad => [(1, .int (nI 5)), (0, .ref (ad 9))]) (fun ad => [.int (nI 5), .ref (ad 10)]) (fun ad9 he9 => by refine ⟨?_, ?_⟩ <;> (first | rfl | simp only [he9 10 (by omega), he9 9 (by omega)])) inW_X0 tyX0 tyX0_ok (gW_of tm_1_71) (gW_of tm_1_73) (gW_of tm_1_5) rfl (by decide +kernel) (by show _ ≤ _; simp) (by show _ ≤ _; simp) dX1_init_26 rfl (fun ad M113 he_113 g_113 hm_113 C => ?_)
  have hI := C.2.2.1
  have f9_114 : M113 9 = .inr (1, [.ref (ad 10), .null, .int (0), .int (0), .int (0)]) := ((hm_113 9 (by omega)).trans f9_106).trans (by rw [he_113 10 (by omega)])
  have f10_115 : M113 10 = .inl (cy 4, 8, .inr (.inr (.inr (.inr (va_up (va_up (va_up (va_up (va_up (fun _ => none) 0 (some (ad 11))) 1 (some (ad 14))) 2 (some (ad 17))) 3 (some (ad 20))) 4 (some (ad 23))))))) := ((hm_113 10 (by omega)).trans g_104).trans (by rw [he_113 11 (by omega), he_113 14 (by omega), he_113 17 (by omega), he_113 20 (by omega), he_113 23 (by omega)])
  have xa11_116 := xa11_107.ex he_113 (by omega) (fun k9 hk9 => by simp only [List.mem_cons, List.not_mem_nil, or_false] at hk9; exact hm_113 k9 (by omega)) (n' := 27)
  have xa14_117 := xa14_108.ex he_113 (by omega) (fun k9 hk9 => by simp only [List.mem_cons, List.not_mem_nil, or_false] at hk9; exact hm_113 k9 (by omega)) (n' := 27)
  have xa17_118 := xa17_109.ex he_113 (by omega) (fun k9 hk9 => by simp only [List.mem_cons, List.not_mem_nil, or_false] at hk9; exact hm_113 k9 (by omega)) (n' := 27)
  have xa20_119 := xa20_110.ex he_113 (by omega) (fun k9 hk9 => by simp only [List.mem_cons, List.not_mem_nil, or_false] at hk9; exact hm_113 k9 (by omega)) (n' := 27)
  have xa23_120 := xa23_111.ex he_113 (by omega) (fun k9 hk9 => by simp only [List.mem_cons, List.not_mem_nil, or_false] at hk9; exact hm_113 k9 (by omega)) (n' := 27)
  have kp_121 := kp_112.nw hm_113 (by omega)
  have ex_122 := ex_103.tr he_113 (by omega)
  refine m_dup (pc' := 30) C dX1_init_29 rfl rfl ?_
  refine m_callI (pc' := 33) (As := []) (b := 26) C hao9 (kX0_init hI (o := 26) g_113) (fun ad => [(1, .int (nI 5)), (0, .ref (ad 9))]) (fun ad => [.ref (ad 26), .int (nI 5), .ref (ad 10)]) (fun ad9 he9 => by refine ⟨?_, ?_⟩ <;> (first | rfl | simp only [he9 10 (by omega), he9 26 (by omega), he9 9 (by omega)])) (cwI 0 C.1.2.2.2.2 (goodN tm_1_76) rfl rfl rfl (C.1.2.2.2.2 _ (gW_of tm_1_5)) (C.1.2.2.2.2 _ (gW_of tm_1_74)) (C.1.2.2.2.2 _ (gW_of tm_1_75)) rfl (by decide +kernel) ⟨by decide, by decide⟩) rfl rfl (Nat.le_of_ble_eq_true rfl) dX1_init_30 rfl ⟨by show _ ≤ _; simp, by show _ ≤ _; simp⟩ (fun ad M123 he_123 q_123 C => ?_)
  obtain ⟨ag_123, kq_123⟩ := q_123
  have hI := C.2.2.1
  have f9_124 : M123 9 = .inr (1, [.ref (ad 10), .null, .int (0), .int (0), .int (0)]) := ((kq_123 9 (by omega) (by simp <;> omega)).trans f9_114).trans (by rw [he_123 10 (by omega)])
  have f10_125 : M123 10 = .inl (cy 4, 8, .inr (.inr (.inr (.inr (va_up (va_up (va_up (va_up (va_up (fun _ => none) 0 (some (ad 11))) 1 (some (ad 14))) 2 (some (ad 17))) 3 (some (ad 20))) 4 (some (ad 23))))))) := ((kq_123 10 (by omega) (by simp <;> omega)).trans f10_115).trans (by rw [he_123 11 (by omega), he_123 14 (by omega), he_123 17 (by omega), he_123 20 (by omega), he_123 23 (by omega)])
  have xa11_126 := xa11_116.ex he_123 (by omega) (fun k9 hk9 => by simp only [List.mem_cons, List.not_mem_nil, or_false] at hk9; exact kq_123 k9 (by omega) (by simp <;> omega)) (n' := 29)
  have xa14_127 := xa14_117.ex he_123 (by omega) (fun k9 hk9 => by simp only [List.mem_cons, List.not_mem_nil, or_false] at hk9; exact kq_123 k9 (by omega) (by simp <;> omega)) (n' := 29)
  have xa17_128 := xa17_118.ex he_123 (by omega) (fun k9 hk9 => by simp only [List.mem_cons, List.not_mem_nil, or_false] at hk9; exact kq_123 k9 (by omega) (by simp <;> omega)) (n' := 29)
  have xa20_129 := xa20_119.ex he_123 (by omega) (fun k9 hk9 => by simp only [List.mem_cons, List.not_mem_nil, or_false] at hk9; exact kq_123 k9 (by omega) (by simp <;> omega)) (n' := 29)
  have xa23_130 := xa23_120.ex he_123 (by omega) (fun k9 hk9 => by simp only [List.mem_cons, List.not_mem_nil, or_false] at hk9; exact kq_123 k9 (by omega) (by simp <;> omega)) (n' := 29)
  have kp_131 := kp_121.kp kq_123 (by omega) (by simp <;> omega)
  have ex_132 := ex_122.tr he_123 (by omega)
  obtain ⟨fs_134, hfs_134⟩ := ag_123.obj
  refine m_aast (pc' := 34) (E' := .inl (cy 4, 8, .inr (.inr (.inr (.inr (va_up (va_up (va_up (va_up (va_up (va_up (fun _ => none) 0 (some (ad 11))) 1 (some (ad 14))) 2 (some (ad 17))) 3 (some (ad 20))) 4 (some (ad 23))) 5 (some (ad 26)))))))) C 10 26 (by omega) (by omega) f10_125 hfs_134 (vp_in_nI (by decide) (by decide)) (by rfl) dX1_init_33 rfl (fun M133 g_133 F_133 => ?_)
  refine m_iinc (pc' := 37) (v := nI 6) (lv' := [(1, .int (nI 6)), (0, .ref (ad 9))]) C dX1_init_34 (k := 0) rfl (by decide) (by decide) rfl rfl ?_
  refine m_goto (tgt := 15) C dX1_init_37 (by decide) ?_
  refine m_iload_n (pc' := 16) C dX1_init_15 rfl 0 rfl rfl ?_
  refine m_bipush (pc' := 18) (v := nI 8) C dX1_init_16 (by decide) rfl ?_
  refine m_icmp_ge (pc' := 21) (tgt := 40) C dX1_init_18 (by decide) rfl (fun c9 => ?_) (fun c9 => ?_)
  · exact absurd c9 (by decide)
  refine m_aload_n (pc' := 22) C dX1_init_21 rfl 1 rfl rfl ?_
  have f9_135 : M133 9 = .inr (1, [.ref (ad 10), .null, .int (0), .int (0), .int (0)]) := (F_133 9 (by simp <;> omega)).trans f9_124
  refine m_get (pc' := 25) C 9 (by omega) f9_135 rfl inW_X1 0 (by decide) (gW_of tm_1_109) rfl rfl dX1_init_22 rfl ?_
  refine m_iload_n (pc' := 26) C dX1_init_25 rfl 0 rfl rfl ?_
  have xa11_136 := xa11_126.fr F_133 (by simp <;> omega) (by simp <;> omega) (by simp <;> omega)
  have xa14_137 := xa14_127.fr F_133 (by simp <;> omega) (by simp <;> omega) (by simp <;> omega)
  have xa17_138 := xa17_128.fr F_133 (by simp <;> omega) (by simp <;> omega) (by simp <;> omega)
  have xa20_139 := xa20_129.fr F_133 (by simp <;> omega) (by simp <;> omega) (by simp <;> omega)
  have xa23_140 := xa23_130.fr F_133 (by simp <;> omega) (by simp <;> omega) (by simp <;> omega)
  have xa26_141 := ag_123.fr F_133 (by simp <;> omega) (by simp <;> omega) (by simp <;> omega)
  have kp_142 := kp_131.fr F_133 (by simp <;> omega)
  refine m_new (pc' := 29) (fs := [.null, .int (0), .long (0)]) (ci := 0) C (fun ad => [(1, .int (nI 6)), (0, .ref (ad 9))]) (fun ad => [.int (nI 6), .ref (ad 10)]) (fun ad9 he9 => by refine ⟨?_, ?_⟩ <;> (first | rfl | simp only [he9 10 (by omega), he9 9 (by omega)])) inW_X0 tyX0 tyX0_ok (gW_of tm_1_71) (gW_of tm_1_73) (gW_of tm_1_5) rfl (by decide +kernel) (by show _ ≤ _; simp) (by show _ ≤ _; simp) dX1_init_26 rfl (fun ad M143 he_143 g_143 hm_143 C => ?_)
  have hI := C.2.2.1
  have f9_144 : M143 9 = .inr (1, [.ref (ad 10), .null, .int (0), .int (0), .int (0)]) := ((hm_143 9 (by omega)).trans f9_135).trans (by rw [he_143 10 (by omega)])
  have f10_145 : M143 10 = .inl (cy 4, 8, .inr (.inr (.inr (.inr (va_up (va_up (va_up (va_up (va_up (va_up (fun _ => none) 0 (some (ad 11))) 1 (some (ad 14))) 2 (some (ad 17))) 3 (some (ad 20))) 4 (some (ad 23))) 5 (some (ad 26))))))) := ((hm_143 10 (by omega)).trans g_133).trans (by rw [he_143 11 (by omega), he_143 14 (by omega), he_143 17 (by omega), he_143 20 (by omega), he_143 23 (by omega), he_143 26 (by omega)])
  have xa11_146 := xa11_136.ex he_143 (by omega) (fun k9 hk9 => by simp only [List.mem_cons, List.not_mem_nil, or_false] at hk9; exact hm_143 k9 (by omega)) (n' := 30)
  have xa14_147 := xa14_137.ex he_143 (by omega) (fun k9 hk9 => by simp only [List.mem_cons, List.not_mem_nil, or_false] at hk9; exact hm_143 k9 (by omega)) (n' := 30)
  have xa17_148 := xa17_138.ex he_143 (by omega) (fun k9 hk9 => by simp only [List.mem_cons, List.not_mem_nil, or_false] at hk9; exact hm_143 k9 (by omega)) (n' := 30)
  have xa20_149 := xa20_139.ex he_143 (by omega) (fun k9 hk9 => by simp only [List.mem_cons, List.not_mem_nil, or_false] at hk9; exact hm_143 k9 (by omega)) (n' := 30)
  have xa23_150 := xa23_140.ex he_143 (by omega) (fun k9 hk9 => by simp only [List.mem_cons, List.not_mem_nil, or_false] at hk9; exact hm_143 k9 (by omega)) (n' := 30)
  have xa26_151 := xa26_141.ex he_143 (by omega) (fun k9 hk9 => by simp only [List.mem_cons, List.not_mem_nil, or_false] at hk9; exact hm_143 k9 (by omega)) (n' := 30)
  have kp_152 := kp_142.nw hm_143 (by omega)
  have ex_153 := ex_132.tr he_143 (by omega)
  refine m_dup (pc' := 30) C dX1_init_29 rfl rfl ?_
  refine m_callI (pc' := 33) (As := []) (b := 29) C hao9 (kX0_init hI (o := 29) g_143) (fun ad => [(1, .int (nI 6)), (0, .ref (ad 9))]) (fun ad => [.ref (ad 29), .int (nI 6), .ref (ad 10)]) (fun ad9 he9 => by refine ⟨?_, ?_⟩ <;> (first | rfl | simp only [he9 10 (by omega), he9 29 (by omega), he9 9 (by omega)])) (cwI 0 C.1.2.2.2.2 (goodN tm_1_76) rfl rfl rfl (C.1.2.2.2.2 _ (gW_of tm_1_5)) (C.1.2.2.2.2 _ (gW_of tm_1_74)) (C.1.2.2.2.2 _ (gW_of tm_1_75)) rfl (by decide +kernel) ⟨by decide, by decide⟩) rfl rfl (Nat.le_of_ble_eq_true rfl) dX1_init_30 rfl ⟨by show _ ≤ _; simp, by show _ ≤ _; simp⟩ (fun ad M154 he_154 q_154 C => ?_)
  obtain ⟨ag_154, kq_154⟩ := q_154
  have hI := C.2.2.1
  have f9_155 : M154 9 = .inr (1, [.ref (ad 10), .null, .int (0), .int (0), .int (0)]) := ((kq_154 9 (by omega) (by simp <;> omega)).trans f9_144).trans (by rw [he_154 10 (by omega)])
  have f10_156 : M154 10 = .inl (cy 4, 8, .inr (.inr (.inr (.inr (va_up (va_up (va_up (va_up (va_up (va_up (fun _ => none) 0 (some (ad 11))) 1 (some (ad 14))) 2 (some (ad 17))) 3 (some (ad 20))) 4 (some (ad 23))) 5 (some (ad 26))))))) := ((kq_154 10 (by omega) (by simp <;> omega)).trans f10_145).trans (by rw [he_154 11 (by omega), he_154 14 (by omega), he_154 17 (by omega), he_154 20 (by omega), he_154 23 (by omega), he_154 26 (by omega)])
  have xa11_157 := xa11_146.ex he_154 (by omega) (fun k9 hk9 => by simp only [List.mem_cons, List.not_mem_nil, or_false] at hk9; exact kq_154 k9 (by omega) (by simp <;> omega)) (n' := 32)
  have xa14_158 := xa14_147.ex he_154 (by omega) (fun k9 hk9 => by simp only [List.mem_cons, List.not_mem_nil, or_false] at hk9; exact kq_154 k9 (by omega) (by simp <;> omega)) (n' := 32)
  have xa17_159 := xa17_148.ex he_154 (by omega) (fun k9 hk9 => by simp only [List.mem_cons, List.not_mem_nil, or_false] at hk9; exact kq_154 k9 (by omega) (by simp <;> omega)) (n' := 32)
  have xa20_160 := xa20_149.ex he_154 (by omega) (fun k9 hk9 => by simp only [List.mem_cons, List.not_mem_nil, or_false] at hk9; exact kq_154 k9 (by omega) (by simp <;> omega)) (n' := 32)
  have xa23_161 := xa23_150.ex he_154 (by omega) (fun k9 hk9 => by simp only [List.mem_cons, List.not_mem_nil, or_false] at hk9; exact kq_154 k9 (by omega) (by simp <;> omega)) (n' := 32)
  have xa26_162 := xa26_151.ex he_154 (by omega) (fun k9 hk9 => by simp only [List.mem_cons, List.not_mem_nil, or_false] at hk9; exact kq_154 k9 (by omega) (by simp <;> omega)) (n' := 32)
  have kp_163 := kp_152.kp kq_154 (by omega) (by simp <;> omega)
  have ex_164 := ex_153.tr he_154 (by omega)
  obtain ⟨fs_166, hfs_166⟩ := ag_154.obj
  refine m_aast (pc' := 34) (E' := .inl (cy 4, 8, .inr (.inr (.inr (.inr (va_up (va_up (va_up (va_up (va_up (va_up (va_up (fun _ => none) 0 (some (ad 11))) 1 (some (ad 14))) 2 (some (ad 17))) 3 (some (ad 20))) 4 (some (ad 23))) 5 (some (ad 26))) 6 (some (ad 29)))))))) C 10 29 (by omega) (by omega) f10_156 hfs_166 (vp_in_nI (by decide) (by decide)) (by rfl) dX1_init_33 rfl (fun M165 g_165 F_165 => ?_)
  refine m_iinc (pc' := 37) (v := nI 7) (lv' := [(1, .int (nI 7)), (0, .ref (ad 9))]) C dX1_init_34 (k := 0) rfl (by decide) (by decide) rfl rfl ?_
  refine m_goto (tgt := 15) C dX1_init_37 (by decide) ?_
  refine m_iload_n (pc' := 16) C dX1_init_15 rfl 0 rfl rfl ?_
  refine m_bipush (pc' := 18) (v := nI 8) C dX1_init_16 (by decide) rfl ?_
  refine m_icmp_ge (pc' := 21) (tgt := 40) C dX1_init_18 (by decide) rfl (fun c9 => ?_) (fun c9 => ?_)
  · exact absurd c9 (by decide)
  refine m_aload_n (pc' := 22) C dX1_init_21 rfl 1 rfl rfl ?_
  have f9_167 : M165 9 = .inr (1, [.ref (ad 10), .null, .int (0), .int (0), .int (0)]) := (F_165 9 (by simp <;> omega)).trans f9_155
  refine m_get (pc' := 25) C 9 (by omega) f9_167 rfl inW_X1 0 (by decide) (gW_of tm_1_109) rfl rfl dX1_init_22 rfl ?_
  refine m_iload_n (pc' := 26) C dX1_init_25 rfl 0 rfl rfl ?_
  have xa11_168 := xa11_157.fr F_165 (by simp <;> omega) (by simp <;> omega) (by simp <;> omega)
  have xa14_169 := xa14_158.fr F_165 (by simp <;> omega) (by simp <;> omega) (by simp <;> omega)
  have xa17_170 := xa17_159.fr F_165 (by simp <;> omega) (by simp <;> omega) (by simp <;> omega)
  have xa20_171 := xa20_160.fr F_165 (by simp <;> omega) (by simp <;> omega) (by simp <;> omega)
  have xa23_172 := xa23_161.fr F_165 (by simp <;> omega) (by simp <;> omega) (by simp <;> omega)
  have xa26_173 := xa26_162.fr F_165 (by simp <;> omega) (by simp <;> omega) (by simp <;> omega)
  have xa29_174 := ag_154.fr F_165 (by simp <;> omega) (by simp <;> omega) (by simp <;> omega)
  have kp_175 := kp_163.fr F_165 (by simp <;> omega)
  refine m_new (pc' := 29) (fs := [.null, .int (0), .long (0)]) (ci := 0) C (fun ad => [(1, .int (nI 7)), (0, .ref (ad 9))]) (fun ad => [.int (nI 7), .ref (ad 10)]) (fun ad9 he9 => by refine ⟨?_, ?_⟩ <;> (first | rfl | simp only [he9 10 (by omega), he9 9 (by omega)])) inW_X0 tyX0 tyX0_ok (gW_of tm_1_71) (gW_of tm_1_73) (gW_of tm_1_5) rfl (by decide +kernel) (by show _ ≤ _; simp) (by show _ ≤ _; simp) dX1_init_26 rfl (fun ad M176 he_176 g_176 hm_176 C => ?_)
  have hI := C.2.2.1
  have f9_177 : M176 9 = .inr (1, [.ref (ad 10), .null, .int (0), .int (0), .int (0)]) := ((hm_176 9 (by omega)).trans f9_167).trans (by rw [he_176 10 (by omega)])
  have f10_178 : M176 10 = .inl (cy 4, 8, .inr (.inr (.inr (.inr (va_up (va_up (va_up (va_up (va_up (va_up (va_up (fun _ => none) 0 (some (ad 11))) 1 (some (ad 14))) 2 (some (ad 17))) 3 (some (ad 20))) 4 (some (ad 23))) 5 (some (ad 26))) 6 (some (ad 29))))))) := ((hm_176 10 (by omega)).trans g_165).trans (by rw [he_176 11 (by omega), he_176 14 (by omega), he_176 17 (by omega), he_176 20 (by omega), he_176 23 (by omega), he_176 26 (by omega), he_176 29 (by omega)])
  have xa11_179 := xa11_168.ex he_176 (by omega) (fun k9 hk9 => by simp only [List.mem_cons, List.not_mem_nil, or_false] at hk9; exact hm_176 k9 (by omega)) (n' := 33)
  have xa14_180 := xa14_169.ex he_176 (by omega) (fun k9 hk9 => by simp only [List.mem_cons, List.not_mem_nil, or_false] at hk9; exact hm_176 k9 (by omega)) (n' := 33)
  have xa17_181 := xa17_170.ex he_176 (by omega) (fun k9 hk9 => by simp only [List.mem_cons, List.not_mem_nil, or_false] at hk9; exact hm_176 k9 (by omega)) (n' := 33)
  have xa20_182 := xa20_171.ex he_176 (by omega) (fun k9 hk9 => by simp only [List.mem_cons, List.not_mem_nil, or_false] at hk9; exact hm_176 k9 (by omega)) (n' := 33)
  have xa23_183 := xa23_172.ex he_176 (by omega) (fun k9 hk9 => by simp only [List.mem_cons, List.not_mem_nil, or_false] at hk9; exact hm_176 k9 (by omega)) (n' := 33)
  have xa26_184 := xa26_173.ex he_176 (by omega) (fun k9 hk9 => by simp only [List.mem_cons, List.not_mem_nil, or_false] at hk9; exact hm_176 k9 (by omega)) (n' := 33)
  have xa29_185 := xa29_174.ex he_176 (by omega) (fun k9 hk9 => by simp only [List.mem_cons, List.not_mem_nil, or_false] at hk9; exact hm_176 k9 (by omega)) (n' := 33)
  have kp_186 := kp_175.nw hm_176 (by omega)
  have ex_187 := ex_164.tr he_176 (by omega)
  refine m_dup (pc' := 30) C dX1_init_29 rfl rfl ?_
  refine m_callI (pc' := 33) (As := []) (b := 32) C hao9 (kX0_init hI (o := 32) g_176) (fun ad => [(1, .int (nI 7)), (0, .ref (ad 9))]) (fun ad => [.ref (ad 32), .int (nI 7), .ref (ad 10)]) (fun ad9 he9 => by refine ⟨?_, ?_⟩ <;> (first | rfl | simp only [he9 10 (by omega), he9 32 (by omega), he9 9 (by omega)])) (cwI 0 C.1.2.2.2.2 (goodN tm_1_76) rfl rfl rfl (C.1.2.2.2.2 _ (gW_of tm_1_5)) (C.1.2.2.2.2 _ (gW_of tm_1_74)) (C.1.2.2.2.2 _ (gW_of tm_1_75)) rfl (by decide +kernel) ⟨by decide, by decide⟩) rfl rfl (Nat.le_of_ble_eq_true rfl) dX1_init_30 rfl ⟨by show _ ≤ _; simp, by show _ ≤ _; simp⟩ (fun ad M188 he_188 q_188 C => ?_)
  obtain ⟨ag_188, kq_188⟩ := q_188
  have hI := C.2.2.1
  have f9_189 : M188 9 = .inr (1, [.ref (ad 10), .null, .int (0), .int (0), .int (0)]) := ((kq_188 9 (by omega) (by simp <;> omega)).trans f9_177).trans (by rw [he_188 10 (by omega)])
  have f10_190 : M188 10 = .inl (cy 4, 8, .inr (.inr (.inr (.inr (va_up (va_up (va_up (va_up (va_up (va_up (va_up (fun _ => none) 0 (some (ad 11))) 1 (some (ad 14))) 2 (some (ad 17))) 3 (some (ad 20))) 4 (some (ad 23))) 5 (some (ad 26))) 6 (some (ad 29))))))) := ((kq_188 10 (by omega) (by simp <;> omega)).trans f10_178).trans (by rw [he_188 11 (by omega), he_188 14 (by omega), he_188 17 (by omega), he_188 20 (by omega), he_188 23 (by omega), he_188 26 (by omega), he_188 29 (by omega)])
  have xa11_191 := xa11_179.ex he_188 (by omega) (fun k9 hk9 => by simp only [List.mem_cons, List.not_mem_nil, or_false] at hk9; exact kq_188 k9 (by omega) (by simp <;> omega)) (n' := 35)
  have xa14_192 := xa14_180.ex he_188 (by omega) (fun k9 hk9 => by simp only [List.mem_cons, List.not_mem_nil, or_false] at hk9; exact kq_188 k9 (by omega) (by simp <;> omega)) (n' := 35)
  have xa17_193 := xa17_181.ex he_188 (by omega) (fun k9 hk9 => by simp only [List.mem_cons, List.not_mem_nil, or_false] at hk9; exact kq_188 k9 (by omega) (by simp <;> omega)) (n' := 35)
  have xa20_194 := xa20_182.ex he_188 (by omega) (fun k9 hk9 => by simp only [List.mem_cons, List.not_mem_nil, or_false] at hk9; exact kq_188 k9 (by omega) (by simp <;> omega)) (n' := 35)
  have xa23_195 := xa23_183.ex he_188 (by omega) (fun k9 hk9 => by simp only [List.mem_cons, List.not_mem_nil, or_false] at hk9; exact kq_188 k9 (by omega) (by simp <;> omega)) (n' := 35)
  have xa26_196 := xa26_184.ex he_188 (by omega) (fun k9 hk9 => by simp only [List.mem_cons, List.not_mem_nil, or_false] at hk9; exact kq_188 k9 (by omega) (by simp <;> omega)) (n' := 35)
  have xa29_197 := xa29_185.ex he_188 (by omega) (fun k9 hk9 => by simp only [List.mem_cons, List.not_mem_nil, or_false] at hk9; exact kq_188 k9 (by omega) (by simp <;> omega)) (n' := 35)
  have kp_198 := kp_186.kp kq_188 (by omega) (by simp <;> omega)
  have ex_199 := ex_187.tr he_188 (by omega)
  obtain ⟨fs_201, hfs_201⟩ := ag_188.obj
  refine m_aast (pc' := 34) (E' := .inl (cy 4, 8, .inr (.inr (.inr (.inr (va_up (va_up (va_up (va_up (va_up (va_up (va_up (va_up (fun _ => none) 0 (some (ad 11))) 1 (some (ad 14))) 2 (some (ad 17))) 3 (some (ad 20))) 4 (some (ad 23))) 5 (some (ad 26))) 6 (some (ad 29))) 7 (some (ad 32)))))))) C 10 32 (by omega) (by omega) f10_190 hfs_201 (vp_in_nI (by decide) (by decide)) (by rfl) dX1_init_33 rfl (fun M200 g_200 F_200 => ?_)
  refine m_iinc (pc' := 37) (v := nI 8) (lv' := [(1, .int (nI 8)), (0, .ref (ad 9))]) C dX1_init_34 (k := 0) rfl (by decide) (by decide) rfl rfl ?_
  refine m_goto (tgt := 15) C dX1_init_37 (by decide) ?_
  refine m_iload_n (pc' := 16) C dX1_init_15 rfl 0 rfl rfl ?_
  refine m_bipush (pc' := 18) (v := nI 8) C dX1_init_16 (by decide) rfl ?_
  refine m_icmp_ge (pc' := 21) (tgt := 40) C dX1_init_18 (by decide) rfl (fun c9 => ?_) (fun c9 => ?_)
  rotate_left
  · exact absurd (by decide) c9
  refine m_aload_n (pc' := 41) C dX1_init_40 rfl 1 rfl rfl ?_
  have f9_202 : M200 9 = .inr (1, [.ref (ad 10), .null, .int (0), .int (0), .int (0)]) := (F_200 9 (by simp <;> omega)).trans f9_189
  have xa11_203 := xa11_191.fr F_200 (by simp <;> omega) (by simp <;> omega) (by simp <;> omega)
  have xa14_204 := xa14_192.fr F_200 (by simp <;> omega) (by simp <;> omega) (by simp <;> omega)
  have xa17_205 := xa17_193.fr F_200 (by simp <;> omega) (by simp <;> omega) (by simp <;> omega)
  have xa20_206 := xa20_194.fr F_200 (by simp <;> omega) (by simp <;> omega) (by simp <;> omega)
  have xa23_207 := xa23_195.fr F_200 (by simp <;> omega) (by simp <;> omega) (by simp <;> omega)
  have xa26_208 := xa26_196.fr F_200 (by simp <;> omega) (by simp <;> omega) (by simp <;> omega)
  have xa29_209 := xa29_197.fr F_200 (by simp <;> omega) (by simp <;> omega) (by simp <;> omega)
  have xa32_210 := ag_188.fr F_200 (by simp <;> omega) (by simp <;> omega) (by simp <;> omega)
  have kp_211 := kp_198.fr F_200 (by simp <;> omega)
  refine m_new (pc' := 44) (fs := [.long (0), .int (0)]) (ci := 5) C (fun ad => [(1, .int (nI 8)), (0, .ref (ad 9))]) (fun ad => [.ref (ad 9)]) (fun ad9 he9 => by refine ⟨?_, ?_⟩ <;> (first | rfl | simp only [he9 9 (by omega)])) inW_X5 tyX5 tyX5_ok (gW_of tm_1_96) (gW_of tm_1_97) (gW_of tm_1_6) rfl (by decide +kernel) (by show _ ≤ _; simp) (by show _ ≤ _; simp) dX1_init_41 rfl (fun ad M212 he_212 g_212 hm_212 C => ?_)
  have hI := C.2.2.1
  have f9_213 : M212 9 = .inr (1, [.ref (ad 10), .null, .int (0), .int (0), .int (0)]) := ((hm_212 9 (by omega)).trans f9_202).trans (by rw [he_212 10 (by omega)])
  have f10_214 : M212 10 = .inl (cy 4, 8, .inr (.inr (.inr (.inr (va_up (va_up (va_up (va_up (va_up (va_up (va_up (va_up (fun _ => none) 0 (some (ad 11))) 1 (some (ad 14))) 2 (some (ad 17))) 3 (some (ad 20))) 4 (some (ad 23))) 5 (some (ad 26))) 6 (some (ad 29))) 7 (some (ad 32))))))) := ((hm_212 10 (by omega)).trans g_200).trans (by rw [he_212 11 (by omega), he_212 14 (by omega), he_212 17 (by omega), he_212 20 (by omega), he_212 23 (by omega), he_212 26 (by omega), he_212 29 (by omega), he_212 32 (by omega)])
  have xa11_215 := xa11_203.ex he_212 (by omega) (fun k9 hk9 => by simp only [List.mem_cons, List.not_mem_nil, or_false] at hk9; exact hm_212 k9 (by omega)) (n' := 36)
  have xa14_216 := xa14_204.ex he_212 (by omega) (fun k9 hk9 => by simp only [List.mem_cons, List.not_mem_nil, or_false] at hk9; exact hm_212 k9 (by omega)) (n' := 36)
  have xa17_217 := xa17_205.ex he_212 (by omega) (fun k9 hk9 => by simp only [List.mem_cons, List.not_mem_nil, or_false] at hk9; exact hm_212 k9 (by omega)) (n' := 36)
  have xa20_218 := xa20_206.ex he_212 (by omega) (fun k9 hk9 => by simp only [List.mem_cons, List.not_mem_nil, or_false] at hk9; exact hm_212 k9 (by omega)) (n' := 36)
  have xa23_219 := xa23_207.ex he_212 (by omega) (fun k9 hk9 => by simp only [List.mem_cons, List.not_mem_nil, or_false] at hk9; exact hm_212 k9 (by omega)) (n' := 36)
  have xa26_220 := xa26_208.ex he_212 (by omega) (fun k9 hk9 => by simp only [List.mem_cons, List.not_mem_nil, or_false] at hk9; exact hm_212 k9 (by omega)) (n' := 36)
  have xa29_221 := xa29_209.ex he_212 (by omega) (fun k9 hk9 => by simp only [List.mem_cons, List.not_mem_nil, or_false] at hk9; exact hm_212 k9 (by omega)) (n' := 36)
  have xa32_222 := xa32_210.ex he_212 (by omega) (fun k9 hk9 => by simp only [List.mem_cons, List.not_mem_nil, or_false] at hk9; exact hm_212 k9 (by omega)) (n' := 36)
  have kp_223 := kp_211.nw hm_212 (by omega)
  have ex_224 := ex_199.tr he_212 (by omega)
  refine m_dup (pc' := 45) C dX1_init_44 rfl rfl ?_
  refine m_callI (pc' := 48) (As := []) (b := 35) C hao9 (kX5_init hI (o := 35) (by omega) g_212) (fun ad => [(1, .int (nI 8)), (0, .ref (ad 9))]) (fun ad => [.ref (ad 35), .ref (ad 9)]) (fun ad9 he9 => by refine ⟨?_, ?_⟩ <;> (first | rfl | simp only [he9 35 (by omega), he9 9 (by omega)])) (cwI 0 C.1.2.2.2.2 (goodN tm_1_100) rfl rfl rfl (C.1.2.2.2.2 _ (gW_of tm_1_6)) (C.1.2.2.2.2 _ (gW_of tm_1_98)) (C.1.2.2.2.2 _ (gW_of tm_1_99)) rfl (by decide +kernel) ⟨by decide, by decide⟩) rfl rfl (Nat.le_of_ble_eq_true rfl) dX1_init_45 rfl ⟨by show _ ≤ _; simp, by show _ ≤ _; simp⟩ (fun ad M225 he_225 q_225 C => ?_)
  obtain ⟨ob_225, kq_225⟩ := q_225
  have hI := C.2.2.1
  have f9_226 : M225 9 = .inr (1, [.ref (ad 10), .null, .int (0), .int (0), .int (0)]) := ((kq_225 9 (by omega) (by simp <;> omega)).trans f9_213).trans (by rw [he_225 10 (by omega)])
  have f10_227 : M225 10 = .inl (cy 4, 8, .inr (.inr (.inr (.inr (va_up (va_up (va_up (va_up (va_up (va_up (va_up (va_up (fun _ => none) 0 (some (ad 11))) 1 (some (ad 14))) 2 (some (ad 17))) 3 (some (ad 20))) 4 (some (ad 23))) 5 (some (ad 26))) 6 (some (ad 29))) 7 (some (ad 32))))))) := ((kq_225 10 (by omega) (by simp <;> omega)).trans f10_214).trans (by rw [he_225 11 (by omega), he_225 14 (by omega), he_225 17 (by omega), he_225 20 (by omega), he_225 23 (by omega), he_225 26 (by omega), he_225 29 (by omega), he_225 32 (by omega)])
  have xa11_228 := xa11_215.ex he_225 (by omega) (fun k9 hk9 => by simp only [List.mem_cons, List.not_mem_nil, or_false] at hk9; exact kq_225 k9 (by omega) (by simp <;> omega)) (n' := 36)
  have xa14_229 := xa14_216.ex he_225 (by omega) (fun k9 hk9 => by simp only [List.mem_cons, List.not_mem_nil, or_false] at hk9; exact kq_225 k9 (by omega) (by simp <;> omega)) (n' := 36)
  have xa17_230 := xa17_217.ex he_225 (by omega) (fun k9 hk9 => by simp only [List.mem_cons, List.not_mem_nil, or_false] at hk9; exact kq_225 k9 (by omega) (by simp <;> omega)) (n' := 36)
  have xa20_231 := xa20_218.ex he_225 (by omega) (fun k9 hk9 => by simp only [List.mem_cons, List.not_mem_nil, or_false] at hk9; exact kq_225 k9 (by omega) (by simp <;> omega)) (n' := 36)
  have xa23_232 := xa23_219.ex he_225 (by omega) (fun k9 hk9 => by simp only [List.mem_cons, List.not_mem_nil, or_false] at hk9; exact kq_225 k9 (by omega) (by simp <;> omega)) (n' := 36)
  have xa26_233 := xa26_220.ex he_225 (by omega) (fun k9 hk9 => by simp only [List.mem_cons, List.not_mem_nil, or_false] at hk9; exact kq_225 k9 (by omega) (by simp <;> omega)) (n' := 36)
  have xa29_234 := xa29_221.ex he_225 (by omega) (fun k9 hk9 => by simp only [List.mem_cons, List.not_mem_nil, or_false] at hk9; exact kq_225 k9 (by omega) (by simp <;> omega)) (n' := 36)
  have xa32_235 := xa32_222.ex he_225 (by omega) (fun k9 hk9 => by simp only [List.mem_cons, List.not_mem_nil, or_false] at hk9; exact kq_225 k9 (by omega) (by simp <;> omega)) (n' := 36)
  have kp_236 := kp_223.kp kq_225 (by omega) (by simp <;> omega)
  have ex_237 := ex_224.tr he_225 (by omega)
  refine m_putF (pc' := 51) (ty := (.object "FormatDump$NumberReading")) (fs' := [.ref (ad 10), .ref (ad 35), .int (0), .int (0), .int (0)]) C 9 (by omega) f9_226 rfl inW_X1 tyX1 tyX1_ok nmX1 1 (by decide) (gW_of tm_1_110) rfl rfl hnm9 rfl (by decide +kernel) rfl rfl (by simp) rfl dX1_init_48 rfl (fun M238 g_238 F_238 => ?_)
  refine m_aload_n (pc' := 52) C dX1_init_51 rfl 1 rfl rfl ?_
  refine m_iconst (pc' := 53) (v := nI 0) C dX1_init_52 (by decide) rfl ?_
  refine m_put (pc' := 56) (ty := .int) (fs' := [.ref (ad 10), .ref (ad 35), .int (nI 0), .int (0), .int (0)]) C 9 (by omega) g_238 rfl inW_X1 tyX1 tyX1_ok nmX1 2 (by decide) (gW_of tm_1_111) rfl rfl (by decide +kernel) rfl rfl (by simp) rfl dX1_init_53 rfl (fun M239 g_239 F_239 => ?_)
  refine m_aload_n (pc' := 57) C dX1_init_56 rfl 1 rfl rfl ?_
  refine m_iconst (pc' := 58) (v := nI 0) C dX1_init_57 (by decide) rfl ?_
  refine m_put (pc' := 61) (ty := .int) (fs' := [.ref (ad 10), .ref (ad 35), .int (nI 0), .int (nI 0), .int (0)]) C 9 (by omega) g_239 rfl inW_X1 tyX1 tyX1_ok nmX1 3 (by decide) (gW_of tm_1_112) rfl rfl (by decide +kernel) rfl rfl (by simp) rfl dX1_init_58 rfl (fun M240 g_240 F_240 => ?_)
  refine m_aload_n (pc' := 62) C dX1_init_61 rfl 1 rfl rfl ?_
  refine m_iconst (pc' := 63) (v := nI 0) C dX1_init_62 (by decide) rfl ?_
  refine m_put (pc' := 66) (ty := .int) (fs' := [.ref (ad 10), .ref (ad 35), .int (nI 0), .int (nI 0), .int (nI 0)]) C 9 (by omega) g_240 rfl inW_X1 tyX1 tyX1_ok nmX1 4 (by decide) (gW_of tm_1_113) rfl rfl (by decide +kernel) rfl rfl (by simp) rfl dX1_init_63 rfl (fun M241 g_241 F_241 => ?_)
  have f10_242 : M238 10 = .inl (cy 4, 8, .inr (.inr (.inr (.inr (va_up (va_up (va_up (va_up (va_up (va_up (va_up (va_up (fun _ => none) 0 (some (ad 11))) 1 (some (ad 14))) 2 (some (ad 17))) 3 (some (ad 20))) 4 (some (ad 23))) 5 (some (ad 26))) 6 (some (ad 29))) 7 (some (ad 32))))))) := (F_238 10 (by simp <;> omega)).trans f10_227
  have f10_243 : M239 10 = .inl (cy 4, 8, .inr (.inr (.inr (.inr (va_up (va_up (va_up (va_up (va_up (va_up (va_up (va_up (fun _ => none) 0 (some (ad 11))) 1 (some (ad 14))) 2 (some (ad 17))) 3 (some (ad 20))) 4 (some (ad 23))) 5 (some (ad 26))) 6 (some (ad 29))) 7 (some (ad 32))))))) := (F_239 10 (by simp <;> omega)).trans f10_242
  have f10_244 : M240 10 = .inl (cy 4, 8, .inr (.inr (.inr (.inr (va_up (va_up (va_up (va_up (va_up (va_up (va_up (va_up (fun _ => none) 0 (some (ad 11))) 1 (some (ad 14))) 2 (some (ad 17))) 3 (some (ad 20))) 4 (some (ad 23))) 5 (some (ad 26))) 6 (some (ad 29))) 7 (some (ad 32))))))) := (F_240 10 (by simp <;> omega)).trans f10_243
  have f10_245 : M241 10 = .inl (cy 4, 8, .inr (.inr (.inr (.inr (va_up (va_up (va_up (va_up (va_up (va_up (va_up (va_up (fun _ => none) 0 (some (ad 11))) 1 (some (ad 14))) 2 (some (ad 17))) 3 (some (ad 20))) 4 (some (ad 23))) 5 (some (ad 26))) 6 (some (ad 29))) 7 (some (ad 32))))))) := (F_241 10 (by simp <;> omega)).trans f10_244
  have f35_246 : M238 35 = .inr (5, [.long (0), .int (bI false)]) := (F_238 35 (by simp <;> omega)).trans ob_225
  have f35_247 : M239 35 = .inr (5, [.long (0), .int (bI false)]) := (F_239 35 (by simp <;> omega)).trans f35_246
  have f35_248 : M240 35 = .inr (5, [.long (0), .int (bI false)]) := (F_240 35 (by simp <;> omega)).trans f35_247
  have f35_249 : M241 35 = .inr (5, [.long (0), .int (bI false)]) := (F_241 35 (by simp <;> omega)).trans f35_248
  have xa11_250 := xa11_228.fr F_238 (by simp <;> omega) (by simp <;> omega) (by simp <;> omega)
  have xa14_251 := xa14_229.fr F_238 (by simp <;> omega) (by simp <;> omega) (by simp <;> omega)
  have xa17_252 := xa17_230.fr F_238 (by simp <;> omega) (by simp <;> omega) (by simp <;> omega)
  have xa20_253 := xa20_231.fr F_238 (by simp <;> omega) (by simp <;> omega) (by simp <;> omega)
  have xa23_254 := xa23_232.fr F_238 (by simp <;> omega) (by simp <;> omega) (by simp <;> omega)
  have xa26_255 := xa26_233.fr F_238 (by simp <;> omega) (by simp <;> omega) (by simp <;> omega)
  have xa29_256 := xa29_234.fr F_238 (by simp <;> omega) (by simp <;> omega) (by simp <;> omega)
  have xa32_257 := xa32_235.fr F_238 (by simp <;> omega) (by simp <;> omega) (by simp <;> omega)
  have kp_258 := kp_236.fr F_238 (by simp <;> omega)
  have xa11_259 := xa11_250.fr F_239 (by simp <;> omega) (by simp <;> omega) (by simp <;> omega)
  have xa14_260 := xa14_251.fr F_239 (by simp <;> omega) (by simp <;> omega) (by simp <;> omega)
  have xa17_261 := xa17_252.fr F_239 (by simp <;> omega) (by simp <;> omega) (by simp <;> omega)
  have xa20_262 := xa20_253.fr F_239 (by simp <;> omega) (by simp <;> omega) (by simp <;> omega)
  have xa23_263 := xa23_254.fr F_239 (by simp <;> omega) (by simp <;> omega) (by simp <;> omega)
  have xa26_264 := xa26_255.fr F_239 (by simp <;> omega) (by simp <;> omega) (by simp <;> omega)
  have xa29_265 := xa29_256.fr F_239 (by simp <;> omega) (by simp <;> omega) (by simp <;> omega)
  have xa32_266 := xa32_257.fr F_239 (by simp <;> omega) (by simp <;> omega) (by simp <;> omega)
  have kp_267 := kp_258.fr F_239 (by simp <;> omega)
  have xa11_268 := xa11_259.fr F_240 (by simp <;> omega) (by simp <;> omega) (by simp <;> omega)
  have xa14_269 := xa14_260.fr F_240 (by simp <;> omega) (by simp <;> omega) (by simp <;> omega)
  have xa17_270 := xa17_261.fr F_240 (by simp <;> omega) (by simp <;> omega) (by simp <;> omega)
  have xa20_271 := xa20_262.fr F_240 (by simp <;> omega) (by simp <;> omega) (by simp <;> omega)
  have xa23_272 := xa23_263.fr F_240 (by simp <;> omega) (by simp <;> omega) (by simp <;> omega)
  have xa26_273 := xa26_264.fr F_240 (by simp <;> omega) (by simp <;> omega) (by simp <;> omega)
  have xa29_274 := xa29_265.fr F_240 (by simp <;> omega) (by simp <;> omega) (by simp <;> omega)
  have xa32_275 := xa32_266.fr F_240 (by simp <;> omega) (by simp <;> omega) (by simp <;> omega)
  have kp_276 := kp_267.fr F_240 (by simp <;> omega)
  have xa11_277 := xa11_268.fr F_241 (by simp <;> omega) (by simp <;> omega) (by simp <;> omega)
  have xa14_278 := xa14_269.fr F_241 (by simp <;> omega) (by simp <;> omega) (by simp <;> omega)
  have xa17_279 := xa17_270.fr F_241 (by simp <;> omega) (by simp <;> omega) (by simp <;> omega)
  have xa20_280 := xa20_271.fr F_241 (by simp <;> omega) (by simp <;> omega) (by simp <;> omega)
  have xa23_281 := xa23_272.fr F_241 (by simp <;> omega) (by simp <;> omega) (by simp <;> omega)
  have xa26_282 := xa26_273.fr F_241 (by simp <;> omega) (by simp <;> omega) (by simp <;> omega)
  have xa29_283 := xa29_274.fr F_241 (by simp <;> omega) (by simp <;> omega) (by simp <;> omega)
  have xa32_284 := xa32_275.fr F_241 (by simp <;> omega) (by simp <;> omega) (by simp <;> omega)
  have kp_285 := kp_276.fr F_241 (by simp <;> omega)
  exact m_vretN C hrt0 hlk0 dX1_init_66 ex_237 (by rfl) (by first | rfl | omega) (fun _ _ => rfl) ⟨⟨by decide, by decide, by decide, by decide, g_241, ⟨(va_up (va_up (va_up (va_up (va_up (va_up (va_up (va_up (fun _ => none) 0 (some (ad 11))) 1 (some (ad 14))) 2 (some (ad 17))) 3 (some (ad 20))) 4 (some (ad 23))) 5 (some (ad 26))) 6 (some (ad 29))) 7 (some (ad 32))), f10_245, args_f⟩, args_a xa11_277 xa14_278 xa17_279 xa20_280 xa23_281 xa26_282 xa29_283 xa32_284, ⟨0, false, f35_249⟩⟩, kp_285⟩
set_option maxHeartbeats 4000000 in
set_option maxRecDepth 100000 in
theorem kX8_init {l : Launch} {D : va_G} {cy : Nat → ClassId} {ad : Nat → Nat}  {A : Nat → Prop} (hI : mI ad 37 A) {M : Nat → va_E} (hr0 : M 36 = .inr (8, [.null, .null, .null, .null, .null, .null, .null, .int (0)])) : mCt l yX8_init (gW yX8_init cX8_init 4 none) { frames := 2, cells := 6, slots := 182, locals := 41 } D cy ad 37 43 A [.ref (ad 36), .ref (ad 5), .ref (ad 9), .ref (ad 1)] M 6 182 (fun ad' M' => M' 36 = .inr (8, [.ref (ad' 5), .ref (ad' 9), .ref (ad' 1), .ref (ad' 37), .ref (ad' 38), .ref (ad' 39), .ref (ad' 41), .int (bI false)]) ∧ M' 37 = .inr (3, [.int (nI 0), .int (nI 0)]) ∧ M' 38 = .inr (2, [.int (bI false), .int (bI false), .int (bI false), .int (bI false), .int (bI false), .int (bI false), .int (bI false), .int (nI 0), .int ((-1)), .int (nI 32), .int ((-1)), .int (nI 0)]) ∧ isRow cy ad' 43 M' 39 40 80 80 [] ∧ isRow cy ad' 43 M' 41 42 80 80 [] ∧ Kp 37 [36] M M') := by
  have hEx0 : Ex (37) ad ad := Ex.rf
  have hKp0 : Kp (37) [36] M M := Kp.rf
  refine m_entryN (cc := cX8_init) (maxL := 4) (ret := none) (own := RX8) (lv := [(0, .ref (ad 36)), (1, .ref (ad 5)), (2, .ref (ad 9)), (3, .ref (ad 1))]) hI (by decide) rfl rfl rfl (Nat.le_of_ble_eq_true rfl) rfl (fun pX eX sX mX aX bX tX cX C hrt0 hlk0 hnm9 hao9 => ?_)
  refine m_aload_n (pc' := 1) C dX8_init_0 rfl 0 rfl rfl ?_
  refine m_objI (pc' := 4) C (gW_of tm_1_130) (gW_of tm_1_27) (gW_of tm_1_28) dX8_init_1 rfl (Nat.le_of_ble_eq_true rfl) (Nat.le_of_ble_eq_true rfl) (Nat.le_of_ble_eq_true rfl) ?_
  refine m_aload_n (pc' := 5) C dX8_init_4 rfl 0 rfl rfl ?_
  refine m_aload_n (pc' := 6) C dX8_init_5 rfl 1 rfl rfl ?_
  refine m_putF (pc' := 9) (ty := (.object "FormatDump$Row")) (fs' := [.ref (ad 5), .null, .null, .null, .null, .null, .null, .int (0)]) C 36 (by omega) hr0 rfl inW_X8 tyX8 tyX8_ok nmX8 0 (by decide) (gW_of tm_1_204) rfl rfl hnm9 rfl (by decide +kernel) rfl rfl (by simp) rfl dX8_init_6 rfl (fun M1 g_1 F_1 => ?_)
  refine m_aload_n (pc' := 10) C dX8_init_9 rfl 0 rfl rfl ?_
  refine m_aload_n (pc' := 11) C dX8_init_10 rfl 2 rfl rfl ?_
  refine m_putF (pc' := 14) (ty := (.object "FormatDump$Arguments")) (fs' := [.ref (ad 5), .ref (ad 9), .null, .null, .null, .null, .null, .int (0)]) C 36 (by omega) g_1 rfl inW_X8 tyX8 tyX8_ok nmX8 1 (by decide) (gW_of tm_1_205) rfl rfl hnm9 rfl (by decide +kernel) rfl rfl (by simp) rfl dX8_init_11 rfl (fun M2 g_2 F_2 => ?_)
  refine m_aload_n (pc' := 15) C dX8_init_14 rfl 0 rfl rfl ?_
  refine m_aload_n (pc' := 16) C dX8_init_15 rfl 3 rfl rfl ?_
  refine m_putF (pc' := 19) (ty := (.object "FormatDump$Figures")) (fs' := [.ref (ad 5), .ref (ad 9), .ref (ad 1), .null, .null, .null, .null, .int (0)]) C 36 (by omega) g_2 rfl inW_X8 tyX8 tyX8_ok nmX8 2 (by decide) (gW_of tm_1_206) rfl rfl hnm9 rfl (by decide +kernel) rfl rfl (by simp) rfl dX8_init_16 rfl (fun M3 g_3 F_3 => ?_)
  refine m_aload_n (pc' := 20) C dX8_init_19 rfl 0 rfl rfl ?_
  have kp_4 := hKp0.fr F_1 (by simp <;> omega)
  have kp_5 := kp_4.fr F_2 (by simp <;> omega)
  have kp_6 := kp_5.fr F_3 (by simp <;> omega)
  refine m_new (pc' := 23) (fs := [.int (0), .int (0)]) (ci := 3) C (fun ad => [(0, .ref (ad 36)), (1, .ref (ad 5)), (2, .ref (ad 9)), (3, .ref (ad 1))]) (fun ad => [.ref (ad 36)]) (fun ad9 he9 => by refine ⟨?_, ?_⟩ <;> (first | rfl | simp only [he9 1 (by omega), he9 36 (by omega), he9 5 (by omega), he9 9 (by omega)])) inW_X3 tyX3 tyX3_ok (gW_of tm_1_131) (gW_of tm_1_132) (gW_of tm_1_8) rfl (by decide +kernel) (by show _ ≤ _; simp) (by show _ ≤ _; simp) dX8_init_20 rfl (fun ad M7 he_7 g_7 hm_7 C => ?_)
  have hI := C.2.2.1
  have f36_8 : M7 36 = .inr (8, [.ref (ad 5), .ref (ad 9), .ref (ad 1), .null, .null, .null, .null, .int (0)]) := ((hm_7 36 (by omega)).trans g_3).trans (by rw [he_7 5 (by omega), he_7 9 (by omega), he_7 1 (by omega)])
  have kp_9 := kp_6.nw hm_7 (by omega)
  have ex_10 := hEx0.tr he_7 (by omega)
  refine m_dup (pc' := 24) C dX8_init_23 rfl rfl ?_
  refine m_callI (pc' := 27) (As := []) (b := 37) C hao9 (kX3_init hI (o := 37) (by omega) g_7) (fun ad => [(0, .ref (ad 36)), (1, .ref (ad 5)), (2, .ref (ad 9)), (3, .ref (ad 1))]) (fun ad => [.ref (ad 37), .ref (ad 36)]) (fun ad9 he9 => by refine ⟨?_, ?_⟩ <;> (first | rfl | simp only [he9 1 (by omega), he9 36 (by omega), he9 37 (by omega), he9 5 (by omega), he9 9 (by omega)])) (cwI 0 C.1.2.2.2.2 (goodN tm_1_135) rfl rfl rfl (C.1.2.2.2.2 _ (gW_of tm_1_8)) (C.1.2.2.2.2 _ (gW_of tm_1_133)) (C.1.2.2.2.2 _ (gW_of tm_1_134)) rfl (by decide +kernel) ⟨by decide, by decide⟩) rfl rfl (Nat.le_of_ble_eq_true rfl) dX8_init_24 rfl ⟨by show _ ≤ _; simp, by show _ ≤ _; simp⟩ (fun ad M11 he_11 q_11 C => ?_)
  obtain ⟨ob_11, kq_11⟩ := q_11
  have hI := C.2.2.1
  have f36_12 : M11 36 = .inr (8, [.ref (ad 5), .ref (ad 9), .ref (ad 1), .null, .null, .null, .null, .int (0)]) := ((kq_11 36 (by omega) (by simp <;> omega)).trans f36_8).trans (by rw [he_11 5 (by omega), he_11 9 (by omega), he_11 1 (by omega)])
  have kp_13 := kp_9.kp kq_11 (by omega) (by simp <;> omega)
  have ex_14 := ex_10.tr he_11 (by omega)
  refine m_putF (pc' := 30) (ty := (.object "FormatDump$Escape")) (fs' := [.ref (ad 5), .ref (ad 9), .ref (ad 1), .ref (ad 37), .null, .null, .null, .int (0)]) C 36 (by omega) f36_12 rfl inW_X8 tyX8 tyX8_ok nmX8 3 (by decide) (gW_of tm_1_207) rfl rfl hnm9 rfl (by decide +kernel) rfl rfl (by simp) rfl dX8_init_27 rfl (fun M15 g_15 F_15 => ?_)
  refine m_aload_n (pc' := 31) C dX8_init_30 rfl 0 rfl rfl ?_
  have f37_16 : M15 37 = .inr (3, [.int (nI 0), .int (nI 0)]) := (F_15 37 (by simp <;> omega)).trans ob_11
  have kp_17 := kp_13.fr F_15 (by simp <;> omega)
  refine m_new (pc' := 34) (fs := [.int (0), .int (0), .int (0), .int (0), .int (0), .int (0), .int (0), .int (0), .int (0), .int (0), .int (0), .int (0)]) (ci := 2) C (fun ad => [(0, .ref (ad 36)), (1, .ref (ad 5)), (2, .ref (ad 9)), (3, .ref (ad 1))]) (fun ad => [.ref (ad 36)]) (fun ad9 he9 => by refine ⟨?_, ?_⟩ <;> (first | rfl | simp only [he9 1 (by omega), he9 36 (by omega), he9 5 (by omega), he9 9 (by omega)])) inW_X2 tyX2 tyX2_ok (gW_of tm_1_144) (gW_of tm_1_145) (gW_of tm_1_9) rfl (by decide +kernel) (by show _ ≤ _; simp) (by show _ ≤ _; simp) dX8_init_31 rfl (fun ad M18 he_18 g_18 hm_18 C => ?_)
  have hI := C.2.2.1
  have f36_19 : M18 36 = .inr (8, [.ref (ad 5), .ref (ad 9), .ref (ad 1), .ref (ad 37), .null, .null, .null, .int (0)]) := ((hm_18 36 (by omega)).trans g_15).trans (by rw [he_18 5 (by omega), he_18 9 (by omega), he_18 1 (by omega), he_18 37 (by omega)])
  have f37_20 : M18 37 = .inr (3, [.int (nI 0), .int (nI 0)]) := (hm_18 37 (by omega)).trans f37_16
  have kp_21 := kp_17.nw hm_18 (by omega)
  have ex_22 := ex_14.tr he_18 (by omega)
  refine m_dup (pc' := 35) C dX8_init_34 rfl rfl ?_
  refine m_callI (pc' := 38) (As := []) (b := 38) C hao9 (kX2_init hI (o := 38) (by omega) g_18) (fun ad => [(0, .ref (ad 36)), (1, .ref (ad 5)), (2, .ref (ad 9)), (3, .ref (ad 1))]) (fun ad => [.ref (ad 38), .ref (ad 36)]) (fun ad9 he9 => by refine ⟨?_, ?_⟩ <;> (first | rfl | simp only [he9 1 (by omega), he9 36 (by omega), he9 38 (by omega), he9 5 (by omega), he9 9 (by omega)])) (cwI 0 C.1.2.2.2.2 (goodN tm_1_148) rfl rfl rfl (C.1.2.2.2.2 _ (gW_of tm_1_9)) (C.1.2.2.2.2 _ (gW_of tm_1_146)) (C.1.2.2.2.2 _ (gW_of tm_1_147)) rfl (by decide +kernel) ⟨by decide, by decide⟩) rfl rfl (Nat.le_of_ble_eq_true rfl) dX8_init_35 rfl ⟨by show _ ≤ _; simp, by show _ ≤ _; simp⟩ (fun ad M23 he_23 q_23 C => ?_)
  obtain ⟨ob_23, kq_23⟩ := q_23
  have hI := C.2.2.1
  have f36_24 : M23 36 = .inr (8, [.ref (ad 5), .ref (ad 9), .ref (ad 1), .ref (ad 37), .null, .null, .null, .int (0)]) := ((kq_23 36 (by omega) (by simp <;> omega)).trans f36_19).trans (by rw [he_23 5 (by omega), he_23 9 (by omega), he_23 1 (by omega), he_23 37 (by omega)])
  have f37_25 : M23 37 = .inr (3, [.int (nI 0), .int (nI 0)]) := (kq_23 37 (by omega) (by simp <;> omega)).trans f37_20
  have kp_26 := kp_21.kp kq_23 (by omega) (by simp <;> omega)
  have ex_27 := ex_22.tr he_23 (by omega)
  refine m_putF (pc' := 41) (ty := (.object "FormatDump$Directive")) (fs' := [.ref (ad 5), .ref (ad 9), .ref (ad 1), .ref (ad 37), .ref (ad 38), .null, .null, .int (0)]) C 36 (by omega) f36_24 rfl inW_X8 tyX8 tyX8_ok nmX8 4 (by decide) (gW_of tm_1_208) rfl rfl hnm9 rfl (by decide +kernel) rfl rfl (by simp) rfl dX8_init_38 rfl (fun M28 g_28 F_28 => ?_)
  refine m_aload_n (pc' := 42) C dX8_init_41 rfl 0 rfl rfl ?_
  have f37_29 : M28 37 = .inr (3, [.int (nI 0), .int (nI 0)]) := (F_28 37 (by simp <;> omega)).trans f37_25
  have f38_30 : M28 38 = .inr (2, [.int (bI false), .int (bI false), .int (bI false), .int (bI false), .int (bI false), .int (bI false), .int (bI false), .int (nI 0), .int ((-1)), .int (nI 32), .int ((-1)), .int (nI 0)]) := (F_28 38 (by simp <;> omega)).trans ob_23
  have kp_31 := kp_26.fr F_28 (by simp <;> omega)
  refine m_new (pc' := 45) (fs := [.null, .int (0), .int (0), .int (0)]) (ci := 9) C (fun ad => [(0, .ref (ad 36)), (1, .ref (ad 5)), (2, .ref (ad 9)), (3, .ref (ad 1))]) (fun ad => [.ref (ad 36)]) (fun ad9 he9 => by refine ⟨?_, ?_⟩ <;> (first | rfl | simp only [he9 1 (by omega), he9 36 (by omega), he9 5 (by omega), he9 9 (by omega)])) inW_X9 tyX9 tyX9_ok (gW_of tm_1_202) (gW_of tm_1_47) (gW_of tm_1_3) rfl (by decide +kernel) (by show _ ≤ _; simp) (by show _ ≤ _; simp) dX8_init_42 rfl (fun ad M32 he_32 g_32 hm_32 C => ?_)
  have hI := C.2.2.1
  have f36_33 : M32 36 = .inr (8, [.ref (ad 5), .ref (ad 9), .ref (ad 1), .ref (ad 37), .ref (ad 38), .null, .null, .int (0)]) := ((hm_32 36 (by omega)).trans g_28).trans (by rw [he_32 5 (by omega), he_32 9 (by omega), he_32 1 (by omega), he_32 37 (by omega), he_32 38 (by omega)])
  have f37_34 : M32 37 = .inr (3, [.int (nI 0), .int (nI 0)]) := (hm_32 37 (by omega)).trans f37_29
  have f38_35 : M32 38 = .inr (2, [.int (bI false), .int (bI false), .int (bI false), .int (bI false), .int (bI false), .int (bI false), .int (bI false), .int (nI 0), .int ((-1)), .int (nI 32), .int ((-1)), .int (nI 0)]) := (hm_32 38 (by omega)).trans f38_30
  have kp_36 := kp_31.nw hm_32 (by omega)
  have ex_37 := ex_27.tr he_32 (by omega)
  refine m_dup (pc' := 46) C dX8_init_45 rfl rfl ?_
  refine m_bipush (pc' := 48) (v := nI 80) C dX8_init_46 (by decide) rfl ?_
  refine m_callI (pc' := 51) (As := [.int (nI 80)]) (b := 39) C hao9 (kX9_init hI (r := 39) (cap := 80) (by omega) g_32 (by decide)) (fun ad => [(0, .ref (ad 36)), (1, .ref (ad 5)), (2, .ref (ad 9)), (3, .ref (ad 1))]) (fun ad => [.ref (ad 39), .ref (ad 36)]) (fun ad9 he9 => by refine ⟨?_, ?_⟩ <;> (first | rfl | simp only [he9 1 (by omega), he9 36 (by omega), he9 39 (by omega), he9 5 (by omega), he9 9 (by omega)])) (cwI 1 C.1.2.2.2.2 (goodN tm_1_50) rfl rfl rfl (C.1.2.2.2.2 _ (gW_of tm_1_3)) (C.1.2.2.2.2 _ (gW_of tm_1_203)) (C.1.2.2.2.2 _ (gW_of tm_1_49)) rfl (by decide +kernel) ⟨by decide, by decide⟩) rfl rfl (Nat.le_of_ble_eq_true rfl) dX8_init_48 rfl ⟨by show _ ≤ _; simp, by show _ ≤ _; simp⟩ (fun ad M38 he_38 q_38 C => ?_)
  obtain ⟨rw_38, kq_38⟩ := q_38
  have hI := C.2.2.1
  have f36_39 : M38 36 = .inr (8, [.ref (ad 5), .ref (ad 9), .ref (ad 1), .ref (ad 37), .ref (ad 38), .null, .null, .int (0)]) := ((kq_38 36 (by omega) (by simp <;> omega)).trans f36_33).trans (by rw [he_38 5 (by omega), he_38 9 (by omega), he_38 1 (by omega), he_38 37 (by omega), he_38 38 (by omega)])
  have f37_40 : M38 37 = .inr (3, [.int (nI 0), .int (nI 0)]) := (kq_38 37 (by omega) (by simp <;> omega)).trans f37_34
  have f38_41 : M38 38 = .inr (2, [.int (bI false), .int (bI false), .int (bI false), .int (bI false), .int (bI false), .int (bI false), .int (bI false), .int (nI 0), .int ((-1)), .int (nI 32), .int ((-1)), .int (nI 0)]) := (kq_38 38 (by omega) (by simp <;> omega)).trans f38_35
  have kp_42 := kp_36.kp kq_38 (by omega) (by simp <;> omega)
  have ex_43 := ex_37.tr he_38 (by omega)
  refine m_putF (pc' := 54) (ty := (.object "FormatDump$Row")) (fs' := [.ref (ad 5), .ref (ad 9), .ref (ad 1), .ref (ad 37), .ref (ad 38), .ref (ad 39), .null, .int (0)]) C 36 (by omega) f36_39 rfl inW_X8 tyX8 tyX8_ok nmX8 5 (by decide) (gW_of tm_1_209) rfl rfl hnm9 rfl (by decide +kernel) rfl rfl (by simp) rfl dX8_init_51 rfl (fun M44 g_44 F_44 => ?_)
  refine m_aload_n (pc' := 55) C dX8_init_54 rfl 0 rfl rfl ?_
  have f37_45 : M44 37 = .inr (3, [.int (nI 0), .int (nI 0)]) := (F_44 37 (by simp <;> omega)).trans f37_40
  have f38_46 : M44 38 = .inr (2, [.int (bI false), .int (bI false), .int (bI false), .int (bI false), .int (bI false), .int (bI false), .int (bI false), .int (nI 0), .int ((-1)), .int (nI 32), .int ((-1)), .int (nI 0)]) := (F_44 38 (by simp <;> omega)).trans f38_41
  have xr39_47 := rw_38.fr F_44 (by simp <;> omega) (by simp <;> omega)
  have kp_48 := kp_42.fr F_44 (by simp <;> omega)
  refine m_new (pc' := 58) (fs := [.null, .int (0), .int (0), .int (0)]) (ci := 9) C (fun ad => [(0, .ref (ad 36)), (1, .ref (ad 5)), (2, .ref (ad 9)), (3, .ref (ad 1))]) (fun ad => [.ref (ad 36)]) (fun ad9 he9 => by refine ⟨?_, ?_⟩ <;> (first | rfl | simp only [he9 1 (by omega), he9 36 (by omega), he9 5 (by omega), he9 9 (by omega)])) inW_X9 tyX9 tyX9_ok (gW_of tm_1_202) (gW_of tm_1_47) (gW_of tm_1_3) rfl (by decide +kernel) (by show _ ≤ _; simp) (by show _ ≤ _; simp) dX8_init_55 rfl (fun ad M49 he_49 g_49 hm_49 C => ?_)
  have hI := C.2.2.1
  have f36_50 : M49 36 = .inr (8, [.ref (ad 5), .ref (ad 9), .ref (ad 1), .ref (ad 37), .ref (ad 38), .ref (ad 39), .null, .int (0)]) := ((hm_49 36 (by omega)).trans g_44).trans (by rw [he_49 5 (by omega), he_49 9 (by omega), he_49 1 (by omega), he_49 37 (by omega), he_49 38 (by omega), he_49 39 (by omega)])
  have f37_51 : M49 37 = .inr (3, [.int (nI 0), .int (nI 0)]) := (hm_49 37 (by omega)).trans f37_45
  have f38_52 : M49 38 = .inr (2, [.int (bI false), .int (bI false), .int (bI false), .int (bI false), .int (bI false), .int (bI false), .int (bI false), .int (nI 0), .int ((-1)), .int (nI 32), .int ((-1)), .int (nI 0)]) := (hm_49 38 (by omega)).trans f38_46
  have xr39_53 := xr39_47.ex he_49 (by omega) (fun k9 hk9 => by simp only [List.mem_cons, List.not_mem_nil, or_false] at hk9; exact hm_49 k9 (by omega)) (n' := 42)
  have kp_54 := kp_48.nw hm_49 (by omega)
  have ex_55 := ex_43.tr he_49 (by omega)
  refine m_dup (pc' := 59) C dX8_init_58 rfl rfl ?_
  refine m_bipush (pc' := 61) (v := nI 80) C dX8_init_59 (by decide) rfl ?_
  refine m_callI (pc' := 64) (As := [.int (nI 80)]) (b := 41) C hao9 (kX9_init hI (r := 41) (cap := 80) (by omega) g_49 (by decide)) (fun ad => [(0, .ref (ad 36)), (1, .ref (ad 5)), (2, .ref (ad 9)), (3, .ref (ad 1))]) (fun ad => [.ref (ad 41), .ref (ad 36)]) (fun ad9 he9 => by refine ⟨?_, ?_⟩ <;> (first | rfl | simp only [he9 1 (by omega), he9 36 (by omega), he9 41 (by omega), he9 5 (by omega), he9 9 (by omega)])) (cwI 1 C.1.2.2.2.2 (goodN tm_1_50) rfl rfl rfl (C.1.2.2.2.2 _ (gW_of tm_1_3)) (C.1.2.2.2.2 _ (gW_of tm_1_203)) (C.1.2.2.2.2 _ (gW_of tm_1_49)) rfl (by decide +kernel) ⟨by decide, by decide⟩) rfl rfl (Nat.le_of_ble_eq_true rfl) dX8_init_61 rfl ⟨by show _ ≤ _; simp, by show _ ≤ _; simp⟩ (fun ad M56 he_56 q_56 C => ?_)
  obtain ⟨rw_56, kq_56⟩ := q_56
  have hI := C.2.2.1
  have f36_57 : M56 36 = .inr (8, [.ref (ad 5), .ref (ad 9), .ref (ad 1), .ref (ad 37), .ref (ad 38), .ref (ad 39), .null, .int (0)]) := ((kq_56 36 (by omega) (by simp <;> omega)).trans f36_50).trans (by rw [he_56 5 (by omega), he_56 9 (by omega), he_56 1 (by omega), he_56 37 (by omega), he_56 38 (by omega), he_56 39 (by omega)])
  have f37_58 : M56 37 = .inr (3, [.int (nI 0), .int (nI 0)]) := (kq_56 37 (by omega) (by simp <;> omega)).trans f37_51
  have f38_59 : M56 38 = .inr (2, [.int (bI false), .int (bI false), .int (bI false), .int (bI false), .int (bI false), .int (bI false), .int (bI false), .int (nI 0), .int ((-1)), .int (nI 32), .int ((-1)), .int (nI 0)]) := (kq_56 38 (by omega) (by simp <;> omega)).trans f38_52
  have xr39_60 := xr39_53.ex he_56 (by omega) (fun k9 hk9 => by simp only [List.mem_cons, List.not_mem_nil, or_false] at hk9; exact kq_56 k9 (by omega) (by simp <;> omega)) (n' := 43)
  have kp_61 := kp_54.kp kq_56 (by omega) (by simp <;> omega)
  have ex_62 := ex_55.tr he_56 (by omega)
  refine m_putF (pc' := 67) (ty := (.object "FormatDump$Row")) (fs' := [.ref (ad 5), .ref (ad 9), .ref (ad 1), .ref (ad 37), .ref (ad 38), .ref (ad 39), .ref (ad 41), .int (0)]) C 36 (by omega) f36_57 rfl inW_X8 tyX8 tyX8_ok nmX8 6 (by decide) (gW_of tm_1_210) rfl rfl hnm9 rfl (by decide +kernel) rfl rfl (by simp) rfl dX8_init_64 rfl (fun M63 g_63 F_63 => ?_)
  refine m_aload_n (pc' := 68) C dX8_init_67 rfl 0 rfl rfl ?_
  refine m_iconst (pc' := 69) (v := bI false) C dX8_init_68 (by decide) rfl ?_
  refine m_put (pc' := 72) (ty := .boolean) (fs' := [.ref (ad 5), .ref (ad 9), .ref (ad 1), .ref (ad 37), .ref (ad 38), .ref (ad 39), .ref (ad 41), .int (bI false)]) C 36 (by omega) g_63 rfl inW_X8 tyX8 tyX8_ok nmX8 7 (by decide) (gW_of tm_1_211) rfl rfl (by decide +kernel) (nar_z _) (fit_z _) (by simp) rfl dX8_init_69 rfl (fun M64 g_64 F_64 => ?_)
  have f37_65 : M63 37 = .inr (3, [.int (nI 0), .int (nI 0)]) := (F_63 37 (by simp <;> omega)).trans f37_58
  have f37_66 : M64 37 = .inr (3, [.int (nI 0), .int (nI 0)]) := (F_64 37 (by simp <;> omega)).trans f37_65
  have f38_67 : M63 38 = .inr (2, [.int (bI false), .int (bI false), .int (bI false), .int (bI false), .int (bI false), .int (bI false), .int (bI false), .int (nI 0), .int ((-1)), .int (nI 32), .int ((-1)), .int (nI 0)]) := (F_63 38 (by simp <;> omega)).trans f38_59
  have f38_68 : M64 38 = .inr (2, [.int (bI false), .int (bI false), .int (bI false), .int (bI false), .int (bI false), .int (bI false), .int (bI false), .int (nI 0), .int ((-1)), .int (nI 32), .int ((-1)), .int (nI 0)]) := (F_64 38 (by simp <;> omega)).trans f38_67
  have xr39_69 := xr39_60.fr F_63 (by simp <;> omega) (by simp <;> omega)
  have xr41_70 := rw_56.fr F_63 (by simp <;> omega) (by simp <;> omega)
  have kp_71 := kp_61.fr F_63 (by simp <;> omega)
  have xr39_72 := xr39_69.fr F_64 (by simp <;> omega) (by simp <;> omega)
  have xr41_73 := xr41_70.fr F_64 (by simp <;> omega) (by simp <;> omega)
  have kp_74 := kp_71.fr F_64 (by simp <;> omega)
  exact m_vretN C hrt0 hlk0 dX8_init_72 ex_62 (by rfl) (by first | rfl | omega) (fun _ _ => rfl) ⟨g_64, f37_66, f38_68, xr39_72, xr41_73, kp_74⟩
set_option maxHeartbeats 4000000 in
set_option maxRecDepth 100000 in
theorem kX10_init {l : Launch} {D : va_G} {cy : Nat → ClassId} {ad : Nat → Nat}  {A : Nat → Prop} (hI : mI ad 44 A) {M : Nat → va_E} (hr0 : M 43 = .inr (10, [.null, .null, .null, .null, .int (0), .int (0), .int (0)])) : mCt l yX10_init (gW yX10_init cX10_init 4 none) { frames := 2, cells := 2, slots := 26, locals := 41 } D cy ad 44 46 A [.ref (ad 43), .ref (ad 5), .ref (ad 7), .ref (ad 1)] M 2 26 (fun ad' M' => M' 43 = .inr (10, [.ref (ad' 5), .ref (ad' 7), .ref (ad' 1), .ref (ad' 44), .int (nI 0), .int (nI 111), .int (nI 1)]) ∧ isRow cy ad' 46 M' 44 45 22 22 [] ∧ Kp 44 [43] M M') := by
  have hEx0 : Ex (44) ad ad := Ex.rf
  have hKp0 : Kp (44) [43] M M := Kp.rf
  refine m_entryN (cc := cX10_init) (maxL := 4) (ret := none) (own := RX10) (lv := [(0, .ref (ad 43)), (1, .ref (ad 5)), (2, .ref (ad 7)), (3, .ref (ad 1))]) hI (by decide) rfl rfl rfl (Nat.le_of_ble_eq_true rfl) rfl (fun pX eX sX mX aX bX tX cX C hrt0 hlk0 hnm9 hao9 => ?_)
  refine m_aload_n (pc' := 1) C dX10_init_0 rfl 0 rfl rfl ?_
  refine m_objI (pc' := 4) C (gW_of tm_1_234) (gW_of tm_1_27) (gW_of tm_1_28) dX10_init_1 rfl (Nat.le_of_ble_eq_true rfl) (Nat.le_of_ble_eq_true rfl) (Nat.le_of_ble_eq_true rfl) ?_
  refine m_aload_n (pc' := 5) C dX10_init_4 rfl 0 rfl rfl ?_
  refine m_aload_n (pc' := 6) C dX10_init_5 rfl 1 rfl rfl ?_
  refine m_putF (pc' := 9) (ty := (.object "FormatDump$Row")) (fs' := [.ref (ad 5), .null, .null, .null, .int (0), .int (0), .int (0)]) C 43 (by omega) hr0 rfl inW_X10 tyX10 tyX10_ok nmX10 0 (by decide) (gW_of tm_1_237) rfl rfl hnm9 rfl (by decide +kernel) rfl rfl (by simp) rfl dX10_init_6 rfl (fun M1 g_1 F_1 => ?_)
  refine m_aload_n (pc' := 10) C dX10_init_9 rfl 0 rfl rfl ?_
  refine m_aload_n (pc' := 11) C dX10_init_10 rfl 2 rfl rfl ?_
  refine m_putF (pc' := 14) (ty := (.object "FormatDump$Row")) (fs' := [.ref (ad 5), .ref (ad 7), .null, .null, .int (0), .int (0), .int (0)]) C 43 (by omega) g_1 rfl inW_X10 tyX10 tyX10_ok nmX10 1 (by decide) (gW_of tm_1_238) rfl rfl hnm9 rfl (by decide +kernel) rfl rfl (by simp) rfl dX10_init_11 rfl (fun M2 g_2 F_2 => ?_)
  refine m_aload_n (pc' := 15) C dX10_init_14 rfl 0 rfl rfl ?_
  refine m_aload_n (pc' := 16) C dX10_init_15 rfl 3 rfl rfl ?_
  refine m_putF (pc' := 19) (ty := (.object "FormatDump$Figures")) (fs' := [.ref (ad 5), .ref (ad 7), .ref (ad 1), .null, .int (0), .int (0), .int (0)]) C 43 (by omega) g_2 rfl inW_X10 tyX10 tyX10_ok nmX10 2 (by decide) (gW_of tm_1_239) rfl rfl hnm9 rfl (by decide +kernel) rfl rfl (by simp) rfl dX10_init_16 rfl (fun M3 g_3 F_3 => ?_)
  refine m_aload_n (pc' := 20) C dX10_init_19 rfl 0 rfl rfl ?_
  have kp_4 := hKp0.fr F_1 (by simp <;> omega)
  have kp_5 := kp_4.fr F_2 (by simp <;> omega)
  have kp_6 := kp_5.fr F_3 (by simp <;> omega)
  refine m_new (pc' := 23) (fs := [.null, .int (0), .int (0), .int (0)]) (ci := 9) C (fun ad => [(0, .ref (ad 43)), (1, .ref (ad 5)), (2, .ref (ad 7)), (3, .ref (ad 1))]) (fun ad => [.ref (ad 43)]) (fun ad9 he9 => by refine ⟨?_, ?_⟩ <;> (first | rfl | simp only [he9 1 (by omega), he9 43 (by omega), he9 5 (by omega), he9 7 (by omega)])) inW_X9 tyX9 tyX9_ok (gW_of tm_1_235) (gW_of tm_1_47) (gW_of tm_1_3) rfl (by decide +kernel) (by show _ ≤ _; simp) (by show _ ≤ _; simp) dX10_init_20 rfl (fun ad M7 he_7 g_7 hm_7 C => ?_)
  have hI := C.2.2.1
  have f43_8 : M7 43 = .inr (10, [.ref (ad 5), .ref (ad 7), .ref (ad 1), .null, .int (0), .int (0), .int (0)]) := ((hm_7 43 (by omega)).trans g_3).trans (by rw [he_7 5 (by omega), he_7 7 (by omega), he_7 1 (by omega)])
  have kp_9 := kp_6.nw hm_7 (by omega)
  have ex_10 := hEx0.tr he_7 (by omega)
  refine m_dup (pc' := 24) C dX10_init_23 rfl rfl ?_
  refine m_bipush (pc' := 26) (v := nI 22) C dX10_init_24 (by decide) rfl ?_
  refine m_callI (pc' := 29) (As := [.int (nI 22)]) (b := 44) C hao9 (kX9_init hI (r := 44) (cap := 22) (by omega) g_7 (by decide)) (fun ad => [(0, .ref (ad 43)), (1, .ref (ad 5)), (2, .ref (ad 7)), (3, .ref (ad 1))]) (fun ad => [.ref (ad 44), .ref (ad 43)]) (fun ad9 he9 => by refine ⟨?_, ?_⟩ <;> (first | rfl | simp only [he9 1 (by omega), he9 43 (by omega), he9 44 (by omega), he9 5 (by omega), he9 7 (by omega)])) (cwI 1 C.1.2.2.2.2 (goodN tm_1_50) rfl rfl rfl (C.1.2.2.2.2 _ (gW_of tm_1_3)) (C.1.2.2.2.2 _ (gW_of tm_1_236)) (C.1.2.2.2.2 _ (gW_of tm_1_49)) rfl (by decide +kernel) ⟨by decide, by decide⟩) rfl rfl (Nat.le_of_ble_eq_true rfl) dX10_init_26 rfl ⟨by show _ ≤ _; simp, by show _ ≤ _; simp⟩ (fun ad M11 he_11 q_11 C => ?_)
  obtain ⟨rw_11, kq_11⟩ := q_11
  have hI := C.2.2.1
  have f43_12 : M11 43 = .inr (10, [.ref (ad 5), .ref (ad 7), .ref (ad 1), .null, .int (0), .int (0), .int (0)]) := ((kq_11 43 (by omega) (by simp <;> omega)).trans f43_8).trans (by rw [he_11 5 (by omega), he_11 7 (by omega), he_11 1 (by omega)])
  have kp_13 := kp_9.kp kq_11 (by omega) (by simp <;> omega)
  have ex_14 := ex_10.tr he_11 (by omega)
  refine m_putF (pc' := 32) (ty := (.object "FormatDump$Row")) (fs' := [.ref (ad 5), .ref (ad 7), .ref (ad 1), .ref (ad 44), .int (0), .int (0), .int (0)]) C 43 (by omega) f43_12 rfl inW_X10 tyX10 tyX10_ok nmX10 3 (by decide) (gW_of tm_2_0) rfl rfl hnm9 rfl (by decide +kernel) rfl rfl (by simp) rfl dX10_init_29 rfl (fun M15 g_15 F_15 => ?_)
  refine m_aload_n (pc' := 33) C dX10_init_32 rfl 0 rfl rfl ?_
  refine m_iconst (pc' := 34) (v := nI 0) C dX10_init_33 (by decide) rfl ?_
  refine m_put (pc' := 37) (ty := .int) (fs' := [.ref (ad 5), .ref (ad 7), .ref (ad 1), .ref (ad 44), .int (nI 0), .int (0), .int (0)]) C 43 (by omega) g_15 rfl inW_X10 tyX10 tyX10_ok nmX10 4 (by decide) (gW_of tm_2_1) rfl rfl (by decide +kernel) rfl rfl (by simp) rfl dX10_init_34 rfl (fun M16 g_16 F_16 => ?_)
  refine m_aload_n (pc' := 38) C dX10_init_37 rfl 0 rfl rfl ?_
  refine m_bipush (pc' := 40) (v := nI 111) C dX10_init_38 (by decide) rfl ?_
  refine m_put (pc' := 43) (ty := .char) (fs' := [.ref (ad 5), .ref (ad 7), .ref (ad 1), .ref (ad 44), .int (nI 0), .int (nI 111), .int (0)]) C 43 (by omega) g_16 rfl inW_X10 tyX10 tyX10_ok nmX10 5 (by decide) (gW_of tm_2_2) rfl rfl (by decide +kernel) (by decide) (by decide) (by simp) rfl dX10_init_40 rfl (fun M17 g_17 F_17 => ?_)
  refine m_aload_n (pc' := 44) C dX10_init_43 rfl 0 rfl rfl ?_
  refine m_iconst (pc' := 45) (v := nI 1) C dX10_init_44 (by decide) rfl ?_
  refine m_put (pc' := 48) (ty := .int) (fs' := [.ref (ad 5), .ref (ad 7), .ref (ad 1), .ref (ad 44), .int (nI 0), .int (nI 111), .int (nI 1)]) C 43 (by omega) g_17 rfl inW_X10 tyX10 tyX10_ok nmX10 6 (by decide) (gW_of tm_2_3) rfl rfl (by decide +kernel) rfl rfl (by simp) rfl dX10_init_45 rfl (fun M18 g_18 F_18 => ?_)
  have xr44_19 := rw_11.fr F_15 (by simp <;> omega) (by simp <;> omega)
  have kp_20 := kp_13.fr F_15 (by simp <;> omega)
  have xr44_21 := xr44_19.fr F_16 (by simp <;> omega) (by simp <;> omega)
  have kp_22 := kp_20.fr F_16 (by simp <;> omega)
  have xr44_23 := xr44_21.fr F_17 (by simp <;> omega) (by simp <;> omega)
  have kp_24 := kp_22.fr F_17 (by simp <;> omega)
  have xr44_25 := xr44_23.fr F_18 (by simp <;> omega) (by simp <;> omega)
  have kp_26 := kp_24.fr F_18 (by simp <;> omega)
  exact m_vretN C hrt0 hlk0 dX10_init_48 ex_14 (by rfl) (by first | rfl | omega) (fun _ _ => rfl) ⟨g_18, xr44_25, kp_26⟩
set_option maxHeartbeats 4000000 in
set_option maxRecDepth 100000 in
theorem kX6_init {l : Launch} {D : va_G} {cy : Nat → ClassId} {ad : Nat → Nat}  {A : Nat → Prop} (hI : mI ad 47 A) {M : Nat → va_E} (hr0 : M 46 = .inr (6, [.null, .null, .null])) : mCt l yX6_init (gW yX6_init cX6_init 4 none) { frames := 1, cells := 0, slots := 0, locals := 20 } D cy ad 47 47 A [.ref (ad 46), .ref (ad 5), .ref (ad 7), .ref (ad 1)] M 0 0 (fun ad' M' => M' 46 = .inr (6, [.ref (ad' 5), .ref (ad' 7), .ref (ad' 1)]) ∧ Kp 47 [46] M M') := by
  have hEx0 : Ex (47) ad ad := Ex.rf
  have hKp0 : Kp (47) [46] M M := Kp.rf
  refine m_entryN (cc := cX6_init) (maxL := 4) (ret := none) (own := RX6) (lv := [(0, .ref (ad 46)), (1, .ref (ad 5)), (2, .ref (ad 7)), (3, .ref (ad 1))]) hI (by decide) rfl rfl rfl (Nat.le_of_ble_eq_true rfl) rfl (fun pX eX sX mX aX bX tX cX C hrt0 hlk0 hnm9 hao9 => ?_)
  refine m_aload_n (pc' := 1) C dX6_init_0 rfl 0 rfl rfl ?_
  refine m_objI (pc' := 4) C (gW_of tm_2_24) (gW_of tm_1_27) (gW_of tm_1_28) dX6_init_1 rfl (Nat.le_of_ble_eq_true rfl) (Nat.le_of_ble_eq_true rfl) (Nat.le_of_ble_eq_true rfl) ?_
  refine m_aload_n (pc' := 5) C dX6_init_4 rfl 0 rfl rfl ?_
  refine m_aload_n (pc' := 6) C dX6_init_5 rfl 1 rfl rfl ?_
  refine m_putF (pc' := 9) (ty := (.object "FormatDump$Row")) (fs' := [.ref (ad 5), .null, .null]) C 46 (by omega) hr0 rfl inW_X6 tyX6 tyX6_ok nmX6 0 (by decide) (gW_of tm_2_25) rfl rfl hnm9 rfl (by decide +kernel) rfl rfl (by simp) rfl dX6_init_6 rfl (fun M1 g_1 F_1 => ?_)
  refine m_aload_n (pc' := 10) C dX6_init_9 rfl 0 rfl rfl ?_
  refine m_aload_n (pc' := 11) C dX6_init_10 rfl 2 rfl rfl ?_
  refine m_putF (pc' := 14) (ty := (.object "FormatDump$Row")) (fs' := [.ref (ad 5), .ref (ad 7), .null]) C 46 (by omega) g_1 rfl inW_X6 tyX6 tyX6_ok nmX6 1 (by decide) (gW_of tm_2_26) rfl rfl hnm9 rfl (by decide +kernel) rfl rfl (by simp) rfl dX6_init_11 rfl (fun M2 g_2 F_2 => ?_)
  refine m_aload_n (pc' := 15) C dX6_init_14 rfl 0 rfl rfl ?_
  refine m_aload_n (pc' := 16) C dX6_init_15 rfl 3 rfl rfl ?_
  refine m_putF (pc' := 19) (ty := (.object "FormatDump$Figures")) (fs' := [.ref (ad 5), .ref (ad 7), .ref (ad 1)]) C 46 (by omega) g_2 rfl inW_X6 tyX6 tyX6_ok nmX6 2 (by decide) (gW_of tm_2_27) rfl rfl hnm9 rfl (by decide +kernel) rfl rfl (by simp) rfl dX6_init_16 rfl (fun M3 g_3 F_3 => ?_)
  have kp_4 := hKp0.fr F_1 (by simp <;> omega)
  have kp_5 := kp_4.fr F_2 (by simp <;> omega)
  have kp_6 := kp_5.fr F_3 (by simp <;> omega)
  exact m_vretN C hrt0 hlk0 dX6_init_19 hEx0 (by rfl) (by first | rfl | omega) (fun _ _ => rfl) ⟨g_3, kp_6⟩
set_option maxHeartbeats 4000000 in
set_option maxRecDepth 100000 in
theorem kX7_init {l : Launch} {D : va_G} {cy : Nat → ClassId} {ad : Nat → Nat}  {A : Nat → Prop} (hI : mI ad 48 A) {M : Nat → va_E} (hr0 : M 47 = .inr (7, [.null, .null, .null, .int (0), .int (0)])) : mCt l yX7_init (gW yX7_init cX7_init 2 none) { frames := 2, cells := 4, slots := 296, locals := 41 } D cy ad 48 52 A [.ref (ad 47), .ref (ad 5)] M 4 296 (fun ad' M' => M' 47 = .inr (7, [.ref (ad' 5), .ref (ad' 48), .ref (ad' 50), .int (nI 0), .int (nI 0)]) ∧ isRow cy ad' 52 M' 48 49 256 256 [] ∧ isRow cy ad' 52 M' 50 51 32 32 [] ∧ Kp 48 [47] M M') := by
  have hEx0 : Ex (48) ad ad := Ex.rf
  have hKp0 : Kp (48) [47] M M := Kp.rf
  refine m_entryN (cc := cX7_init) (maxL := 2) (ret := none) (own := RX7) (lv := [(0, .ref (ad 47)), (1, .ref (ad 5))]) hI (by decide) rfl rfl rfl (Nat.le_of_ble_eq_true rfl) rfl (fun pX eX sX mX aX bX tX cX C hrt0 hlk0 hnm9 hao9 => ?_)
  refine m_aload_n (pc' := 1) C dX7_init_0 rfl 0 rfl rfl ?_
  refine m_objI (pc' := 4) C (gW_of tm_2_40) (gW_of tm_1_27) (gW_of tm_1_28) dX7_init_1 rfl (Nat.le_of_ble_eq_true rfl) (Nat.le_of_ble_eq_true rfl) (Nat.le_of_ble_eq_true rfl) ?_
  refine m_aload_n (pc' := 5) C dX7_init_4 rfl 0 rfl rfl ?_
  refine m_aload_n (pc' := 6) C dX7_init_5 rfl 1 rfl rfl ?_
  refine m_putF (pc' := 9) (ty := (.object "FormatDump$Row")) (fs' := [.ref (ad 5), .null, .null, .int (0), .int (0)]) C 47 (by omega) hr0 rfl inW_X7 tyX7 tyX7_ok nmX7 0 (by decide) (gW_of tm_2_43) rfl rfl hnm9 rfl (by decide +kernel) rfl rfl (by simp) rfl dX7_init_6 rfl (fun M1 g_1 F_1 => ?_)
  refine m_aload_n (pc' := 10) C dX7_init_9 rfl 0 rfl rfl ?_
  have kp_2 := hKp0.fr F_1 (by simp <;> omega)
  refine m_new (pc' := 13) (fs := [.null, .int (0), .int (0), .int (0)]) (ci := 9) C (fun ad => [(0, .ref (ad 47)), (1, .ref (ad 5))]) (fun ad => [.ref (ad 47)]) (fun ad9 he9 => by refine ⟨?_, ?_⟩ <;> (first | rfl | simp only [he9 47 (by omega), he9 5 (by omega)])) inW_X9 tyX9 tyX9_ok (gW_of tm_2_41) (gW_of tm_1_47) (gW_of tm_1_3) rfl (by decide +kernel) (by show _ ≤ _; simp) (by show _ ≤ _; simp) dX7_init_10 rfl (fun ad M3 he_3 g_3 hm_3 C => ?_)
  have hI := C.2.2.1
  have f47_4 : M3 47 = .inr (7, [.ref (ad 5), .null, .null, .int (0), .int (0)]) := ((hm_3 47 (by omega)).trans g_1).trans (by rw [he_3 5 (by omega)])
  have kp_5 := kp_2.nw hm_3 (by omega)
  have ex_6 := hEx0.tr he_3 (by omega)
  refine m_dup (pc' := 14) C dX7_init_13 rfl rfl ?_
  refine m_sipush (pc' := 17) (v := nI 256) C dX7_init_14 (by decide) rfl ?_
  refine m_callI (pc' := 20) (As := [.int (nI 256)]) (b := 48) C hao9 (kX9_init hI (r := 48) (cap := 256) (by omega) g_3 (by decide)) (fun ad => [(0, .ref (ad 47)), (1, .ref (ad 5))]) (fun ad => [.ref (ad 48), .ref (ad 47)]) (fun ad9 he9 => by refine ⟨?_, ?_⟩ <;> (first | rfl | simp only [he9 47 (by omega), he9 48 (by omega), he9 5 (by omega)])) (cwI 1 C.1.2.2.2.2 (goodN tm_1_50) rfl rfl rfl (C.1.2.2.2.2 _ (gW_of tm_1_3)) (C.1.2.2.2.2 _ (gW_of tm_2_42)) (C.1.2.2.2.2 _ (gW_of tm_1_49)) rfl (by decide +kernel) ⟨by decide, by decide⟩) rfl rfl (Nat.le_of_ble_eq_true rfl) dX7_init_17 rfl ⟨by show _ ≤ _; simp, by show _ ≤ _; simp⟩ (fun ad M7 he_7 q_7 C => ?_)
  obtain ⟨rw_7, kq_7⟩ := q_7
  have hI := C.2.2.1
  have f47_8 : M7 47 = .inr (7, [.ref (ad 5), .null, .null, .int (0), .int (0)]) := ((kq_7 47 (by omega) (by simp <;> omega)).trans f47_4).trans (by rw [he_7 5 (by omega)])
  have kp_9 := kp_5.kp kq_7 (by omega) (by simp <;> omega)
  have ex_10 := ex_6.tr he_7 (by omega)
  refine m_putF (pc' := 23) (ty := (.object "FormatDump$Row")) (fs' := [.ref (ad 5), .ref (ad 48), .null, .int (0), .int (0)]) C 47 (by omega) f47_8 rfl inW_X7 tyX7 tyX7_ok nmX7 1 (by decide) (gW_of tm_2_44) rfl rfl hnm9 rfl (by decide +kernel) rfl rfl (by simp) rfl dX7_init_20 rfl (fun M11 g_11 F_11 => ?_)
  refine m_aload_n (pc' := 24) C dX7_init_23 rfl 0 rfl rfl ?_
  have xr48_12 := rw_7.fr F_11 (by simp <;> omega) (by simp <;> omega)
  have kp_13 := kp_9.fr F_11 (by simp <;> omega)
  refine m_new (pc' := 27) (fs := [.null, .int (0), .int (0), .int (0)]) (ci := 9) C (fun ad => [(0, .ref (ad 47)), (1, .ref (ad 5))]) (fun ad => [.ref (ad 47)]) (fun ad9 he9 => by refine ⟨?_, ?_⟩ <;> (first | rfl | simp only [he9 47 (by omega), he9 5 (by omega)])) inW_X9 tyX9 tyX9_ok (gW_of tm_2_41) (gW_of tm_1_47) (gW_of tm_1_3) rfl (by decide +kernel) (by show _ ≤ _; simp) (by show _ ≤ _; simp) dX7_init_24 rfl (fun ad M14 he_14 g_14 hm_14 C => ?_)
  have hI := C.2.2.1
  have f47_15 : M14 47 = .inr (7, [.ref (ad 5), .ref (ad 48), .null, .int (0), .int (0)]) := ((hm_14 47 (by omega)).trans g_11).trans (by rw [he_14 5 (by omega), he_14 48 (by omega)])
  have xr48_16 := xr48_12.ex he_14 (by omega) (fun k9 hk9 => by simp only [List.mem_cons, List.not_mem_nil, or_false] at hk9; exact hm_14 k9 (by omega)) (n' := 51)
  have kp_17 := kp_13.nw hm_14 (by omega)
  have ex_18 := ex_10.tr he_14 (by omega)
  refine m_dup (pc' := 28) C dX7_init_27 rfl rfl ?_
  refine m_bipush (pc' := 30) (v := nI 32) C dX7_init_28 (by decide) rfl ?_
  refine m_callI (pc' := 33) (As := [.int (nI 32)]) (b := 50) C hao9 (kX9_init hI (r := 50) (cap := 32) (by omega) g_14 (by decide)) (fun ad => [(0, .ref (ad 47)), (1, .ref (ad 5))]) (fun ad => [.ref (ad 50), .ref (ad 47)]) (fun ad9 he9 => by refine ⟨?_, ?_⟩ <;> (first | rfl | simp only [he9 47 (by omega), he9 5 (by omega), he9 50 (by omega)])) (cwI 1 C.1.2.2.2.2 (goodN tm_1_50) rfl rfl rfl (C.1.2.2.2.2 _ (gW_of tm_1_3)) (C.1.2.2.2.2 _ (gW_of tm_2_42)) (C.1.2.2.2.2 _ (gW_of tm_1_49)) rfl (by decide +kernel) ⟨by decide, by decide⟩) rfl rfl (Nat.le_of_ble_eq_true rfl) dX7_init_30 rfl ⟨by show _ ≤ _; simp, by show _ ≤ _; simp⟩ (fun ad M19 he_19 q_19 C => ?_)
  obtain ⟨rw_19, kq_19⟩ := q_19
  have hI := C.2.2.1
  have f47_20 : M19 47 = .inr (7, [.ref (ad 5), .ref (ad 48), .null, .int (0), .int (0)]) := ((kq_19 47 (by omega) (by simp <;> omega)).trans f47_15).trans (by rw [he_19 5 (by omega), he_19 48 (by omega)])
  have xr48_21 := xr48_16.ex he_19 (by omega) (fun k9 hk9 => by simp only [List.mem_cons, List.not_mem_nil, or_false] at hk9; exact kq_19 k9 (by omega) (by simp <;> omega)) (n' := 52)
  have kp_22 := kp_17.kp kq_19 (by omega) (by simp <;> omega)
  have ex_23 := ex_18.tr he_19 (by omega)
  refine m_putF (pc' := 36) (ty := (.object "FormatDump$Row")) (fs' := [.ref (ad 5), .ref (ad 48), .ref (ad 50), .int (0), .int (0)]) C 47 (by omega) f47_20 rfl inW_X7 tyX7 tyX7_ok nmX7 2 (by decide) (gW_of tm_2_45) rfl rfl hnm9 rfl (by decide +kernel) rfl rfl (by simp) rfl dX7_init_33 rfl (fun M24 g_24 F_24 => ?_)
  refine m_aload_n (pc' := 37) C dX7_init_36 rfl 0 rfl rfl ?_
  refine m_iconst (pc' := 38) (v := nI 0) C dX7_init_37 (by decide) rfl ?_
  refine m_put (pc' := 41) (ty := .int) (fs' := [.ref (ad 5), .ref (ad 48), .ref (ad 50), .int (nI 0), .int (0)]) C 47 (by omega) g_24 rfl inW_X7 tyX7 tyX7_ok nmX7 3 (by decide) (gW_of tm_2_46) rfl rfl (by decide +kernel) rfl rfl (by simp) rfl dX7_init_38 rfl (fun M25 g_25 F_25 => ?_)
  refine m_aload_n (pc' := 42) C dX7_init_41 rfl 0 rfl rfl ?_
  refine m_iconst (pc' := 43) (v := nI 0) C dX7_init_42 (by decide) rfl ?_
  refine m_put (pc' := 46) (ty := .int) (fs' := [.ref (ad 5), .ref (ad 48), .ref (ad 50), .int (nI 0), .int (nI 0)]) C 47 (by omega) g_25 rfl inW_X7 tyX7 tyX7_ok nmX7 4 (by decide) (gW_of tm_2_47) rfl rfl (by decide +kernel) rfl rfl (by simp) rfl dX7_init_43 rfl (fun M26 g_26 F_26 => ?_)
  have xr48_27 := xr48_21.fr F_24 (by simp <;> omega) (by simp <;> omega)
  have xr50_28 := rw_19.fr F_24 (by simp <;> omega) (by simp <;> omega)
  have kp_29 := kp_22.fr F_24 (by simp <;> omega)
  have xr48_30 := xr48_27.fr F_25 (by simp <;> omega) (by simp <;> omega)
  have xr50_31 := xr50_28.fr F_25 (by simp <;> omega) (by simp <;> omega)
  have kp_32 := kp_29.fr F_25 (by simp <;> omega)
  have xr48_33 := xr48_30.fr F_26 (by simp <;> omega) (by simp <;> omega)
  have xr50_34 := xr50_31.fr F_26 (by simp <;> omega) (by simp <;> omega)
  have kp_35 := kp_32.fr F_26 (by simp <;> omega)
  exact m_vretN C hrt0 hlk0 dX7_init_46 ex_23 (by rfl) (by first | rfl | omega) (fun _ _ => rfl) ⟨g_26, xr48_33, xr50_34, kp_35⟩
set_option maxHeartbeats 4000000 in
set_option maxRecDepth 100000 in
theorem kX11_init {l : Launch} {D : va_G} {cy : Nat → ClassId} {ad : Nat → Nat}  {A : Nat → Prop} (hI : mI ad 1 A) {M : Nat → va_E} (hr0 : M 0 = .inr (11, [.null, .null, .null, .null, .null, .null, .null, .null, .int (0), .int (0)])) : mCt l yX11_init (gW yX11_init cX11_init 2 none) { frames := 4, cells := 51, slots := 3611, locals := 82 } D cy ad 1 52 A [.ref (ad 0)] M 51 3611 (fun ad' M' => (M' 0 = fdO ad' (-1) (nI 0) ∧ isRow cy ad' 52 M' 3 4 80 80 [] ∧ isRow cy ad' 52 M' 5 6 2000 2000 [] ∧ isRow cy ad' 52 M' 7 8 256 256 [] ∧ isArgs cy ad' 52 M' (fun _ => .inl 0) 0 0 0 ∧ isFig cy ad' 52 M' 1 2 [] false ∧ M' 36 = prO ad' false ∧ M' 37 = .inr (3, [.int (nI 0), .int (nI 0)]) ∧ M' 38 = .inr (2, [.int (bI false), .int (bI false), .int (bI false), .int (bI false), .int (bI false), .int (bI false), .int (bI false), .int (nI 0), .int ((-1)), .int (nI 32), .int ((-1)), .int (nI 0)]) ∧ isRow cy ad' 52 M' 39 40 80 80 [] ∧ isRow cy ad' 52 M' 41 42 80 80 [] ∧ M' 43 = wdO ad' (nI 0) (nI 111) (nI 1) ∧ isRow cy ad' 52 M' 44 45 22 22 [] ∧ M' 46 = pdO ad' ∧ M' 47 = rdO ad' (nI 0) (nI 0) ∧ isRow cy ad' 52 M' 48 49 256 256 [] ∧ isRow cy ad' 52 M' 50 51 32 32 []) ∧ Kp 1 [0] M M') := by
  have hEx0 : Ex (1) ad ad := Ex.rf
  have hKp0 : Kp (1) [0] M M := Kp.rf
  refine m_entryN (cc := cX11_init) (maxL := 2) (ret := none) (own := RX11) (lv := [(0, .ref (ad 0))]) hI (by decide) rfl rfl rfl (Nat.le_of_ble_eq_true rfl) rfl (fun pX eX sX mX aX bX tX cX C hrt0 hlk0 hnm9 hao9 => ?_)
  refine m_aload_n (pc' := 1) C dX11_init_0 rfl 0 rfl rfl ?_
  refine m_objI (pc' := 4) C (gW_of tm_1_26) (gW_of tm_1_27) (gW_of tm_1_28) dX11_init_1 rfl (Nat.le_of_ble_eq_true rfl) (Nat.le_of_ble_eq_true rfl) (Nat.le_of_ble_eq_true rfl) ?_
  refine m_new (pc' := 7) (fs := [.null, .int (0), .int (0)]) (ci := 4) C (fun ad => [(0, .ref (ad 0))]) (fun ad => []) (fun ad9 he9 => by refine ⟨?_, ?_⟩ <;> (first | rfl | simp only [he9 0 (by omega)])) inW_X4 tyX4 tyX4_ok (gW_of tm_1_29) (gW_of tm_1_30) (gW_of tm_1_2) rfl (by decide +kernel) (by show _ ≤ _; simp) (by show _ ≤ _; simp) dX11_init_4 rfl (fun ad M1 he_1 g_1 hm_1 C => ?_)
  have hI := C.2.2.1
  have f0_2 : M1 0 = .inr (11, [.null, .null, .null, .null, .null, .null, .null, .null, .int (0), .int (0)]) := (hm_1 0 (by omega)).trans hr0
  have kp_3 := hKp0.nw hm_1 (by omega)
  have ex_4 := hEx0.tr he_1 (by omega)
  refine m_dup (pc' := 8) C dX11_init_7 rfl rfl ?_
  refine m_callI (pc' := 11) (As := []) (b := 1) C hao9 (kX4_init hI (fo := 1) (by omega) g_1) (fun ad => [(0, .ref (ad 0))]) (fun ad => [.ref (ad 1)]) (fun ad9 he9 => by refine ⟨?_, ?_⟩ <;> (first | rfl | simp only [he9 0 (by omega), he9 1 (by omega)])) (cwI 0 C.1.2.2.2.2 (goodN tm_1_33) rfl rfl rfl (C.1.2.2.2.2 _ (gW_of tm_1_2)) (C.1.2.2.2.2 _ (gW_of tm_1_31)) (C.1.2.2.2.2 _ (gW_of tm_1_32)) rfl (by decide +kernel) ⟨by decide, by decide⟩) rfl rfl (Nat.le_of_ble_eq_true rfl) dX11_init_8 rfl ⟨by show _ ≤ _; simp, by show _ ≤ _; simp⟩ (fun ad M5 he_5 q_5 C => ?_)
  obtain ⟨fg_5, kq_5⟩ := q_5
  have hI := C.2.2.1
  have f0_6 : M5 0 = .inr (11, [.null, .null, .null, .null, .null, .null, .null, .null, .int (0), .int (0)]) := (kq_5 0 (by omega) (by simp <;> omega)).trans f0_2
  have kp_7 := kp_3.kp kq_5 (by omega) (by simp <;> omega)
  have ex_8 := ex_4.tr he_5 (by omega)
  refine m_astore_n (pc' := 12) (lv' := [(1, .ref (ad 1)), (0, .ref (ad 0))]) C dX11_init_11 rfl (by decide) rfl rfl ?_
  refine m_aload_n (pc' := 13) C dX11_init_12 rfl 1 rfl rfl ?_
  refine m_new (pc' := 16) (fs := [.null, .int (0), .int (0), .int (0)]) (ci := 9) C (fun ad => [(1, .ref (ad 1)), (0, .ref (ad 0))]) (fun ad => [.ref (ad 0)]) (fun ad9 he9 => by refine ⟨?_, ?_⟩ <;> (first | rfl | simp only [he9 0 (by omega), he9 1 (by omega)])) inW_X9 tyX9 tyX9_ok (gW_of tm_1_46) (gW_of tm_1_47) (gW_of tm_1_3) rfl (by decide +kernel) (by show _ ≤ _; simp) (by show _ ≤ _; simp) dX11_init_13 rfl (fun ad M9 he_9 g_9 hm_9 C => ?_)
  have hI := C.2.2.1
  have f0_10 : M9 0 = .inr (11, [.null, .null, .null, .null, .null, .null, .null, .null, .int (0), .int (0)]) := (hm_9 0 (by omega)).trans f0_6
  have xfig_11 := fg_5.ex he_9 (by omega) (fun k9 hk9 => by simp only [List.mem_cons, List.not_mem_nil, or_false] at hk9; exact hm_9 k9 (by omega)) (n' := 4)
  have kp_12 := kp_7.nw hm_9 (by omega)
  have ex_13 := ex_8.tr he_9 (by omega)
  refine m_dup (pc' := 17) C dX11_init_16 rfl rfl ?_
  refine m_bipush (pc' := 19) (v := nI 80) C dX11_init_17 (by decide) rfl ?_
  refine m_callI (pc' := 22) (As := [.int (nI 80)]) (b := 3) C hao9 (kX9_init hI (r := 3) (cap := 80) (by omega) g_9 (by decide)) (fun ad => [(1, .ref (ad 1)), (0, .ref (ad 0))]) (fun ad => [.ref (ad 3), .ref (ad 0)]) (fun ad9 he9 => by refine ⟨?_, ?_⟩ <;> (first | rfl | simp only [he9 0 (by omega), he9 1 (by omega), he9 3 (by omega)])) (cwI 1 C.1.2.2.2.2 (goodN tm_1_50) rfl rfl rfl (C.1.2.2.2.2 _ (gW_of tm_1_3)) (C.1.2.2.2.2 _ (gW_of tm_1_48)) (C.1.2.2.2.2 _ (gW_of tm_1_49)) rfl (by decide +kernel) ⟨by decide, by decide⟩) rfl rfl (Nat.le_of_ble_eq_true rfl) dX11_init_19 rfl ⟨by show _ ≤ _; simp, by show _ ≤ _; simp⟩ (fun ad M14 he_14 q_14 C => ?_)
  obtain ⟨rw_14, kq_14⟩ := q_14
  have hI := C.2.2.1
  have f0_15 : M14 0 = .inr (11, [.null, .null, .null, .null, .null, .null, .null, .null, .int (0), .int (0)]) := (kq_14 0 (by omega) (by simp <;> omega)).trans f0_10
  have xfig_16 := xfig_11.ex he_14 (by omega) (fun k9 hk9 => by simp only [List.mem_cons, List.not_mem_nil, or_false] at hk9; exact kq_14 k9 (by omega) (by simp <;> omega)) (n' := 5)
  have kp_17 := kp_12.kp kq_14 (by omega) (by simp <;> omega)
  have ex_18 := ex_13.tr he_14 (by omega)
  refine m_putF (pc' := 25) (ty := (.object "FormatDump$Row")) (fs' := [.ref (ad 3), .null, .null, .null, .null, .null, .null, .null, .int (0), .int (0)]) C 0 (by omega) f0_15 rfl inW_X11 tyX11 tyX11_ok nmX11 0 (by decide) (gW_of tm_2_59) rfl rfl hnm9 rfl (by decide +kernel) rfl rfl (by simp) rfl dX11_init_22 rfl (fun M19 g_19 F_19 => ?_)
  refine m_aload_n (pc' := 26) C dX11_init_25 rfl 1 rfl rfl ?_
  have xfig_20 := xfig_16.fr F_19 (by simp <;> omega) (by simp <;> omega)
  have xr3_21 := rw_14.fr F_19 (by simp <;> omega) (by simp <;> omega)
  have kp_22 := kp_17.fr F_19 (by simp <;> omega)
  refine m_new (pc' := 29) (fs := [.null, .int (0), .int (0), .int (0)]) (ci := 9) C (fun ad => [(1, .ref (ad 1)), (0, .ref (ad 0))]) (fun ad => [.ref (ad 0)]) (fun ad9 he9 => by refine ⟨?_, ?_⟩ <;> (first | rfl | simp only [he9 0 (by omega), he9 1 (by omega)])) inW_X9 tyX9 tyX9_ok (gW_of tm_1_46) (gW_of tm_1_47) (gW_of tm_1_3) rfl (by decide +kernel) (by show _ ≤ _; simp) (by show _ ≤ _; simp) dX11_init_26 rfl (fun ad M23 he_23 g_23 hm_23 C => ?_)
  have hI := C.2.2.1
  have f0_24 : M23 0 = .inr (11, [.ref (ad 3), .null, .null, .null, .null, .null, .null, .null, .int (0), .int (0)]) := ((hm_23 0 (by omega)).trans g_19).trans (by rw [he_23 3 (by omega)])
  have xfig_25 := xfig_20.ex he_23 (by omega) (fun k9 hk9 => by simp only [List.mem_cons, List.not_mem_nil, or_false] at hk9; exact hm_23 k9 (by omega)) (n' := 6)
  have xr3_26 := xr3_21.ex he_23 (by omega) (fun k9 hk9 => by simp only [List.mem_cons, List.not_mem_nil, or_false] at hk9; exact hm_23 k9 (by omega)) (n' := 6)
  have kp_27 := kp_22.nw hm_23 (by omega)
  have ex_28 := ex_18.tr he_23 (by omega)
  refine m_dup (pc' := 30) C dX11_init_29 rfl rfl ?_
  refine m_sipush (pc' := 33) (v := nI 2000) C dX11_init_30 (by decide) rfl ?_
  refine m_callI (pc' := 36) (As := [.int (nI 2000)]) (b := 5) C hao9 (kX9_init hI (r := 5) (cap := 2000) (by omega) g_23 (by decide)) (fun ad => [(1, .ref (ad 1)), (0, .ref (ad 0))]) (fun ad => [.ref (ad 5), .ref (ad 0)]) (fun ad9 he9 => by refine ⟨?_, ?_⟩ <;> (first | rfl | simp only [he9 0 (by omega), he9 1 (by omega), he9 5 (by omega)])) (cwI 1 C.1.2.2.2.2 (goodN tm_1_50) rfl rfl rfl (C.1.2.2.2.2 _ (gW_of tm_1_3)) (C.1.2.2.2.2 _ (gW_of tm_1_48)) (C.1.2.2.2.2 _ (gW_of tm_1_49)) rfl (by decide +kernel) ⟨by decide, by decide⟩) rfl rfl (Nat.le_of_ble_eq_true rfl) dX11_init_33 rfl ⟨by show _ ≤ _; simp, by show _ ≤ _; simp⟩ (fun ad M29 he_29 q_29 C => ?_)
  obtain ⟨rw_29, kq_29⟩ := q_29
  have hI := C.2.2.1
  have f0_30 : M29 0 = .inr (11, [.ref (ad 3), .null, .null, .null, .null, .null, .null, .null, .int (0), .int (0)]) := ((kq_29 0 (by omega) (by simp <;> omega)).trans f0_24).trans (by rw [he_29 3 (by omega)])
  have xfig_31 := xfig_25.ex he_29 (by omega) (fun k9 hk9 => by simp only [List.mem_cons, List.not_mem_nil, or_false] at hk9; exact kq_29 k9 (by omega) (by simp <;> omega)) (n' := 7)
  have xr3_32 := xr3_26.ex he_29 (by omega) (fun k9 hk9 => by simp only [List.mem_cons, List.not_mem_nil, or_false] at hk9; exact kq_29 k9 (by omega) (by simp <;> omega)) (n' := 7)
  have kp_33 := kp_27.kp kq_29 (by omega) (by simp <;> omega)
  have ex_34 := ex_28.tr he_29 (by omega)
  refine m_putF (pc' := 39) (ty := (.object "FormatDump$Row")) (fs' := [.ref (ad 3), .ref (ad 5), .null, .null, .null, .null, .null, .null, .int (0), .int (0)]) C 0 (by omega) f0_30 rfl inW_X11 tyX11 tyX11_ok nmX11 1 (by decide) (gW_of tm_2_60) rfl rfl hnm9 rfl (by decide +kernel) rfl rfl (by simp) rfl dX11_init_36 rfl (fun M35 g_35 F_35 => ?_)
  refine m_aload_n (pc' := 40) C dX11_init_39 rfl 1 rfl rfl ?_
  have xfig_36 := xfig_31.fr F_35 (by simp <;> omega) (by simp <;> omega)
  have xr3_37 := xr3_32.fr F_35 (by simp <;> omega) (by simp <;> omega)
  have xr5_38 := rw_29.fr F_35 (by simp <;> omega) (by simp <;> omega)
  have kp_39 := kp_33.fr F_35 (by simp <;> omega)
  refine m_new (pc' := 43) (fs := [.null, .int (0), .int (0), .int (0)]) (ci := 9) C (fun ad => [(1, .ref (ad 1)), (0, .ref (ad 0))]) (fun ad => [.ref (ad 0)]) (fun ad9 he9 => by refine ⟨?_, ?_⟩ <;> (first | rfl | simp only [he9 0 (by omega), he9 1 (by omega)])) inW_X9 tyX9 tyX9_ok (gW_of tm_1_46) (gW_of tm_1_47) (gW_of tm_1_3) rfl (by decide +kernel) (by show _ ≤ _; simp) (by show _ ≤ _; simp) dX11_init_40 rfl (fun ad M40 he_40 g_40 hm_40 C => ?_)
  have hI := C.2.2.1
  have f0_41 : M40 0 = .inr (11, [.ref (ad 3), .ref (ad 5), .null, .null, .null, .null, .null, .null, .int (0), .int (0)]) := ((hm_40 0 (by omega)).trans g_35).trans (by rw [he_40 3 (by omega), he_40 5 (by omega)])
  have xfig_42 := xfig_36.ex he_40 (by omega) (fun k9 hk9 => by simp only [List.mem_cons, List.not_mem_nil, or_false] at hk9; exact hm_40 k9 (by omega)) (n' := 8)
  have xr3_43 := xr3_37.ex he_40 (by omega) (fun k9 hk9 => by simp only [List.mem_cons, List.not_mem_nil, or_false] at hk9; exact hm_40 k9 (by omega)) (n' := 8)
  have xr5_44 := xr5_38.ex he_40 (by omega) (fun k9 hk9 => by simp only [List.mem_cons, List.not_mem_nil, or_false] at hk9; exact hm_40 k9 (by omega)) (n' := 8)
  have kp_45 := kp_39.nw hm_40 (by omega)
  have ex_46 := ex_34.tr he_40 (by omega)
  refine m_dup (pc' := 44) C dX11_init_43 rfl rfl ?_
  refine m_sipush (pc' := 47) (v := nI 256) C dX11_init_44 (by decide) rfl ?_
  refine m_callI (pc' := 50) (As := [.int (nI 256)]) (b := 7) C hao9 (kX9_init hI (r := 7) (cap := 256) (by omega) g_40 (by decide)) (fun ad => [(1, .ref (ad 1)), (0, .ref (ad 0))]) (fun ad => [.ref (ad 7), .ref (ad 0)]) (fun ad9 he9 => by refine ⟨?_, ?_⟩ <;> (first | rfl | simp only [he9 0 (by omega), he9 1 (by omega), he9 7 (by omega)])) (cwI 1 C.1.2.2.2.2 (goodN tm_1_50) rfl rfl rfl (C.1.2.2.2.2 _ (gW_of tm_1_3)) (C.1.2.2.2.2 _ (gW_of tm_1_48)) (C.1.2.2.2.2 _ (gW_of tm_1_49)) rfl (by decide +kernel) ⟨by decide, by decide⟩) rfl rfl (Nat.le_of_ble_eq_true rfl) dX11_init_47 rfl ⟨by show _ ≤ _; simp, by show _ ≤ _; simp⟩ (fun ad M47 he_47 q_47 C => ?_)
  obtain ⟨rw_47, kq_47⟩ := q_47
  have hI := C.2.2.1
  have f0_48 : M47 0 = .inr (11, [.ref (ad 3), .ref (ad 5), .null, .null, .null, .null, .null, .null, .int (0), .int (0)]) := ((kq_47 0 (by omega) (by simp <;> omega)).trans f0_41).trans (by rw [he_47 3 (by omega), he_47 5 (by omega)])
  have xfig_49 := xfig_42.ex he_47 (by omega) (fun k9 hk9 => by simp only [List.mem_cons, List.not_mem_nil, or_false] at hk9; exact kq_47 k9 (by omega) (by simp <;> omega)) (n' := 9)
  have xr3_50 := xr3_43.ex he_47 (by omega) (fun k9 hk9 => by simp only [List.mem_cons, List.not_mem_nil, or_false] at hk9; exact kq_47 k9 (by omega) (by simp <;> omega)) (n' := 9)
  have xr5_51 := xr5_44.ex he_47 (by omega) (fun k9 hk9 => by simp only [List.mem_cons, List.not_mem_nil, or_false] at hk9; exact kq_47 k9 (by omega) (by simp <;> omega)) (n' := 9)
  have kp_52 := kp_45.kp kq_47 (by omega) (by simp <;> omega)
  have ex_53 := ex_46.tr he_47 (by omega)
  refine m_putF (pc' := 53) (ty := (.object "FormatDump$Row")) (fs' := [.ref (ad 3), .ref (ad 5), .ref (ad 7), .null, .null, .null, .null, .null, .int (0), .int (0)]) C 0 (by omega) f0_48 rfl inW_X11 tyX11 tyX11_ok nmX11 2 (by decide) (gW_of tm_2_61) rfl rfl hnm9 rfl (by decide +kernel) rfl rfl (by simp) rfl dX11_init_50 rfl (fun M54 g_54 F_54 => ?_)
  refine m_aload_n (pc' := 54) C dX11_init_53 rfl 1 rfl rfl ?_
  have xfig_55 := xfig_49.fr F_54 (by simp <;> omega) (by simp <;> omega)
  have xr3_56 := xr3_50.fr F_54 (by simp <;> omega) (by simp <;> omega)
  have xr5_57 := xr5_51.fr F_54 (by simp <;> omega) (by simp <;> omega)
  have xr7_58 := rw_47.fr F_54 (by simp <;> omega) (by simp <;> omega)
  have kp_59 := kp_52.fr F_54 (by simp <;> omega)
  refine m_new (pc' := 57) (fs := [.null, .null, .int (0), .int (0), .int (0)]) (ci := 1) C (fun ad => [(1, .ref (ad 1)), (0, .ref (ad 0))]) (fun ad => [.ref (ad 0)]) (fun ad9 he9 => by refine ⟨?_, ?_⟩ <;> (first | rfl | simp only [he9 0 (by omega), he9 1 (by omega)])) inW_X1 tyX1 tyX1_ok (gW_of tm_1_65) (gW_of tm_1_66) (gW_of tm_1_4) rfl (by decide +kernel) (by show _ ≤ _; simp) (by show _ ≤ _; simp) dX11_init_54 rfl (fun ad M60 he_60 g_60 hm_60 C => ?_)
  have hI := C.2.2.1
  have f0_61 : M60 0 = .inr (11, [.ref (ad 3), .ref (ad 5), .ref (ad 7), .null, .null, .null, .null, .null, .int (0), .int (0)]) := ((hm_60 0 (by omega)).trans g_54).trans (by rw [he_60 3 (by omega), he_60 5 (by omega), he_60 7 (by omega)])
  have xfig_62 := xfig_55.ex he_60 (by omega) (fun k9 hk9 => by simp only [List.mem_cons, List.not_mem_nil, or_false] at hk9; exact hm_60 k9 (by omega)) (n' := 10)
  have xr3_63 := xr3_56.ex he_60 (by omega) (fun k9 hk9 => by simp only [List.mem_cons, List.not_mem_nil, or_false] at hk9; exact hm_60 k9 (by omega)) (n' := 10)
  have xr5_64 := xr5_57.ex he_60 (by omega) (fun k9 hk9 => by simp only [List.mem_cons, List.not_mem_nil, or_false] at hk9; exact hm_60 k9 (by omega)) (n' := 10)
  have xr7_65 := xr7_58.ex he_60 (by omega) (fun k9 hk9 => by simp only [List.mem_cons, List.not_mem_nil, or_false] at hk9; exact hm_60 k9 (by omega)) (n' := 10)
  have kp_66 := kp_59.nw hm_60 (by omega)
  have ex_67 := ex_53.tr he_60 (by omega)
  refine m_dup (pc' := 58) C dX11_init_57 rfl rfl ?_
  refine m_callI (pc' := 61) (As := []) (b := 9) C hao9 (kX1_init hI g_60) (fun ad => [(1, .ref (ad 1)), (0, .ref (ad 0))]) (fun ad => [.ref (ad 9), .ref (ad 0)]) (fun ad9 he9 => by refine ⟨?_, ?_⟩ <;> (first | rfl | simp only [he9 0 (by omega), he9 1 (by omega), he9 9 (by omega)])) (cwI 0 C.1.2.2.2.2 (goodN tm_1_69) rfl rfl rfl (C.1.2.2.2.2 _ (gW_of tm_1_4)) (C.1.2.2.2.2 _ (gW_of tm_1_67)) (C.1.2.2.2.2 _ (gW_of tm_1_68)) rfl (by decide +kernel) ⟨by decide, by decide⟩) rfl rfl (Nat.le_of_ble_eq_true rfl) dX11_init_58 rfl ⟨by show _ ≤ _; simp, by show _ ≤ _; simp⟩ (fun ad M68 he_68 q_68 C => ?_)
  obtain ⟨ar_68, kq_68⟩ := q_68
  have hI := C.2.2.1
  have f0_69 : M68 0 = .inr (11, [.ref (ad 3), .ref (ad 5), .ref (ad 7), .null, .null, .null, .null, .null, .int (0), .int (0)]) := ((kq_68 0 (by omega) (by simp <;> omega)).trans f0_61).trans (by rw [he_68 3 (by omega), he_68 5 (by omega), he_68 7 (by omega)])
  have xfig_70 := xfig_62.ex he_68 (by omega) (fun k9 hk9 => by simp only [List.mem_cons, List.not_mem_nil, or_false] at hk9; exact kq_68 k9 (by omega) (by simp <;> omega)) (n' := 36)
  have xr3_71 := xr3_63.ex he_68 (by omega) (fun k9 hk9 => by simp only [List.mem_cons, List.not_mem_nil, or_false] at hk9; exact kq_68 k9 (by omega) (by simp <;> omega)) (n' := 36)
  have xr5_72 := xr5_64.ex he_68 (by omega) (fun k9 hk9 => by simp only [List.mem_cons, List.not_mem_nil, or_false] at hk9; exact kq_68 k9 (by omega) (by simp <;> omega)) (n' := 36)
  have xr7_73 := xr7_65.ex he_68 (by omega) (fun k9 hk9 => by simp only [List.mem_cons, List.not_mem_nil, or_false] at hk9; exact kq_68 k9 (by omega) (by simp <;> omega)) (n' := 36)
  have kp_74 := kp_66.kp kq_68 (by omega) (by simp <;> omega)
  have ex_75 := ex_67.tr he_68 (by omega)
  refine m_putF (pc' := 64) (ty := (.object "FormatDump$Arguments")) (fs' := [.ref (ad 3), .ref (ad 5), .ref (ad 7), .ref (ad 9), .null, .null, .null, .null, .int (0), .int (0)]) C 0 (by omega) f0_69 rfl inW_X11 tyX11 tyX11_ok nmX11 3 (by decide) (gW_of tm_2_62) rfl rfl hnm9 rfl (by decide +kernel) rfl rfl (by simp) rfl dX11_init_61 rfl (fun M76 g_76 F_76 => ?_)
  refine m_aload_n (pc' := 65) C dX11_init_64 rfl 1 rfl rfl ?_
  have xfig_77 := xfig_70.fr F_76 (by simp <;> omega) (by simp <;> omega)
  have xr3_78 := xr3_71.fr F_76 (by simp <;> omega) (by simp <;> omega)
  have xr5_79 := xr5_72.fr F_76 (by simp <;> omega) (by simp <;> omega)
  have xr7_80 := xr7_73.fr F_76 (by simp <;> omega) (by simp <;> omega)
  have xargs_81 := ar_68.fr F_76 (by decide)
  have kp_82 := kp_74.fr F_76 (by simp <;> omega)
  refine m_new (pc' := 68) (fs := [.null, .null, .null, .null, .null, .null, .null, .int (0)]) (ci := 8) C (fun ad => [(1, .ref (ad 1)), (0, .ref (ad 0))]) (fun ad => [.ref (ad 0)]) (fun ad9 he9 => by refine ⟨?_, ?_⟩ <;> (first | rfl | simp only [he9 0 (by omega), he9 1 (by omega)])) inW_X8 tyX8 tyX8_ok (gW_of tm_1_125) (gW_of tm_1_126) (gW_of tm_1_7) rfl (by decide +kernel) (by show _ ≤ _; simp) (by show _ ≤ _; simp) dX11_init_65 rfl (fun ad M83 he_83 g_83 hm_83 C => ?_)
  have hI := C.2.2.1
  have f0_84 : M83 0 = .inr (11, [.ref (ad 3), .ref (ad 5), .ref (ad 7), .ref (ad 9), .null, .null, .null, .null, .int (0), .int (0)]) := ((hm_83 0 (by omega)).trans g_76).trans (by rw [he_83 3 (by omega), he_83 5 (by omega), he_83 7 (by omega), he_83 9 (by omega)])
  have xfig_85 := xfig_77.ex he_83 (by omega) (fun k9 hk9 => by simp only [List.mem_cons, List.not_mem_nil, or_false] at hk9; exact hm_83 k9 (by omega)) (n' := 37)
  have xr3_86 := xr3_78.ex he_83 (by omega) (fun k9 hk9 => by simp only [List.mem_cons, List.not_mem_nil, or_false] at hk9; exact hm_83 k9 (by omega)) (n' := 37)
  have xr5_87 := xr5_79.ex he_83 (by omega) (fun k9 hk9 => by simp only [List.mem_cons, List.not_mem_nil, or_false] at hk9; exact hm_83 k9 (by omega)) (n' := 37)
  have xr7_88 := xr7_80.ex he_83 (by omega) (fun k9 hk9 => by simp only [List.mem_cons, List.not_mem_nil, or_false] at hk9; exact hm_83 k9 (by omega)) (n' := 37)
  have xargs_89 := xargs_81.ex he_83 (by omega) (fun k9 hk9 => by have h9 := mem_argS.mp hk9; exact hm_83 k9 (by omega)) (n' := 37)
  have kp_90 := kp_82.nw hm_83 (by omega)
  have ex_91 := ex_75.tr he_83 (by omega)
  refine m_dup (pc' := 69) C dX11_init_68 rfl rfl ?_
  refine m_aload_n (pc' := 70) C dX11_init_69 rfl 1 rfl rfl ?_
  refine m_get (pc' := 73) C 0 (by omega) f0_84 rfl inW_X11 1 (by decide) (gW_of tm_2_60) rfl rfl dX11_init_70 rfl ?_
  refine m_aload_n (pc' := 74) C dX11_init_73 rfl 1 rfl rfl ?_
  refine m_get (pc' := 77) C 0 (by omega) f0_84 rfl inW_X11 3 (by decide) (gW_of tm_2_62) rfl rfl dX11_init_74 rfl ?_
  refine m_aload_n (pc' := 78) C dX11_init_77 rfl 0 rfl rfl ?_
  refine m_callI (pc' := 81) (As := [.ref (ad 5), .ref (ad 9), .ref (ad 1)]) (b := 36) C hao9 (kX8_init hI g_83) (fun ad => [(1, .ref (ad 1)), (0, .ref (ad 0))]) (fun ad => [.ref (ad 36), .ref (ad 0)]) (fun ad9 he9 => by refine ⟨?_, ?_⟩ <;> (first | rfl | simp only [he9 0 (by omega), he9 1 (by omega), he9 36 (by omega)])) (cwI 3 C.1.2.2.2.2 (goodN tm_1_129) rfl rfl rfl (C.1.2.2.2.2 _ (gW_of tm_1_7)) (C.1.2.2.2.2 _ (gW_of tm_1_127)) (C.1.2.2.2.2 _ (gW_of tm_1_128)) rfl (by decide +kernel) ⟨by decide, by decide⟩) rfl rfl (Nat.le_of_ble_eq_true rfl) dX11_init_78 rfl ⟨by show _ ≤ _; simp, by show _ ≤ _; simp⟩ (fun ad M92 he_92 q_92 C => ?_)
  obtain ⟨ob36_92, ob37_92, ob38_92, r39_92, r41_92, kq_92⟩ := q_92
  have hI := C.2.2.1
  have f0_93 : M92 0 = .inr (11, [.ref (ad 3), .ref (ad 5), .ref (ad 7), .ref (ad 9), .null, .null, .null, .null, .int (0), .int (0)]) := ((kq_92 0 (by omega) (by simp <;> omega)).trans f0_84).trans (by rw [he_92 3 (by omega), he_92 5 (by omega), he_92 7 (by omega), he_92 9 (by omega)])
  have xfig_94 := xfig_85.ex he_92 (by omega) (fun k9 hk9 => by simp only [List.mem_cons, List.not_mem_nil, or_false] at hk9; exact kq_92 k9 (by omega) (by simp <;> omega)) (n' := 43)
  have xr3_95 := xr3_86.ex he_92 (by omega) (fun k9 hk9 => by simp only [List.mem_cons, List.not_mem_nil, or_false] at hk9; exact kq_92 k9 (by omega) (by simp <;> omega)) (n' := 43)
  have xr5_96 := xr5_87.ex he_92 (by omega) (fun k9 hk9 => by simp only [List.mem_cons, List.not_mem_nil, or_false] at hk9; exact kq_92 k9 (by omega) (by simp <;> omega)) (n' := 43)
  have xr7_97 := xr7_88.ex he_92 (by omega) (fun k9 hk9 => by simp only [List.mem_cons, List.not_mem_nil, or_false] at hk9; exact kq_92 k9 (by omega) (by simp <;> omega)) (n' := 43)
  have xargs_98 := xargs_89.ex he_92 (by omega) (fun k9 hk9 => by have h9 := mem_argS.mp hk9; exact kq_92 k9 (by omega) (by simp <;> omega)) (n' := 43)
  have kp_99 := kp_90.kp kq_92 (by omega) (by simp <;> omega)
  have ex_100 := ex_91.tr he_92 (by omega)
  refine m_putF (pc' := 84) (ty := (.object "FormatDump$Printer")) (fs' := [.ref (ad 3), .ref (ad 5), .ref (ad 7), .ref (ad 9), .ref (ad 36), .null, .null, .null, .int (0), .int (0)]) C 0 (by omega) f0_93 rfl inW_X11 tyX11 tyX11_ok nmX11 4 (by decide) (gW_of tm_2_63) rfl rfl hnm9 rfl (by decide +kernel) rfl rfl (by simp) rfl dX11_init_81 rfl (fun M101 g_101 F_101 => ?_)
  refine m_aload_n (pc' := 85) C dX11_init_84 rfl 1 rfl rfl ?_
  have f36_102 : M101 36 = .inr (8, [.ref (ad 5), .ref (ad 9), .ref (ad 1), .ref (ad 37), .ref (ad 38), .ref (ad 39), .ref (ad 41), .int (bI false)]) := (F_101 36 (by simp <;> omega)).trans ob36_92
  have f37_103 : M101 37 = .inr (3, [.int (nI 0), .int (nI 0)]) := (F_101 37 (by simp <;> omega)).trans ob37_92
  have f38_104 : M101 38 = .inr (2, [.int (bI false), .int (bI false), .int (bI false), .int (bI false), .int (bI false), .int (bI false), .int (bI false), .int (nI 0), .int ((-1)), .int (nI 32), .int ((-1)), .int (nI 0)]) := (F_101 38 (by simp <;> omega)).trans ob38_92
  have xfig_105 := xfig_94.fr F_101 (by simp <;> omega) (by simp <;> omega)
  have xr3_106 := xr3_95.fr F_101 (by simp <;> omega) (by simp <;> omega)
  have xr5_107 := xr5_96.fr F_101 (by simp <;> omega) (by simp <;> omega)
  have xr7_108 := xr7_97.fr F_101 (by simp <;> omega) (by simp <;> omega)
  have xargs_109 := xargs_98.fr F_101 (by decide)
  have xr39_110 := r39_92.fr F_101 (by simp <;> omega) (by simp <;> omega)
  have xr41_111 := r41_92.fr F_101 (by simp <;> omega) (by simp <;> omega)
  have kp_112 := kp_99.fr F_101 (by simp <;> omega)
  refine m_new (pc' := 88) (fs := [.null, .null, .null, .null, .int (0), .int (0), .int (0)]) (ci := 10) C (fun ad => [(1, .ref (ad 1)), (0, .ref (ad 0))]) (fun ad => [.ref (ad 0)]) (fun ad9 he9 => by refine ⟨?_, ?_⟩ <;> (first | rfl | simp only [he9 0 (by omega), he9 1 (by omega)])) inW_X10 tyX10 tyX10_ok (gW_of tm_1_229) (gW_of tm_1_230) (gW_of tm_1_10) rfl (by decide +kernel) (by show _ ≤ _; simp) (by show _ ≤ _; simp) dX11_init_85 rfl (fun ad M113 he_113 g_113 hm_113 C => ?_)
  have hI := C.2.2.1
  have f0_114 : M113 0 = .inr (11, [.ref (ad 3), .ref (ad 5), .ref (ad 7), .ref (ad 9), .ref (ad 36), .null, .null, .null, .int (0), .int (0)]) := ((hm_113 0 (by omega)).trans g_101).trans (by rw [he_113 3 (by omega), he_113 5 (by omega), he_113 7 (by omega), he_113 9 (by omega), he_113 36 (by omega)])
  have f36_115 : M113 36 = .inr (8, [.ref (ad 5), .ref (ad 9), .ref (ad 1), .ref (ad 37), .ref (ad 38), .ref (ad 39), .ref (ad 41), .int (bI false)]) := ((hm_113 36 (by omega)).trans f36_102).trans (by rw [he_113 5 (by omega), he_113 9 (by omega), he_113 1 (by omega), he_113 37 (by omega), he_113 38 (by omega), he_113 39 (by omega), he_113 41 (by omega)])
  have f37_116 : M113 37 = .inr (3, [.int (nI 0), .int (nI 0)]) := (hm_113 37 (by omega)).trans f37_103
  have f38_117 : M113 38 = .inr (2, [.int (bI false), .int (bI false), .int (bI false), .int (bI false), .int (bI false), .int (bI false), .int (bI false), .int (nI 0), .int ((-1)), .int (nI 32), .int ((-1)), .int (nI 0)]) := (hm_113 38 (by omega)).trans f38_104
  have xfig_118 := xfig_105.ex he_113 (by omega) (fun k9 hk9 => by simp only [List.mem_cons, List.not_mem_nil, or_false] at hk9; exact hm_113 k9 (by omega)) (n' := 44)
  have xr3_119 := xr3_106.ex he_113 (by omega) (fun k9 hk9 => by simp only [List.mem_cons, List.not_mem_nil, or_false] at hk9; exact hm_113 k9 (by omega)) (n' := 44)
  have xr5_120 := xr5_107.ex he_113 (by omega) (fun k9 hk9 => by simp only [List.mem_cons, List.not_mem_nil, or_false] at hk9; exact hm_113 k9 (by omega)) (n' := 44)
  have xr7_121 := xr7_108.ex he_113 (by omega) (fun k9 hk9 => by simp only [List.mem_cons, List.not_mem_nil, or_false] at hk9; exact hm_113 k9 (by omega)) (n' := 44)
  have xargs_122 := xargs_109.ex he_113 (by omega) (fun k9 hk9 => by have h9 := mem_argS.mp hk9; exact hm_113 k9 (by omega)) (n' := 44)
  have xr39_123 := xr39_110.ex he_113 (by omega) (fun k9 hk9 => by simp only [List.mem_cons, List.not_mem_nil, or_false] at hk9; exact hm_113 k9 (by omega)) (n' := 44)
  have xr41_124 := xr41_111.ex he_113 (by omega) (fun k9 hk9 => by simp only [List.mem_cons, List.not_mem_nil, or_false] at hk9; exact hm_113 k9 (by omega)) (n' := 44)
  have kp_125 := kp_112.nw hm_113 (by omega)
  have ex_126 := ex_100.tr he_113 (by omega)
  refine m_dup (pc' := 89) C dX11_init_88 rfl rfl ?_
  refine m_aload_n (pc' := 90) C dX11_init_89 rfl 1 rfl rfl ?_
  refine m_get (pc' := 93) C 0 (by omega) f0_114 rfl inW_X11 1 (by decide) (gW_of tm_2_60) rfl rfl dX11_init_90 rfl ?_
  refine m_aload_n (pc' := 94) C dX11_init_93 rfl 1 rfl rfl ?_
  refine m_get (pc' := 97) C 0 (by omega) f0_114 rfl inW_X11 2 (by decide) (gW_of tm_2_61) rfl rfl dX11_init_94 rfl ?_
  refine m_aload_n (pc' := 98) C dX11_init_97 rfl 0 rfl rfl ?_
  refine m_callI (pc' := 101) (As := [.ref (ad 5), .ref (ad 7), .ref (ad 1)]) (b := 43) C hao9 (kX10_init hI g_113) (fun ad => [(1, .ref (ad 1)), (0, .ref (ad 0))]) (fun ad => [.ref (ad 43), .ref (ad 0)]) (fun ad9 he9 => by refine ⟨?_, ?_⟩ <;> (first | rfl | simp only [he9 0 (by omega), he9 1 (by omega), he9 43 (by omega)])) (cwI 3 C.1.2.2.2.2 (goodN tm_1_233) rfl rfl rfl (C.1.2.2.2.2 _ (gW_of tm_1_10)) (C.1.2.2.2.2 _ (gW_of tm_1_231)) (C.1.2.2.2.2 _ (gW_of tm_1_232)) rfl (by decide +kernel) ⟨by decide, by decide⟩) rfl rfl (Nat.le_of_ble_eq_true rfl) dX11_init_98 rfl ⟨by show _ ≤ _; simp, by show _ ≤ _; simp⟩ (fun ad M127 he_127 q_127 C => ?_)
  obtain ⟨ob43_127, r44_127, kq_127⟩ := q_127
  have hI := C.2.2.1
  have f0_128 : M127 0 = .inr (11, [.ref (ad 3), .ref (ad 5), .ref (ad 7), .ref (ad 9), .ref (ad 36), .null, .null, .null, .int (0), .int (0)]) := ((kq_127 0 (by omega) (by simp <;> omega)).trans f0_114).trans (by rw [he_127 3 (by omega), he_127 5 (by omega), he_127 7 (by omega), he_127 9 (by omega), he_127 36 (by omega)])
  have f36_129 : M127 36 = .inr (8, [.ref (ad 5), .ref (ad 9), .ref (ad 1), .ref (ad 37), .ref (ad 38), .ref (ad 39), .ref (ad 41), .int (bI false)]) := ((kq_127 36 (by omega) (by simp <;> omega)).trans f36_115).trans (by rw [he_127 5 (by omega), he_127 9 (by omega), he_127 1 (by omega), he_127 37 (by omega), he_127 38 (by omega), he_127 39 (by omega), he_127 41 (by omega)])
  have f37_130 : M127 37 = .inr (3, [.int (nI 0), .int (nI 0)]) := (kq_127 37 (by omega) (by simp <;> omega)).trans f37_116
  have f38_131 : M127 38 = .inr (2, [.int (bI false), .int (bI false), .int (bI false), .int (bI false), .int (bI false), .int (bI false), .int (bI false), .int (nI 0), .int ((-1)), .int (nI 32), .int ((-1)), .int (nI 0)]) := (kq_127 38 (by omega) (by simp <;> omega)).trans f38_117
  have xfig_132 := xfig_118.ex he_127 (by omega) (fun k9 hk9 => by simp only [List.mem_cons, List.not_mem_nil, or_false] at hk9; exact kq_127 k9 (by omega) (by simp <;> omega)) (n' := 46)
  have xr3_133 := xr3_119.ex he_127 (by omega) (fun k9 hk9 => by simp only [List.mem_cons, List.not_mem_nil, or_false] at hk9; exact kq_127 k9 (by omega) (by simp <;> omega)) (n' := 46)
  have xr5_134 := xr5_120.ex he_127 (by omega) (fun k9 hk9 => by simp only [List.mem_cons, List.not_mem_nil, or_false] at hk9; exact kq_127 k9 (by omega) (by simp <;> omega)) (n' := 46)
  have xr7_135 := xr7_121.ex he_127 (by omega) (fun k9 hk9 => by simp only [List.mem_cons, List.not_mem_nil, or_false] at hk9; exact kq_127 k9 (by omega) (by simp <;> omega)) (n' := 46)
  have xargs_136 := xargs_122.ex he_127 (by omega) (fun k9 hk9 => by have h9 := mem_argS.mp hk9; exact kq_127 k9 (by omega) (by simp <;> omega)) (n' := 46)
  have xr39_137 := xr39_123.ex he_127 (by omega) (fun k9 hk9 => by simp only [List.mem_cons, List.not_mem_nil, or_false] at hk9; exact kq_127 k9 (by omega) (by simp <;> omega)) (n' := 46)
  have xr41_138 := xr41_124.ex he_127 (by omega) (fun k9 hk9 => by simp only [List.mem_cons, List.not_mem_nil, or_false] at hk9; exact kq_127 k9 (by omega) (by simp <;> omega)) (n' := 46)
  have kp_139 := kp_125.kp kq_127 (by omega) (by simp <;> omega)
  have ex_140 := ex_126.tr he_127 (by omega)
  refine m_putF (pc' := 104) (ty := (.object "FormatDump$WordDump")) (fs' := [.ref (ad 3), .ref (ad 5), .ref (ad 7), .ref (ad 9), .ref (ad 36), .ref (ad 43), .null, .null, .int (0), .int (0)]) C 0 (by omega) f0_128 rfl inW_X11 tyX11 tyX11_ok nmX11 5 (by decide) (gW_of tm_2_64) rfl rfl hnm9 rfl (by decide +kernel) rfl rfl (by simp) rfl dX11_init_101 rfl (fun M141 g_141 F_141 => ?_)
  refine m_aload_n (pc' := 105) C dX11_init_104 rfl 1 rfl rfl ?_
  have f36_142 : M141 36 = .inr (8, [.ref (ad 5), .ref (ad 9), .ref (ad 1), .ref (ad 37), .ref (ad 38), .ref (ad 39), .ref (ad 41), .int (bI false)]) := (F_141 36 (by simp <;> omega)).trans f36_129
  have f37_143 : M141 37 = .inr (3, [.int (nI 0), .int (nI 0)]) := (F_141 37 (by simp <;> omega)).trans f37_130
  have f38_144 : M141 38 = .inr (2, [.int (bI false), .int (bI false), .int (bI false), .int (bI false), .int (bI false), .int (bI false), .int (bI false), .int (nI 0), .int ((-1)), .int (nI 32), .int ((-1)), .int (nI 0)]) := (F_141 38 (by simp <;> omega)).trans f38_131
  have f43_145 : M141 43 = .inr (10, [.ref (ad 5), .ref (ad 7), .ref (ad 1), .ref (ad 44), .int (nI 0), .int (nI 111), .int (nI 1)]) := (F_141 43 (by simp <;> omega)).trans ob43_127
  have xfig_146 := xfig_132.fr F_141 (by simp <;> omega) (by simp <;> omega)
  have xr3_147 := xr3_133.fr F_141 (by simp <;> omega) (by simp <;> omega)
  have xr5_148 := xr5_134.fr F_141 (by simp <;> omega) (by simp <;> omega)
  have xr7_149 := xr7_135.fr F_141 (by simp <;> omega) (by simp <;> omega)
  have xargs_150 := xargs_136.fr F_141 (by decide)
  have xr39_151 := xr39_137.fr F_141 (by simp <;> omega) (by simp <;> omega)
  have xr41_152 := xr41_138.fr F_141 (by simp <;> omega) (by simp <;> omega)
  have xr44_153 := r44_127.fr F_141 (by simp <;> omega) (by simp <;> omega)
  have kp_154 := kp_139.fr F_141 (by simp <;> omega)
  refine m_new (pc' := 108) (fs := [.null, .null, .null]) (ci := 6) C (fun ad => [(1, .ref (ad 1)), (0, .ref (ad 0))]) (fun ad => [.ref (ad 0)]) (fun ad9 he9 => by refine ⟨?_, ?_⟩ <;> (first | rfl | simp only [he9 0 (by omega), he9 1 (by omega)])) inW_X6 tyX6 tyX6_ok (gW_of tm_2_19) (gW_of tm_2_20) (gW_of tm_1_11) rfl (by decide +kernel) (by show _ ≤ _; simp) (by show _ ≤ _; simp) dX11_init_105 rfl (fun ad M155 he_155 g_155 hm_155 C => ?_)
  have hI := C.2.2.1
  have f0_156 : M155 0 = .inr (11, [.ref (ad 3), .ref (ad 5), .ref (ad 7), .ref (ad 9), .ref (ad 36), .ref (ad 43), .null, .null, .int (0), .int (0)]) := ((hm_155 0 (by omega)).trans g_141).trans (by rw [he_155 3 (by omega), he_155 5 (by omega), he_155 7 (by omega), he_155 9 (by omega), he_155 36 (by omega), he_155 43 (by omega)])
  have f36_157 : M155 36 = .inr (8, [.ref (ad 5), .ref (ad 9), .ref (ad 1), .ref (ad 37), .ref (ad 38), .ref (ad 39), .ref (ad 41), .int (bI false)]) := ((hm_155 36 (by omega)).trans f36_142).trans (by rw [he_155 5 (by omega), he_155 9 (by omega), he_155 1 (by omega), he_155 37 (by omega), he_155 38 (by omega), he_155 39 (by omega), he_155 41 (by omega)])
  have f37_158 : M155 37 = .inr (3, [.int (nI 0), .int (nI 0)]) := (hm_155 37 (by omega)).trans f37_143
  have f38_159 : M155 38 = .inr (2, [.int (bI false), .int (bI false), .int (bI false), .int (bI false), .int (bI false), .int (bI false), .int (bI false), .int (nI 0), .int ((-1)), .int (nI 32), .int ((-1)), .int (nI 0)]) := (hm_155 38 (by omega)).trans f38_144
  have f43_160 : M155 43 = .inr (10, [.ref (ad 5), .ref (ad 7), .ref (ad 1), .ref (ad 44), .int (nI 0), .int (nI 111), .int (nI 1)]) := ((hm_155 43 (by omega)).trans f43_145).trans (by rw [he_155 5 (by omega), he_155 7 (by omega), he_155 1 (by omega), he_155 44 (by omega)])
  have xfig_161 := xfig_146.ex he_155 (by omega) (fun k9 hk9 => by simp only [List.mem_cons, List.not_mem_nil, or_false] at hk9; exact hm_155 k9 (by omega)) (n' := 47)
  have xr3_162 := xr3_147.ex he_155 (by omega) (fun k9 hk9 => by simp only [List.mem_cons, List.not_mem_nil, or_false] at hk9; exact hm_155 k9 (by omega)) (n' := 47)
  have xr5_163 := xr5_148.ex he_155 (by omega) (fun k9 hk9 => by simp only [List.mem_cons, List.not_mem_nil, or_false] at hk9; exact hm_155 k9 (by omega)) (n' := 47)
  have xr7_164 := xr7_149.ex he_155 (by omega) (fun k9 hk9 => by simp only [List.mem_cons, List.not_mem_nil, or_false] at hk9; exact hm_155 k9 (by omega)) (n' := 47)
  have xargs_165 := xargs_150.ex he_155 (by omega) (fun k9 hk9 => by have h9 := mem_argS.mp hk9; exact hm_155 k9 (by omega)) (n' := 47)
  have xr39_166 := xr39_151.ex he_155 (by omega) (fun k9 hk9 => by simp only [List.mem_cons, List.not_mem_nil, or_false] at hk9; exact hm_155 k9 (by omega)) (n' := 47)
  have xr41_167 := xr41_152.ex he_155 (by omega) (fun k9 hk9 => by simp only [List.mem_cons, List.not_mem_nil, or_false] at hk9; exact hm_155 k9 (by omega)) (n' := 47)
  have xr44_168 := xr44_153.ex he_155 (by omega) (fun k9 hk9 => by simp only [List.mem_cons, List.not_mem_nil, or_false] at hk9; exact hm_155 k9 (by omega)) (n' := 47)
  have kp_169 := kp_154.nw hm_155 (by omega)
  have ex_170 := ex_140.tr he_155 (by omega)
  refine m_dup (pc' := 109) C dX11_init_108 rfl rfl ?_
  refine m_aload_n (pc' := 110) C dX11_init_109 rfl 1 rfl rfl ?_
  refine m_get (pc' := 113) C 0 (by omega) f0_156 rfl inW_X11 1 (by decide) (gW_of tm_2_60) rfl rfl dX11_init_110 rfl ?_
  refine m_aload_n (pc' := 114) C dX11_init_113 rfl 1 rfl rfl ?_
  refine m_get (pc' := 117) C 0 (by omega) f0_156 rfl inW_X11 2 (by decide) (gW_of tm_2_61) rfl rfl dX11_init_114 rfl ?_
  refine m_aload_n (pc' := 118) C dX11_init_117 rfl 0 rfl rfl ?_
  refine m_callI (pc' := 121) (As := [.ref (ad 5), .ref (ad 7), .ref (ad 1)]) (b := 46) C hao9 (kX6_init hI g_155) (fun ad => [(1, .ref (ad 1)), (0, .ref (ad 0))]) (fun ad => [.ref (ad 46), .ref (ad 0)]) (fun ad9 he9 => by refine ⟨?_, ?_⟩ <;> (first | rfl | simp only [he9 0 (by omega), he9 1 (by omega), he9 46 (by omega)])) (cwI 3 C.1.2.2.2.2 (goodN tm_2_23) rfl rfl rfl (C.1.2.2.2.2 _ (gW_of tm_1_11)) (C.1.2.2.2.2 _ (gW_of tm_2_21)) (C.1.2.2.2.2 _ (gW_of tm_2_22)) rfl (by decide +kernel) ⟨by decide, by decide⟩) rfl rfl (Nat.le_of_ble_eq_true rfl) dX11_init_118 rfl ⟨by show _ ≤ _; simp, by show _ ≤ _; simp⟩ (fun ad M171 he_171 q_171 C => ?_)
  obtain ⟨ob46_171, kq_171⟩ := q_171
  have hI := C.2.2.1
  have f0_172 : M171 0 = .inr (11, [.ref (ad 3), .ref (ad 5), .ref (ad 7), .ref (ad 9), .ref (ad 36), .ref (ad 43), .null, .null, .int (0), .int (0)]) := ((kq_171 0 (by omega) (by simp <;> omega)).trans f0_156).trans (by rw [he_171 3 (by omega), he_171 5 (by omega), he_171 7 (by omega), he_171 9 (by omega), he_171 36 (by omega), he_171 43 (by omega)])
  have f36_173 : M171 36 = .inr (8, [.ref (ad 5), .ref (ad 9), .ref (ad 1), .ref (ad 37), .ref (ad 38), .ref (ad 39), .ref (ad 41), .int (bI false)]) := ((kq_171 36 (by omega) (by simp <;> omega)).trans f36_157).trans (by rw [he_171 5 (by omega), he_171 9 (by omega), he_171 1 (by omega), he_171 37 (by omega), he_171 38 (by omega), he_171 39 (by omega), he_171 41 (by omega)])
  have f37_174 : M171 37 = .inr (3, [.int (nI 0), .int (nI 0)]) := (kq_171 37 (by omega) (by simp <;> omega)).trans f37_158
  have f38_175 : M171 38 = .inr (2, [.int (bI false), .int (bI false), .int (bI false), .int (bI false), .int (bI false), .int (bI false), .int (bI false), .int (nI 0), .int ((-1)), .int (nI 32), .int ((-1)), .int (nI 0)]) := (kq_171 38 (by omega) (by simp <;> omega)).trans f38_159
  have f43_176 : M171 43 = .inr (10, [.ref (ad 5), .ref (ad 7), .ref (ad 1), .ref (ad 44), .int (nI 0), .int (nI 111), .int (nI 1)]) := ((kq_171 43 (by omega) (by simp <;> omega)).trans f43_160).trans (by rw [he_171 5 (by omega), he_171 7 (by omega), he_171 1 (by omega), he_171 44 (by omega)])
  have xfig_177 := xfig_161.ex he_171 (by omega) (fun k9 hk9 => by simp only [List.mem_cons, List.not_mem_nil, or_false] at hk9; exact kq_171 k9 (by omega) (by simp <;> omega)) (n' := 47)
  have xr3_178 := xr3_162.ex he_171 (by omega) (fun k9 hk9 => by simp only [List.mem_cons, List.not_mem_nil, or_false] at hk9; exact kq_171 k9 (by omega) (by simp <;> omega)) (n' := 47)
  have xr5_179 := xr5_163.ex he_171 (by omega) (fun k9 hk9 => by simp only [List.mem_cons, List.not_mem_nil, or_false] at hk9; exact kq_171 k9 (by omega) (by simp <;> omega)) (n' := 47)
  have xr7_180 := xr7_164.ex he_171 (by omega) (fun k9 hk9 => by simp only [List.mem_cons, List.not_mem_nil, or_false] at hk9; exact kq_171 k9 (by omega) (by simp <;> omega)) (n' := 47)
  have xargs_181 := xargs_165.ex he_171 (by omega) (fun k9 hk9 => by have h9 := mem_argS.mp hk9; exact kq_171 k9 (by omega) (by simp <;> omega)) (n' := 47)
  have xr39_182 := xr39_166.ex he_171 (by omega) (fun k9 hk9 => by simp only [List.mem_cons, List.not_mem_nil, or_false] at hk9; exact kq_171 k9 (by omega) (by simp <;> omega)) (n' := 47)
  have xr41_183 := xr41_167.ex he_171 (by omega) (fun k9 hk9 => by simp only [List.mem_cons, List.not_mem_nil, or_false] at hk9; exact kq_171 k9 (by omega) (by simp <;> omega)) (n' := 47)
  have xr44_184 := xr44_168.ex he_171 (by omega) (fun k9 hk9 => by simp only [List.mem_cons, List.not_mem_nil, or_false] at hk9; exact kq_171 k9 (by omega) (by simp <;> omega)) (n' := 47)
  have kp_185 := kp_169.kp kq_171 (by omega) (by simp <;> omega)
  have ex_186 := ex_170.tr he_171 (by omega)
  refine m_putF (pc' := 124) (ty := (.object "FormatDump$PairDump")) (fs' := [.ref (ad 3), .ref (ad 5), .ref (ad 7), .ref (ad 9), .ref (ad 36), .ref (ad 43), .ref (ad 46), .null, .int (0), .int (0)]) C 0 (by omega) f0_172 rfl inW_X11 tyX11 tyX11_ok nmX11 6 (by decide) (gW_of tm_2_65) rfl rfl hnm9 rfl (by decide +kernel) rfl rfl (by simp) rfl dX11_init_121 rfl (fun M187 g_187 F_187 => ?_)
  refine m_aload_n (pc' := 125) C dX11_init_124 rfl 1 rfl rfl ?_
  have f36_188 : M187 36 = .inr (8, [.ref (ad 5), .ref (ad 9), .ref (ad 1), .ref (ad 37), .ref (ad 38), .ref (ad 39), .ref (ad 41), .int (bI false)]) := (F_187 36 (by simp <;> omega)).trans f36_173
  have f37_189 : M187 37 = .inr (3, [.int (nI 0), .int (nI 0)]) := (F_187 37 (by simp <;> omega)).trans f37_174
  have f38_190 : M187 38 = .inr (2, [.int (bI false), .int (bI false), .int (bI false), .int (bI false), .int (bI false), .int (bI false), .int (bI false), .int (nI 0), .int ((-1)), .int (nI 32), .int ((-1)), .int (nI 0)]) := (F_187 38 (by simp <;> omega)).trans f38_175
  have f43_191 : M187 43 = .inr (10, [.ref (ad 5), .ref (ad 7), .ref (ad 1), .ref (ad 44), .int (nI 0), .int (nI 111), .int (nI 1)]) := (F_187 43 (by simp <;> omega)).trans f43_176
  have f46_192 : M187 46 = .inr (6, [.ref (ad 5), .ref (ad 7), .ref (ad 1)]) := (F_187 46 (by simp <;> omega)).trans ob46_171
  have xfig_193 := xfig_177.fr F_187 (by simp <;> omega) (by simp <;> omega)
  have xr3_194 := xr3_178.fr F_187 (by simp <;> omega) (by simp <;> omega)
  have xr5_195 := xr5_179.fr F_187 (by simp <;> omega) (by simp <;> omega)
  have xr7_196 := xr7_180.fr F_187 (by simp <;> omega) (by simp <;> omega)
  have xargs_197 := xargs_181.fr F_187 (by decide)
  have xr39_198 := xr39_182.fr F_187 (by simp <;> omega) (by simp <;> omega)
  have xr41_199 := xr41_183.fr F_187 (by simp <;> omega) (by simp <;> omega)
  have xr44_200 := xr44_184.fr F_187 (by simp <;> omega) (by simp <;> omega)
  have kp_201 := kp_185.fr F_187 (by simp <;> omega)
  refine m_new (pc' := 128) (fs := [.null, .null, .null, .int (0), .int (0)]) (ci := 7) C (fun ad => [(1, .ref (ad 1)), (0, .ref (ad 0))]) (fun ad => [.ref (ad 0)]) (fun ad9 he9 => by refine ⟨?_, ?_⟩ <;> (first | rfl | simp only [he9 0 (by omega), he9 1 (by omega)])) inW_X7 tyX7 tyX7_ok (gW_of tm_2_35) (gW_of tm_2_36) (gW_of tm_1_12) rfl (by decide +kernel) (by show _ ≤ _; simp) (by show _ ≤ _; simp) dX11_init_125 rfl (fun ad M202 he_202 g_202 hm_202 C => ?_)
  have hI := C.2.2.1
  have f0_203 : M202 0 = .inr (11, [.ref (ad 3), .ref (ad 5), .ref (ad 7), .ref (ad 9), .ref (ad 36), .ref (ad 43), .ref (ad 46), .null, .int (0), .int (0)]) := ((hm_202 0 (by omega)).trans g_187).trans (by rw [he_202 3 (by omega), he_202 5 (by omega), he_202 7 (by omega), he_202 9 (by omega), he_202 36 (by omega), he_202 43 (by omega), he_202 46 (by omega)])
  have f36_204 : M202 36 = .inr (8, [.ref (ad 5), .ref (ad 9), .ref (ad 1), .ref (ad 37), .ref (ad 38), .ref (ad 39), .ref (ad 41), .int (bI false)]) := ((hm_202 36 (by omega)).trans f36_188).trans (by rw [he_202 5 (by omega), he_202 9 (by omega), he_202 1 (by omega), he_202 37 (by omega), he_202 38 (by omega), he_202 39 (by omega), he_202 41 (by omega)])
  have f37_205 : M202 37 = .inr (3, [.int (nI 0), .int (nI 0)]) := (hm_202 37 (by omega)).trans f37_189
  have f38_206 : M202 38 = .inr (2, [.int (bI false), .int (bI false), .int (bI false), .int (bI false), .int (bI false), .int (bI false), .int (bI false), .int (nI 0), .int ((-1)), .int (nI 32), .int ((-1)), .int (nI 0)]) := (hm_202 38 (by omega)).trans f38_190
  have f43_207 : M202 43 = .inr (10, [.ref (ad 5), .ref (ad 7), .ref (ad 1), .ref (ad 44), .int (nI 0), .int (nI 111), .int (nI 1)]) := ((hm_202 43 (by omega)).trans f43_191).trans (by rw [he_202 5 (by omega), he_202 7 (by omega), he_202 1 (by omega), he_202 44 (by omega)])
  have f46_208 : M202 46 = .inr (6, [.ref (ad 5), .ref (ad 7), .ref (ad 1)]) := ((hm_202 46 (by omega)).trans f46_192).trans (by rw [he_202 5 (by omega), he_202 7 (by omega), he_202 1 (by omega)])
  have xfig_209 := xfig_193.ex he_202 (by omega) (fun k9 hk9 => by simp only [List.mem_cons, List.not_mem_nil, or_false] at hk9; exact hm_202 k9 (by omega)) (n' := 48)
  have xr3_210 := xr3_194.ex he_202 (by omega) (fun k9 hk9 => by simp only [List.mem_cons, List.not_mem_nil, or_false] at hk9; exact hm_202 k9 (by omega)) (n' := 48)
  have xr5_211 := xr5_195.ex he_202 (by omega) (fun k9 hk9 => by simp only [List.mem_cons, List.not_mem_nil, or_false] at hk9; exact hm_202 k9 (by omega)) (n' := 48)
  have xr7_212 := xr7_196.ex he_202 (by omega) (fun k9 hk9 => by simp only [List.mem_cons, List.not_mem_nil, or_false] at hk9; exact hm_202 k9 (by omega)) (n' := 48)
  have xargs_213 := xargs_197.ex he_202 (by omega) (fun k9 hk9 => by have h9 := mem_argS.mp hk9; exact hm_202 k9 (by omega)) (n' := 48)
  have xr39_214 := xr39_198.ex he_202 (by omega) (fun k9 hk9 => by simp only [List.mem_cons, List.not_mem_nil, or_false] at hk9; exact hm_202 k9 (by omega)) (n' := 48)
  have xr41_215 := xr41_199.ex he_202 (by omega) (fun k9 hk9 => by simp only [List.mem_cons, List.not_mem_nil, or_false] at hk9; exact hm_202 k9 (by omega)) (n' := 48)
  have xr44_216 := xr44_200.ex he_202 (by omega) (fun k9 hk9 => by simp only [List.mem_cons, List.not_mem_nil, or_false] at hk9; exact hm_202 k9 (by omega)) (n' := 48)
  have kp_217 := kp_201.nw hm_202 (by omega)
  have ex_218 := ex_186.tr he_202 (by omega)
  refine m_dup (pc' := 129) C dX11_init_128 rfl rfl ?_
  refine m_aload_n (pc' := 130) C dX11_init_129 rfl 1 rfl rfl ?_
  refine m_get (pc' := 133) C 0 (by omega) f0_203 rfl inW_X11 1 (by decide) (gW_of tm_2_60) rfl rfl dX11_init_130 rfl ?_
  refine m_callI (pc' := 136) (As := [.ref (ad 5)]) (b := 47) C hao9 (kX7_init hI g_202) (fun ad => [(1, .ref (ad 1)), (0, .ref (ad 0))]) (fun ad => [.ref (ad 47), .ref (ad 0)]) (fun ad9 he9 => by refine ⟨?_, ?_⟩ <;> (first | rfl | simp only [he9 0 (by omega), he9 1 (by omega), he9 47 (by omega)])) (cwI 1 C.1.2.2.2.2 (goodN tm_2_39) rfl rfl rfl (C.1.2.2.2.2 _ (gW_of tm_1_12)) (C.1.2.2.2.2 _ (gW_of tm_2_37)) (C.1.2.2.2.2 _ (gW_of tm_2_38)) rfl (by decide +kernel) ⟨by decide, by decide⟩) rfl rfl (Nat.le_of_ble_eq_true rfl) dX11_init_133 rfl ⟨by show _ ≤ _; simp, by show _ ≤ _; simp⟩ (fun ad M219 he_219 q_219 C => ?_)
  obtain ⟨ob47_219, r48_219, r50_219, kq_219⟩ := q_219
  have hI := C.2.2.1
  have f0_220 : M219 0 = .inr (11, [.ref (ad 3), .ref (ad 5), .ref (ad 7), .ref (ad 9), .ref (ad 36), .ref (ad 43), .ref (ad 46), .null, .int (0), .int (0)]) := ((kq_219 0 (by omega) (by simp <;> omega)).trans f0_203).trans (by rw [he_219 3 (by omega), he_219 5 (by omega), he_219 7 (by omega), he_219 9 (by omega), he_219 36 (by omega), he_219 43 (by omega), he_219 46 (by omega)])
  have f36_221 : M219 36 = .inr (8, [.ref (ad 5), .ref (ad 9), .ref (ad 1), .ref (ad 37), .ref (ad 38), .ref (ad 39), .ref (ad 41), .int (bI false)]) := ((kq_219 36 (by omega) (by simp <;> omega)).trans f36_204).trans (by rw [he_219 5 (by omega), he_219 9 (by omega), he_219 1 (by omega), he_219 37 (by omega), he_219 38 (by omega), he_219 39 (by omega), he_219 41 (by omega)])
  have f37_222 : M219 37 = .inr (3, [.int (nI 0), .int (nI 0)]) := (kq_219 37 (by omega) (by simp <;> omega)).trans f37_205
  have f38_223 : M219 38 = .inr (2, [.int (bI false), .int (bI false), .int (bI false), .int (bI false), .int (bI false), .int (bI false), .int (bI false), .int (nI 0), .int ((-1)), .int (nI 32), .int ((-1)), .int (nI 0)]) := (kq_219 38 (by omega) (by simp <;> omega)).trans f38_206
  have f43_224 : M219 43 = .inr (10, [.ref (ad 5), .ref (ad 7), .ref (ad 1), .ref (ad 44), .int (nI 0), .int (nI 111), .int (nI 1)]) := ((kq_219 43 (by omega) (by simp <;> omega)).trans f43_207).trans (by rw [he_219 5 (by omega), he_219 7 (by omega), he_219 1 (by omega), he_219 44 (by omega)])
  have f46_225 : M219 46 = .inr (6, [.ref (ad 5), .ref (ad 7), .ref (ad 1)]) := ((kq_219 46 (by omega) (by simp <;> omega)).trans f46_208).trans (by rw [he_219 5 (by omega), he_219 7 (by omega), he_219 1 (by omega)])
  have xfig_226 := xfig_209.ex he_219 (by omega) (fun k9 hk9 => by simp only [List.mem_cons, List.not_mem_nil, or_false] at hk9; exact kq_219 k9 (by omega) (by simp <;> omega)) (n' := 52)
  have xr3_227 := xr3_210.ex he_219 (by omega) (fun k9 hk9 => by simp only [List.mem_cons, List.not_mem_nil, or_false] at hk9; exact kq_219 k9 (by omega) (by simp <;> omega)) (n' := 52)
  have xr5_228 := xr5_211.ex he_219 (by omega) (fun k9 hk9 => by simp only [List.mem_cons, List.not_mem_nil, or_false] at hk9; exact kq_219 k9 (by omega) (by simp <;> omega)) (n' := 52)
  have xr7_229 := xr7_212.ex he_219 (by omega) (fun k9 hk9 => by simp only [List.mem_cons, List.not_mem_nil, or_false] at hk9; exact kq_219 k9 (by omega) (by simp <;> omega)) (n' := 52)
  have xargs_230 := xargs_213.ex he_219 (by omega) (fun k9 hk9 => by have h9 := mem_argS.mp hk9; exact kq_219 k9 (by omega) (by simp <;> omega)) (n' := 52)
  have xr39_231 := xr39_214.ex he_219 (by omega) (fun k9 hk9 => by simp only [List.mem_cons, List.not_mem_nil, or_false] at hk9; exact kq_219 k9 (by omega) (by simp <;> omega)) (n' := 52)
  have xr41_232 := xr41_215.ex he_219 (by omega) (fun k9 hk9 => by simp only [List.mem_cons, List.not_mem_nil, or_false] at hk9; exact kq_219 k9 (by omega) (by simp <;> omega)) (n' := 52)
  have xr44_233 := xr44_216.ex he_219 (by omega) (fun k9 hk9 => by simp only [List.mem_cons, List.not_mem_nil, or_false] at hk9; exact kq_219 k9 (by omega) (by simp <;> omega)) (n' := 52)
  have kp_234 := kp_217.kp kq_219 (by omega) (by simp <;> omega)
  have ex_235 := ex_218.tr he_219 (by omega)
  refine m_putF (pc' := 139) (ty := (.object "FormatDump$PairReader")) (fs' := [.ref (ad 3), .ref (ad 5), .ref (ad 7), .ref (ad 9), .ref (ad 36), .ref (ad 43), .ref (ad 46), .ref (ad 47), .int (0), .int (0)]) C 0 (by omega) f0_220 rfl inW_X11 tyX11 tyX11_ok nmX11 7 (by decide) (gW_of tm_2_66) rfl rfl hnm9 rfl (by decide +kernel) rfl rfl (by simp) rfl dX11_init_136 rfl (fun M236 g_236 F_236 => ?_)
  refine m_aload_n (pc' := 140) C dX11_init_139 rfl 1 rfl rfl ?_
  refine m_iconst (pc' := 141) (v := (-1)) C dX11_init_140 (by decide) rfl ?_
  refine m_put (pc' := 144) (ty := .int) (fs' := [.ref (ad 3), .ref (ad 5), .ref (ad 7), .ref (ad 9), .ref (ad 36), .ref (ad 43), .ref (ad 46), .ref (ad 47), .int ((-1)), .int (0)]) C 0 (by omega) g_236 rfl inW_X11 tyX11 tyX11_ok nmX11 8 (by decide) (gW_of tm_2_67) rfl rfl (by decide +kernel) rfl rfl (by simp) rfl dX11_init_141 rfl (fun M237 g_237 F_237 => ?_)
  refine m_aload_n (pc' := 145) C dX11_init_144 rfl 1 rfl rfl ?_
  refine m_iconst (pc' := 146) (v := nI 0) C dX11_init_145 (by decide) rfl ?_
  refine m_put (pc' := 149) (ty := .int) (fs' := [.ref (ad 3), .ref (ad 5), .ref (ad 7), .ref (ad 9), .ref (ad 36), .ref (ad 43), .ref (ad 46), .ref (ad 47), .int ((-1)), .int (nI 0)]) C 0 (by omega) g_237 rfl inW_X11 tyX11 tyX11_ok nmX11 9 (by decide) (gW_of tm_2_68) rfl rfl (by decide +kernel) rfl rfl (by simp) rfl dX11_init_146 rfl (fun M238 g_238 F_238 => ?_)
  have f36_239 : M236 36 = .inr (8, [.ref (ad 5), .ref (ad 9), .ref (ad 1), .ref (ad 37), .ref (ad 38), .ref (ad 39), .ref (ad 41), .int (bI false)]) := (F_236 36 (by simp <;> omega)).trans f36_221
  have f36_240 : M237 36 = .inr (8, [.ref (ad 5), .ref (ad 9), .ref (ad 1), .ref (ad 37), .ref (ad 38), .ref (ad 39), .ref (ad 41), .int (bI false)]) := (F_237 36 (by simp <;> omega)).trans f36_239
  have f36_241 : M238 36 = .inr (8, [.ref (ad 5), .ref (ad 9), .ref (ad 1), .ref (ad 37), .ref (ad 38), .ref (ad 39), .ref (ad 41), .int (bI false)]) := (F_238 36 (by simp <;> omega)).trans f36_240
  have f37_242 : M236 37 = .inr (3, [.int (nI 0), .int (nI 0)]) := (F_236 37 (by simp <;> omega)).trans f37_222
  have f37_243 : M237 37 = .inr (3, [.int (nI 0), .int (nI 0)]) := (F_237 37 (by simp <;> omega)).trans f37_242
  have f37_244 : M238 37 = .inr (3, [.int (nI 0), .int (nI 0)]) := (F_238 37 (by simp <;> omega)).trans f37_243
  have f38_245 : M236 38 = .inr (2, [.int (bI false), .int (bI false), .int (bI false), .int (bI false), .int (bI false), .int (bI false), .int (bI false), .int (nI 0), .int ((-1)), .int (nI 32), .int ((-1)), .int (nI 0)]) := (F_236 38 (by simp <;> omega)).trans f38_223
  have f38_246 : M237 38 = .inr (2, [.int (bI false), .int (bI false), .int (bI false), .int (bI false), .int (bI false), .int (bI false), .int (bI false), .int (nI 0), .int ((-1)), .int (nI 32), .int ((-1)), .int (nI 0)]) := (F_237 38 (by simp <;> omega)).trans f38_245
  have f38_247 : M238 38 = .inr (2, [.int (bI false), .int (bI false), .int (bI false), .int (bI false), .int (bI false), .int (bI false), .int (bI false), .int (nI 0), .int ((-1)), .int (nI 32), .int ((-1)), .int (nI 0)]) := (F_238 38 (by simp <;> omega)).trans f38_246
  have f43_248 : M236 43 = .inr (10, [.ref (ad 5), .ref (ad 7), .ref (ad 1), .ref (ad 44), .int (nI 0), .int (nI 111), .int (nI 1)]) := (F_236 43 (by simp <;> omega)).trans f43_224
  have f43_249 : M237 43 = .inr (10, [.ref (ad 5), .ref (ad 7), .ref (ad 1), .ref (ad 44), .int (nI 0), .int (nI 111), .int (nI 1)]) := (F_237 43 (by simp <;> omega)).trans f43_248
  have f43_250 : M238 43 = .inr (10, [.ref (ad 5), .ref (ad 7), .ref (ad 1), .ref (ad 44), .int (nI 0), .int (nI 111), .int (nI 1)]) := (F_238 43 (by simp <;> omega)).trans f43_249
  have f46_251 : M236 46 = .inr (6, [.ref (ad 5), .ref (ad 7), .ref (ad 1)]) := (F_236 46 (by simp <;> omega)).trans f46_225
  have f46_252 : M237 46 = .inr (6, [.ref (ad 5), .ref (ad 7), .ref (ad 1)]) := (F_237 46 (by simp <;> omega)).trans f46_251
  have f46_253 : M238 46 = .inr (6, [.ref (ad 5), .ref (ad 7), .ref (ad 1)]) := (F_238 46 (by simp <;> omega)).trans f46_252
  have f47_254 : M236 47 = .inr (7, [.ref (ad 5), .ref (ad 48), .ref (ad 50), .int (nI 0), .int (nI 0)]) := (F_236 47 (by simp <;> omega)).trans ob47_219
  have f47_255 : M237 47 = .inr (7, [.ref (ad 5), .ref (ad 48), .ref (ad 50), .int (nI 0), .int (nI 0)]) := (F_237 47 (by simp <;> omega)).trans f47_254
  have f47_256 : M238 47 = .inr (7, [.ref (ad 5), .ref (ad 48), .ref (ad 50), .int (nI 0), .int (nI 0)]) := (F_238 47 (by simp <;> omega)).trans f47_255
  have xfig_257 := xfig_226.fr F_236 (by simp <;> omega) (by simp <;> omega)
  have xr3_258 := xr3_227.fr F_236 (by simp <;> omega) (by simp <;> omega)
  have xr5_259 := xr5_228.fr F_236 (by simp <;> omega) (by simp <;> omega)
  have xr7_260 := xr7_229.fr F_236 (by simp <;> omega) (by simp <;> omega)
  have xargs_261 := xargs_230.fr F_236 (by decide)
  have xr39_262 := xr39_231.fr F_236 (by simp <;> omega) (by simp <;> omega)
  have xr41_263 := xr41_232.fr F_236 (by simp <;> omega) (by simp <;> omega)
  have xr44_264 := xr44_233.fr F_236 (by simp <;> omega) (by simp <;> omega)
  have xr48_265 := r48_219.fr F_236 (by simp <;> omega) (by simp <;> omega)
  have xr50_266 := r50_219.fr F_236 (by simp <;> omega) (by simp <;> omega)
  have kp_267 := kp_234.fr F_236 (by simp <;> omega)
  have xfig_268 := xfig_257.fr F_237 (by simp <;> omega) (by simp <;> omega)
  have xr3_269 := xr3_258.fr F_237 (by simp <;> omega) (by simp <;> omega)
  have xr5_270 := xr5_259.fr F_237 (by simp <;> omega) (by simp <;> omega)
  have xr7_271 := xr7_260.fr F_237 (by simp <;> omega) (by simp <;> omega)
  have xargs_272 := xargs_261.fr F_237 (by decide)
  have xr39_273 := xr39_262.fr F_237 (by simp <;> omega) (by simp <;> omega)
  have xr41_274 := xr41_263.fr F_237 (by simp <;> omega) (by simp <;> omega)
  have xr44_275 := xr44_264.fr F_237 (by simp <;> omega) (by simp <;> omega)
  have xr48_276 := xr48_265.fr F_237 (by simp <;> omega) (by simp <;> omega)
  have xr50_277 := xr50_266.fr F_237 (by simp <;> omega) (by simp <;> omega)
  have kp_278 := kp_267.fr F_237 (by simp <;> omega)
  have xfig_279 := xfig_268.fr F_238 (by simp <;> omega) (by simp <;> omega)
  have xr3_280 := xr3_269.fr F_238 (by simp <;> omega) (by simp <;> omega)
  have xr5_281 := xr5_270.fr F_238 (by simp <;> omega) (by simp <;> omega)
  have xr7_282 := xr7_271.fr F_238 (by simp <;> omega) (by simp <;> omega)
  have xargs_283 := xargs_272.fr F_238 (by decide)
  have xr39_284 := xr39_273.fr F_238 (by simp <;> omega) (by simp <;> omega)
  have xr41_285 := xr41_274.fr F_238 (by simp <;> omega) (by simp <;> omega)
  have xr44_286 := xr44_275.fr F_238 (by simp <;> omega) (by simp <;> omega)
  have xr48_287 := xr48_276.fr F_238 (by simp <;> omega) (by simp <;> omega)
  have xr50_288 := xr50_277.fr F_238 (by simp <;> omega) (by simp <;> omega)
  have kp_289 := kp_278.fr F_238 (by simp <;> omega)
  exact m_vretN C hrt0 hlk0 dX11_init_149 ex_235 (by rfl) (by first | rfl | omega) (fun _ _ => rfl) ⟨⟨g_238, xr3_280, xr5_281, xr7_282, xargs_283, xfig_279, f36_241, f37_244, f38_247, xr39_284, xr41_285, f43_250, xr44_286, f46_253, f47_256, xr48_287, xr50_288⟩, kp_289⟩
