set_option maxHeartbeats 4000000 in
set_option maxRecDepth 100000 in
theorem kX9_init {l : Launch} {D : va_G} {cy : Nat → ClassId} {ad : Nat → Nat} {n : Nat} {A : Nat → Prop} (hI : mI ad n A) {M : Nat → va_E} {r cap : Nat} (hr : r < n) (hr0 : M r = .inr (9, [.null, .int (0), .int (0), .int (0)])) (hcap : cap ≤ 2000) : mCt l yX9_init (gW yX9_init cX9_init 2 none) { frames := 1, cells := 1, slots := cap, locals := 20 } D cy ad n (n + 1) A [.ref (ad r), .int (nI cap)] M 1 cap (fun ad' M' => isRow cy ad' (n + 1) M' r n cap cap [] ∧ Kp n [r] M M') := by
  have hEx0 : Ex (n) ad ad := Ex.rf
  have hKp0 : Kp (n) [r] M M := Kp.rf
  refine m_entryN (cc := cX9_init) (maxL := 2) (ret := none) (own := RX9) (lv := [(0, .ref (ad r)), (1, .int (nI cap))]) hI (by decide) rfl rfl rfl (Nat.le_of_ble_eq_true rfl) rfl (fun pX eX sX mX aX bX tX cX C hrt0 hlk0 hnm9 hao9 => ?_)
  refine m_aload_n (pc' := 1) C dX9_init_0 rfl 0 rfl rfl ?_
  refine m_objI (pc' := 4) C (gW_of tm_1_51) (gW_of tm_1_27) (gW_of tm_1_28) dX9_init_1 rfl (Nat.le_of_ble_eq_true rfl) (Nat.le_of_ble_eq_true rfl) (Nat.le_of_ble_eq_true rfl) ?_
  refine m_aload_n (pc' := 5) C dX9_init_4 rfl 0 rfl rfl ?_
  refine m_iload_n (pc' := 6) C dX9_init_5 rfl 1 rfl rfl ?_
  refine m_newa (pc' := 8) (atype := .int) (ty := .int) (N := cap) (a0 := (cap, .inl (fun _ => 0))) C 1 (fun ad => [(0, .ref (ad r)), (1, .int (nI cap))]) (fun ad => [.ref (ad r)]) (fun ad9 he9 => by refine ⟨?_, ?_⟩ <;> (first | rfl | simp only [he9 r (by omega)])) rfl (gW_of tm_1_45) rfl (fun _ => by simp) (fun _ => rfl) (by rw [Int32.not_lt]; exact nI_pos' (by omega)) (nI_clamp (by omega)) (by show cap * 4 ≤ _; omega) (by show _ ≤ _; simp) (by show _ ≤ _; simp) dX9_init_6 rfl (fun ad M1 he_1 g_1 hm_1 C => ?_)
  have hI := C.2.2.1
  have fr_2 : M1 r = .inr (9, [.null, .int (0), .int (0), .int (0)]) := (hm_1 r (by omega)).trans hr0
  have kp_3 := hKp0.nw hm_1 (by omega)
  have ex_4 := hEx0.tr he_1 (by omega)
  refine m_putF (pc' := 11) (ty := (.array .int)) (fs' := [.ref (ad n), .int (0), .int (0), .int (0)]) C r (by omega) fr_2 rfl inW_X9 tyX9 tyX9_ok nmX9 0 (by decide) (gW_of tm_1_52) rfl rfl hnm9 rfl (by decide +kernel) rfl rfl (by simp) rfl dX9_init_8 rfl (fun M5 g_5 F_5 => ?_)
  refine m_aload_n (pc' := 12) C dX9_init_11 rfl 0 rfl rfl ?_
  refine m_iload_n (pc' := 13) C dX9_init_12 rfl 1 rfl rfl ?_
  refine m_put (pc' := 16) (ty := .int) (fs' := [.ref (ad n), .int (nI cap), .int (0), .int (0)]) C r (by omega) g_5 rfl inW_X9 tyX9 tyX9_ok nmX9 1 (by decide) (gW_of tm_1_53) rfl rfl (by decide +kernel) rfl rfl (by simp) rfl dX9_init_13 rfl (fun M6 g_6 F_6 => ?_)
  refine m_aload_n (pc' := 17) C dX9_init_16 rfl 0 rfl rfl ?_
  refine m_iconst (pc' := 18) (v := nI 0) C dX9_init_17 (by decide) rfl ?_
  refine m_put (pc' := 21) (ty := .int) (fs' := [.ref (ad n), .int (nI cap), .int (nI 0), .int (0)]) C r (by omega) g_6 rfl inW_X9 tyX9 tyX9_ok nmX9 2 (by decide) (gW_of tm_1_54) rfl rfl (by decide +kernel) rfl rfl (by simp) rfl dX9_init_18 rfl (fun M7 g_7 F_7 => ?_)
  refine m_aload_n (pc' := 22) C dX9_init_21 rfl 0 rfl rfl ?_
  refine m_iconst (pc' := 23) (v := bI false) C dX9_init_22 (by decide) rfl ?_
  refine m_put (pc' := 26) (ty := .boolean) (fs' := [.ref (ad n), .int (nI cap), .int (nI 0), .int (bI false)]) C r (by omega) g_7 rfl inW_X9 tyX9 tyX9_ok nmX9 3 (by decide) (gW_of tm_1_55) rfl rfl (by decide +kernel) (nar_z _) (fit_z _) (by simp) rfl dX9_init_23 rfl (fun M8 g_8 F_8 => ?_)
  have fn_9 : M5 n = .inl (cy 1, cap, .inl (fun _ => 0)) := (F_5 n (by simp <;> omega)).trans g_1
  have fn_10 : M6 n = .inl (cy 1, cap, .inl (fun _ => 0)) := (F_6 n (by simp <;> omega)).trans fn_9
  have fn_11 : M7 n = .inl (cy 1, cap, .inl (fun _ => 0)) := (F_7 n (by simp <;> omega)).trans fn_10
  have fn_12 : M8 n = .inl (cy 1, cap, .inl (fun _ => 0)) := (F_8 n (by simp <;> omega)).trans fn_11
  have kp_13 := kp_3.fr F_5 (by simp <;> omega)
  have kp_14 := kp_13.fr F_6 (by simp <;> omega)
  have kp_15 := kp_14.fr F_7 (by simp <;> omega)
  have kp_16 := kp_15.fr F_8 (by simp <;> omega)
  exact m_vretN C hrt0 hlk0 dX9_init_26 ex_4 (by rfl) (by first | rfl | omega) (fun _ _ => rfl) ⟨isRow.mk0 (by omega) (by omega) hcap g_8 fn_12, kp_16⟩
