/-- the fields of a reference just made -/
def mF0 (ad : Nat → Nat) : List Value := [.int (0), .ref (ad 53), .int (0), .int (0), .ref (ad 54), .ref (ad 55), .ref (ad 56), .ref (ad 57), .int (0), .ref (ad 58), .int (nI 2000), .int (0), .ref (ad 59), .int (0), .int ((-1)), .int (0), .int (0), .int (0), .int (0), .int (0), .int (0), .int (0), .int (0), .int (0), .int (0), .int (0), .int (0), .int (0), .int (0), .ref (ad 60), .int (0), .ref (ad 61), .int (0), .ref (ad 62), .int (0), .int (0)]
def gM (M : Nat → va_E) (fs : List Value) : Nat → va_E := fun k => if 100 ≤ k then gh (fs.getD (k - 100) .null) else M k
theorem Kp.ghost {n : Nat} {S : List Nat} {M M' : Nat → va_E} {fs : List Value} (h : Kp n S M M') (hn : n ≤ 100 := by decide) : Kp n S M (gM M' fs) := fun k hk hs => by
  unfold gM
  rw [if_neg (by omega)]
  exact h k hk hs
theorem isM.mk0 {cy : Nat → ClassId} {ad : Nat → Nat} {M : Nat → va_E} (h52 : M 52 = .inr (12, mF0 ad)) (h53 : M 53 = .inl (cy 0, 80, .inl (fun _ => 0))) (h54 : M 54 = .inl (cy 3, 8, .inl (fun _ => 0))) (h55 : M 55 = .inl (cy 2, 8, .inr (.inl (fun _ => 0)))) (h56 : M 56 = .inl (cy 1, 8, .inl (fun _ => 0))) (h57 : M 57 = .inl (cy 0, 640, .inl (fun _ => 0))) (h58 : M 58 = .inl (cy 1, 256, .inl (fun _ => 0))) (h59 : M 59 = .inl (cy 0, 2000, .inl (fun _ => 0))) (h60 : M 60 = .inl (cy 0, 200, .inl (fun _ => 0))) (h61 : M 61 = .inl (cy 0, 200, .inl (fun _ => 0))) (h62 : M 62 = .inl (cy 1, 2000, .inl (fun _ => 0))) : isM cy ad (gM M (mF0 ad)) [] (fun _ => .inl 0) 0 2000 [] [] (-1) (nI 0) := by
  have g : ∀ k, k < 100 → gM M (mF0 ad) k = M k := fun k hk => if_neg (by omega)
  have e0 : ∀ x : Nat, x ∉ ([] : List Nat) := fun x hx => by cases hx
  refine ⟨?_, ⟨(fun x hx => by cases hx), (fun x hx => by cases hx), rfl, ⟨Nat.zero_le _, fun _ => 0, (g 53 (by decide)).trans h53, (fun i hi => by cases hi)⟩⟩, ⟨Nat.zero_le _, rfl, fun _ => false, fun _ => 0, fun _ => 0, fun _ => 0, (g 54 (by decide)).trans h54, (g 55 (by decide)).trans h55, (g 56 (by decide)).trans h56, (g 57 (by decide)).trans h57, (fun i hi => by cases hi)⟩, ⟨Nat.le_refl _, Nat.zero_le _, (fun x hx => by cases hx), rfl, rfl, ⟨false, rfl⟩, ⟨Nat.zero_le _, fun _ => 0, (g 59 (by decide)).trans h59, (fun i hi => by cases hi)⟩⟩, ⟨(fun x hx => by cases hx), rfl, ⟨Nat.zero_le _, fun _ => 0, (g 58 (by decide)).trans h58, (fun i hi => by cases hi)⟩⟩, rfl, rfl, ⟨[], (fun x hx => by cases hx), rfl, ⟨Nat.zero_le _, fun _ => 0, (g 60 (by decide)).trans h60, (fun i hi => by cases hi)⟩⟩, ⟨[], (fun x hx => by cases hx), rfl, ⟨Nat.zero_le _, fun _ => 0, (g 61 (by decide)).trans h61, (fun i hi => by cases hi)⟩⟩, fun _ => 0, (g 62 (by decide)).trans h62⟩
  unfold rO
  rw [g 52 (by decide), h52]
  rfl
set_option maxHeartbeats 4000000 in
set_option maxRecDepth 100000 in
theorem kX12_init {l : Launch} {D : va_G} {cy : Nat → ClassId} {ad : Nat → Nat}  {A : Nat → Prop} (hI : mI ad 53 A) {M : Nat → va_E} (hr0 : M 52 = .inr (12, [.int (0), .null, .int (0), .int (0), .null, .null, .null, .null, .int (0), .null, .int (0), .int (0), .null, .int (0), .int (0), .int (0), .int (0), .int (0), .int (0), .int (0), .int (0), .int (0), .int (0), .int (0), .int (0), .int (0), .int (0), .int (0), .int (0), .null, .int (0), .null, .int (0), .null, .int (0), .int (0)])) : mCt l yX12_init (gW yX12_init cX12_init 1 none) { frames := 1, cells := 10, slots := 5400, locals := 20 } D cy ad 53 63 A [.ref (ad 52)] M 10 5400 (fun ad' M' => isM cy ad' M' [] (fun _ => .inl 0) 0 2000 [] [] (-1) (nI 0) ∧ Kp 53 [52] M M') := by
  have hEx0 : Ex (53) ad ad := Ex.rf
  have hKp0 : Kp (53) [52] M M := Kp.rf
  refine m_entryN (cc := cX12_init) (maxL := 1) (ret := none) (own := RX12) (lv := [(0, .ref (ad 52))]) hI (by decide) rfl rfl rfl (Nat.le_of_ble_eq_true rfl) rfl (fun pX eX sX mX aX bX tX cX C hrt0 hlk0 hnm9 hao9 => ?_)
  refine m_aload_n (pc' := 1) C dX12_init_0 rfl 0 rfl rfl ?_
  refine m_objI (pc' := 4) C (gW_of tm_5_49) (gW_of tm_1_27) (gW_of tm_1_28) dX12_init_1 rfl (Nat.le_of_ble_eq_true rfl) (Nat.le_of_ble_eq_true rfl) (Nat.le_of_ble_eq_true rfl) ?_
  refine m_aload_n (pc' := 5) C dX12_init_4 rfl 0 rfl rfl ?_
  refine m_bipush (pc' := 7) (v := nI 80) C dX12_init_5 (by decide) rfl ?_
  refine m_newa (pc' := 9) (atype := .char) (ty := .char) (N := 80) (a0 := (80, .inl (fun _ => 0))) C 0 (fun ad => [(0, .ref (ad 52))]) (fun ad => [.ref (ad 52)]) (fun ad9 he9 => by refine ⟨?_, ?_⟩ <;> (first | rfl | simp only [he9 52 (by omega)])) rfl (gW_of tm_5_159) rfl (fun _ => by simp) (fun _ => rfl) (by decide) (by decide) (by decide) (by show _ ≤ _; simp) (by show _ ≤ _; simp) dX12_init_7 rfl (fun ad M1 he_1 g_1 hm_1 C => ?_)
  have hI := C.2.2.1
  have f52_2 : M1 52 = .inr (12, [.int (0), .null, .int (0), .int (0), .null, .null, .null, .null, .int (0), .null, .int (0), .int (0), .null, .int (0), .int (0), .int (0), .int (0), .int (0), .int (0), .int (0), .int (0), .int (0), .int (0), .int (0), .int (0), .int (0), .int (0), .int (0), .int (0), .null, .int (0), .null, .int (0), .null, .int (0), .int (0)]) := (hm_1 52 (by omega)).trans hr0
  have kp_3 := hKp0.nw hm_1 (by omega)
  have ex_4 := hEx0.tr he_1 (by omega)
  refine m_putF (pc' := 12) (ty := (.array .char)) (fs' := [.int (0), .ref (ad 53), .int (0), .int (0), .null, .null, .null, .null, .int (0), .null, .int (0), .int (0), .null, .int (0), .int (0), .int (0), .int (0), .int (0), .int (0), .int (0), .int (0), .int (0), .int (0), .int (0), .int (0), .int (0), .int (0), .int (0), .int (0), .null, .int (0), .null, .int (0), .null, .int (0), .int (0)]) C 52 (by omega) f52_2 rfl inW_X12 tyX12 tyX12_ok nmX12 1 (by decide) (gW_of tm_5_51) rfl rfl hnm9 rfl (by decide +kernel) rfl rfl (by simp) rfl dX12_init_9 rfl (fun M5 g_5 F_5 => ?_)
  refine m_aload_n (pc' := 13) C dX12_init_12 rfl 0 rfl rfl ?_
  refine m_bipush (pc' := 15) (v := nI 8) C dX12_init_13 (by decide) rfl ?_
  have f53_6 : M5 53 = .inl (cy 0, 80, .inl (fun _ => 0)) := (F_5 53 (by simp <;> omega)).trans g_1
  have kp_7 := kp_3.fr F_5 (by simp <;> omega)
  refine m_newa (pc' := 17) (atype := .boolean) (ty := .boolean) (N := 8) (a0 := (8, .inl (fun _ => 0))) C 3 (fun ad => [(0, .ref (ad 52))]) (fun ad => [.ref (ad 52)]) (fun ad9 he9 => by refine ⟨?_, ?_⟩ <;> (first | rfl | simp only [he9 52 (by omega)])) rfl (gW_of tm_5_160) rfl (fun _ => by simp) (fun _ => rfl) (by decide) (by decide) (by decide) (by show _ ≤ _; simp) (by show _ ≤ _; simp) dX12_init_15 rfl (fun ad M8 he_8 g_8 hm_8 C => ?_)
  have hI := C.2.2.1
  have f52_9 : M8 52 = .inr (12, [.int (0), .ref (ad 53), .int (0), .int (0), .null, .null, .null, .null, .int (0), .null, .int (0), .int (0), .null, .int (0), .int (0), .int (0), .int (0), .int (0), .int (0), .int (0), .int (0), .int (0), .int (0), .int (0), .int (0), .int (0), .int (0), .int (0), .int (0), .null, .int (0), .null, .int (0), .null, .int (0), .int (0)]) := ((hm_8 52 (by omega)).trans g_5).trans (by rw [he_8 53 (by omega)])
  have f53_10 : M8 53 = .inl (cy 0, 80, .inl (fun _ => 0)) := (hm_8 53 (by omega)).trans f53_6
  have kp_11 := kp_7.nw hm_8 (by omega)
  have ex_12 := ex_4.tr he_8 (by omega)
  refine m_putF (pc' := 20) (ty := (.array .boolean)) (fs' := [.int (0), .ref (ad 53), .int (0), .int (0), .ref (ad 54), .null, .null, .null, .int (0), .null, .int (0), .int (0), .null, .int (0), .int (0), .int (0), .int (0), .int (0), .int (0), .int (0), .int (0), .int (0), .int (0), .int (0), .int (0), .int (0), .int (0), .int (0), .int (0), .null, .int (0), .null, .int (0), .null, .int (0), .int (0)]) C 52 (by omega) f52_9 rfl inW_X12 tyX12 tyX12_ok nmX12 4 (by decide) (gW_of tm_5_54) rfl rfl hnm9 rfl (by decide +kernel) rfl rfl (by simp) rfl dX12_init_17 rfl (fun M13 g_13 F_13 => ?_)
  refine m_aload_n (pc' := 21) C dX12_init_20 rfl 0 rfl rfl ?_
  refine m_bipush (pc' := 23) (v := nI 8) C dX12_init_21 (by decide) rfl ?_
  have f53_14 : M13 53 = .inl (cy 0, 80, .inl (fun _ => 0)) := (F_13 53 (by simp <;> omega)).trans f53_10
  have f54_15 : M13 54 = .inl (cy 3, 8, .inl (fun _ => 0)) := (F_13 54 (by simp <;> omega)).trans g_8
  have kp_16 := kp_11.fr F_13 (by simp <;> omega)
  refine m_newa (pc' := 25) (atype := .long) (ty := .long) (N := 8) (a0 := (8, .inr (.inl (fun _ => 0)))) C 2 (fun ad => [(0, .ref (ad 52))]) (fun ad => [.ref (ad 52)]) (fun ad9 he9 => by refine ⟨?_, ?_⟩ <;> (first | rfl | simp only [he9 52 (by omega)])) rfl (gW_of tm_5_161) rfl (fun _ => by simp) (fun _ => rfl) (by decide) (by decide) (by decide) (by show _ ≤ _; simp) (by show _ ≤ _; simp) dX12_init_23 rfl (fun ad M17 he_17 g_17 hm_17 C => ?_)
  have hI := C.2.2.1
  have f52_18 : M17 52 = .inr (12, [.int (0), .ref (ad 53), .int (0), .int (0), .ref (ad 54), .null, .null, .null, .int (0), .null, .int (0), .int (0), .null, .int (0), .int (0), .int (0), .int (0), .int (0), .int (0), .int (0), .int (0), .int (0), .int (0), .int (0), .int (0), .int (0), .int (0), .int (0), .int (0), .null, .int (0), .null, .int (0), .null, .int (0), .int (0)]) := ((hm_17 52 (by omega)).trans g_13).trans (by rw [he_17 53 (by omega), he_17 54 (by omega)])
  have f53_19 : M17 53 = .inl (cy 0, 80, .inl (fun _ => 0)) := (hm_17 53 (by omega)).trans f53_14
  have f54_20 : M17 54 = .inl (cy 3, 8, .inl (fun _ => 0)) := (hm_17 54 (by omega)).trans f54_15
  have kp_21 := kp_16.nw hm_17 (by omega)
  have ex_22 := ex_12.tr he_17 (by omega)
  refine m_putF (pc' := 28) (ty := (.array .long)) (fs' := [.int (0), .ref (ad 53), .int (0), .int (0), .ref (ad 54), .ref (ad 55), .null, .null, .int (0), .null, .int (0), .int (0), .null, .int (0), .int (0), .int (0), .int (0), .int (0), .int (0), .int (0), .int (0), .int (0), .int (0), .int (0), .int (0), .int (0), .int (0), .int (0), .int (0), .null, .int (0), .null, .int (0), .null, .int (0), .int (0)]) C 52 (by omega) f52_18 rfl inW_X12 tyX12 tyX12_ok nmX12 5 (by decide) (gW_of tm_5_55) rfl rfl hnm9 rfl (by decide +kernel) rfl rfl (by simp) rfl dX12_init_25 rfl (fun M23 g_23 F_23 => ?_)
  refine m_aload_n (pc' := 29) C dX12_init_28 rfl 0 rfl rfl ?_
  refine m_bipush (pc' := 31) (v := nI 8) C dX12_init_29 (by decide) rfl ?_
  have f53_24 : M23 53 = .inl (cy 0, 80, .inl (fun _ => 0)) := (F_23 53 (by simp <;> omega)).trans f53_19
  have f54_25 : M23 54 = .inl (cy 3, 8, .inl (fun _ => 0)) := (F_23 54 (by simp <;> omega)).trans f54_20
  have f55_26 : M23 55 = .inl (cy 2, 8, .inr (.inl (fun _ => 0))) := (F_23 55 (by simp <;> omega)).trans g_17
  have kp_27 := kp_21.fr F_23 (by simp <;> omega)
  refine m_newa (pc' := 33) (atype := .int) (ty := .int) (N := 8) (a0 := (8, .inl (fun _ => 0))) C 1 (fun ad => [(0, .ref (ad 52))]) (fun ad => [.ref (ad 52)]) (fun ad9 he9 => by refine ⟨?_, ?_⟩ <;> (first | rfl | simp only [he9 52 (by omega)])) rfl (gW_of tm_1_45) rfl (fun _ => by simp) (fun _ => rfl) (by decide) (by decide) (by decide) (by show _ ≤ _; simp) (by show _ ≤ _; simp) dX12_init_31 rfl (fun ad M28 he_28 g_28 hm_28 C => ?_)
  have hI := C.2.2.1
  have f52_29 : M28 52 = .inr (12, [.int (0), .ref (ad 53), .int (0), .int (0), .ref (ad 54), .ref (ad 55), .null, .null, .int (0), .null, .int (0), .int (0), .null, .int (0), .int (0), .int (0), .int (0), .int (0), .int (0), .int (0), .int (0), .int (0), .int (0), .int (0), .int (0), .int (0), .int (0), .int (0), .int (0), .null, .int (0), .null, .int (0), .null, .int (0), .int (0)]) := ((hm_28 52 (by omega)).trans g_23).trans (by rw [he_28 53 (by omega), he_28 54 (by omega), he_28 55 (by omega)])
  have f53_30 : M28 53 = .inl (cy 0, 80, .inl (fun _ => 0)) := (hm_28 53 (by omega)).trans f53_24
  have f54_31 : M28 54 = .inl (cy 3, 8, .inl (fun _ => 0)) := (hm_28 54 (by omega)).trans f54_25
  have f55_32 : M28 55 = .inl (cy 2, 8, .inr (.inl (fun _ => 0))) := (hm_28 55 (by omega)).trans f55_26
  have kp_33 := kp_27.nw hm_28 (by omega)
  have ex_34 := ex_22.tr he_28 (by omega)
  refine m_putF (pc' := 36) (ty := (.array .int)) (fs' := [.int (0), .ref (ad 53), .int (0), .int (0), .ref (ad 54), .ref (ad 55), .ref (ad 56), .null, .int (0), .null, .int (0), .int (0), .null, .int (0), .int (0), .int (0), .int (0), .int (0), .int (0), .int (0), .int (0), .int (0), .int (0), .int (0), .int (0), .int (0), .int (0), .int (0), .int (0), .null, .int (0), .null, .int (0), .null, .int (0), .int (0)]) C 52 (by omega) f52_29 rfl inW_X12 tyX12 tyX12_ok nmX12 6 (by decide) (gW_of tm_5_56) rfl rfl hnm9 rfl (by decide +kernel) rfl rfl (by simp) rfl dX12_init_33 rfl (fun M35 g_35 F_35 => ?_)
  refine m_aload_n (pc' := 37) C dX12_init_36 rfl 0 rfl rfl ?_
  refine m_sipush (pc' := 40) (v := nI 640) C dX12_init_37 (by decide) rfl ?_
  have f53_36 : M35 53 = .inl (cy 0, 80, .inl (fun _ => 0)) := (F_35 53 (by simp <;> omega)).trans f53_30
  have f54_37 : M35 54 = .inl (cy 3, 8, .inl (fun _ => 0)) := (F_35 54 (by simp <;> omega)).trans f54_31
  have f55_38 : M35 55 = .inl (cy 2, 8, .inr (.inl (fun _ => 0))) := (F_35 55 (by simp <;> omega)).trans f55_32
  have f56_39 : M35 56 = .inl (cy 1, 8, .inl (fun _ => 0)) := (F_35 56 (by simp <;> omega)).trans g_28
  have kp_40 := kp_33.fr F_35 (by simp <;> omega)
  refine m_newa (pc' := 42) (atype := .char) (ty := .char) (N := 640) (a0 := (640, .inl (fun _ => 0))) C 0 (fun ad => [(0, .ref (ad 52))]) (fun ad => [.ref (ad 52)]) (fun ad9 he9 => by refine ⟨?_, ?_⟩ <;> (first | rfl | simp only [he9 52 (by omega)])) rfl (gW_of tm_5_159) rfl (fun _ => by simp) (fun _ => rfl) (by decide) (by decide) (by decide) (by show _ ≤ _; simp) (by show _ ≤ _; simp) dX12_init_40 rfl (fun ad M41 he_41 g_41 hm_41 C => ?_)
  have hI := C.2.2.1
  have f52_42 : M41 52 = .inr (12, [.int (0), .ref (ad 53), .int (0), .int (0), .ref (ad 54), .ref (ad 55), .ref (ad 56), .null, .int (0), .null, .int (0), .int (0), .null, .int (0), .int (0), .int (0), .int (0), .int (0), .int (0), .int (0), .int (0), .int (0), .int (0), .int (0), .int (0), .int (0), .int (0), .int (0), .int (0), .null, .int (0), .null, .int (0), .null, .int (0), .int (0)]) := ((hm_41 52 (by omega)).trans g_35).trans (by rw [he_41 53 (by omega), he_41 54 (by omega), he_41 55 (by omega), he_41 56 (by omega)])
  have f53_43 : M41 53 = .inl (cy 0, 80, .inl (fun _ => 0)) := (hm_41 53 (by omega)).trans f53_36
  have f54_44 : M41 54 = .inl (cy 3, 8, .inl (fun _ => 0)) := (hm_41 54 (by omega)).trans f54_37
  have f55_45 : M41 55 = .inl (cy 2, 8, .inr (.inl (fun _ => 0))) := (hm_41 55 (by omega)).trans f55_38
  have f56_46 : M41 56 = .inl (cy 1, 8, .inl (fun _ => 0)) := (hm_41 56 (by omega)).trans f56_39
  have kp_47 := kp_40.nw hm_41 (by omega)
  have ex_48 := ex_34.tr he_41 (by omega)
  refine m_putF (pc' := 45) (ty := (.array .char)) (fs' := [.int (0), .ref (ad 53), .int (0), .int (0), .ref (ad 54), .ref (ad 55), .ref (ad 56), .ref (ad 57), .int (0), .null, .int (0), .int (0), .null, .int (0), .int (0), .int (0), .int (0), .int (0), .int (0), .int (0), .int (0), .int (0), .int (0), .int (0), .int (0), .int (0), .int (0), .int (0), .int (0), .null, .int (0), .null, .int (0), .null, .int (0), .int (0)]) C 52 (by omega) f52_42 rfl inW_X12 tyX12 tyX12_ok nmX12 7 (by decide) (gW_of tm_5_57) rfl rfl hnm9 rfl (by decide +kernel) rfl rfl (by simp) rfl dX12_init_42 rfl (fun M49 g_49 F_49 => ?_)
  refine m_aload_n (pc' := 46) C dX12_init_45 rfl 0 rfl rfl ?_
  refine m_sipush (pc' := 49) (v := nI 256) C dX12_init_46 (by decide) rfl ?_
  have f53_50 : M49 53 = .inl (cy 0, 80, .inl (fun _ => 0)) := (F_49 53 (by simp <;> omega)).trans f53_43
  have f54_51 : M49 54 = .inl (cy 3, 8, .inl (fun _ => 0)) := (F_49 54 (by simp <;> omega)).trans f54_44
  have f55_52 : M49 55 = .inl (cy 2, 8, .inr (.inl (fun _ => 0))) := (F_49 55 (by simp <;> omega)).trans f55_45
  have f56_53 : M49 56 = .inl (cy 1, 8, .inl (fun _ => 0)) := (F_49 56 (by simp <;> omega)).trans f56_46
  have f57_54 : M49 57 = .inl (cy 0, 640, .inl (fun _ => 0)) := (F_49 57 (by simp <;> omega)).trans g_41
  have kp_55 := kp_47.fr F_49 (by simp <;> omega)
  refine m_newa (pc' := 51) (atype := .int) (ty := .int) (N := 256) (a0 := (256, .inl (fun _ => 0))) C 1 (fun ad => [(0, .ref (ad 52))]) (fun ad => [.ref (ad 52)]) (fun ad9 he9 => by refine ⟨?_, ?_⟩ <;> (first | rfl | simp only [he9 52 (by omega)])) rfl (gW_of tm_1_45) rfl (fun _ => by simp) (fun _ => rfl) (by decide) (by decide) (by decide) (by show _ ≤ _; simp) (by show _ ≤ _; simp) dX12_init_49 rfl (fun ad M56 he_56 g_56 hm_56 C => ?_)
  have hI := C.2.2.1
  have f52_57 : M56 52 = .inr (12, [.int (0), .ref (ad 53), .int (0), .int (0), .ref (ad 54), .ref (ad 55), .ref (ad 56), .ref (ad 57), .int (0), .null, .int (0), .int (0), .null, .int (0), .int (0), .int (0), .int (0), .int (0), .int (0), .int (0), .int (0), .int (0), .int (0), .int (0), .int (0), .int (0), .int (0), .int (0), .int (0), .null, .int (0), .null, .int (0), .null, .int (0), .int (0)]) := ((hm_56 52 (by omega)).trans g_49).trans (by rw [he_56 53 (by omega), he_56 54 (by omega), he_56 55 (by omega), he_56 56 (by omega), he_56 57 (by omega)])
  have f53_58 : M56 53 = .inl (cy 0, 80, .inl (fun _ => 0)) := (hm_56 53 (by omega)).trans f53_50
  have f54_59 : M56 54 = .inl (cy 3, 8, .inl (fun _ => 0)) := (hm_56 54 (by omega)).trans f54_51
  have f55_60 : M56 55 = .inl (cy 2, 8, .inr (.inl (fun _ => 0))) := (hm_56 55 (by omega)).trans f55_52
  have f56_61 : M56 56 = .inl (cy 1, 8, .inl (fun _ => 0)) := (hm_56 56 (by omega)).trans f56_53
  have f57_62 : M56 57 = .inl (cy 0, 640, .inl (fun _ => 0)) := (hm_56 57 (by omega)).trans f57_54
  have kp_63 := kp_55.nw hm_56 (by omega)
  have ex_64 := ex_48.tr he_56 (by omega)
  refine m_putF (pc' := 54) (ty := (.array .int)) (fs' := [.int (0), .ref (ad 53), .int (0), .int (0), .ref (ad 54), .ref (ad 55), .ref (ad 56), .ref (ad 57), .int (0), .ref (ad 58), .int (0), .int (0), .null, .int (0), .int (0), .int (0), .int (0), .int (0), .int (0), .int (0), .int (0), .int (0), .int (0), .int (0), .int (0), .int (0), .int (0), .int (0), .int (0), .null, .int (0), .null, .int (0), .null, .int (0), .int (0)]) C 52 (by omega) f52_57 rfl inW_X12 tyX12 tyX12_ok nmX12 9 (by decide) (gW_of tm_5_59) rfl rfl hnm9 rfl (by decide +kernel) rfl rfl (by simp) rfl dX12_init_51 rfl (fun M65 g_65 F_65 => ?_)
  refine m_aload_n (pc' := 55) C dX12_init_54 rfl 0 rfl rfl ?_
  refine m_sipush (pc' := 58) (v := nI 2000) C dX12_init_55 (by decide) rfl ?_
  refine m_put (pc' := 61) (ty := .int) (fs' := [.int (0), .ref (ad 53), .int (0), .int (0), .ref (ad 54), .ref (ad 55), .ref (ad 56), .ref (ad 57), .int (0), .ref (ad 58), .int (nI 2000), .int (0), .null, .int (0), .int (0), .int (0), .int (0), .int (0), .int (0), .int (0), .int (0), .int (0), .int (0), .int (0), .int (0), .int (0), .int (0), .int (0), .int (0), .null, .int (0), .null, .int (0), .null, .int (0), .int (0)]) C 52 (by omega) g_65 rfl inW_X12 tyX12 tyX12_ok nmX12 10 (by decide) (gW_of tm_5_60) rfl rfl (by decide +kernel) rfl rfl (by simp) rfl dX12_init_58 rfl (fun M66 g_66 F_66 => ?_)
  refine m_aload_n (pc' := 62) C dX12_init_61 rfl 0 rfl rfl ?_
  refine m_sipush (pc' := 65) (v := nI 2000) C dX12_init_62 (by decide) rfl ?_
  have f53_67 : M65 53 = .inl (cy 0, 80, .inl (fun _ => 0)) := (F_65 53 (by simp <;> omega)).trans f53_58
  have f53_68 : M66 53 = .inl (cy 0, 80, .inl (fun _ => 0)) := (F_66 53 (by simp <;> omega)).trans f53_67
  have f54_69 : M65 54 = .inl (cy 3, 8, .inl (fun _ => 0)) := (F_65 54 (by simp <;> omega)).trans f54_59
  have f54_70 : M66 54 = .inl (cy 3, 8, .inl (fun _ => 0)) := (F_66 54 (by simp <;> omega)).trans f54_69
  have f55_71 : M65 55 = .inl (cy 2, 8, .inr (.inl (fun _ => 0))) := (F_65 55 (by simp <;> omega)).trans f55_60
  have f55_72 : M66 55 = .inl (cy 2, 8, .inr (.inl (fun _ => 0))) := (F_66 55 (by simp <;> omega)).trans f55_71
  have f56_73 : M65 56 = .inl (cy 1, 8, .inl (fun _ => 0)) := (F_65 56 (by simp <;> omega)).trans f56_61
  have f56_74 : M66 56 = .inl (cy 1, 8, .inl (fun _ => 0)) := (F_66 56 (by simp <;> omega)).trans f56_73
  have f57_75 : M65 57 = .inl (cy 0, 640, .inl (fun _ => 0)) := (F_65 57 (by simp <;> omega)).trans f57_62
  have f57_76 : M66 57 = .inl (cy 0, 640, .inl (fun _ => 0)) := (F_66 57 (by simp <;> omega)).trans f57_75
  have f58_77 : M65 58 = .inl (cy 1, 256, .inl (fun _ => 0)) := (F_65 58 (by simp <;> omega)).trans g_56
  have f58_78 : M66 58 = .inl (cy 1, 256, .inl (fun _ => 0)) := (F_66 58 (by simp <;> omega)).trans f58_77
  have kp_79 := kp_63.fr F_65 (by simp <;> omega)
  have kp_80 := kp_79.fr F_66 (by simp <;> omega)
  refine m_newa (pc' := 67) (atype := .char) (ty := .char) (N := 2000) (a0 := (2000, .inl (fun _ => 0))) C 0 (fun ad => [(0, .ref (ad 52))]) (fun ad => [.ref (ad 52)]) (fun ad9 he9 => by refine ⟨?_, ?_⟩ <;> (first | rfl | simp only [he9 52 (by omega)])) rfl (gW_of tm_5_159) rfl (fun _ => by simp) (fun _ => rfl) (by decide) (by decide) (by decide) (by show _ ≤ _; simp) (by show _ ≤ _; simp) dX12_init_65 rfl (fun ad M81 he_81 g_81 hm_81 C => ?_)
  have hI := C.2.2.1
  have f52_82 : M81 52 = .inr (12, [.int (0), .ref (ad 53), .int (0), .int (0), .ref (ad 54), .ref (ad 55), .ref (ad 56), .ref (ad 57), .int (0), .ref (ad 58), .int (nI 2000), .int (0), .null, .int (0), .int (0), .int (0), .int (0), .int (0), .int (0), .int (0), .int (0), .int (0), .int (0), .int (0), .int (0), .int (0), .int (0), .int (0), .int (0), .null, .int (0), .null, .int (0), .null, .int (0), .int (0)]) := ((hm_81 52 (by omega)).trans g_66).trans (by rw [he_81 53 (by omega), he_81 54 (by omega), he_81 55 (by omega), he_81 56 (by omega), he_81 57 (by omega), he_81 58 (by omega)])
  have f53_83 : M81 53 = .inl (cy 0, 80, .inl (fun _ => 0)) := (hm_81 53 (by omega)).trans f53_68
  have f54_84 : M81 54 = .inl (cy 3, 8, .inl (fun _ => 0)) := (hm_81 54 (by omega)).trans f54_70
  have f55_85 : M81 55 = .inl (cy 2, 8, .inr (.inl (fun _ => 0))) := (hm_81 55 (by omega)).trans f55_72
  have f56_86 : M81 56 = .inl (cy 1, 8, .inl (fun _ => 0)) := (hm_81 56 (by omega)).trans f56_74
  have f57_87 : M81 57 = .inl (cy 0, 640, .inl (fun _ => 0)) := (hm_81 57 (by omega)).trans f57_76
  have f58_88 : M81 58 = .inl (cy 1, 256, .inl (fun _ => 0)) := (hm_81 58 (by omega)).trans f58_78
  have kp_89 := kp_80.nw hm_81 (by omega)
  have ex_90 := ex_64.tr he_81 (by omega)
  refine m_putF (pc' := 70) (ty := (.array .char)) (fs' := [.int (0), .ref (ad 53), .int (0), .int (0), .ref (ad 54), .ref (ad 55), .ref (ad 56), .ref (ad 57), .int (0), .ref (ad 58), .int (nI 2000), .int (0), .ref (ad 59), .int (0), .int (0), .int (0), .int (0), .int (0), .int (0), .int (0), .int (0), .int (0), .int (0), .int (0), .int (0), .int (0), .int (0), .int (0), .int (0), .null, .int (0), .null, .int (0), .null, .int (0), .int (0)]) C 52 (by omega) f52_82 rfl inW_X12 tyX12 tyX12_ok nmX12 12 (by decide) (gW_of tm_5_62) rfl rfl hnm9 rfl (by decide +kernel) rfl rfl (by simp) rfl dX12_init_67 rfl (fun M91 g_91 F_91 => ?_)
  refine m_aload_n (pc' := 71) C dX12_init_70 rfl 0 rfl rfl ?_
  refine m_iconst (pc' := 72) (v := (-1)) C dX12_init_71 (by decide) rfl ?_
  refine m_put (pc' := 75) (ty := .int) (fs' := [.int (0), .ref (ad 53), .int (0), .int (0), .ref (ad 54), .ref (ad 55), .ref (ad 56), .ref (ad 57), .int (0), .ref (ad 58), .int (nI 2000), .int (0), .ref (ad 59), .int (0), .int ((-1)), .int (0), .int (0), .int (0), .int (0), .int (0), .int (0), .int (0), .int (0), .int (0), .int (0), .int (0), .int (0), .int (0), .int (0), .null, .int (0), .null, .int (0), .null, .int (0), .int (0)]) C 52 (by omega) g_91 rfl inW_X12 tyX12 tyX12_ok nmX12 14 (by decide) (gW_of tm_5_64) rfl rfl (by decide +kernel) rfl rfl (by simp) rfl dX12_init_72 rfl (fun M92 g_92 F_92 => ?_)
  refine m_aload_n (pc' := 76) C dX12_init_75 rfl 0 rfl rfl ?_
  refine m_sipush (pc' := 79) (v := nI 200) C dX12_init_76 (by decide) rfl ?_
  have f53_93 : M91 53 = .inl (cy 0, 80, .inl (fun _ => 0)) := (F_91 53 (by simp <;> omega)).trans f53_83
  have f53_94 : M92 53 = .inl (cy 0, 80, .inl (fun _ => 0)) := (F_92 53 (by simp <;> omega)).trans f53_93
  have f54_95 : M91 54 = .inl (cy 3, 8, .inl (fun _ => 0)) := (F_91 54 (by simp <;> omega)).trans f54_84
  have f54_96 : M92 54 = .inl (cy 3, 8, .inl (fun _ => 0)) := (F_92 54 (by simp <;> omega)).trans f54_95
  have f55_97 : M91 55 = .inl (cy 2, 8, .inr (.inl (fun _ => 0))) := (F_91 55 (by simp <;> omega)).trans f55_85
  have f55_98 : M92 55 = .inl (cy 2, 8, .inr (.inl (fun _ => 0))) := (F_92 55 (by simp <;> omega)).trans f55_97
  have f56_99 : M91 56 = .inl (cy 1, 8, .inl (fun _ => 0)) := (F_91 56 (by simp <;> omega)).trans f56_86
  have f56_100 : M92 56 = .inl (cy 1, 8, .inl (fun _ => 0)) := (F_92 56 (by simp <;> omega)).trans f56_99
  have f57_101 : M91 57 = .inl (cy 0, 640, .inl (fun _ => 0)) := (F_91 57 (by simp <;> omega)).trans f57_87
  have f57_102 : M92 57 = .inl (cy 0, 640, .inl (fun _ => 0)) := (F_92 57 (by simp <;> omega)).trans f57_101
  have f58_103 : M91 58 = .inl (cy 1, 256, .inl (fun _ => 0)) := (F_91 58 (by simp <;> omega)).trans f58_88
  have f58_104 : M92 58 = .inl (cy 1, 256, .inl (fun _ => 0)) := (F_92 58 (by simp <;> omega)).trans f58_103
  have f59_105 : M91 59 = .inl (cy 0, 2000, .inl (fun _ => 0)) := (F_91 59 (by simp <;> omega)).trans g_81
  have f59_106 : M92 59 = .inl (cy 0, 2000, .inl (fun _ => 0)) := (F_92 59 (by simp <;> omega)).trans f59_105
  have kp_107 := kp_89.fr F_91 (by simp <;> omega)
  have kp_108 := kp_107.fr F_92 (by simp <;> omega)
  refine m_newa (pc' := 81) (atype := .char) (ty := .char) (N := 200) (a0 := (200, .inl (fun _ => 0))) C 0 (fun ad => [(0, .ref (ad 52))]) (fun ad => [.ref (ad 52)]) (fun ad9 he9 => by refine ⟨?_, ?_⟩ <;> (first | rfl | simp only [he9 52 (by omega)])) rfl (gW_of tm_5_159) rfl (fun _ => by simp) (fun _ => rfl) (by decide) (by decide) (by decide) (by show _ ≤ _; simp) (by show _ ≤ _; simp) dX12_init_79 rfl (fun ad M109 he_109 g_109 hm_109 C => ?_)
  have hI := C.2.2.1
  have f52_110 : M109 52 = .inr (12, [.int (0), .ref (ad 53), .int (0), .int (0), .ref (ad 54), .ref (ad 55), .ref (ad 56), .ref (ad 57), .int (0), .ref (ad 58), .int (nI 2000), .int (0), .ref (ad 59), .int (0), .int ((-1)), .int (0), .int (0), .int (0), .int (0), .int (0), .int (0), .int (0), .int (0), .int (0), .int (0), .int (0), .int (0), .int (0), .int (0), .null, .int (0), .null, .int (0), .null, .int (0), .int (0)]) := ((hm_109 52 (by omega)).trans g_92).trans (by rw [he_109 53 (by omega), he_109 54 (by omega), he_109 55 (by omega), he_109 56 (by omega), he_109 57 (by omega), he_109 58 (by omega), he_109 59 (by omega)])
  have f53_111 : M109 53 = .inl (cy 0, 80, .inl (fun _ => 0)) := (hm_109 53 (by omega)).trans f53_94
  have f54_112 : M109 54 = .inl (cy 3, 8, .inl (fun _ => 0)) := (hm_109 54 (by omega)).trans f54_96
  have f55_113 : M109 55 = .inl (cy 2, 8, .inr (.inl (fun _ => 0))) := (hm_109 55 (by omega)).trans f55_98
  have f56_114 : M109 56 = .inl (cy 1, 8, .inl (fun _ => 0)) := (hm_109 56 (by omega)).trans f56_100
  have f57_115 : M109 57 = .inl (cy 0, 640, .inl (fun _ => 0)) := (hm_109 57 (by omega)).trans f57_102
  have f58_116 : M109 58 = .inl (cy 1, 256, .inl (fun _ => 0)) := (hm_109 58 (by omega)).trans f58_104
  have f59_117 : M109 59 = .inl (cy 0, 2000, .inl (fun _ => 0)) := (hm_109 59 (by omega)).trans f59_106
  have kp_118 := kp_108.nw hm_109 (by omega)
  have ex_119 := ex_90.tr he_109 (by omega)
  refine m_putF (pc' := 84) (ty := (.array .char)) (fs' := [.int (0), .ref (ad 53), .int (0), .int (0), .ref (ad 54), .ref (ad 55), .ref (ad 56), .ref (ad 57), .int (0), .ref (ad 58), .int (nI 2000), .int (0), .ref (ad 59), .int (0), .int ((-1)), .int (0), .int (0), .int (0), .int (0), .int (0), .int (0), .int (0), .int (0), .int (0), .int (0), .int (0), .int (0), .int (0), .int (0), .ref (ad 60), .int (0), .null, .int (0), .null, .int (0), .int (0)]) C 52 (by omega) f52_110 rfl inW_X12 tyX12 tyX12_ok nmX12 29 (by decide) (gW_of tm_5_79) rfl rfl hnm9 rfl (by decide +kernel) rfl rfl (by simp) rfl dX12_init_81 rfl (fun M120 g_120 F_120 => ?_)
  refine m_aload_n (pc' := 85) C dX12_init_84 rfl 0 rfl rfl ?_
  refine m_sipush (pc' := 88) (v := nI 200) C dX12_init_85 (by decide) rfl ?_
  have f53_121 : M120 53 = .inl (cy 0, 80, .inl (fun _ => 0)) := (F_120 53 (by simp <;> omega)).trans f53_111
  have f54_122 : M120 54 = .inl (cy 3, 8, .inl (fun _ => 0)) := (F_120 54 (by simp <;> omega)).trans f54_112
  have f55_123 : M120 55 = .inl (cy 2, 8, .inr (.inl (fun _ => 0))) := (F_120 55 (by simp <;> omega)).trans f55_113
  have f56_124 : M120 56 = .inl (cy 1, 8, .inl (fun _ => 0)) := (F_120 56 (by simp <;> omega)).trans f56_114
  have f57_125 : M120 57 = .inl (cy 0, 640, .inl (fun _ => 0)) := (F_120 57 (by simp <;> omega)).trans f57_115
  have f58_126 : M120 58 = .inl (cy 1, 256, .inl (fun _ => 0)) := (F_120 58 (by simp <;> omega)).trans f58_116
  have f59_127 : M120 59 = .inl (cy 0, 2000, .inl (fun _ => 0)) := (F_120 59 (by simp <;> omega)).trans f59_117
  have f60_128 : M120 60 = .inl (cy 0, 200, .inl (fun _ => 0)) := (F_120 60 (by simp <;> omega)).trans g_109
  have kp_129 := kp_118.fr F_120 (by simp <;> omega)
  refine m_newa (pc' := 90) (atype := .char) (ty := .char) (N := 200) (a0 := (200, .inl (fun _ => 0))) C 0 (fun ad => [(0, .ref (ad 52))]) (fun ad => [.ref (ad 52)]) (fun ad9 he9 => by refine ⟨?_, ?_⟩ <;> (first | rfl | simp only [he9 52 (by omega)])) rfl (gW_of tm_5_159) rfl (fun _ => by simp) (fun _ => rfl) (by decide) (by decide) (by decide) (by show _ ≤ _; simp) (by show _ ≤ _; simp) dX12_init_88 rfl (fun ad M130 he_130 g_130 hm_130 C => ?_)
  have hI := C.2.2.1
  have f52_131 : M130 52 = .inr (12, [.int (0), .ref (ad 53), .int (0), .int (0), .ref (ad 54), .ref (ad 55), .ref (ad 56), .ref (ad 57), .int (0), .ref (ad 58), .int (nI 2000), .int (0), .ref (ad 59), .int (0), .int ((-1)), .int (0), .int (0), .int (0), .int (0), .int (0), .int (0), .int (0), .int (0), .int (0), .int (0), .int (0), .int (0), .int (0), .int (0), .ref (ad 60), .int (0), .null, .int (0), .null, .int (0), .int (0)]) := ((hm_130 52 (by omega)).trans g_120).trans (by rw [he_130 53 (by omega), he_130 54 (by omega), he_130 55 (by omega), he_130 56 (by omega), he_130 57 (by omega), he_130 58 (by omega), he_130 59 (by omega), he_130 60 (by omega)])
  have f53_132 : M130 53 = .inl (cy 0, 80, .inl (fun _ => 0)) := (hm_130 53 (by omega)).trans f53_121
  have f54_133 : M130 54 = .inl (cy 3, 8, .inl (fun _ => 0)) := (hm_130 54 (by omega)).trans f54_122
  have f55_134 : M130 55 = .inl (cy 2, 8, .inr (.inl (fun _ => 0))) := (hm_130 55 (by omega)).trans f55_123
  have f56_135 : M130 56 = .inl (cy 1, 8, .inl (fun _ => 0)) := (hm_130 56 (by omega)).trans f56_124
  have f57_136 : M130 57 = .inl (cy 0, 640, .inl (fun _ => 0)) := (hm_130 57 (by omega)).trans f57_125
  have f58_137 : M130 58 = .inl (cy 1, 256, .inl (fun _ => 0)) := (hm_130 58 (by omega)).trans f58_126
  have f59_138 : M130 59 = .inl (cy 0, 2000, .inl (fun _ => 0)) := (hm_130 59 (by omega)).trans f59_127
  have f60_139 : M130 60 = .inl (cy 0, 200, .inl (fun _ => 0)) := (hm_130 60 (by omega)).trans f60_128
  have kp_140 := kp_129.nw hm_130 (by omega)
  have ex_141 := ex_119.tr he_130 (by omega)
  refine m_putF (pc' := 93) (ty := (.array .char)) (fs' := [.int (0), .ref (ad 53), .int (0), .int (0), .ref (ad 54), .ref (ad 55), .ref (ad 56), .ref (ad 57), .int (0), .ref (ad 58), .int (nI 2000), .int (0), .ref (ad 59), .int (0), .int ((-1)), .int (0), .int (0), .int (0), .int (0), .int (0), .int (0), .int (0), .int (0), .int (0), .int (0), .int (0), .int (0), .int (0), .int (0), .ref (ad 60), .int (0), .ref (ad 61), .int (0), .null, .int (0), .int (0)]) C 52 (by omega) f52_131 rfl inW_X12 tyX12 tyX12_ok nmX12 31 (by decide) (gW_of tm_5_81) rfl rfl hnm9 rfl (by decide +kernel) rfl rfl (by simp) rfl dX12_init_90 rfl (fun M142 g_142 F_142 => ?_)
  refine m_aload_n (pc' := 94) C dX12_init_93 rfl 0 rfl rfl ?_
  refine m_sipush (pc' := 97) (v := nI 2000) C dX12_init_94 (by decide) rfl ?_
  have f53_143 : M142 53 = .inl (cy 0, 80, .inl (fun _ => 0)) := (F_142 53 (by simp <;> omega)).trans f53_132
  have f54_144 : M142 54 = .inl (cy 3, 8, .inl (fun _ => 0)) := (F_142 54 (by simp <;> omega)).trans f54_133
  have f55_145 : M142 55 = .inl (cy 2, 8, .inr (.inl (fun _ => 0))) := (F_142 55 (by simp <;> omega)).trans f55_134
  have f56_146 : M142 56 = .inl (cy 1, 8, .inl (fun _ => 0)) := (F_142 56 (by simp <;> omega)).trans f56_135
  have f57_147 : M142 57 = .inl (cy 0, 640, .inl (fun _ => 0)) := (F_142 57 (by simp <;> omega)).trans f57_136
  have f58_148 : M142 58 = .inl (cy 1, 256, .inl (fun _ => 0)) := (F_142 58 (by simp <;> omega)).trans f58_137
  have f59_149 : M142 59 = .inl (cy 0, 2000, .inl (fun _ => 0)) := (F_142 59 (by simp <;> omega)).trans f59_138
  have f60_150 : M142 60 = .inl (cy 0, 200, .inl (fun _ => 0)) := (F_142 60 (by simp <;> omega)).trans f60_139
  have f61_151 : M142 61 = .inl (cy 0, 200, .inl (fun _ => 0)) := (F_142 61 (by simp <;> omega)).trans g_130
  have kp_152 := kp_140.fr F_142 (by simp <;> omega)
  refine m_newa (pc' := 99) (atype := .int) (ty := .int) (N := 2000) (a0 := (2000, .inl (fun _ => 0))) C 1 (fun ad => [(0, .ref (ad 52))]) (fun ad => [.ref (ad 52)]) (fun ad9 he9 => by refine ⟨?_, ?_⟩ <;> (first | rfl | simp only [he9 52 (by omega)])) rfl (gW_of tm_1_45) rfl (fun _ => by simp) (fun _ => rfl) (by decide) (by decide) (by decide) (by show _ ≤ _; simp) (by show _ ≤ _; simp) dX12_init_97 rfl (fun ad M153 he_153 g_153 hm_153 C => ?_)
  have hI := C.2.2.1
  have f52_154 : M153 52 = .inr (12, [.int (0), .ref (ad 53), .int (0), .int (0), .ref (ad 54), .ref (ad 55), .ref (ad 56), .ref (ad 57), .int (0), .ref (ad 58), .int (nI 2000), .int (0), .ref (ad 59), .int (0), .int ((-1)), .int (0), .int (0), .int (0), .int (0), .int (0), .int (0), .int (0), .int (0), .int (0), .int (0), .int (0), .int (0), .int (0), .int (0), .ref (ad 60), .int (0), .ref (ad 61), .int (0), .null, .int (0), .int (0)]) := ((hm_153 52 (by omega)).trans g_142).trans (by rw [he_153 53 (by omega), he_153 54 (by omega), he_153 55 (by omega), he_153 56 (by omega), he_153 57 (by omega), he_153 58 (by omega), he_153 59 (by omega), he_153 60 (by omega), he_153 61 (by omega)])
  have f53_155 : M153 53 = .inl (cy 0, 80, .inl (fun _ => 0)) := (hm_153 53 (by omega)).trans f53_143
  have f54_156 : M153 54 = .inl (cy 3, 8, .inl (fun _ => 0)) := (hm_153 54 (by omega)).trans f54_144
  have f55_157 : M153 55 = .inl (cy 2, 8, .inr (.inl (fun _ => 0))) := (hm_153 55 (by omega)).trans f55_145
  have f56_158 : M153 56 = .inl (cy 1, 8, .inl (fun _ => 0)) := (hm_153 56 (by omega)).trans f56_146
  have f57_159 : M153 57 = .inl (cy 0, 640, .inl (fun _ => 0)) := (hm_153 57 (by omega)).trans f57_147
  have f58_160 : M153 58 = .inl (cy 1, 256, .inl (fun _ => 0)) := (hm_153 58 (by omega)).trans f58_148
  have f59_161 : M153 59 = .inl (cy 0, 2000, .inl (fun _ => 0)) := (hm_153 59 (by omega)).trans f59_149
  have f60_162 : M153 60 = .inl (cy 0, 200, .inl (fun _ => 0)) := (hm_153 60 (by omega)).trans f60_150
  have f61_163 : M153 61 = .inl (cy 0, 200, .inl (fun _ => 0)) := (hm_153 61 (by omega)).trans f61_151
  have kp_164 := kp_152.nw hm_153 (by omega)
  have ex_165 := ex_141.tr he_153 (by omega)
  refine m_putF (pc' := 102) (ty := (.array .int)) (fs' := [.int (0), .ref (ad 53), .int (0), .int (0), .ref (ad 54), .ref (ad 55), .ref (ad 56), .ref (ad 57), .int (0), .ref (ad 58), .int (nI 2000), .int (0), .ref (ad 59), .int (0), .int ((-1)), .int (0), .int (0), .int (0), .int (0), .int (0), .int (0), .int (0), .int (0), .int (0), .int (0), .int (0), .int (0), .int (0), .int (0), .ref (ad 60), .int (0), .ref (ad 61), .int (0), .ref (ad 62), .int (0), .int (0)]) C 52 (by omega) f52_154 rfl inW_X12 tyX12 tyX12_ok nmX12 33 (by decide) (gW_of tm_5_83) rfl rfl hnm9 rfl (by decide +kernel) rfl rfl (by simp) rfl dX12_init_99 rfl (fun M166 g_166 F_166 => ?_)
  have f53_167 : M166 53 = .inl (cy 0, 80, .inl (fun _ => 0)) := (F_166 53 (by simp <;> omega)).trans f53_155
  have f54_168 : M166 54 = .inl (cy 3, 8, .inl (fun _ => 0)) := (F_166 54 (by simp <;> omega)).trans f54_156
  have f55_169 : M166 55 = .inl (cy 2, 8, .inr (.inl (fun _ => 0))) := (F_166 55 (by simp <;> omega)).trans f55_157
  have f56_170 : M166 56 = .inl (cy 1, 8, .inl (fun _ => 0)) := (F_166 56 (by simp <;> omega)).trans f56_158
  have f57_171 : M166 57 = .inl (cy 0, 640, .inl (fun _ => 0)) := (F_166 57 (by simp <;> omega)).trans f57_159
  have f58_172 : M166 58 = .inl (cy 1, 256, .inl (fun _ => 0)) := (F_166 58 (by simp <;> omega)).trans f58_160
  have f59_173 : M166 59 = .inl (cy 0, 2000, .inl (fun _ => 0)) := (F_166 59 (by simp <;> omega)).trans f59_161
  have f60_174 : M166 60 = .inl (cy 0, 200, .inl (fun _ => 0)) := (F_166 60 (by simp <;> omega)).trans f60_162
  have f61_175 : M166 61 = .inl (cy 0, 200, .inl (fun _ => 0)) := (F_166 61 (by simp <;> omega)).trans f61_163
  have f62_176 : M166 62 = .inl (cy 1, 2000, .inl (fun _ => 0)) := (F_166 62 (by simp <;> omega)).trans g_153
  have kp_177 := kp_164.fr F_166 (by simp <;> omega)
  exact m_vretN C hrt0 hlk0 dX12_init_102 ex_165 (by rfl) (by first | rfl | omega) (fun k hk => if_neg (by omega)) ⟨isM.mk0 g_166 f53_167 f54_168 f55_169 f56_170 f57_171 f58_172 f59_173 f60_174 f61_175 f62_176, kp_177.ghost⟩
