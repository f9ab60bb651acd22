theorem inL_X0 : ∀ w ∈ wsX00, w ∈ GT := fun w h => GT_t (inG_X0 w h).1 (inG_X0 w h).2
theorem inL_X1 : ∀ w ∈ wsX10, w ∈ GT := fun w h => GT_t (inG_X1 w h).1 (inG_X1 w h).2
theorem inL_X2 : ∀ w ∈ wsX20, w ∈ GT := fun w h => GT_t (inG_X2 w h).1 (inG_X2 w h).2
theorem inL_X3 : ∀ w ∈ wsX30, w ∈ GT := fun w h => GT_t (inG_X3 w h).1 (inG_X3 w h).2
theorem inL_X4 : ∀ w ∈ wsX40, w ∈ GT := fun w h => GT_t (inG_X4 w h).1 (inG_X4 w h).2
theorem inL_X5 : ∀ w ∈ wsX50, w ∈ GT := fun w h => GT_t (inG_X5 w h).1 (inG_X5 w h).2
theorem inL_X6 : ∀ w ∈ wsX60, w ∈ GT := fun w h => GT_t (inG_X6 w h).1 (inG_X6 w h).2
theorem inL_X7 : ∀ w ∈ wsX70, w ∈ GT := fun w h => GT_t (inG_X7 w h).1 (inG_X7 w h).2
theorem inL_X8 : ∀ w ∈ wsX80, w ∈ GT := fun w h => GT_t (inG_X8 w h).1 (inG_X8 w h).2
theorem inL_X9 : ∀ w ∈ wsX90, w ∈ GT := fun w h => GT_t (inG_X9 w h).1 (inG_X9 w h).2
theorem inL_X10 : ∀ w ∈ wsX100, w ∈ GT := fun w h => GT_t (inG_X10 w h).1 (inG_X10 w h).2
theorem isM.ex {cy : Nat → ClassId} {ad ad' : Nat → Nat} {M M' : Nat → va_E} {T : List Nat} {xs : Nat → Arg} {cnt lim : Nat} {O B : List Nat} {fp ot : Int32} (h : isM cy ad M T xs cnt lim O B fp ot) (he : Ex 63 ad ad') (hm : ∀ k, k ≠ 63 → M' k = M k) : isM cy ad' M' T xs cnt lim O B fp ot := by
  have hF : Fr [63] M M' := fun k hk => hm k (fun q => hk (by rw [q]; simp))
  have h2 := h.fr hF (by decide)
  obtain ⟨h1, h3⟩ := h2
  refine ⟨?_, h3⟩
  unfold rO at h1 ⊢
  rw [h1]
  unfold rL
  rw [he 53 (by decide), he 54 (by decide), he 55 (by decide), he 56 (by decide), he 57 (by decide), he 58 (by decide), he 59 (by decide), he 60 (by decide), he 61 (by decide), he 62 (by decide)]
theorem k_start {args : Array Value} {s : State} (hts : ∀ w ∈ lw_tbl, w.before args s = true) : ∃ (D : va_G) (cy : Nat → ClassId), mK D cy s := by
  have hg : ∀ w ∈ GT, w.before args s = true := fun w h => hts w (List.mem_filter.mp h).1
  have hc : ∀ k : Nat, ∃ z : ClassId × (Nat → Nat), ∀ q : vw_C, vwCl[k]? = some q → u_Kn s q.1 q.2.1 q.2.2 z.1 z.2 := by
    intro k
    match k with
    | 0 =>
      obtain ⟨c9, i9, h9⟩ := u_known (C := RX0) (T := TX0) (N := 3) (n := 3) hg inL_X0 (hg _ tm_1_73)
      exact ⟨(c9, i9), fun q hq => by cases hq; exact h9⟩
    | 1 =>
      obtain ⟨c9, i9, h9⟩ := u_known (C := RX1) (T := TX1) (N := 5) (n := 5) hg inL_X1 (hg _ tm_1_66)
      exact ⟨(c9, i9), fun q hq => by cases hq; exact h9⟩
    | 2 =>
      obtain ⟨c9, i9, h9⟩ := u_known (C := RX2) (T := TX2) (N := 12) (n := 12) hg inL_X2 (hg _ tm_1_145)
      exact ⟨(c9, i9), fun q hq => by cases hq; exact h9⟩
    | 3 =>
      obtain ⟨c9, i9, h9⟩ := u_known (C := RX3) (T := TX3) (N := 2) (n := 2) hg inL_X3 (hg _ tm_1_132)
      exact ⟨(c9, i9), fun q hq => by cases hq; exact h9⟩
    | 4 =>
      obtain ⟨c9, i9, h9⟩ := u_known (C := RX4) (T := TX4) (N := 3) (n := 3) hg inL_X4 (hg _ tm_1_30)
      exact ⟨(c9, i9), fun q hq => by cases hq; exact h9⟩
    | 5 =>
      obtain ⟨c9, i9, h9⟩ := u_known (C := RX5) (T := TX5) (N := 2) (n := 2) hg inL_X5 (hg _ tm_1_97)
      exact ⟨(c9, i9), fun q hq => by cases hq; exact h9⟩
    | 6 =>
      obtain ⟨c9, i9, h9⟩ := u_known (C := RX6) (T := TX6) (N := 3) (n := 3) hg inL_X6 (hg _ tm_2_20)
      exact ⟨(c9, i9), fun q hq => by cases hq; exact h9⟩
    | 7 =>
      obtain ⟨c9, i9, h9⟩ := u_known (C := RX7) (T := TX7) (N := 5) (n := 5) hg inL_X7 (hg _ tm_2_36)
      exact ⟨(c9, i9), fun q hq => by cases hq; exact h9⟩
    | 8 =>
      obtain ⟨c9, i9, h9⟩ := u_known (C := RX8) (T := TX8) (N := 8) (n := 8) hg inL_X8 (hg _ tm_1_126)
      exact ⟨(c9, i9), fun q hq => by cases hq; exact h9⟩
    | 9 =>
      obtain ⟨c9, i9, h9⟩ := u_known (C := RX9) (T := TX9) (N := 4) (n := 4) hg inL_X9 (hg _ tm_1_47)
      exact ⟨(c9, i9), fun q hq => by cases hq; exact h9⟩
    | 10 =>
      obtain ⟨c9, i9, h9⟩ := u_known (C := RX10) (T := TX10) (N := 7) (n := 7) hg inL_X10 (hg _ tm_1_230)
      exact ⟨(c9, i9), fun q hq => by cases hq; exact h9⟩
    | 11 =>
      obtain ⟨c9, i9, h9⟩ := u_known (C := RX11) (T := TX11) (N := 10) (n := 10) hg inL_X11 (hg _ tm_1_22)
      exact ⟨(c9, i9), fun q hq => by cases hq; exact h9⟩
    | 12 =>
      obtain ⟨c9, i9, h9⟩ := u_known (C := RX12) (T := TX12) (N := 36) (n := 36) hg inL_X12 (hg _ tm_5_45)
      exact ⟨(c9, i9), fun q hq => by cases hq; exact h9⟩
    | k + 13 => exact ⟨((Classical.choice ⟨(Classical.choose (u_known (C := RX0) (T := TX0) (N := 3) (n := 3) hg inL_X0 (hg _ tm_1_73)))⟩), fun _ => 0), fun q hq => by simp [vwCl] at hq⟩
  obtain ⟨c0, k0, m0, a1, a2, a3⟩ := Cond.arrayClass_spec (hg _ tm_5_159)
  obtain ⟨c1, k1, m1, b1, b2, b3⟩ := Cond.arrayClass_spec (hg _ tm_1_45)
  obtain ⟨c2, k2, m2, d1, d2, d3⟩ := Cond.arrayClass_spec (hg _ tm_5_161)
  obtain ⟨c3, k3, m3, e1, e2, e3⟩ := Cond.arrayClass_spec (hg _ tm_5_160)
  obtain ⟨m4, c4, k4, g1, -, g2, g3, g4⟩ := Cond.arrayOver_spec (hts (.arrayOver (.object "FormatDump$Argument")) (by decide +kernel))
  refine ⟨(fun k => (Classical.choose (hc k)).1, fun k => (Classical.choose (hc k)).2), fun t => if t = 0 then c0 else if t = 1 then c1 else if t = 2 then c2 else if t = 3 then c3 else c4, ⟨fun k q hq => Classical.choose_spec (hc k) q hq, fun k q hq => ?_⟩, ?_⟩
  · match k, hq with
    | 0, hq => cases hq; exact ⟨fun n z => ⟨(fun k h => by cases h), k0, a2, m0, a3⟩, a1⟩
    | 1, hq => cases hq; exact ⟨fun n z => ⟨(fun k h => by cases h), k1, b2, m1, b3⟩, b1⟩
    | 2, hq => cases hq; exact ⟨fun n z => ⟨(fun k h => by cases h), k2, d2, m2, d3⟩, d1⟩
    | 3, hq => cases hq; exact ⟨fun n z => ⟨(fun k h => by cases h), k3, e2, m3, e3⟩, e1⟩
    | 4, hq => cases hq; exact ⟨fun n z => ⟨(fun k h => by cases h), k4, g2, m4, g3⟩, k4, m4, g2, g3, g1, g4⟩
    | k + 5, hq => simp [tyL] at hq
  · intro q hq
    have hn : ∀ q ∈ nestL, Cond.methodLinkNest q.1 q.2.1 q.2.2 "FormatDump" ∈ lw_tbl := by decide +kernel
    exact va_Nw.of rfl (hts _ (hn q hq))
theorem x_start {args : Array Value} {s : State} (hts : ∀ w ∈ lw_tbl, w.before args s = true) (hgv : (Jvm.Cond.and given_1 narrow_1).before args s = true) : xK s := by
  have hs := flat_of_before _ hgv
  refine ⟨fun x hx => ?_, fun q hq => ?_, fun q hq => ?_⟩
  · have h : ∀ x ∈ xDe, Cond.declares x ∈ lw_tbl := by decide +kernel
    exact va_Nw.of rfl (hts _ (h x hx))
  · have h : ∀ q ∈ xCa, Cond.castable q.1 q.2 ∈ lw_tbl := by decide +kernel
    exact va_Nw.of rfl (hts _ (h q hq))
  · rcases List.mem_cons.mp hq with e | hq
    · rw [e]; exact va_Nc.of (hs (Cond.not (.castable eST eAR)) (by decide +kernel))
    · rw [List.mem_singleton.mp hq]; exact va_Nc.of (hs (Cond.not (.castable eAR eIX)) (by decide +kernel))
theorem z_start {args : Array Value} {s : State} (hts : ∀ w ∈ lw_tbl, w.before args s = true) (hgv : (Jvm.Cond.and given_1 narrow_1).before args s = true) : zK (fun q : Nat => s.heap.size ≤ q) s s.heap := by
  have hs := flat_of_before _ hgv
  have hA : ∀ a : Nat, a < s.heap.size → ¬ (fun q : Nat => s.heap.size ≤ q) a := fun a h => Nat.not_le.mpr h
  exact ⟨vx_Zqof (hts _ (by decide +kernel)) (hts _ (by decide +kernel)) (hs _ (by decide +kernel)) hA, vx_Zqof (hts _ (by decide +kernel)) (hts _ (by decide +kernel)) (hs _ (by decide +kernel)) hA⟩
theorem isX_start {cy : Nat → ClassId} {ad : Nat → Nat} {M : Nat → va_E} (h : M 0 = fdO ad (-1) (nI 0) ∧ isRow cy ad 52 M 3 4 80 80 [] ∧ isRow cy ad 52 M 5 6 2000 2000 [] ∧ isRow cy ad 52 M 7 8 256 256 [] ∧ isArgs cy ad 52 M (fun _ => .inl 0) 0 0 0 ∧ isFig cy ad 52 M 1 2 [] false ∧ M 36 = prO ad false ∧ M 37 = .inr (3, [.int (nI 0), .int (nI 0)]) ∧ M 38 = .inr (2, [.int (bI false), .int (bI false), .int (bI false), .int (bI false), .int (bI false), .int (bI false), .int (bI false), .int (nI 0), .int ((-1)), .int (nI 32), .int ((-1)), .int (nI 0)]) ∧ isRow cy ad 52 M 39 40 80 80 [] ∧ isRow cy ad 52 M 41 42 80 80 [] ∧ M 43 = wdO ad (nI 0) (nI 111) (nI 1) ∧ isRow cy ad 52 M 44 45 22 22 [] ∧ M 46 = pdO ad ∧ M 47 = rdO ad (nI 0) (nI 0) ∧ isRow cy ad 52 M 48 49 256 256 [] ∧ isRow cy ad 52 M 50 51 32 32 []) : isX cy ad 52 M [] (fun _ => .inl 0) 0 2000 [] [] (-1) (nI 0) := by
  obtain ⟨h0, h3, h5, h7, hA, hf, h36, h37, h38, h39, h41, h43, h44, h46, h47, h48, h50⟩ := h
  exact ⟨Nat.le_refl _, h0, h3, Nat.zero_le _, ⟨false, 0, 0, Nat.le_refl _, h36, h5, hA, ⟨[], false, hf⟩, ⟨_, _, h37⟩, ⟨[], h39⟩, [], h41⟩, Nat.zero_le _, Nat.le_refl _, h7, Nat.zero_le _, ⟨_, _, _, _, _, _, _, _, _, _, _, _, h38⟩, ⟨_, _, _, h43⟩, ⟨[], h44⟩, h46, ⟨0, 0, h47⟩, ⟨[], h48⟩, [], h50⟩
set_option maxHeartbeats 4000000 in
set_option maxRecDepth 100000 in
theorem whole_start {p : Program} {e : Env} {s : State} {m : MethodId} {below : List Frame} {meth : Method} {c : Code} (l : Launch) (hst9 : l.stackTraces = false) {b L : Nat} {xs : Nat → Int32} (hL : L ≤ 3072) (C0 : lw_At p s m meth c b L xs) : W p l e room_1 s m #[Value.ref b] below meth c s.heap [] 0 0 (lw_Z below #[Value.ref b] s) (entryFrame m ([Value.ref b] : List Value).toArray 7) := by
  obtain ⟨hx, hb, hr, hml, hown, hts, hX, hbl, hlocks, hgv⟩ := id C0
  have hbA : ¬ (fun q : Nat => s.heap.size ≤ q) b := Nat.not_le.mpr hbl
  obtain ⟨D, cy, hK⟩ := k_start hts
  have hx9 := x_start hts hgv
  have hz9 := z_start hts hgv
  have hao9 : mAO s := va_AO.of (hts (.arrayOver (.object "FormatDump$Argument")) (by decide +kernel))
  have hg : ∀ w ∈ GT, w.before #[Value.ref b] s = true := fun w h => hts w (List.mem_filter.mp h).1
  obtain ⟨ad, had⟩ : ∃ ad : Nat → Nat, ad = fun _ => 0 := ⟨_, rfl⟩
  obtain ⟨M0, hM0⟩ : ∃ M0 : Nat → va_E, M0 = fun _ => gh .null := ⟨_, rfl⟩
  have C : mC p s m #[Value.ref b] c cL_law 7 RL GT D cy ad 0 (fun q : Nat => s.heap.size ≤ q) := ⟨⟨hx, hb, hml, hown, hg⟩, hK, ⟨fun i j hi => absurd hi (Nat.not_lt_zero _), fun k hk => absurd hk (Nat.not_lt_zero _)⟩, fun q hq => hq⟩
  have hEx0 : Ex 0 ad ad := Ex.rf
  have hKp0 : Kp 0 [] M0 M0 := Kp.rf
  have hl := lv_entry ([.ref b]) (n := 7) (Nat.le_of_ble_eq_true rfl)
  rw [lg_entry_eq]
  refine (?_ : mW p l e room_1 s m #[Value.ref b] below meth c D (fun q : Nat => s.heap.size ≤ q) 7 0 0 (lw_Z below #[Value.ref b] s) ad 0 M0 0 [(0, .ref b)] []) s.heap [] _ (fun k q h => by cases h) va_S.rf hl
  refine m_new (pc' := 3) (fs := [.null, .null, .null, .null, .null, .null, .null, .null, .int (0), .int (0)]) (ci := 11) C (fun ad => [(0, (.ref b))]) (fun ad => []) (fun ad9 he9 => ⟨rfl, rfl⟩) inL_X11 tyX11 tyX11_ok (inL_of tm_1_21) (inL_of tm_1_22) (inL_of tm_1_1) rfl (by decide +kernel) (Nat.le_of_ble_eq_true rfl) (Nat.le_of_ble_eq_true rfl) dL_law_0 rfl (fun ad M1 he_1 g_1 hm_1 C => ?_)
  have hI := C.2.2.1
  have kp_2 := hKp0.nw hm_1 (by omega)
  have ex_3 := hEx0.tr he_1 (by omega)
  refine m_dup (pc' := 4) C dL_law_3 rfl rfl ?_
  refine m_callI (pc' := 7) (As := []) (b := 0) C hao9 (kX11_init C.2.2.1 g_1) (fun ad => [(0, (.ref b))]) (fun ad => [.ref (ad 0)]) (fun ad9 he9 => by refine ⟨?_, ?_⟩ <;> (first | rfl | simp only [he9 0 (by omega)])) (cwI 0 C.1.2.2.2.2 (goodNL tm_1_25) rfl rfl rfl (C.1.2.2.2.2 _ (inL_of tm_1_1)) (C.1.2.2.2.2 _ (inL_of tm_1_23)) (C.1.2.2.2.2 _ (inL_of tm_1_24)) rfl (by decide +kernel) ⟨by decide, by decide⟩) rfl rfl (Nat.le_of_ble_eq_true rfl) dL_law_4 rfl ⟨Nat.le_of_ble_eq_true rfl, Nat.le_of_ble_eq_true rfl⟩ (fun ad M4 he_4 q_4 C => ?_)
  obtain ⟨hx11_4, kq_4⟩ := q_4
  have hI := C.2.2.1
  have kp_5 := kp_2.kp kq_4 (by omega) (by simp <;> omega)
  have ex_6 := ex_3.tr he_4 (by omega)
  have hX_4 := isX_start hx11_4
  refine m_astore_n (pc' := 8) (lv' := [(1, .ref (ad 0)), (0, (.ref b))]) C dL_law_7 rfl (by decide) rfl rfl ?_
  refine m_new (pc' := 11) (fs := [.int (0), .null, .int (0), .int (0), .null, .null, .null, .null, .int (0), .null, .int (0), .int (0), .null, .int (0), .int (0), .int (0), .int (0), .int (0), .int (0), .int (0), .int (0), .int (0), .int (0), .int (0), .int (0), .int (0), .int (0), .int (0), .int (0), .null, .int (0), .null, .int (0), .null, .int (0), .int (0)]) (ci := 12) C (fun ad => [(1, .ref (ad 0)), (0, (.ref b))]) (fun ad => []) (fun ad9 he9 => by refine ⟨?_, ?_⟩ <;> (first | rfl | simp only [he9 0 (by omega)])) inL_X12 tyX12 tyX12_ok (inL_of tm_5_44) (inL_of tm_5_45) (inL_of tm_1_13) rfl (by decide +kernel) (Nat.le_of_ble_eq_true rfl) (Nat.le_of_ble_eq_true rfl) dL_law_8 rfl (fun ad M7 he_7 g_7 hm_7 C => ?_)
  have hI := C.2.2.1
  have xX_8 := hX_4.ex he_7 (by omega) (fun k9 hk9 => hm_7 k9 (by omega)) (n' := 53)
  have kp_9 := kp_5.nw hm_7 (by omega)
  have ex_10 := ex_6.tr he_7 (by omega)
  refine m_dup (pc' := 12) C dL_law_11 rfl rfl ?_
  refine m_callI (pc' := 15) (As := []) (b := 52) C hao9 (kX12_init C.2.2.1 g_7) (fun ad => [(1, .ref (ad 0)), (0, (.ref b))]) (fun ad => [.ref (ad 52)]) (fun ad9 he9 => by refine ⟨?_, ?_⟩ <;> (first | rfl | simp only [he9 0 (by omega), he9 52 (by omega)])) (cwI 0 C.1.2.2.2.2 (goodNL tm_5_48) rfl rfl rfl (C.1.2.2.2.2 _ (inL_of tm_1_13)) (C.1.2.2.2.2 _ (inL_of tm_5_46)) (C.1.2.2.2.2 _ (inL_of tm_5_47)) rfl (by decide +kernel) ⟨by decide, by decide⟩) rfl rfl (Nat.le_of_ble_eq_true rfl) dL_law_12 rfl ⟨Nat.le_of_ble_eq_true rfl, Nat.le_of_ble_eq_true rfl⟩ (fun ad M11 he_11 q_11 C => ?_)
  obtain ⟨hM0_11, kq_11⟩ := q_11
  have hI := C.2.2.1
  have xX_12 := xX_8.ex he_11 (by omega) (fun k9 hk9 => kq_11 k9 (by omega) (by simp <;> omega)) (n' := 63)
  have kp_13 := kp_9.kp kq_11 (by omega) (by simp <;> omega)
  have ex_14 := ex_10.tr he_11 (by omega)
  refine m_astore_n (pc' := 16) (lv' := [(2, .ref (ad 52)), (1, .ref (ad 0)), (0, (.ref b))]) C dL_law_15 rfl (by decide) rfl rfl ?_
  refine m_iconst (pc' := 17) (v := nI 1) C dL_law_16 (by decide) rfl ?_
  refine m_newa (pc' := 19) (atype := .long) (ty := .long) (N := 1) (a0 := (1, .inr (.inl (fun _ => 0)))) C 2 (fun ad => [(2, .ref (ad 52)), (1, .ref (ad 0)), (0, (.ref b))]) (fun ad => []) (fun ad9 he9 => by refine ⟨?_, ?_⟩ <;> (first | rfl | simp only [he9 0 (by omega), he9 52 (by omega)])) rfl (inL_of tm_5_161) rfl (fun _ => by simp) (fun _ => rfl) (by decide) (by decide) (by decide) (Nat.le_of_ble_eq_true rfl) (Nat.le_of_ble_eq_true rfl) dL_law_17 rfl (fun ad M15 he_15 g_15 hm_15 C => ?_)
  have hI := C.2.2.1
  have xX_16 := xX_12.ex he_15 (by omega) (fun k9 hk9 => hm_15 k9 (by omega)) (n' := 64)
  have xM_17 := hM0_11.ex he_15 (fun k9 hk9 => hm_15 k9 hk9)
  have kp_18 := kp_13.nw hm_15 (by omega)
  have ex_19 := ex_14.tr he_15 (by omega)
  refine m_astore_n (pc' := 20) (lv' := [(3, .ref (ad 63)), (2, .ref (ad 52)), (1, .ref (ad 0)), (0, (.ref b))]) C dL_law_19 rfl (by decide) rfl rfl ?_
  refine m_iconst (pc' := 21) (v := nI 0) C dL_law_20 (by decide) rfl ?_
  refine m_istore (pc' := 23) (lv' := [(4, .int (nI 0)), (3, .ref (ad 63)), (2, .ref (ad 52)), (1, .ref (ad 0)), (0, (.ref b))]) C dL_law_21 (by decide) rfl rfl ?_
  refine m_lv [4, 3, 2, 1, 0] rfl ?_
  exact law_loop C hr hlocks hst9 hz9 hx9 hX hbl hbA hL ⟨⟨_, _, _, _, _, _, _, _, xX_16, xM_17⟩, ⟨_, g_15⟩⟩
