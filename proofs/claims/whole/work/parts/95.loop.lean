set_option maxHeartbeats 4000000 in
set_option maxRecDepth 100000 in
theorem law_loop {p : Program} {l : Launch} {e : Env} {s : State} {m : MethodId} {below : List Frame} {meth : Method} {c : Code} {D : va_G} {cy : Nat → ClassId} {ad : Nat → Nat} {M : Nat → va_E} {b L : Nat} {xs : Nat → Int32} (C : mC p s m #[Value.ref b] c cL_law 7 RL GT D cy ad 64 (fun q : Nat => s.heap.size ≤ q)) (hrt0 : meth.sig.returnType = ret) (hlk0 : meth.locks = false) (hst9 : l.stackTraces = false) (hz9 : zK (fun q : Nat => s.heap.size ≤ q) s s.heap) (hx9 : xK s) (hS9 : va_X b L xs s s.heap) (hb1 : b < s.heap.size) (hb2 : ¬ (fun q : Nat => s.heap.size ≤ q) b) (hL : L ≤ 3072) (hIS : isS cy ad M) : mW p l e room_1 s m #[Value.ref b] below meth c D (fun q : Nat => s.heap.size ≤ q) 7 64 9058 (lw_Z below #[Value.ref b] s) ad 64 M 23 [(0, .ref b), (1, .ref (ad 0)), (2, .ref (ad 52)), (3, .ref (ad 63)), (4, .int (nI 0))] [] := by
  refine m_loopC (σ := Nat × (Nat → va_E)) (fun a => a.2) (fun a => [(0, (.ref b)), (1, .ref (ad 0)), (2, .ref (ad 52)), (3, .ref (ad 63)), (4, .int (nI (6 * a.1)))]) (fun a => 64 + a.1) (fun a => 9058 + 6 * a.1) (fun a => a.1 ≤ 513 ∧ isS cy ad a.2) (fun a => 514 - a.1) (0, M) ⟨Nat.zero_le _, hIS⟩ ?_
  clear hIS
  rintro ⟨j, M⟩ ⟨hj, hIS⟩ ih
  dsimp only at hj hIS ih ⊢
  refine m_iload (pc' := 25) C dL_law_23 4 rfl rfl ?_
  refine m_aload_n (pc' := 26) C dL_law_25 rfl 0 rfl rfl ?_
  refine m_slen (pc' := 27) C hS9 hb1 hb2 dL_law_26 rfl ?_
  refine m_bipush (pc' := 29) (v := nI 6) C dL_law_27 (by decide) rfl ?_
  refine m_isub (pc' := 30) (v := nI L - nI 6) C dL_law_29 rfl rfl ?_
  refine m_icmp_gt (pc' := 33) (tgt := 1079) C dL_law_30 (by decide) rfl (fun c_30 => ?_) (fun c_30 => ?_)
  · refine m_iconst (pc' := 1080) (v := 1) C dL_law_1079 (by decide) rfl ?_
    intro H locs ls hP hS hl
    exact W.widen (k := 601024) (n := 7293034) (by omega) (by omega) (va_forget (fun q hq => hS.2.2 q hq) (lw_ret C.1.1 C.1.2.1 hrt0 hlk0 dL_law_1080))
  · have hi : 6 * j + 6 ≤ L := by
      rcases Nat.lt_or_ge L (6 * j + 6) with q | q
      · exact absurd (by rw [Int32.lt_iff_toInt_lt, pk_sub_toInt (by omega) (by decide), nI_toInt (by omega)]; omega) c_30
      · exact q
    have hk : ∀ M' : Nat → va_E, isS cy ad M' → mW p l e room_1 s m #[Value.ref b] below meth c D (fun q : Nat => s.heap.size ≤ q) 7 (64 + j + 1) (9058 + 6 * j + 6) (lw_Z below #[Value.ref b] s) ad 64 M' 1073 [(0, (.ref b)), (1, .ref (ad 0)), (2, .ref (ad 52)), (3, .ref (ad 63)), (4, .int (nI (6 * j)))] [] := by
      intro M1 hIS1
      refine m_iinc (pc' := 1076) (v := nI (6 * (j + 1))) (lv' := [(4, .int (nI (6 * (j + 1)))), (0, .ref b), (1, .ref (ad 0)), (2, .ref (ad 52)), (3, .ref (ad 63))]) C dL_law_1073 (k := 4) rfl (by show nI (6 * j) + nI 6 = _; rw [nI_add]; congr 1) (by decide) rfl rfl ?_
      refine m_goto (tgt := 23) C dL_law_1076 (by decide) ?_
      refine m_wid (k := 64 + (j + 1)) (q := 9058 + 6 * (j + 1)) (by omega) (by omega) ?_
      refine m_lv [1, 2, 3, 4, 0] rfl ?_
      exact ih (j + 1, M1) ⟨by (try dsimp only); omega, hIS1⟩ (by (try dsimp only); omega)
    refine m_aload_n (pc' := 34) C dL_law_33 rfl 0 rfl rfl ?_
    refine m_iload (pc' := 36) C dL_law_34 4 rfl rfl ?_
    refine m_sald (pc' := 37) (v := xs (6 * j)) C hS9 hb1 hb2 (vp_in_nI (by omega) (by omega)) (by rw [nI_clamp (by omega)]) dL_law_36 rfl ?_
    refine m_bipush (pc' := 39) (v := nI 31) C dL_law_37 (by decide) rfl ?_
    refine m_iand (pc' := 40) (v := (xs (6 * j)) &&& (nI 31)) C dL_law_39 rfl rfl ?_
    refine dite ((xs (6 * j)) &&& (nI 31) = nI 0) (fun s40_0 => ?_) (fun s40_0 => ?_)
    · refine m_tab (off := 88) (tgt := 128) C dL_law_40 (by decide) (by rw [s40_0]; decide) (by decide) ?_
      exact law_0 C hst9 hz9 hx9 hS9 hb1 hb2 hi hL hIS ⟨by omega, by omega⟩ hk
    refine dite ((xs (6 * j)) &&& (nI 31) = nI 1) (fun s40_1 => ?_) (fun s40_1 => ?_)
    · refine m_tab (off := 192) (tgt := 232) C dL_law_40 (by decide) (by rw [s40_1]; decide) (by decide) ?_
      exact law_1 C hst9 hz9 hx9 hS9 hb1 hb2 hi hL hIS ⟨by omega, by omega⟩ hk
    refine dite ((xs (6 * j)) &&& (nI 31) = nI 2) (fun s40_2 => ?_) (fun s40_2 => ?_)
    · refine m_tab (off := 205) (tgt := 245) C dL_law_40 (by decide) (by rw [s40_2]; decide) (by decide) ?_
      exact law_2 C hst9 hz9 hx9 hS9 hb1 hb2 hi hL hIS ⟨by omega, by omega⟩ hk
    refine dite ((xs (6 * j)) &&& (nI 31) = nI 3) (fun s40_3 => ?_) (fun s40_3 => ?_)
    · refine m_tab (off := 293) (tgt := 333) C dL_law_40 (by decide) (by rw [s40_3]; decide) (by decide) ?_
      exact law_3 C hst9 hz9 hx9 hS9 hb1 hb2 hi hL hIS ⟨by omega, by omega⟩ hk
    refine dite ((xs (6 * j)) &&& (nI 31) = nI 4) (fun s40_4 => ?_) (fun s40_4 => ?_)
    · refine m_tab (off := 337) (tgt := 377) C dL_law_40 (by decide) (by rw [s40_4]; decide) (by decide) ?_
      exact law_4 C hst9 hz9 hx9 hS9 hb1 hb2 hi hL hIS ⟨by omega, by omega⟩ hk
    refine dite ((xs (6 * j)) &&& (nI 31) = nI 5) (fun s40_5 => ?_) (fun s40_5 => ?_)
    · refine m_tab (off := 350) (tgt := 390) C dL_law_40 (by decide) (by rw [s40_5]; decide) (by decide) ?_
      exact law_5 C hst9 hz9 hx9 hS9 hb1 hb2 hi hL hIS ⟨by omega, by omega⟩ hk
    refine dite ((xs (6 * j)) &&& (nI 31) = nI 6) (fun s40_6 => ?_) (fun s40_6 => ?_)
    · refine m_tab (off := 386) (tgt := 426) C dL_law_40 (by decide) (by rw [s40_6]; decide) (by decide) ?_
      exact law_6 C hst9 hz9 hx9 hS9 hb1 hb2 hi hL hIS ⟨by omega, by omega⟩ hk
    refine dite ((xs (6 * j)) &&& (nI 31) = nI 7) (fun s40_7 => ?_) (fun s40_7 => ?_)
    · refine m_tab (off := 399) (tgt := 439) C dL_law_40 (by decide) (by rw [s40_7]; decide) (by decide) ?_
      exact law_7 C hst9 hz9 hx9 hS9 hb1 hb2 hi hL hIS ⟨by omega, by omega⟩ hk
    refine dite ((xs (6 * j)) &&& (nI 31) = nI 8) (fun s40_8 => ?_) (fun s40_8 => ?_)
    · refine m_tab (off := 412) (tgt := 452) C dL_law_40 (by decide) (by rw [s40_8]; decide) (by decide) ?_
      exact law_8 C hst9 hz9 hx9 hS9 hb1 hb2 hi hL hIS ⟨by omega, by omega⟩ hk
    refine dite ((xs (6 * j)) &&& (nI 31) = nI 9) (fun s40_9 => ?_) (fun s40_9 => ?_)
    · refine m_tab (off := 516) (tgt := 556) C dL_law_40 (by decide) (by rw [s40_9]; decide) (by decide) ?_
      exact law_9 C hst9 hz9 hx9 hS9 hb1 hb2 hi hL hIS ⟨by omega, by omega⟩ hk
    refine dite ((xs (6 * j)) &&& (nI 31) = nI 10) (fun s40_10 => ?_) (fun s40_10 => ?_)
    · refine m_tab (off := 572) (tgt := 612) C dL_law_40 (by decide) (by rw [s40_10]; decide) (by decide) ?_
      exact law_10 C hst9 hz9 hx9 hS9 hb1 hb2 hi hL hIS ⟨by omega, by omega⟩ hk
    refine dite ((xs (6 * j)) &&& (nI 31) = nI 11) (fun s40_11 => ?_) (fun s40_11 => ?_)
    · refine m_tab (off := 682) (tgt := 722) C dL_law_40 (by decide) (by rw [s40_11]; decide) (by decide) ?_
      exact law_11 C hst9 hz9 hx9 hS9 hb1 hb2 hi hL hIS ⟨by omega, by omega⟩ hk
    refine dite ((xs (6 * j)) &&& (nI 31) = nI 12) (fun s40_12 => ?_) (fun s40_12 => ?_)
    · refine m_tab (off := 778) (tgt := 818) C dL_law_40 (by decide) (by rw [s40_12]; decide) (by decide) ?_
      exact law_12 C hst9 hz9 hx9 hS9 hb1 hb2 hi hL hIS ⟨by omega, by omega⟩ hk
    refine dite ((xs (6 * j)) &&& (nI 31) = nI 13) (fun s40_13 => ?_) (fun s40_13 => ?_)
    · refine m_tab (off := 846) (tgt := 886) C dL_law_40 (by decide) (by rw [s40_13]; decide) (by decide) ?_
      exact law_13 C hst9 hz9 hx9 hS9 hb1 hb2 hi hL hIS ⟨by omega, by omega⟩ hk
    refine dite ((xs (6 * j)) &&& (nI 31) = nI 14) (fun s40_14 => ?_) (fun s40_14 => ?_)
    · refine m_tab (off := 914) (tgt := 954) C dL_law_40 (by decide) (by rw [s40_14]; decide) (by decide) ?_
      exact law_14 C hst9 hz9 hx9 hS9 hb1 hb2 hi hL hIS ⟨by omega, by omega⟩ hk
    refine dite ((xs (6 * j)) &&& (nI 31) = nI 15) (fun s40_15 => ?_) (fun s40_15 => ?_)
    · refine m_tab (off := 970) (tgt := 1010) C dL_law_40 (by decide) (by rw [s40_15]; decide) (by decide) ?_
      exact law_15 C hst9 hz9 hx9 hS9 hb1 hb2 hi hL hIS ⟨by omega, by omega⟩ hk
    refine dite ((xs (6 * j)) &&& (nI 31) = nI 16) (fun s40_16 => ?_) (fun s40_16 => ?_)
    · refine m_tab (off := 983) (tgt := 1023) C dL_law_40 (by decide) (by rw [s40_16]; decide) (by decide) ?_
      exact law_16 C hst9 hz9 hx9 hS9 hb1 hb2 hi hL hIS ⟨by omega, by omega⟩ hk
    refine dite ((xs (6 * j)) &&& (nI 31) = nI 17) (fun s40_17 => ?_) (fun s40_17 => ?_)
    · refine m_tab (off := 1008) (tgt := 1048) C dL_law_40 (by decide) (by rw [s40_17]; decide) (by decide) ?_
      exact law_17 C hst9 hz9 hx9 hS9 hb1 hb2 hi hL hIS ⟨by omega, by omega⟩ hk
    refine m_tab (off := 1033) (tgt := 1073) C dL_law_40 (by decide) (tab_def [0, 1, 2, 3, 4, 5, 6, 7, 8, 9, 10, 11, 12, 13, 14, 15, 16, 17] (by decide) (by decide) (nmc (lv_neT s40_0 (by decide)) (nmc (lv_neT s40_1 (by decide)) (nmc (lv_neT s40_2 (by decide)) (nmc (lv_neT s40_3 (by decide)) (nmc (lv_neT s40_4 (by decide)) (nmc (lv_neT s40_5 (by decide)) (nmc (lv_neT s40_6 (by decide)) (nmc (lv_neT s40_7 (by decide)) (nmc (lv_neT s40_8 (by decide)) (nmc (lv_neT s40_9 (by decide)) (nmc (lv_neT s40_10 (by decide)) (nmc (lv_neT s40_11 (by decide)) (nmc (lv_neT s40_12 (by decide)) (nmc (lv_neT s40_13 (by decide)) (nmc (lv_neT s40_14 (by decide)) (nmc (lv_neT s40_15 (by decide)) (nmc (lv_neT s40_16 (by decide)) (nmc (lv_neT s40_17 (by decide)) List.not_mem_nil))))))))))))))))))) (by decide) ?_
    refine m_wid (k := 64 + j + 1) (q := 9058 + 6 * j + 6) (by omega) (by omega) ?_
    exact hk M hIS
