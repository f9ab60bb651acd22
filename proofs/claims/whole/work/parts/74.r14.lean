set_option maxHeartbeats 4000000 in
set_option maxRecDepth 100000 in
theorem kX12_isLikeBefore {l : Launch} {D : va_G} {cy : Nat → ClassId} {ad : Nat → Nat} {n : Nat} {A : Nat → Prop} (hI : mI ad n A) {M : Nat → va_E} (hn : 63 ≤ n) (hn2 : n ≤ 100) (hro : rO ad M) {B : List Nat} (hby : isBy cy M B) {s : Nat} (hs : s ≤ 300) : mMi l yX12_isLikeBefore (gW yX12_isLikeBefore cX12_isLikeBefore 4 (some .boolean)) { frames := 0, cells := 0, slots := 0, locals := 0 } D cy ad n A [.ref (ad 52), .int (nI s)] M (fun res M' => res = bI (likeB B s) ∧ M' = M) := by
  obtain ⟨y1, y2, y3, yg, y4, y5⟩ := id hby
  refine m_entry (cc := cX12_isLikeBefore) (maxL := 4) (ret := (some .boolean)) (own := RX12) (lv := [(0, .ref (ad 52)), (1, .int (nI s))]) hI (by decide) rfl rfl (Nat.le_of_ble_eq_true rfl) rfl (fun pX eX sX mX aX bX tX cX C hrt0 hlk0 => ?_)
  refine m_cut (σ := Int32) (fun a => a = bI (decide (16 ≤ s ∧ s + 16 ≤ B.length))) (fun a => M) 22 (fun a => [(0, .ref (ad 52)), (1, .int (nI s))]) (fun a => [.int (a)]) ?_ (fun J22 => ?_)
  · rintro y9 hj
    try dsimp only at hj ⊢
    subst hj
    refine m_istore_n (pc' := 23) (lv' := [(2, .int (bI (decide (16 ≤ s ∧ s + 16 ≤ B.length)))), (0, .ref (ad 52)), (1, .int (nI s))]) C dX12_isLikeBefore_22 rfl (by decide) rfl rfl ?_
    refine m_iconst (pc' := 24) (v := nI 0) C dX12_isLikeBefore_23 (by decide) rfl ?_
    refine m_istore_n (pc' := 25) (lv' := [(3, .int (nI 0)), (2, .int (bI (decide (16 ≤ s ∧ s + 16 ≤ B.length)))), (0, .ref (ad 52)), (1, .int (nI s))]) C dX12_isLikeBefore_24 rfl (by decide) rfl rfl ?_
    refine m_lv [2, 3, 1, 0] rfl ?_
    refine m_loop (σ := Bool × Nat × (Nat → va_E)) (fun a => a.2.2) (fun a => [(0, .ref (ad 52)), (1, .int (nI s)), (2, .int (bI a.1)), (3, .int (nI a.2.1))]) (fun a => a.2.1 ≤ 16 ∧ (a.1 = false → likeB B s = false) ∧ (a.1 = true → 16 ≤ s ∧ s + 16 ≤ B.length ∧ ∀ i, i < a.2.1 → B.getD (s + i) 0 = B.getD (s - 16 + i) 0) ∧ M = a.2.2) (fun a => 16 - a.2.1) (decide (16 ≤ s ∧ s + 16 ≤ B.length), 0, M) (⟨Nat.zero_le _, (fun q => likeB_f (fun z => of_decide_eq_false q ⟨z.1, z.2.1⟩)), (fun q => ⟨(of_decide_eq_true q).1, (of_decide_eq_true q).2, (fun i hi => by cases hi)⟩), rfl⟩) ?_
    rintro ⟨lk, k, Mk⟩ hinv ih
    dsimp only at hinv ih ⊢
    obtain ⟨i1, i3, i2, i5⟩ := hinv
    subst i5
    refine m_iload_n (pc' := 26) C dX12_isLikeBefore_25 rfl 2 rfl rfl ?_
    refine m_if_eq (pc' := 29) (tgt := 69) C dX12_isLikeBefore_26 (by decide) rfl (fun c_26 => ?_) (fun c_26 => ?_)
    · have hlk := (bI_0 _).mp c_26
      refine m_iload_n (pc' := 70) C dX12_isLikeBefore_69 rfl 2 rfl rfl ?_
      refine m_iret C hrt0 hlk0 (nar_z _) dX12_isLikeBefore_70 ?_
      have hres : likeB B s = lk := by
        cases h9 : lk with
        | false => exact i3 h9
        | true =>
          obtain ⟨z1, z2, z3⟩ := i2 h9
          first | exact likeB_t.mpr ⟨z1, z2, fun k9 hk9 => z3 k9 (by omega)⟩ | (rw [hlk] at h9; cases h9)
      rw [hres]
      exact ⟨rfl, rfl⟩
    · have hlk := ts_of c_26
      obtain ⟨hb1, hb2, hb3⟩ := i2 hlk
      refine m_iload_n (pc' := 30) C dX12_isLikeBefore_29 rfl 3 rfl rfl ?_
      refine m_bipush (pc' := 32) (v := nI 16) C dX12_isLikeBefore_30 (by decide) rfl ?_
      refine m_icmp_ge (pc' := 35) (tgt := 69) C dX12_isLikeBefore_32 (by decide) rfl (fun c_32 => ?_) (fun c_32 => ?_)
      · have n_32 : 16 ≤ k := (nI_leI (by omega) (by omega)).mp c_32
        refine m_iload_n (pc' := 70) C dX12_isLikeBefore_69 rfl 2 rfl rfl ?_
        refine m_iret C hrt0 hlk0 (nar_z _) dX12_isLikeBefore_70 ?_
        have hres : likeB B s = lk := by
          cases h9 : lk with
          | false => exact i3 h9
          | true =>
            obtain ⟨z1, z2, z3⟩ := i2 h9
            first | exact likeB_t.mpr ⟨z1, z2, fun k9 hk9 => z3 k9 (by omega)⟩ | (rw [hlk] at h9; cases h9)
        rw [hres]
        exact ⟨rfl, rfl⟩
      · have n_32 : k < 16 := Nat.lt_of_not_le (fun q => c_32 ((nI_leI (by omega) (by omega)).mpr q))
        have hc1 := gd_lt0 y1 (s + k)
        have hc2 := gd_lt0 y1 (s - 16 + k)
        refine m_aload_n (pc' := 36) C dX12_isLikeBefore_35 rfl 0 rfl rfl ?_
        refine r_get C hn hro inW_X12 9 (by decide) ⟨rfl, rfl, rfl⟩ (gW_of tm_5_59) rfl dX12_isLikeBefore_36 rfl ?_
        refine m_iload_n (pc' := 40) C dX12_isLikeBefore_39 rfl 1 rfl rfl ?_
        refine m_iload_n (pc' := 41) C dX12_isLikeBefore_40 rfl 3 rfl rfl ?_
        refine m_iadd (pc' := 42) (v := nI (s + k)) C dX12_isLikeBefore_41 (nI_add _ _) rfl ?_
        refine m_iald (pc' := 43) (v := nI (B.getD (s + k) 0)) C 58 (by omega) y4 (vp_in_nI (by omega) (by decide)) (by rw [nI_clamp (by omega), y5 _ (by omega)]) dX12_isLikeBefore_42 rfl ?_
        refine m_aload_n (pc' := 44) C dX12_isLikeBefore_43 rfl 0 rfl rfl ?_
        refine r_get C hn hro inW_X12 9 (by decide) ⟨rfl, rfl, rfl⟩ (gW_of tm_5_59) rfl dX12_isLikeBefore_44 rfl ?_
        refine m_iload_n (pc' := 48) C dX12_isLikeBefore_47 rfl 1 rfl rfl ?_
        refine m_bipush (pc' := 50) (v := nI 16) C dX12_isLikeBefore_48 (by decide) rfl ?_
        refine m_isub (pc' := 51) (v := nI (s - 16)) C dX12_isLikeBefore_50 (pk_sub (by omega)) rfl ?_
        refine m_iload_n (pc' := 52) C dX12_isLikeBefore_51 rfl 3 rfl rfl ?_
        refine m_iadd (pc' := 53) (v := nI ((s - 16) + k)) C dX12_isLikeBefore_52 (nI_add _ _) rfl ?_
        refine m_iald (pc' := 54) (v := nI (B.getD (s - 16 + k) 0)) C 58 (by omega) y4 (vp_in_nI (by omega) (by decide)) (by rw [nI_clamp (by omega), y5 _ (by omega)]) dX12_isLikeBefore_53 rfl ?_
        refine m_icmp_ne (pc' := 57) (tgt := 61) C dX12_isLikeBefore_54 (by decide) rfl (fun c_54 => ?_) (fun c_54 => ?_)
        · have n_54 : ¬ (B.getD (s + k) 0) = (B.getD (s - 16 + k) 0) := fun q => c_54 ((nI_eq (by omega) (by omega)).mpr q)
          refine m_iconst (pc' := 62) (v := bI false) C dX12_isLikeBefore_61 (by decide) rfl ?_
          refine m_istore_n (pc' := 63) (lv' := [(2, .int (bI false)), (0, .ref (ad 52)), (1, .int (nI s)), (3, .int (nI k))]) C dX12_isLikeBefore_62 rfl (by decide) rfl rfl ?_
          refine m_iinc (pc' := 66) (v := nI (k + 1)) (lv' := [(3, .int (nI (k + 1))), (2, .int (bI false)), (0, .ref (ad 52)), (1, .int (nI s))]) C dX12_isLikeBefore_63 (k := 3) rfl (nI_add _ _) (by decide) rfl rfl ?_
          refine m_goto (tgt := 25) C dX12_isLikeBefore_66 (by decide) ?_
          refine m_lv [2, 3, 1, 0] rfl ?_
          exact ih (false, k + 1, M) (⟨by (try dsimp only); omega, (fun _ => likeB_f (fun q => n_54 (q.2.2 k n_32))), (by intro q; cases q), rfl⟩) (by simp only; omega)
        · have n_54 : (B.getD (s + k) 0) = (B.getD (s - 16 + k) 0) := (nI_eq (by omega) (by omega)).mp (Classical.not_not.mp c_54)
          refine m_iconst (pc' := 58) (v := bI true) C dX12_isLikeBefore_57 (by decide) rfl ?_
          refine m_goto (tgt := 62) C dX12_isLikeBefore_58 (by decide) ?_
          refine m_istore_n (pc' := 63) (lv' := [(2, .int (bI true)), (0, .ref (ad 52)), (1, .int (nI s)), (3, .int (nI k))]) C dX12_isLikeBefore_62 rfl (by decide) rfl rfl ?_
          refine m_iinc (pc' := 66) (v := nI (k + 1)) (lv' := [(3, .int (nI (k + 1))), (2, .int (bI true)), (0, .ref (ad 52)), (1, .int (nI s))]) C dX12_isLikeBefore_63 (k := 3) rfl (nI_add _ _) (by decide) rfl rfl ?_
          refine m_goto (tgt := 25) C dX12_isLikeBefore_66 (by decide) ?_
          refine m_lv [2, 3, 1, 0] rfl ?_
          exact ih (true, k + 1, M) (⟨by (try dsimp only); omega, (by intro q; cases q), (fun _ => ⟨hb1, hb2, by intro i hi; (try dsimp only at hi); rcases Nat.lt_or_ge i k with q | q; exact (i2 hlk).2.2 i q; rw [show i = k by omega]; exact n_54⟩), rfl⟩) (by simp only; omega)
  refine m_iload_n (pc' := 1) C dX12_isLikeBefore_0 rfl 1 rfl rfl ?_
  refine m_bipush (pc' := 3) (v := nI 16) C dX12_isLikeBefore_1 (by decide) rfl ?_
  refine m_icmp_lt (pc' := 6) (tgt := 21) C dX12_isLikeBefore_3 (by decide) rfl (fun c_3 => ?_) (fun c_3 => ?_)
  · have n_3 : s < 16 := (nI_ltI (by omega) (by omega)).mp c_3
    have hz : decide (16 ≤ s ∧ s + 16 ≤ B.length) = false := decide_eq_false (fun q => by omega)
    refine m_iconst (pc' := 22) (v := nI 0) C dX12_isLikeBefore_21 (by decide) rfl ?_
    refine m_lv [0, 1] rfl ?_
    exact J22 (nI 0) (by rw [hz]; rfl)
  · have n_3 : 16 ≤ s := Nat.le_of_not_lt (fun q => c_3 ((nI_ltI (by omega) (by omega)).mpr q))
    refine m_iload_n (pc' := 7) C dX12_isLikeBefore_6 rfl 1 rfl rfl ?_
    refine m_bipush (pc' := 9) (v := nI 16) C dX12_isLikeBefore_7 (by decide) rfl ?_
    refine m_iadd (pc' := 10) (v := nI (s + 16)) C dX12_isLikeBefore_9 (nI_add _ _) rfl ?_
    refine m_aload_n (pc' := 11) C dX12_isLikeBefore_10 rfl 0 rfl rfl ?_
    refine r_get C hn hro inW_X12 8 (by decide) ⟨rfl, rfl, rfl⟩ (gW_of tm_5_58) (r_at 8 rfl y2) dX12_isLikeBefore_11 rfl ?_
    refine m_icmp_gt (pc' := 17) (tgt := 21) C dX12_isLikeBefore_14 (by decide) rfl (fun c_14 => ?_) (fun c_14 => ?_)
    · have n_14 : B.length < (s + 16) := (nI_ltI (by omega) (by omega)).mp c_14
      have hz : decide (16 ≤ s ∧ s + 16 ≤ B.length) = false := decide_eq_false (fun q => by omega)
      refine m_iconst (pc' := 22) (v := nI 0) C dX12_isLikeBefore_21 (by decide) rfl ?_
      refine m_lv [0, 1] rfl ?_
      exact J22 (nI 0) (by rw [hz]; rfl)
    · have n_14 : (s + 16) ≤ B.length := Nat.le_of_not_lt (fun q => c_14 ((nI_ltI (by omega) (by omega)).mpr q))
      have hz : decide (16 ≤ s ∧ s + 16 ≤ B.length) = true := decide_eq_true ⟨by omega, by omega⟩
      refine m_iconst (pc' := 18) (v := nI 1) C dX12_isLikeBefore_17 (by decide) rfl ?_
      refine m_goto (tgt := 22) C dX12_isLikeBefore_18 (by decide) ?_
      refine m_lv [0, 1] rfl ?_
      exact J22 (nI 1) (by rw [hz]; rfl)
set_option maxHeartbeats 4000000 in
set_option maxRecDepth 100000 in
theorem kX12_words {l : Launch} {D : va_G} {cy : Nat → ClassId} {ad : Nat → Nat} {n : Nat} {A : Nat → Prop} (hI : mI ad n A) {M : Nat → va_E} (hn : 63 ≤ n) (hn2 : n ≤ 100) {T : List Nat} {xs : Nat → Arg} {cnt lim : Nat} {O B : List Nat} {fp ot : Int32} (hM : isM cy ad M T xs cnt lim O B fp ot) (x y : Int32) {lt : Nat} (hlt6 : lt < 65536) (al : Bool) : mMi l yX12_words (gW yX12_words cX12_words 9 (some .int)) { frames := 4, cells := 0, slots := 0, locals := 101 } D cy ad n A [.ref (ad 52), .int x, .int (nI lt), .int y, .int (bI al)] M (fun res M' => (wdK x y lt = 0 → res = pgI lim (wDump B (cl x) lt (cl y) al)) ∧ M' 100 = gh (.int (nI (wdK x y lt))) ∧ isM cy ad M' T xs cnt lim (sel (wdK x y lt) (pgO lim (wDump B (cl x) lt (cl y) al)) O) B fp ot ∧ Fr refS M M') := by
  obtain ⟨hro, hln, hra, hout, hby, h14, h15, ⟨W, hrw⟩, ⟨L, hdg⟩, gf, hfd⟩ := hM
  obtain ⟨y1, y2, y3, yg, y4, y5⟩ := id hby
  have hl2 : B.length ≤ 256 := hby.2.2.1
  refine m_entry (cc := cX12_words) (maxL := 9) (ret := (some .int)) (own := RX12) (lv := [(0, .ref (ad 52)), (1, .int (x)), (2, .int (nI lt)), (3, .int (y)), (4, .int (bI al))]) hI (by decide) rfl rfl (Nat.le_of_ble_eq_true rfl) rfl (fun pX eX sX mX aX bX tX cX C hrt0 hlk0 => ?_)
  refine m_cut (σ := Int32) (fun a => a = bI (decide (abOk x = true ∧ wdOk (nI lt) y = true))) (fun a => M) 84 (fun a => [(0, .ref (ad 52)), (1, .int (x)), (2, .int (nI lt)), (3, .int (y)), (4, .int (bI al))]) (fun a => [.int (a)]) ?_ (fun J84 => ?_)
  · rintro y9 hj
    try dsimp only at hj ⊢
    subst hj
    refine m_istore (pc' := 86) (lv' := [(5, .int (bI (decide (abOk x = true ∧ wdOk (nI lt) y = true)))), (0, .ref (ad 52)), (1, .int (x)), (2, .int (nI lt)), (3, .int (y)), (4, .int (bI al))]) C dX12_words_84 (by decide) rfl rfl ?_
    refine m_aload_n (pc' := 87) C dX12_words_86 rfl 1 rfl rfl ?_
    refine m_cut (σ := Int32) (fun a => a = nI (wdK x y lt)) (fun a => M) 97 (fun a => [(5, .int (bI (decide (abOk x = true ∧ wdOk (nI lt) y = true)))), (0, .ref (ad 52)), (1, .int (x)), (2, .int (nI lt)), (3, .int (y)), (4, .int (bI al))]) (fun a => [.int (a), .ref (ad 52)]) ?_ (fun J97 => ?_)
    · rintro y9 hj
      try dsimp only at hj ⊢
      subst hj
      have hKb : wdK x y lt ≤ 2 := by unfold wdK; (repeat' split) <;> omega
      refine m_callVi (pc' := 100) (As := [.int (nI (wdK x y lt))]) (rest := []) C (kX12_refused hI hn hn2 hro (k := (wdK x y lt)) (by omega)) (cwV 1 C.1.2.2.2.2 (goodV tm_5_174 tm_5_176 tp_49 tm_1_13 tm_5_177) rfl rfl rfl (by decide +kernel) ⟨by decide, by decide⟩) (by omega) hro rfl rfl rfl (Nat.le_of_ble_eq_true rfl) dX12_words_97 rfl ⟨by decide, by decide⟩ (fun x_1 M1 q_1 => ?_)
      obtain ⟨e_1, pro_1, pf0_1, F_1⟩ := q_1
      replace e_1 := e_1.symm
      subst e_1
      refine m_if_eq (pc' := 103) (tgt := 105) C dX12_words_100 (by decide) rfl (fun c_100 => ?_) (fun c_100 => ?_)
      · have hK : wdK x y lt = 0 := by have := of_decide_eq_false ((bI_0 _).mp c_100); omega
        have hok : abOk x = true ∧ wdOk (nI lt) y = true := by
          unfold wdK at hK
          split at hK
          · assumption
          · omega
        obtain ⟨hxe, hab⟩ := abOk_N hok.1
        obtain ⟨hye, hy1, hy8, h99⟩ := wdOk_N hlt6 hok.2
        have hsz := wdOk_sz hok.2
        have hlt5 := wdOk_lt hlt6 hok.2
        obtain ⟨ab, hab9⟩ : ∃ z, z = cl x := ⟨_, rfl⟩
        obtain ⟨sz, hsz9⟩ : ∃ z, z = cl y := ⟨_, rfl⟩
        rw [← hab9] at hxe hab
        rw [← hsz9] at hye hy1 hy8 h99 hsz
        refine m_lvx (lv' := [(5, .int (bI (decide (abOk x = true ∧ wdOk (nI lt) y = true)))), (0, .ref (ad 52)), (1, .int (nI ab)), (2, .int (nI lt)), (3, .int (nI sz)), (4, .int (bI al))]) (by rw [hxe, hye]) ?_
        refine m_aload_n (pc' := 106) C dX12_words_105 rfl 1 rfl rfl ?_
        have xoutR_3 := hout.fr F_1 (by decide)
        refine m_callVv (pc' := 109) (As := []) (rest := []) C (kX12_begin hI hn hn2 pro_1 xoutR_3 ) (cwV 0 C.1.2.2.2.2 (goodV tm_5_231 tm_5_233 tp_55 tm_1_13 tm_5_234) rfl rfl rfl (by decide +kernel) ⟨by decide, by decide⟩) (by omega) pro_1 rfl rfl rfl (Nat.le_of_ble_eq_true rfl) dX12_words_106 rfl ⟨by decide, by decide⟩ (fun M2 q_2 => ?_)
        obtain ⟨pro_2, pout_2, F_2⟩ := q_2
        refine m_iconst (pc' := 110) (v := bI false) C dX12_words_109 (by decide) rfl ?_
        refine m_istore (pc' := 112) (lv' := [(6, .int (bI false)), (5, .int (bI (decide (abOk x = true ∧ wdOk (nI lt) y = true)))), (0, .ref (ad 52)), (1, .int (nI ab)), (2, .int (nI lt)), (3, .int (nI sz)), (4, .int (bI al))]) C dX12_words_110 (by decide) rfl rfl ?_
        refine m_iconst (pc' := 113) (v := nI 0) C dX12_words_112 (by decide) rfl ?_
        refine m_istore (pc' := 115) (lv' := [(7, .int (nI 0)), (6, .int (bI false)), (5, .int (bI (decide (abOk x = true ∧ wdOk (nI lt) y = true)))), (0, .ref (ad 52)), (1, .int (nI ab)), (2, .int (nI lt)), (3, .int (nI sz)), (4, .int (bI al))]) C dX12_words_113 (by decide) rfl rfl ?_
        refine m_lv [3, 4, 5, 6, 7, 1, 0] rfl ?_
        have ff0_4 : M2 100 = gh (.int (nI (wdK x y lt))) := (F_2 100 (by decide)).trans pf0_1
        have xdg_5 := hdg.fr F_1 (by decide)
        have xdg_6 := xdg_5.fr F_2 (by decide)
        refine m_loop (σ := Nat × Bool × List Nat × (Nat → va_E)) (fun a => a.2.2.2) (fun a => [(0, .ref (ad 52)), (1, .int (nI ab)), (2, .int (nI lt)), (3, .int (nI sz)), (4, .int (bI al)), (6, .int (bI a.2.1)), (7, .int (nI (16 * a.1)))]) (fun a => (wLines B ab lt sz al 17 0 false) = a.2.2.1 ++ wLines B ab lt sz al (17 - a.1) (16 * a.1) a.2.1 ∧ a.1 ≤ 17 ∧ a.2.2.2 100 = gh (.int (nI (wdK x y lt))) ∧ isOut cy a.2.2.2 lim a.2.2.1 ∧ (∃ D, isDg cy a.2.2.2 D) ∧ rO ad a.2.2.2 ∧ Fr [52, 59, 61, 100, 111, 113, 132] M a.2.2.2) (fun a => 17 - a.1) (0, false, [], M2) (⟨rfl, by (try dsimp only); omega, ff0_4, pout_2, ⟨_, xdg_6⟩, pro_2, ((F_1.sub (by decide)).tr (F_2.sub (by decide)))⟩) ?_
        rintro ⟨f, lo, R, Mk⟩ hinv ih
        dsimp only at hinv ih ⊢
        obtain ⟨i1, i2, i3, i5, ⟨L2, i6⟩, i4, i8⟩ := hinv
        refine m_iload (pc' := 117) C dX12_words_115 6 rfl rfl ?_
        refine m_aload_n (pc' := 118) C dX12_words_117 rfl 0 rfl rfl ?_
        have ff8_7 : Mk 108 = gh (.int (nI B.length)) := (i8 108 (by decide)).trans y2
        refine r_get C hn i4 inW_X12 8 (by decide) ⟨rfl, rfl, rfl⟩ (gW_of tm_5_58) (r_at 8 rfl ff8_7) dX12_words_118 rfl ?_
        refine m_icmp_ge (pc' := 124) (tgt := 224) C dX12_words_121 (by decide) rfl (fun c_121 => ?_) (fun c_121 => ?_)
        · have n_121 : B.length ≤ (16 * f) := (nI_leI (by omega) (by omega)).mp c_121
          have hWL : (wLines B ab lt sz al 17 0 false) = R := by rw [i1, wLines_e n_121]; exact List.append_nil _
          refine m_iload_n (pc' := 225) C dX12_words_224 rfl 1 rfl rfl ?_
          refine m_if_eq (pc' := 228) (tgt := 244) C dX12_words_225 (by decide) rfl (fun c_225 => ?_) (fun c_225 => ?_)
          · have n_225 : ab = 0 := (nI_eq (by omega) (by omega)).mp (c_225.trans nI_0.symm)
            have hWD : (wDump B (cl x) lt (cl y) al) = R := by
              unfold wDump
              rw [← hab9, ← hsz9, hWL]
              rw [if_pos n_225]; exact List.append_nil _
            rw [← hWD] at i5
            refine m_aload_n (pc' := 245) C dX12_words_244 rfl 0 rfl rfl ?_
            refine m_callVi (pc' := 248) (As := []) (rest := []) C (kX12_end hI hn hn2 i4 i5 ) (cwV 0 C.1.2.2.2.2 (goodV tm_6_68 tm_6_70 tp_71 tm_1_13 tm_6_71) rfl rfl rfl (by decide +kernel) ⟨by decide, by decide⟩) (by omega) i4 rfl rfl rfl (Nat.le_of_ble_eq_true rfl) dX12_words_245 rfl ⟨by decide, by decide⟩ (fun x_8 M8 q_8 => ?_)
            obtain ⟨e_8, pro_8, poutR_8, F_8⟩ := q_8
            replace e_8 := e_8.symm
            subst e_8
            refine m_iret C hrt0 hlk0 rfl dX12_words_248 ?_
            have xln_9 := hln.fr i8 (by decide)
            have xln_10 := xln_9.fr F_8 (by decide)
            have xra_11 := hra.fr i8 (by decide)
            have xra_12 := xra_11.fr F_8 (by decide)
            have xby_13 := hby.fr i8 (by decide)
            have xby_14 := xby_13.fr F_8 (by decide)
            have ff14_15 : Mk 114 = gh (.int (fp)) := (i8 114 (by decide)).trans h14
            have ff14_16 : M8 114 = gh (.int (fp)) := (F_8 114 (by decide)).trans ff14_15
            have ff15_17 : Mk 115 = gh (.int (ot)) := (i8 115 (by decide)).trans h15
            have ff15_18 : M8 115 = gh (.int (ot)) := (F_8 115 (by decide)).trans ff15_17
            have xrw_19 := hrw.fr i8 (by decide)
            have xrw_20 := xrw_19.fr F_8 (by decide)
            have xdg_21 := i6.fr F_8 (by decide)
            have f62_22 : Mk 62 = .inl (cy 1, 2000, .inl (fun i => nI (gf i))) := (i8 62 (by decide)).trans hfd
            have f62_23 : M8 62 = .inl (cy 1, 2000, .inl (fun i => nI (gf i))) := (F_8 62 (by decide)).trans f62_22
            have ff0_24 : M8 100 = gh (.int (nI (wdK x y lt))) := (F_8 100 (by decide)).trans i3
            simp only [sel0 hK]
            exact ⟨(fun _ => by first | trivial | rfl), ff0_24, ⟨pro_8, xln_10, xra_12, poutR_8, xby_14, ff14_16, ff15_18, ⟨_, xrw_20⟩, ⟨_, xdg_21⟩, ⟨_, f62_23⟩⟩, ((i8.sub (by decide)).tr (F_8.sub (by decide)))⟩
          · have n_225 : ¬ ab = 0 := fun q => c_225 (((nI_eq (by omega) (by omega)).mpr q).trans nI_0)
            refine m_aload_n (pc' := 229) C dX12_words_228 rfl 0 rfl rfl ?_
            refine m_iload_n (pc' := 230) C dX12_words_229 rfl 1 rfl rfl ?_
            refine m_aload_n (pc' := 231) C dX12_words_230 rfl 0 rfl rfl ?_
            refine r_get C hn i4 inW_X12 8 (by decide) ⟨rfl, rfl, rfl⟩ (gW_of tm_5_58) (r_at 8 rfl ff8_7) dX12_words_231 rfl ?_
            refine m_iconst (pc' := 235) (v := bI false) C dX12_words_234 (by decide) rfl ?_
            refine m_callVv (pc' := 238) (As := [.int (nI ab), .int (nI B.length), .int (bI false)]) (rest := []) C (kX12_putAddress hI hn hn2 i4 i5 i6 (ab := ab) (w9 := B.length) hab (by omega)) (cwV 3 C.1.2.2.2.2 (goodV tm_6_92 tm_6_94 tp_73 tm_1_13 tm_6_95) rfl rfl rfl (by decide +kernel) ⟨by decide, by decide⟩) (by omega) i4 rfl rfl rfl (Nat.le_of_ble_eq_true rfl) dX12_words_235 rfl ⟨by decide, by decide⟩ (fun M25 q_25 => ?_)
            obtain ⟨pro_25, pout_25, ⟨D_25, pdg_25⟩, F_25⟩ := q_25
            refine m_aload_n (pc' := 239) C dX12_words_238 rfl 0 rfl rfl ?_
            refine m_bipush (pc' := 241) (v := nI 10) C dX12_words_239 (by decide) rfl ?_
            refine m_callVv (pc' := 244) (As := [.int (nI 10)]) (rest := []) C (kX12_put hI hn hn2 pro_25 pout_25 (x := 10) (by first | decide | omega)) (cwV 1 C.1.2.2.2.2 (goodV tm_5_239 tm_6_1 tp_57 tm_1_13 tm_6_2) rfl rfl rfl (by decide +kernel) ⟨by decide, by decide⟩) (by omega) pro_25 rfl rfl rfl (Nat.le_of_ble_eq_true rfl) dX12_words_241 rfl ⟨by decide, by decide⟩ (fun M26 q_26 => ?_)
            obtain ⟨pro_26, pout_26, F_26⟩ := q_26
            have hWD : (wDump B (cl x) lt (cl y) al) = (R ++ (if ab = 0 then [] else adrS ab B.length)) ++ [10] := by
              unfold wDump
              rw [← hab9, ← hsz9, hWL]
              rw [if_neg n_225, if_neg n_225]; simp only [List.append_assoc]
            rw [← hWD] at pout_26
            refine m_aload_n (pc' := 245) C dX12_words_244 rfl 0 rfl rfl ?_
            refine m_callVi (pc' := 248) (As := []) (rest := []) C (kX12_end hI hn hn2 pro_26 pout_26 ) (cwV 0 C.1.2.2.2.2 (goodV tm_6_68 tm_6_70 tp_71 tm_1_13 tm_6_71) rfl rfl rfl (by decide +kernel) ⟨by decide, by decide⟩) (by omega) pro_26 rfl rfl rfl (Nat.le_of_ble_eq_true rfl) dX12_words_245 rfl ⟨by decide, by decide⟩ (fun x_27 M27 q_27 => ?_)
            obtain ⟨e_27, pro_27, poutR_27, F_27⟩ := q_27
            replace e_27 := e_27.symm
            subst e_27
            refine m_iret C hrt0 hlk0 rfl dX12_words_248 ?_
            have xln_28 := hln.fr i8 (by decide)
            have xln_29 := xln_28.fr F_25 (by decide)
            have xln_30 := xln_29.fr F_26 (by decide)
            have xln_31 := xln_30.fr F_27 (by decide)
            have xra_32 := hra.fr i8 (by decide)
            have xra_33 := xra_32.fr F_25 (by decide)
            have xra_34 := xra_33.fr F_26 (by decide)
            have xra_35 := xra_34.fr F_27 (by decide)
            have xby_36 := hby.fr i8 (by decide)
            have xby_37 := xby_36.fr F_25 (by decide)
            have xby_38 := xby_37.fr F_26 (by decide)
            have xby_39 := xby_38.fr F_27 (by decide)
            have ff14_40 : Mk 114 = gh (.int (fp)) := (i8 114 (by decide)).trans h14
            have ff14_41 : M25 114 = gh (.int (fp)) := (F_25 114 (by decide)).trans ff14_40
            have ff14_42 : M26 114 = gh (.int (fp)) := (F_26 114 (by decide)).trans ff14_41
            have ff14_43 : M27 114 = gh (.int (fp)) := (F_27 114 (by decide)).trans ff14_42
            have ff15_44 : Mk 115 = gh (.int (ot)) := (i8 115 (by decide)).trans h15
            have ff15_45 : M25 115 = gh (.int (ot)) := (F_25 115 (by decide)).trans ff15_44
            have ff15_46 : M26 115 = gh (.int (ot)) := (F_26 115 (by decide)).trans ff15_45
            have ff15_47 : M27 115 = gh (.int (ot)) := (F_27 115 (by decide)).trans ff15_46
            have xrw_48 := hrw.fr i8 (by decide)
            have xrw_49 := xrw_48.fr F_25 (by decide)
            have xrw_50 := xrw_49.fr F_26 (by decide)
            have xrw_51 := xrw_50.fr F_27 (by decide)
            have xdg_52 := pdg_25.fr F_26 (by decide)
            have xdg_53 := xdg_52.fr F_27 (by decide)
            have f62_54 : Mk 62 = .inl (cy 1, 2000, .inl (fun i => nI (gf i))) := (i8 62 (by decide)).trans hfd
            have f62_55 : M25 62 = .inl (cy 1, 2000, .inl (fun i => nI (gf i))) := (F_25 62 (by decide)).trans f62_54
            have f62_56 : M26 62 = .inl (cy 1, 2000, .inl (fun i => nI (gf i))) := (F_26 62 (by decide)).trans f62_55
            have f62_57 : M27 62 = .inl (cy 1, 2000, .inl (fun i => nI (gf i))) := (F_27 62 (by decide)).trans f62_56
            have ff0_58 : M25 100 = gh (.int (nI (wdK x y lt))) := (F_25 100 (by decide)).trans i3
            have ff0_59 : M26 100 = gh (.int (nI (wdK x y lt))) := (F_26 100 (by decide)).trans ff0_58
            have ff0_60 : M27 100 = gh (.int (nI (wdK x y lt))) := (F_27 100 (by decide)).trans ff0_59
            simp only [sel0 hK]
            exact ⟨(fun _ => by first | trivial | rfl), ff0_60, ⟨pro_27, xln_31, xra_35, poutR_27, xby_39, ff14_43, ff15_47, ⟨_, xrw_51⟩, ⟨_, xdg_53⟩, ⟨_, f62_57⟩⟩, ((((i8.sub (by decide)).tr (F_25.sub (by decide))).tr (F_26.sub (by decide))).tr (F_27.sub (by decide)))⟩
        · have n_121 : (16 * f) < B.length := Nat.lt_of_not_le (fun q => c_121 ((nI_leI (by omega) (by omega)).mpr q))
          refine m_cut (σ := Unit) (fun a => (al || !likeB B (16 * f)) = true) (fun a => Mk) 161 (fun a => [(0, .ref (ad 52)), (1, .int (nI ab)), (2, .int (nI lt)), (3, .int (nI sz)), (4, .int (bI al)), (7, .int (nI (16 * f)))]) (fun a => []) ?_ (fun J161 => ?_)
          · rintro zz hj
            try dsimp only at hj ⊢
            have hj161 := hj
            refine m_iconst (pc' := 162) (v := bI false) C dX12_words_161 (by decide) rfl ?_
            refine m_istore (pc' := 164) (lv' := [(6, .int (bI false)), (0, .ref (ad 52)), (1, .int (nI ab)), (2, .int (nI lt)), (3, .int (nI sz)), (4, .int (bI al)), (7, .int (nI (16 * f)))]) C dX12_words_162 (by decide) rfl rfl ?_
            refine m_aload_n (pc' := 165) C dX12_words_164 rfl 1 rfl rfl ?_
            refine m_iload_n (pc' := 166) C dX12_words_165 rfl 2 rfl rfl ?_
            refine m_iload (pc' := 168) C dX12_words_166 6 rfl rfl ?_
            refine m_iconst (pc' := 169) (v := bI false) C dX12_words_168 (by decide) rfl ?_
            refine m_callVv (pc' := 172) (As := [.int (nI ab), .int (nI (16 * f)), .int (bI false)]) (rest := []) C (kX12_putAddress hI hn hn2 i4 i5 i6 (ab := ab) (w9 := 16 * f) hab (by omega)) (cwV 3 C.1.2.2.2.2 (goodV tm_6_92 tm_6_94 tp_73 tm_1_13 tm_6_95) rfl rfl rfl (by decide +kernel) ⟨by decide, by decide⟩) (by omega) i4 rfl rfl rfl (Nat.le_of_ble_eq_true rfl) dX12_words_169 rfl ⟨by decide, by decide⟩ (fun M61 q_61 => ?_)
            obtain ⟨pro_61, pout_61, ⟨D_61, pdg_61⟩, F_61⟩ := q_61
            refine m_iload (pc' := 174) C dX12_words_172 6 rfl rfl ?_
            refine m_istore (pc' := 176) (lv' := [(8, .int (nI (16 * f))), (6, .int (bI false)), (0, .ref (ad 52)), (1, .int (nI ab)), (2, .int (nI lt)), (3, .int (nI sz)), (4, .int (bI al)), (7, .int (nI (16 * f)))]) C dX12_words_174 (by decide) rfl rfl ?_
            obtain ⟨R2, hR2⟩ : ∃ z, z = R ++ (if ab = 0 then [] else adrS ab (16 * f)) := ⟨_, rfl⟩
            rw [← hR2] at pout_61
            refine m_lvx (lv' := [(8, .int (nI (16 * f + 0 * sz))), (6, .int (bI false)), (0, .ref (ad 52)), (1, .int (nI ab)), (2, .int (nI lt)), (3, .int (nI sz)), (4, .int (bI al)), (7, .int (nI (16 * f)))]) (by rw [Nat.zero_mul]; rfl) ?_
            refine m_lv [2, 3, 4, 5, 6, 1, 7, 0] rfl ?_
            have ff0_62 : M61 100 = gh (.int (nI (wdK x y lt))) := (F_61 100 (by decide)).trans i3
            refine m_loop (σ := Nat × List Nat × (Nat → va_E)) (fun a => a.2.2) (fun a => [(0, .ref (ad 52)), (1, .int (nI ab)), (2, .int (nI lt)), (3, .int (nI sz)), (4, .int (bI al)), (6, .int (bI false)), (7, .int (nI (16 * f))), (8, .int (nI (16 * f + a.1 * sz)))]) (fun a => flds B lt sz (min (16 * f + 16) B.length) 16 (16 * f) = a.2.1 ++ flds B lt sz (min (16 * f + 16) B.length) (16 - a.1) (16 * f + a.1 * sz) ∧ a.1 ≤ 16 ∧ a.2.2 100 = gh (.int (nI (wdK x y lt))) ∧ isOut cy a.2.2 lim (R2 ++ a.2.1) ∧ (∃ D, isDg cy a.2.2 D) ∧ rO ad a.2.2 ∧ Fr [52, 59, 61, 100, 111, 113, 132] M a.2.2) (fun a => 16 - a.1) (0, [], M61) (⟨by (try dsimp only); rw [Nat.zero_mul]; rfl, Nat.zero_le _, ff0_62, by (try dsimp only); rw [List.append_nil]; exact pout_61, ⟨_, pdg_61⟩, pro_61, i8.tr ((F_61.sub (by decide)))⟩) ?_
            rintro ⟨g, Q, Mm⟩ hinv ih1
            dsimp only at hinv ih1 ⊢
            obtain ⟨j1, j2, j3, j5, ⟨L3, j6⟩, j4, j8⟩ := hinv
            have hg9 := fl_mul hy1 g
            have hg8 : g * sz ≤ 16 * 8 := Nat.mul_le_mul j2 hy8
            refine m_iload (pc' := 178) C dX12_words_176 7 rfl rfl ?_
            refine m_iload (pc' := 180) C dX12_words_178 6 rfl rfl ?_
            refine m_bipush (pc' := 182) (v := nI 16) C dX12_words_180 (by decide) rfl ?_
            refine m_iadd (pc' := 183) (v := nI ((16 * f) + 16)) C dX12_words_182 (nI_add _ _) rfl ?_
            refine m_icmp_ge (pc' := 186) (tgt := 212) C dX12_words_183 (by decide) rfl (fun c_183 => ?_) (fun c_183 => ?_)
            · have n_183 : ((16 * f) + 16) ≤ (16 * f + g * sz) := (nI_leI (by omega) (by omega)).mp c_183
              have hge9 : ¬ 16 * f + g * sz < (min (16 * f + 16) B.length) := by omega
              have hfl : flds B lt sz (min (16 * f + 16) B.length) 16 (16 * f) = Q := by rw [j1, flds_e hge9]; exact List.append_nil _
              refine m_aload_n (pc' := 213) C dX12_words_212 rfl 0 rfl rfl ?_
              refine m_bipush (pc' := 215) (v := nI 10) C dX12_words_213 (by decide) rfl ?_
              refine m_callVv (pc' := 218) (As := [.int (nI 10)]) (rest := []) C (kX12_put hI hn hn2 j4 j5 (x := 10) (by first | decide | omega)) (cwV 1 C.1.2.2.2.2 (goodV tm_5_239 tm_6_1 tp_57 tm_1_13 tm_6_2) rfl rfl rfl (by decide +kernel) ⟨by decide, by decide⟩) (by omega) j4 rfl rfl rfl (Nat.le_of_ble_eq_true rfl) dX12_words_215 rfl ⟨by decide, by decide⟩ (fun M63 q_63 => ?_)
              obtain ⟨pro_63, pout_63, F_63⟩ := q_63
              have hLN : (R2 ++ Q) ++ [10] = (R ++ wLine B ab lt sz (16 * f)) := by unfold wLine; rw [hR2, hfl]; simp only [List.append_assoc]
              rw [hLN] at pout_63
              refine m_iinc (pc' := 221) (v := nI (16 * (f + 1))) (lv' := [(7, .int (nI (16 * (f + 1)))), (0, .ref (ad 52)), (1, .int (nI ab)), (2, .int (nI lt)), (3, .int (nI sz)), (4, .int (bI al)), (6, .int (bI false)), (8, .int (nI (16 * f + g * sz)))]) C dX12_words_218 (k := 6) rfl (by show nI (16 * f) + nI 16 = _; rw [nI_add]; congr 1) (by decide) rfl rfl ?_
              refine m_goto (tgt := 115) C dX12_words_221 (by decide) ?_
              have ff0_64 : M63 100 = gh (.int (nI (wdK x y lt))) := (F_63 100 (by decide)).trans j3
              have xdg_65 := j6.fr F_63 (by decide)
              refine m_lv [1, 2, 3, 4, 5, 6, 0] rfl ?_
              exact ih (f + 1, false, (R ++ wLine B ab lt sz (16 * f)), M63) (⟨by (try dsimp only); rw [i1, show 17 - f = (17 - (f + 1)) + 1 by omega, wLines, if_neg (by omega), if_pos hj161, show 16 * f + 16 = 16 * (f + 1) by omega, List.append_assoc], by (try dsimp only); omega, ff0_64, pout_63, ⟨_, xdg_65⟩, pro_63, ((j8.sub (by decide)).tr (F_63.sub (by decide)))⟩) (by simp only; omega)
            · have n_183 : (16 * f + g * sz) < ((16 * f) + 16) := Nat.lt_of_not_le (fun q => c_183 ((nI_leI (by omega) (by omega)).mpr q))
              refine m_iload (pc' := 188) C dX12_words_186 7 rfl rfl ?_
              refine m_aload_n (pc' := 189) C dX12_words_188 rfl 0 rfl rfl ?_
              have ff8_66 : Mm 108 = gh (.int (nI B.length)) := (j8 108 (by decide)).trans y2
              refine r_get C hn j4 inW_X12 8 (by decide) ⟨rfl, rfl, rfl⟩ (gW_of tm_5_58) (r_at 8 rfl ff8_66) dX12_words_189 rfl ?_
              refine m_icmp_ge (pc' := 195) (tgt := 212) C dX12_words_192 (by decide) rfl (fun c_192 => ?_) (fun c_192 => ?_)
              · have n_192 : B.length ≤ (16 * f + g * sz) := (nI_leI (by omega) (by omega)).mp c_192
                have hge9 : ¬ 16 * f + g * sz < (min (16 * f + 16) B.length) := by omega
                have hfl : flds B lt sz (min (16 * f + 16) B.length) 16 (16 * f) = Q := by rw [j1, flds_e hge9]; exact List.append_nil _
                refine m_aload_n (pc' := 213) C dX12_words_212 rfl 0 rfl rfl ?_
                refine m_bipush (pc' := 215) (v := nI 10) C dX12_words_213 (by decide) rfl ?_
                refine m_callVv (pc' := 218) (As := [.int (nI 10)]) (rest := []) C (kX12_put hI hn hn2 j4 j5 (x := 10) (by first | decide | omega)) (cwV 1 C.1.2.2.2.2 (goodV tm_5_239 tm_6_1 tp_57 tm_1_13 tm_6_2) rfl rfl rfl (by decide +kernel) ⟨by decide, by decide⟩) (by omega) j4 rfl rfl rfl (Nat.le_of_ble_eq_true rfl) dX12_words_215 rfl ⟨by decide, by decide⟩ (fun M67 q_67 => ?_)
                obtain ⟨pro_67, pout_67, F_67⟩ := q_67
                have hLN : (R2 ++ Q) ++ [10] = (R ++ wLine B ab lt sz (16 * f)) := by unfold wLine; rw [hR2, hfl]; simp only [List.append_assoc]
                rw [hLN] at pout_67
                refine m_iinc (pc' := 221) (v := nI (16 * (f + 1))) (lv' := [(7, .int (nI (16 * (f + 1)))), (0, .ref (ad 52)), (1, .int (nI ab)), (2, .int (nI lt)), (3, .int (nI sz)), (4, .int (bI al)), (6, .int (bI false)), (8, .int (nI (16 * f + g * sz)))]) C dX12_words_218 (k := 6) rfl (by show nI (16 * f) + nI 16 = _; rw [nI_add]; congr 1) (by decide) rfl rfl ?_
                refine m_goto (tgt := 115) C dX12_words_221 (by decide) ?_
                have ff0_68 : M67 100 = gh (.int (nI (wdK x y lt))) := (F_67 100 (by decide)).trans j3
                have xdg_69 := j6.fr F_67 (by decide)
                refine m_lv [1, 2, 3, 4, 5, 6, 0] rfl ?_
                exact ih (f + 1, false, (R ++ wLine B ab lt sz (16 * f)), M67) (⟨by (try dsimp only); rw [i1, show 17 - f = (17 - (f + 1)) + 1 by omega, wLines, if_neg (by omega), if_pos hj161, show 16 * f + 16 = 16 * (f + 1) by omega, List.append_assoc], by (try dsimp only); omega, ff0_68, pout_67, ⟨_, xdg_69⟩, pro_67, ((j8.sub (by decide)).tr (F_67.sub (by decide)))⟩) (by simp only; omega)
              · have n_192 : (16 * f + g * sz) < B.length := Nat.lt_of_not_le (fun q => c_192 ((nI_leI (by omega) (by omega)).mpr q))
                have hlt9 : 16 * f + g * sz < (min (16 * f + 16) B.length) := by omega
                refine m_aload_n (pc' := 196) C dX12_words_195 rfl 0 rfl rfl ?_
                refine m_iload (pc' := 198) C dX12_words_196 7 rfl rfl ?_
                refine m_iload_n (pc' := 199) C dX12_words_198 rfl 2 rfl rfl ?_
                refine m_iload_n (pc' := 200) C dX12_words_199 rfl 3 rfl rfl ?_
                have xby_71 := hby.fr j8 (by decide)
                refine m_callVv (pc' := 203) (As := [.int (nI (16 * f + g * sz)), .int (nI lt), .int (nI sz)]) (rest := []) C (kX12_putField hI hn hn2 j4 xby_71 j5 j6 (s := 16 * f + g * sz) (lt := lt) (sz := sz) (by omega) hlt5 hsz h99) (cwV 3 C.1.2.2.2.2 (goodV tm_6_96 tm_6_98 tp_74 tm_1_13 tm_6_99) rfl rfl rfl (by decide +kernel) ⟨by decide, by decide⟩) (by omega) j4 rfl rfl rfl (Nat.le_of_ble_eq_true rfl) dX12_words_200 rfl ⟨by decide, by decide⟩ (fun M70 q_70 => ?_)
                obtain ⟨pro_70, pout_70, ⟨D_70, pdg_70⟩, F_70⟩ := q_70
                refine m_iload (pc' := 205) C dX12_words_203 7 rfl rfl ?_
                refine m_iload_n (pc' := 206) C dX12_words_205 rfl 3 rfl rfl ?_
                refine m_iadd (pc' := 207) (v := nI (16 * f + (g + 1) * sz)) C dX12_words_206 (by rw [nI_add, Nat.add_mul, Nat.one_mul, Nat.add_assoc]) rfl ?_
                refine m_istore (pc' := 209) (lv' := [(8, .int (nI (16 * f + (g + 1) * sz))), (0, .ref (ad 52)), (1, .int (nI ab)), (2, .int (nI lt)), (3, .int (nI sz)), (4, .int (bI al)), (6, .int (bI false)), (7, .int (nI (16 * f)))]) C dX12_words_207 (by decide) rfl rfl ?_
                refine m_goto (tgt := 176) C dX12_words_209 (by decide) ?_
                have ff0_72 : M70 100 = gh (.int (nI (wdK x y lt))) := (F_70 100 (by decide)).trans j3
                refine m_lv [1, 2, 3, 4, 5, 6, 7, 0] rfl ?_
                exact ih1 (g + 1, Q ++ (32 :: fldS lt sz (wdv B (16 * f + g * sz) sz)), M70) (⟨by (try dsimp only); rw [j1, show 16 - g = (16 - (g + 1)) + 1 by omega, flds, if_pos hlt9, Nat.add_mul, Nat.one_mul, ← Nat.add_assoc, List.append_assoc]; rfl, by (try dsimp only); omega, ff0_72, by (try dsimp only); rw [← List.append_assoc]; exact pout_70, ⟨_, pdg_70⟩, pro_70, (j8.tr (F_70.sub (by decide)))⟩) (by simp only; omega)
          refine m_iload (pc' := 126) C dX12_words_124 4 rfl rfl ?_
          refine m_if_ne (pc' := 129) (tgt := 161) C dX12_words_126 (by decide) rfl (fun c_126 => ?_) (fun c_126 => ?_)
          · refine m_lv [0, 1, 2, 3, 4, 6] rfl ?_
            exact J161 () (by rw [ts_of c_126]; rfl)
          · have hal : al = false := (bI_0 _).mp (Classical.not_not.mp c_126)
            refine m_aload_n (pc' := 130) C dX12_words_129 rfl 0 rfl rfl ?_
            refine m_iload (pc' := 132) C dX12_words_130 6 rfl rfl ?_
            have xby_74 := hby.fr i8 (by decide)
            refine m_callVi (pc' := 135) (As := [.int (nI (16 * f))]) (rest := []) C (kX12_isLikeBefore hI hn hn2 i4 xby_74 (s := 16 * f) (by omega)) (cwV 1 C.1.2.2.2.2 (goodV tm_6_88 tm_6_90 tp_72 tm_1_13 tm_6_91) rfl rfl rfl (by decide +kernel) ⟨by decide, by decide⟩) (by omega) i4 rfl rfl rfl (Nat.le_of_ble_eq_true rfl) dX12_words_132 rfl ⟨by decide, by decide⟩ (fun x_73 N_73 q_73 => ?_)
            obtain ⟨e_73, E_73⟩ := q_73
            replace E_73 := E_73.symm
            subst E_73
            replace e_73 := e_73.symm
            subst e_73
            refine m_if_eq (pc' := 138) (tgt := 161) C dX12_words_135 (by decide) rfl (fun c_135 => ?_) (fun c_135 => ?_)
            · refine m_lv [0, 1, 2, 3, 4, 6] rfl ?_
              exact J161 () (by rw [(bI_0 _).mp c_135]; cases al <;> rfl)
            · have hlike := ts_of c_135
              refine m_iload (pc' := 140) C dX12_words_138 5 rfl rfl ?_
              refine m_if_ne (pc' := 143) (tgt := 155) C dX12_words_140 (by decide) rfl (fun c_140 => ?_) (fun c_140 => ?_)
              · have hlo := ts_of c_140
                refine m_iconst (pc' := 156) (v := bI true) C dX12_words_155 (by decide) rfl ?_
                refine m_istore (pc' := 158) (lv' := [(6, .int (bI true)), (0, .ref (ad 52)), (1, .int (nI ab)), (2, .int (nI lt)), (3, .int (nI sz)), (4, .int (bI al)), (7, .int (nI (16 * f)))]) C dX12_words_156 (by decide) rfl rfl ?_
                refine m_goto (tgt := 218) C dX12_words_158 (by decide) ?_
                refine m_iinc (pc' := 221) (v := nI (16 * (f + 1))) (lv' := [(7, .int (nI (16 * (f + 1)))), (6, .int (bI true)), (0, .ref (ad 52)), (1, .int (nI ab)), (2, .int (nI lt)), (3, .int (nI sz)), (4, .int (bI al))]) C dX12_words_218 (k := 6) rfl (by show nI (16 * f) + nI 16 = _; rw [nI_add]; congr 1) (by decide) rfl rfl ?_
                refine m_goto (tgt := 115) C dX12_words_221 (by decide) ?_
                refine m_lv [2, 3, 4, 5, 6, 1, 0] rfl ?_
                exact ih (f + 1, true, R, Mk) (⟨by (try dsimp only); rw [i1, show 17 - f = (17 - (f + 1)) + 1 by omega, wLines, if_neg (by omega), if_neg (by rw [hal, hlike]; decide), if_pos hlo, show 16 * f + 16 = 16 * (f + 1) by omega, List.nil_append], by (try dsimp only); omega, i3, i5, ⟨_, i6⟩, i4, i8⟩) (by simp only; omega)
              · have hlo := (bI_0 _).mp (Classical.not_not.mp c_140)
                refine m_aload_n (pc' := 144) C dX12_words_143 rfl 0 rfl rfl ?_
                refine m_bipush (pc' := 146) (v := nI 42) C dX12_words_144 (by decide) rfl ?_
                refine m_callVv (pc' := 149) (As := [.int (nI 42)]) (rest := []) C (kX12_put hI hn hn2 i4 i5 (x := 42) (by first | decide | omega)) (cwV 1 C.1.2.2.2.2 (goodV tm_5_239 tm_6_1 tp_57 tm_1_13 tm_6_2) rfl rfl rfl (by decide +kernel) ⟨by decide, by decide⟩) (by omega) i4 rfl rfl rfl (Nat.le_of_ble_eq_true rfl) dX12_words_146 rfl ⟨by decide, by decide⟩ (fun M75 q_75 => ?_)
                obtain ⟨pro_75, pout_75, F_75⟩ := q_75
                refine m_aload_n (pc' := 150) C dX12_words_149 rfl 0 rfl rfl ?_
                refine m_bipush (pc' := 152) (v := nI 10) C dX12_words_150 (by decide) rfl ?_
                refine m_callVv (pc' := 155) (As := [.int (nI 10)]) (rest := []) C (kX12_put hI hn hn2 pro_75 pout_75 (x := 10) (by first | decide | omega)) (cwV 1 C.1.2.2.2.2 (goodV tm_5_239 tm_6_1 tp_57 tm_1_13 tm_6_2) rfl rfl rfl (by decide +kernel) ⟨by decide, by decide⟩) (by omega) pro_75 rfl rfl rfl (Nat.le_of_ble_eq_true rfl) dX12_words_152 rfl ⟨by decide, by decide⟩ (fun M76 q_76 => ?_)
                obtain ⟨pro_76, pout_76, F_76⟩ := q_76
                rw [List.append_assoc] at pout_76
                change isOut cy _ lim (R ++ [42, 10]) at pout_76
                refine m_iconst (pc' := 156) (v := bI true) C dX12_words_155 (by decide) rfl ?_
                refine m_istore (pc' := 158) (lv' := [(6, .int (bI true)), (0, .ref (ad 52)), (1, .int (nI ab)), (2, .int (nI lt)), (3, .int (nI sz)), (4, .int (bI al)), (7, .int (nI (16 * f)))]) C dX12_words_156 (by decide) rfl rfl ?_
                refine m_goto (tgt := 218) C dX12_words_158 (by decide) ?_
                refine m_iinc (pc' := 221) (v := nI (16 * (f + 1))) (lv' := [(7, .int (nI (16 * (f + 1)))), (6, .int (bI true)), (0, .ref (ad 52)), (1, .int (nI ab)), (2, .int (nI lt)), (3, .int (nI sz)), (4, .int (bI al))]) C dX12_words_218 (k := 6) rfl (by show nI (16 * f) + nI 16 = _; rw [nI_add]; congr 1) (by decide) rfl rfl ?_
                refine m_goto (tgt := 115) C dX12_words_221 (by decide) ?_
                have ff0_77 : M75 100 = gh (.int (nI (wdK x y lt))) := (F_75 100 (by decide)).trans i3
                have ff0_78 : M76 100 = gh (.int (nI (wdK x y lt))) := (F_76 100 (by decide)).trans ff0_77
                have xdg_79 := i6.fr F_75 (by decide)
                have xdg_80 := xdg_79.fr F_76 (by decide)
                refine m_lv [2, 3, 4, 5, 6, 1, 0] rfl ?_
                exact ih (f + 1, true, R ++ [42, 10], M76) (⟨by (try dsimp only); rw [i1, show 17 - f = (17 - (f + 1)) + 1 by omega, wLines, if_neg (by omega), if_neg (by rw [hal, hlike]; decide), if_neg (by rw [hlo]; decide), show 16 * f + 16 = 16 * (f + 1) by omega, List.append_assoc], by (try dsimp only); omega, ff0_78, pout_76, ⟨_, xdg_80⟩, pro_76, ((i8.tr (F_75.sub (by decide))).tr (F_76.sub (by decide)))⟩) (by simp only; omega)
      · have hK : ¬ wdK x y lt = 0 := by have := of_decide_eq_true (ts_of c_100); omega
        refine m_iconst (pc' := 104) (v := nI 0) C dX12_words_103 (by decide) rfl ?_
        refine m_iret C hrt0 hlk0 rfl dX12_words_104 ?_
        have xln_81 := hln.fr F_1 (by decide)
        have xra_82 := hra.fr F_1 (by decide)
        have xoutR_83 := hout.fr F_1 (by decide)
        have xby_84 := hby.fr F_1 (by decide)
        have ff14_85 : M1 114 = gh (.int (fp)) := (F_1 114 (by decide)).trans h14
        have ff15_86 : M1 115 = gh (.int (ot)) := (F_1 115 (by decide)).trans h15
        have xrw_87 := hrw.fr F_1 (by decide)
        have xdg_88 := hdg.fr F_1 (by decide)
        have f62_89 : M1 62 = .inl (cy 1, 2000, .inl (fun i => nI (gf i))) := (F_1 62 (by decide)).trans hfd
        simp only [sel1 hK]
        exact ⟨(fun q => absurd q hK), pf0_1, ⟨pro_1, xln_81, xra_82, xoutR_83, xby_84, ff14_85, ff15_86, ⟨_, xrw_87⟩, ⟨_, xdg_88⟩, ⟨_, f62_89⟩⟩, (F_1.sub (by decide))⟩
    refine m_iload (pc' := 89) C dX12_words_87 0 rfl rfl ?_
    refine m_if_eq (pc' := 92) (tgt := 96) C dX12_words_89 (by decide) rfl (fun c_89 => ?_) (fun c_89 => ?_)
    · refine m_iconst (pc' := 97) (v := nI 1) C dX12_words_96 (by decide) rfl ?_
      refine m_lv [0, 1, 2, 3, 4, 5] rfl ?_
      exact J97 (nI 1) (by unfold wdK; rw [if_neg (of_decide_eq_false ((bI_0 _).mp c_89))])
    · refine m_iconst (pc' := 93) (v := nI 0) C dX12_words_92 (by decide) rfl ?_
      refine m_goto (tgt := 97) C dX12_words_93 (by decide) ?_
      refine m_lv [0, 1, 2, 3, 4, 5] rfl ?_
      exact J97 (nI 0) (by unfold wdK; rw [if_pos (of_decide_eq_true (ts_of c_89))])
  refine m_cut (σ := Unit) (fun a => abOk x = true ∧ (lt = 111 ∨ lt = 120 ∨ lt = 117 ∨ lt = 100 ∨ lt = 99)) (fun a => M) 52 (fun a => [(0, .ref (ad 52)), (1, .int (x)), (2, .int (nI lt)), (3, .int (y)), (4, .int (bI al))]) (fun a => []) ?_ (fun J52 => ?_)
  · rintro zz hj
    try dsimp only at hj ⊢
    obtain ⟨hj22, hj52⟩ := hj
    refine m_iload_n (pc' := 53) C dX12_words_52 rfl 3 rfl rfl ?_
    refine m_iconst (pc' := 54) (v := nI 1) C dX12_words_53 (by decide) rfl ?_
    refine m_icmp_eq (pc' := 57) (tgt := 79) C dX12_words_54 (by decide) rfl (fun c_54 => ?_) (fun c_54 => ?_)
    · have hz : decide (abOk x = true ∧ wdOk (nI lt) y = true) = true := decide_eq_true ⟨hj22, (by unfold wdOk; split; exact decide_eq_true c_54; rename_i q9; exact decide_eq_true ⟨by rcases hj52 with q | q | q | q | q <;> subst q <;> first | exact absurd rfl q9 | decide, Or.inl c_54⟩)⟩
      refine m_iconst (pc' := 80) (v := bI true) C dX12_words_79 (by decide) rfl ?_
      refine m_goto (tgt := 84) C dX12_words_80 (by decide) ?_
      refine m_lv [0, 1, 2, 3, 4] rfl ?_
      exact J84 (bI true) (by rw [hz])
    · refine m_iload_n (pc' := 58) C dX12_words_57 rfl 2 rfl rfl ?_
      refine m_bipush (pc' := 60) (v := nI 99) C dX12_words_58 (by decide) rfl ?_
      refine m_icmp_eq (pc' := 63) (tgt := 83) C dX12_words_60 (by decide) rfl (fun c_60 => ?_) (fun c_60 => ?_)
      · have n_60 : lt = 99 := (nI_eq (by omega) (by omega)).mp c_60
        have hz : decide (abOk x = true ∧ wdOk (nI lt) y = true) = false := decide_eq_false (fun q => by have h9 := q.2; unfold wdOk at h9; rw [if_pos (by rw [n_60])] at h9; exact c_54 (of_decide_eq_true h9))
        refine m_iconst (pc' := 84) (v := bI false) C dX12_words_83 (by decide) rfl ?_
        refine m_lv [0, 1, 2, 3, 4] rfl ?_
        exact J84 (bI false) (by rw [hz])
      · have n_60 : ¬ lt = 99 := fun q => c_60 ((nI_eq (by omega) (by omega)).mpr q)
        have hlt4 : nI lt = nI 111 ∨ nI lt = nI 120 ∨ nI lt = nI 117 ∨ nI lt = nI 100 := by rcases hj52 with q | q | q | q | q <;> subst q <;> first | exact absurd rfl n_60 | decide
        refine m_iload_n (pc' := 64) C dX12_words_63 rfl 3 rfl rfl ?_
        refine m_iconst (pc' := 65) (v := nI 2) C dX12_words_64 (by decide) rfl ?_
        refine m_icmp_eq (pc' := 68) (tgt := 79) C dX12_words_65 (by decide) rfl (fun c_65 => ?_) (fun c_65 => ?_)
        · have hz : decide (abOk x = true ∧ wdOk (nI lt) y = true) = true := decide_eq_true ⟨hj22, (by unfold wdOk; rw [if_neg (fun q => n_60 ((nI_eq (by omega) (by decide)).mp q))]; exact decide_eq_true ⟨hlt4, Or.inr (Or.inl c_65)⟩)⟩
          refine m_iconst (pc' := 80) (v := bI true) C dX12_words_79 (by decide) rfl ?_
          refine m_goto (tgt := 84) C dX12_words_80 (by decide) ?_
          refine m_lv [0, 1, 2, 3, 4] rfl ?_
          exact J84 (bI true) (by rw [hz])
        · refine m_iload_n (pc' := 69) C dX12_words_68 rfl 3 rfl rfl ?_
          refine m_iconst (pc' := 70) (v := nI 4) C dX12_words_69 (by decide) rfl ?_
          refine m_icmp_eq (pc' := 73) (tgt := 79) C dX12_words_70 (by decide) rfl (fun c_70 => ?_) (fun c_70 => ?_)
          · have hz : decide (abOk x = true ∧ wdOk (nI lt) y = true) = true := decide_eq_true ⟨hj22, (by unfold wdOk; rw [if_neg (fun q => n_60 ((nI_eq (by omega) (by decide)).mp q))]; exact decide_eq_true ⟨hlt4, Or.inr (Or.inr (Or.inl c_70))⟩)⟩
            refine m_iconst (pc' := 80) (v := bI true) C dX12_words_79 (by decide) rfl ?_
            refine m_goto (tgt := 84) C dX12_words_80 (by decide) ?_
            refine m_lv [0, 1, 2, 3, 4] rfl ?_
            exact J84 (bI true) (by rw [hz])
          · refine m_iload_n (pc' := 74) C dX12_words_73 rfl 3 rfl rfl ?_
            refine m_bipush (pc' := 76) (v := nI 8) C dX12_words_74 (by decide) rfl ?_
            refine m_icmp_ne (pc' := 79) (tgt := 83) C dX12_words_76 (by decide) rfl (fun c_76 => ?_) (fun c_76 => ?_)
            · have hz : decide (abOk x = true ∧ wdOk (nI lt) y = true) = false := decide_eq_false (fun q => by have h9 := q.2; unfold wdOk at h9; rw [if_neg (fun q => n_60 ((nI_eq (by omega) (by decide)).mp q))] at h9; exact (of_decide_eq_true h9).2.elim c_54 (fun q => q.elim c_65 (fun q => q.elim c_70 c_76)))
              refine m_iconst (pc' := 84) (v := bI false) C dX12_words_83 (by decide) rfl ?_
              refine m_lv [0, 1, 2, 3, 4] rfl ?_
              exact J84 (bI false) (by rw [hz])
            · have hz : decide (abOk x = true ∧ wdOk (nI lt) y = true) = true := decide_eq_true ⟨hj22, (by unfold wdOk; rw [if_neg (fun q => n_60 ((nI_eq (by omega) (by decide)).mp q))]; exact decide_eq_true ⟨hlt4, Or.inr (Or.inr (Or.inr (Classical.not_not.mp c_76)))⟩)⟩
              refine m_iconst (pc' := 80) (v := bI true) C dX12_words_79 (by decide) rfl ?_
              refine m_goto (tgt := 84) C dX12_words_80 (by decide) ?_
              refine m_lv [0, 1, 2, 3, 4] rfl ?_
              exact J84 (bI true) (by rw [hz])
  refine m_cut (σ := Unit) (fun a => abOk x = true) (fun a => M) 22 (fun a => [(0, .ref (ad 52)), (1, .int (x)), (2, .int (nI lt)), (3, .int (y)), (4, .int (bI al))]) (fun a => []) ?_ (fun J22 => ?_)
  · rintro zz hj
    try dsimp only at hj ⊢
    have hj22 := hj
    refine m_iload_n (pc' := 23) C dX12_words_22 rfl 2 rfl rfl ?_
    refine m_bipush (pc' := 25) (v := nI 111) C dX12_words_23 (by decide) rfl ?_
    refine m_icmp_eq (pc' := 28) (tgt := 52) C dX12_words_25 (by decide) rfl (fun c_25 => ?_) (fun c_25 => ?_)
    · have n_25 : lt = 111 := (nI_eq (by omega) (by omega)).mp c_25
      refine m_lv [0, 1, 2, 3, 4] rfl ?_
      exact J52 () (⟨hj22, by omega⟩)
    · have n_25 : ¬ lt = 111 := fun q => c_25 ((nI_eq (by omega) (by omega)).mpr q)
      refine m_iload_n (pc' := 29) C dX12_words_28 rfl 2 rfl rfl ?_
      refine m_bipush (pc' := 31) (v := nI 120) C dX12_words_29 (by decide) rfl ?_
      refine m_icmp_eq (pc' := 34) (tgt := 52) C dX12_words_31 (by decide) rfl (fun c_31 => ?_) (fun c_31 => ?_)
      · have n_31 : lt = 120 := (nI_eq (by omega) (by omega)).mp c_31
        refine m_lv [0, 1, 2, 3, 4] rfl ?_
        exact J52 () (⟨hj22, by omega⟩)
      · have n_31 : ¬ lt = 120 := fun q => c_31 ((nI_eq (by omega) (by omega)).mpr q)
        refine m_iload_n (pc' := 35) C dX12_words_34 rfl 2 rfl rfl ?_
        refine m_bipush (pc' := 37) (v := nI 117) C dX12_words_35 (by decide) rfl ?_
        refine m_icmp_eq (pc' := 40) (tgt := 52) C dX12_words_37 (by decide) rfl (fun c_37 => ?_) (fun c_37 => ?_)
        · have n_37 : lt = 117 := (nI_eq (by omega) (by omega)).mp c_37
          refine m_lv [0, 1, 2, 3, 4] rfl ?_
          exact J52 () (⟨hj22, by omega⟩)
        · have n_37 : ¬ lt = 117 := fun q => c_37 ((nI_eq (by omega) (by omega)).mpr q)
          refine m_iload_n (pc' := 41) C dX12_words_40 rfl 2 rfl rfl ?_
          refine m_bipush (pc' := 43) (v := nI 100) C dX12_words_41 (by decide) rfl ?_
          refine m_icmp_eq (pc' := 46) (tgt := 52) C dX12_words_43 (by decide) rfl (fun c_43 => ?_) (fun c_43 => ?_)
          · have n_43 : lt = 100 := (nI_eq (by omega) (by omega)).mp c_43
            refine m_lv [0, 1, 2, 3, 4] rfl ?_
            exact J52 () (⟨hj22, by omega⟩)
          · have n_43 : ¬ lt = 100 := fun q => c_43 ((nI_eq (by omega) (by omega)).mpr q)
            refine m_iload_n (pc' := 47) C dX12_words_46 rfl 2 rfl rfl ?_
            refine m_bipush (pc' := 49) (v := nI 99) C dX12_words_47 (by decide) rfl ?_
            refine m_icmp_ne (pc' := 52) (tgt := 83) C dX12_words_49 (by decide) rfl (fun c_49 => ?_) (fun c_49 => ?_)
            · have n_49 : ¬ lt = 99 := fun q => c_49 ((nI_eq (by omega) (by omega)).mpr q)
              have hz : decide (abOk x = true ∧ wdOk (nI lt) y = true) = false := decide_eq_false (fun q => by have h9 := wdOk_lt hlt6 q.2; omega)
              refine m_iconst (pc' := 84) (v := bI false) C dX12_words_83 (by decide) rfl ?_
              refine m_lv [0, 1, 2, 3, 4] rfl ?_
              exact J84 (bI false) (by rw [hz])
            · have n_49 : lt = 99 := (nI_eq (by omega) (by omega)).mp (Classical.not_not.mp c_49)
              refine m_lv [0, 1, 2, 3, 4] rfl ?_
              exact J52 () (⟨hj22, by omega⟩)
  refine m_iload_n (pc' := 1) C dX12_words_0 rfl 1 rfl rfl ?_
  refine m_if_eq (pc' := 4) (tgt := 22) C dX12_words_1 (by decide) rfl (fun c_1 => ?_) (fun c_1 => ?_)
  · refine m_lv [0, 1, 2, 3, 4] rfl ?_
    exact J22 () (decide_eq_true (Or.inl c_1))
  · refine m_iload_n (pc' := 5) C dX12_words_4 rfl 1 rfl rfl ?_
    refine m_bipush (pc' := 7) (v := nI 8) C dX12_words_5 (by decide) rfl ?_
    refine m_icmp_eq (pc' := 10) (tgt := 22) C dX12_words_7 (by decide) rfl (fun c_7 => ?_) (fun c_7 => ?_)
    · refine m_lv [0, 1, 2, 3, 4] rfl ?_
      exact J22 () (decide_eq_true (Or.inr (Or.inl c_7)))
    · refine m_iload_n (pc' := 11) C dX12_words_10 rfl 1 rfl rfl ?_
      refine m_bipush (pc' := 13) (v := nI 10) C dX12_words_11 (by decide) rfl ?_
      refine m_icmp_eq (pc' := 16) (tgt := 22) C dX12_words_13 (by decide) rfl (fun c_13 => ?_) (fun c_13 => ?_)
      · refine m_lv [0, 1, 2, 3, 4] rfl ?_
        exact J22 () (decide_eq_true (Or.inr (Or.inr (Or.inl c_13))))
      · refine m_iload_n (pc' := 17) C dX12_words_16 rfl 1 rfl rfl ?_
        refine m_bipush (pc' := 19) (v := nI 16) C dX12_words_17 (by decide) rfl ?_
        refine m_icmp_ne (pc' := 22) (tgt := 83) C dX12_words_19 (by decide) rfl (fun c_19 => ?_) (fun c_19 => ?_)
        · have hz : decide (abOk x = true ∧ wdOk (nI lt) y = true) = false := decide_eq_false (fun q => (of_decide_eq_true q.1).elim c_1 (fun q => q.elim c_7 (fun q => q.elim c_13 c_19)))
          refine m_iconst (pc' := 84) (v := bI false) C dX12_words_83 (by decide) rfl ?_
          refine m_lv [0, 1, 2, 3, 4] rfl ?_
          exact J84 (bI false) (by rw [hz])
        · refine m_lv [0, 1, 2, 3, 4] rfl ?_
          exact J22 () (decide_eq_true (Or.inr (Or.inr (Or.inr (Classical.not_not.mp c_19)))))
