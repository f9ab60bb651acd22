set_option maxHeartbeats 4000000 in
set_option maxRecDepth 100000 in
theorem kL_type {l : Launch} {D : va_G} {cy : Nat → ClassId} {ad : Nat → Nat} {n : Nat} {A : Nat → Prop} (hI : mI ad n A) {M : Nat → va_E} (hst9 : l.stackTraces = false) (hn : 64 ≤ n) {T : List Nat} {xs : Nat → Arg} {cnt lim : Nat} {O B : List Nat} {fp ot : Int32} (hX : isX cy ad n M T xs cnt lim O B fp ot) {f : Nat → Int64} (h63 : M 63 = .inl (cy 2, 1, .inr (.inl f))) (x1 x2 x3 x4 x5 : Int32) : mHi l yL_type (gWH yL_type cL_type 8 (some .int) [(0, 16, 19, 13)]) { frames := 7, cells := 1, slots := 6, locals := 116 } D cy ad n A [.ref (ad 0), .int (x1), .int (x2), .int (x3), .int (x4), .int (x5), .ref (ad 63)] M (fun res M' => res = nI (tyK T x1 x2 x3 x4 x5) ∧ (∃ f' : Nat → Int64, M' 63 = .inl (cy 2, 1, .inr (.inl f')) ∧ (tyK T x1 x2 x3 x4 x5 = 0 → f' 0 = (nI (T.length + tn5 x1 x2 x3 x4 x5)).toInt64)) ∧ isX cy ad n M' (sel (tyK T x1 x2 x3 x4 x5) (T ++ ty5 x1 x2 x3 x4 x5) T) xs cnt lim O B fp ot ∧ Fr (63 :: clsS) M M') := by
  obtain ⟨h1, h2, h3, h4, ⟨en, tk, od, hps⟩, h6, h7, h8, h9, h10, ⟨w1, w2, w3, h11⟩, ⟨F4, h12⟩, h13, ⟨t0, i0, h14⟩, ⟨Fd, h15⟩, L5, h16⟩ := id hX
  obtain ⟨p1, p2, p3, p4, ⟨ds, lg0, p5⟩, p6, ⟨P7, p7⟩, P8, p8⟩ := id hps
  refine m_entryH (cc := cL_type) (maxL := 8) (ret := (some .int)) (hh := [(0, 16, 19, 13)]) (own := RL) (lv := [(0, .ref (ad 0)), (1, .int (x1)), (2, .int (x2)), (3, .int (x3)), (4, .int (x4)), (5, .int (x5)), (6, .ref (ad 63))]) hI (by decide) rfl rfl (Nat.le_of_ble_eq_true rfl) rfl (fun pX eX sX mX aX bX tX cX C hrt0 hlk0 hz9 hx9 htb9 => ?_)
  refine m_aload (pc' := 2) C dL_type_0 6 rfl rfl ?_
  refine m_iconst (pc' := 3) (v := nI 0) C dL_type_2 (by decide) rfl ?_
  refine m_aload_n (pc' := 4) C dL_type_3 rfl 0 rfl rfl ?_
  refine m_iload_n (pc' := 5) C dL_type_4 rfl 1 rfl rfl ?_
  refine m_iload_n (pc' := 6) C dL_type_5 rfl 2 rfl rfl ?_
  refine m_iload_n (pc' := 7) C dL_type_6 rfl 3 rfl rfl ?_
  refine m_iload (pc' := 9) C dL_type_7 4 rfl rfl ?_
  refine m_iload (pc' := 11) C dL_type_9 5 rfl rfl ?_
  refine m_callXi (pc' := 14) (As := [.int (x1), .int (x2), .int (x3), .int (x4), .int (x5)]) (rest := [.int (nI 0), .ref (ad 63)]) C (kX11_type hI hst9 (by omega) h2 h3 h4 x1 x2 x3 x4 x5) hz9 hx9 (cwV 5 C.1.2.2.2.2 (hGoodV tm_3_171 tm_3_172 tm_3_173 tm_1_1 tm_3_174) rfl rfl rfl (by decide +kernel) ⟨by decide, by decide⟩) (by omega) h2 rfl rfl rfl (Nat.le_of_ble_eq_true rfl) dL_type_11 rfl ⟨by decide, by decide⟩ (fun E M1 q9 hpx => ?_) (fun r9 M1 hpo => ?_)
  · obtain ⟨⟨q1, rfl⟩, rfl⟩ := hpx
    refine ⟨19, ⟨[], ⟨0, 16, 19, 13⟩, [], "java/lang/IllegalStateException", htb9, (fun z hz => by cases hz), by decide, by decide, hW_of tm_3_170, by decide, rfl⟩, ?_⟩
    refine m_astore (pc' := 21) (lv' := [(7, (.ref q9)), (0, .ref (ad 0)), (1, .int (x1)), (2, .int (x2)), (3, .int (x3)), (4, .int (x4)), (5, .int (x5)), (6, .ref (ad 63))]) C dL_type_19 (by decide) rfl rfl ?_
    refine m_iconst (pc' := 22) (v := nI 1) C dL_type_21 (by decide) rfl ?_
    have hK : tyK T x1 x2 x3 x4 x5 = 1 := by unfold tyK; rw [if_pos q1]
    have hKn : ¬ tyK T x1 x2 x3 x4 x5 = 0 := by rw [hK]; decide
    refine m_iret C hrt0 hlk0 rfl dL_type_22 ?_
    simp only [sel1 hKn]
    exact ⟨by rw [hK], ⟨f, h63, fun z => absurd z hKn⟩, hX, Fr.rf⟩
  · obtain ⟨q1, q2, q3, q4⟩ := hpo
    have hK : tyK T x1 x2 x3 x4 x5 = 0 := by unfold tyK; rw [if_neg (by omega)]
    replace h63 : M1 63 = .inl (cy 2, 1, .inr (.inl f)) := (q4 63 (by decide)).trans h63
    refine m_i2l (pc' := 15) (v := r9.toInt64) C dL_type_14 rfl rfl ?_
    refine m_last (pc' := 16) (E' := .inl (cy 2, 1, .inr (.inl (va_up f 0 r9.toInt64)))) C 63 (by omega) h63 (vp_in_nI (by decide) (by decide)) rfl dL_type_15 rfl (fun M2 g2 F2 => ?_)
    refine m_goto (tgt := 23) C dL_type_16 (by decide) ?_
    refine m_iconst (pc' := 24) (v := nI 0) C dL_type_23 (by decide) rfl ?_
    refine m_iret C hrt0 hlk0 rfl dL_type_24 ?_
    have hX1 : isX cy ad n M1 (T ++ ty5 x1 x2 x3 x4 x5) xs cnt lim O B fp ot := hX.line q3 (by rw [List.length_append, ty5_len]; exact q1) q4
    simp only [sel0 hK]
    exact ⟨by rw [hK], ⟨_, g2, fun _ => by rw [va_up_self, q2]⟩, hX1.fr F2 (by decide), (q4.sub (by decide)).tr (F2.sub (by decide))⟩
set_option maxHeartbeats 4000000 in
set_option maxRecDepth 100000 in
theorem kL_number {l : Launch} {D : va_G} {cy : Nat → ClassId} {ad : Nat → Nat} {n : Nat} {A : Nat → Prop} (hI : mI ad n A) {M : Nat → va_E} (hst9 : l.stackTraces = false) (hn : 64 ≤ n) {T : List Nat} {xs : Nat → Arg} {cnt lim : Nat} {O B : List Nat} {fp ot : Int32} (hX : isX cy ad n M T xs cnt lim O B fp ot) {f : Nat → Int64} (h63 : M 63 = .inl (cy 2, 1, .inr (.inl f))) (x : Int64) : mHi l yL_number (gWH yL_number cL_number 5 (some .int) [(0, 9, 12, 13)]) { frames := 7, cells := 1, slots := 6, locals := 112 } D cy ad n A [.ref (ad 0), .long (x), .ref (ad 63)] M (fun res M' => res = nI (nuK cnt) ∧ (∃ f' : Nat → Int64, M' 63 = .inl (cy 2, 1, .inr (.inl f')) ∧ (nuK cnt = 0 → f' 0 = (nI (cnt + 1)).toInt64)) ∧ isX cy ad n M' T (sel (nuK cnt) (va_up xs cnt (.inl x)) xs) (sel (nuK cnt) (cnt + 1) cnt) lim O B fp ot ∧ Fr (63 :: clsS) M M') := by
  obtain ⟨h1, h2, h3, h4, ⟨en, tk, od, hps⟩, h6, h7, h8, h9, h10, ⟨w1, w2, w3, h11⟩, ⟨F4, h12⟩, h13, ⟨t0, i0, h14⟩, ⟨Fd, h15⟩, L5, h16⟩ := id hX
  obtain ⟨p1, p2, p3, p4, ⟨ds, lg0, p5⟩, p6, ⟨P7, p7⟩, P8, p8⟩ := id hps
  refine m_entryH (cc := cL_number) (maxL := 5) (ret := (some .int)) (hh := [(0, 9, 12, 13)]) (own := RL) (lv := [(0, .ref (ad 0)), (1, .long (x)), (3, .ref (ad 63))]) hI (by decide) rfl rfl (Nat.le_of_ble_eq_true rfl) rfl (fun pX eX sX mX aX bX tX cX C hrt0 hlk0 hz9 hx9 htb9 => ?_)
  refine m_aload_n (pc' := 1) C dL_number_0 rfl 2 rfl rfl ?_
  refine m_iconst (pc' := 2) (v := nI 0) C dL_number_1 (by decide) rfl ?_
  refine m_aload_n (pc' := 3) C dL_number_2 rfl 0 rfl rfl ?_
  refine m_lload_n (pc' := 4) C dL_number_3 rfl 1 rfl rfl ?_
  refine m_callXi (pc' := 7) (As := [.long (x)]) (rest := [.int (nI 0), .ref (ad 63)]) C (kX11_number hI hst9 (by omega) h2 p4 x) hz9 hx9 (cwV 1 C.1.2.2.2.2 (hGoodV tm_4_12 tm_4_13 tm_4_14 tm_1_1 tm_4_15) rfl rfl rfl (by decide +kernel) ⟨by decide, by decide⟩) (by omega) h2 rfl rfl rfl (Nat.le_of_ble_eq_true rfl) dL_number_4 rfl ⟨by decide, by decide⟩ (fun E M1 q9 hpx => ?_) (fun r9 M1 hpo => ?_)
  · obtain ⟨⟨q1, rfl⟩, rfl⟩ := hpx
    refine ⟨12, ⟨[], ⟨0, 9, 12, 13⟩, [], "java/lang/IllegalStateException", htb9, (fun z hz => by cases hz), by decide, by decide, hW_of tm_3_170, by decide, rfl⟩, ?_⟩
    refine m_astore (pc' := 14) (lv' := [(4, (.ref q9)), (0, .ref (ad 0)), (1, .long (x)), (3, .ref (ad 63))]) C dL_number_12 (by decide) rfl rfl ?_
    refine m_iconst (pc' := 15) (v := nI 1) C dL_number_14 (by decide) rfl ?_
    have hK : nuK cnt = 1 := by unfold nuK; rw [if_pos (by have := p4.2.1; omega)]
    have hKn : ¬ nuK cnt = 0 := by rw [hK]; decide
    refine m_iret C hrt0 hlk0 rfl dL_number_15 ?_
    simp only [sel1 hKn]
    exact ⟨by rw [hK], ⟨f, h63, fun z => absurd z hKn⟩, hX, Fr.rf⟩
  · obtain ⟨q1, q2, q3, q4⟩ := hpo
    have hK : nuK cnt = 0 := by unfold nuK; rw [if_neg (by omega)]
    replace h63 : M1 63 = .inl (cy 2, 1, .inr (.inl f)) := (q4 63 (by decide)).trans h63
    refine m_i2l (pc' := 8) (v := r9.toInt64) C dL_number_7 rfl rfl ?_
    refine m_last (pc' := 9) (E' := .inl (cy 2, 1, .inr (.inl (va_up f 0 r9.toInt64)))) C 63 (by omega) h63 (vp_in_nI (by decide) (by decide)) rfl dL_number_8 rfl (fun M2 g2 F2 => ?_)
    refine m_goto (tgt := 16) C dL_number_9 (by decide) ?_
    refine m_iconst (pc' := 17) (v := nI 0) C dL_number_16 (by decide) rfl ?_
    refine m_iret C hrt0 hlk0 rfl dL_number_17 ?_
    have hX1 : isX cy ad n M1 T (va_up xs cnt (.inl x)) (cnt + 1) lim O B fp ot := hX.args q3 q4
    simp only [sel0 hK]
    exact ⟨by rw [hK], ⟨_, g2, fun _ => by rw [va_up_self, q2]⟩, hX1.fr F2 (by decide), (q4.sub (by decide)).tr (F2.sub (by decide))⟩
set_option maxHeartbeats 4000000 in
set_option maxRecDepth 100000 in
theorem kL_text {l : Launch} {D : va_G} {cy : Nat → ClassId} {ad : Nat → Nat} {n : Nat} {A : Nat → Prop} (hI : mI ad n A) {M : Nat → va_E} (hst9 : l.stackTraces = false) (hn : 64 ≤ n) {T : List Nat} {xs : Nat → Arg} {cnt lim : Nat} {O B : List Nat} {fp ot : Int32} (hX : isX cy ad n M T xs cnt lim O B fp ot) {f : Nat → Int64} (h63 : M 63 = .inl (cy 2, 1, .inr (.inl f)))  : mHi l yL_text (gWH yL_text cL_text 3 (some .int) [(0, 8, 11, 13)]) { frames := 7, cells := 1, slots := 6, locals := 110 } D cy ad n A [.ref (ad 0), .ref (ad 63)] M (fun res M' => res = nI (nuK cnt) ∧ (∃ f' : Nat → Int64, M' 63 = .inl (cy 2, 1, .inr (.inl f')) ∧ (nuK cnt = 0 → f' 0 = (nI (cnt + 1)).toInt64)) ∧ isX cy ad n M' (sel (nuK cnt) ([]) T) (sel (nuK cnt) (va_up xs cnt (.inr T)) xs) (sel (nuK cnt) (cnt + 1) cnt) lim O B fp ot ∧ Fr (63 :: clsS) M M') := by
  obtain ⟨h1, h2, h3, h4, ⟨en, tk, od, hps⟩, h6, h7, h8, h9, h10, ⟨w1, w2, w3, h11⟩, ⟨F4, h12⟩, h13, ⟨t0, i0, h14⟩, ⟨Fd, h15⟩, L5, h16⟩ := id hX
  obtain ⟨p1, p2, p3, p4, ⟨ds, lg0, p5⟩, p6, ⟨P7, p7⟩, P8, p8⟩ := id hps
  refine m_entryH (cc := cL_text) (maxL := 3) (ret := (some .int)) (hh := [(0, 8, 11, 13)]) (own := RL) (lv := [(0, .ref (ad 0)), (1, .ref (ad 63))]) hI (by decide) rfl rfl (Nat.le_of_ble_eq_true rfl) rfl (fun pX eX sX mX aX bX tX cX C hrt0 hlk0 hz9 hx9 htb9 => ?_)
  refine m_aload_n (pc' := 1) C dL_text_0 rfl 1 rfl rfl ?_
  refine m_iconst (pc' := 2) (v := nI 0) C dL_text_1 (by decide) rfl ?_
  refine m_aload_n (pc' := 3) C dL_text_2 rfl 0 rfl rfl ?_
  refine m_callXi (pc' := 6) (As := []) (rest := [.int (nI 0), .ref (ad 63)]) C (kX11_text hI hst9 (by omega) h2 p4 h3 h4) hz9 hx9 (cwV 0 C.1.2.2.2.2 (hGoodV tm_4_23 tm_4_24 tm_4_25 tm_1_1 tm_4_26) rfl rfl rfl (by decide +kernel) ⟨by decide, by decide⟩) (by omega) h2 rfl rfl rfl (Nat.le_of_ble_eq_true rfl) dL_text_3 rfl ⟨by decide, by decide⟩ (fun E M1 q9 hpx => ?_) (fun r9 M1 hpo => ?_)
  · obtain ⟨⟨q1, rfl⟩, rfl⟩ := hpx
    refine ⟨11, ⟨[], ⟨0, 8, 11, 13⟩, [], "java/lang/IllegalStateException", htb9, (fun z hz => by cases hz), by decide, by decide, hW_of tm_3_170, by decide, rfl⟩, ?_⟩
    refine m_astore_n (pc' := 12) (lv' := [(2, (.ref q9)), (0, .ref (ad 0)), (1, .ref (ad 63))]) C dL_text_11 rfl (by decide) rfl rfl ?_
    refine m_iconst (pc' := 13) (v := nI 1) C dL_text_12 (by decide) rfl ?_
    have hK : nuK cnt = 1 := by unfold nuK; rw [if_pos (by have := p4.2.1; omega)]
    have hKn : ¬ nuK cnt = 0 := by rw [hK]; decide
    refine m_iret C hrt0 hlk0 rfl dL_text_13 ?_
    simp only [sel1 hKn]
    exact ⟨by rw [hK], ⟨f, h63, fun z => absurd z hKn⟩, hX, Fr.rf⟩
  · obtain ⟨q1, q2, q3, q5, q4⟩ := hpo
    have hK : nuK cnt = 0 := by unfold nuK; rw [if_neg (by omega)]
    replace h63 : M1 63 = .inl (cy 2, 1, .inr (.inl f)) := (q4 63 (by decide)).trans h63
    refine m_i2l (pc' := 7) (v := r9.toInt64) C dL_text_6 rfl rfl ?_
    refine m_last (pc' := 8) (E' := .inl (cy 2, 1, .inr (.inl (va_up f 0 r9.toInt64)))) C 63 (by omega) h63 (vp_in_nI (by decide) (by decide)) rfl dL_text_7 rfl (fun M2 g2 F2 => ?_)
    refine m_goto (tgt := 14) C dL_text_8 (by decide) ?_
    refine m_iconst (pc' := 15) (v := nI 0) C dL_text_14 (by decide) rfl ?_
    refine m_iret C hrt0 hlk0 rfl dL_text_15 ?_
    have hX1 : isX cy ad n M1 ([]) (va_up xs cnt (.inr T)) (cnt + 1) lim O B fp ot := hX.text q5 (Nat.zero_le _) q3 q4
    simp only [sel0 hK]
    exact ⟨by rw [hK], ⟨_, g2, fun _ => by rw [va_up_self, q2]⟩, hX1.fr F2 (by decide), (q4.sub (by decide)).tr (F2.sub (by decide))⟩
set_option maxHeartbeats 4000000 in
set_option maxRecDepth 100000 in
theorem kL_room {l : Launch} {D : va_G} {cy : Nat → ClassId} {ad : Nat → Nat} {n : Nat} {A : Nat → Prop} (hI : mI ad n A) {M : Nat → va_E} (hst9 : l.stackTraces = false) (hn : 64 ≤ n) {T : List Nat} {xs : Nat → Arg} {cnt lim : Nat} {O B : List Nat} {fp ot : Int32} (hX : isX cy ad n M T xs cnt lim O B fp ot) (x : Int32) : mHi l yL_room (gWH yL_room cL_room 3 (some .int) [(0, 5, 8, 27)]) { frames := 7, cells := 1, slots := 6, locals := 111 } D cy ad n A [.ref (ad 0), .int (x)] M (fun res M' => res = nI (rmK x) ∧ isX cy ad n M' T xs cnt (sel (rmK x) (cl x) lim) (sel (rmK x) ([]) O) B fp ot ∧ Fr clsS M M') := by
  obtain ⟨h1, h2, h3, h4, ⟨en, tk, od, hps⟩, h6, h7, h8, h9, h10, ⟨w1, w2, w3, h11⟩, ⟨F4, h12⟩, h13, ⟨t0, i0, h14⟩, ⟨Fd, h15⟩, L5, h16⟩ := id hX
  obtain ⟨p1, p2, p3, p4, ⟨ds, lg0, p5⟩, p6, ⟨P7, p7⟩, P8, p8⟩ := id hps
  refine m_entryH (cc := cL_room) (maxL := 3) (ret := (some .int)) (hh := [(0, 5, 8, 27)]) (own := RL) (lv := [(0, .ref (ad 0)), (1, .int (x))]) hI (by decide) rfl rfl (Nat.le_of_ble_eq_true rfl) rfl (fun pX eX sX mX aX bX tX cX C hrt0 hlk0 hz9 hx9 htb9 => ?_)
  refine m_aload_n (pc' := 1) C dL_room_0 rfl 0 rfl rfl ?_
  refine m_iload_n (pc' := 2) C dL_room_1 rfl 1 rfl rfl ?_
  refine m_callXv (pc' := 5) (As := [.int (x)]) (rest := []) C (kX11_room hI hst9 (by omega) h2 p3 x) hz9 hx9 (cwV 1 C.1.2.2.2.2 (hGoodV tm_4_36 tm_4_37 tm_4_38 tm_1_1 tm_4_39) rfl rfl rfl (by decide +kernel) ⟨by decide, by decide⟩) (by omega) h2 rfl rfl rfl (Nat.le_of_ble_eq_true rfl) dL_room_2 rfl ⟨by decide, by decide⟩ (fun E M1 q9 hpx => ?_) (fun M1 hpo => ?_)
  · obtain ⟨⟨q1, rfl⟩, rfl⟩ := hpx
    refine ⟨8, ⟨[], ⟨0, 5, 8, 27⟩, [], "java/lang/IllegalArgumentException", htb9, (fun z hz => by cases hz), by decide, by decide, hW_of tm_4_35, by decide, rfl⟩, ?_⟩
    refine m_astore_n (pc' := 9) (lv' := [(2, (.ref q9)), (0, .ref (ad 0)), (1, .int (x))]) C dL_room_8 rfl (by decide) rfl rfl ?_
    refine m_iconst (pc' := 10) (v := nI 1) C dL_room_9 (by decide) rfl ?_
    have hK : rmK x = 1 := by unfold rmK; rw [if_pos q1]
    have hKn : ¬ rmK x = 0 := by rw [hK]; decide
    refine m_iret C hrt0 hlk0 rfl dL_room_10 ?_
    simp only [sel1 hKn]
    exact ⟨by rw [hK], hX, Fr.rf⟩
  · obtain ⟨q1, q3, q4⟩ := hpo
    have hK : rmK x = 0 := by unfold rmK; rw [if_neg (fun z => z.elim q1.1 (fun z => by have := q1.2; omega))]
    refine m_goto (tgt := 11) C dL_room_5 (by decide) ?_
    refine m_iconst (pc' := 12) (v := nI 0) C dL_room_11 (by decide) rfl ?_
    refine m_iret C hrt0 hlk0 rfl dL_room_12 ?_
    have hX1 : isX cy ad n M1 T xs cnt (cl x) ([]) B fp ot := hX.page q3 (Nat.zero_le _) q1.2 (q4.sub (by decide))
    simp only [sel0 hK]
    exact ⟨by rw [hK], hX1, q4.sub (by decide)⟩
set_option maxHeartbeats 4000000 in
set_option maxRecDepth 100000 in
theorem kL_feed {l : Launch} {D : va_G} {cy : Nat → ClassId} {ad : Nat → Nat} {n : Nat} {A : Nat → Prop} (hI : mI ad n A) {M : Nat → va_E} (hst9 : l.stackTraces = false) (hn : 64 ≤ n) {T : List Nat} {xs : Nat → Arg} {cnt lim : Nat} {O B : List Nat} {fp ot : Int32} (hX : isX cy ad n M T xs cnt lim O B fp ot) {f : Nat → Int64} (h63 : M 63 = .inl (cy 2, 1, .inr (.inl f))) (x x1 x2 x3 x4 : Int32) : mHi l yL_feed (gWH yL_feed cL_feed 8 (some .int) [(0, 16, 19, 27), (0, 16, 23, 13)]) { frames := 7, cells := 1, slots := 6, locals := 115 } D cy ad n A [.ref (ad 0), .int (x), .int (x1), .int (x2), .int (x3), .int (x4), .ref (ad 63)] M (fun res M' => res = nI (fdK B x) ∧ (∃ f' : Nat → Int64, M' 63 = .inl (cy 2, 1, .inr (.inl f')) ∧ (fdK B x = 0 → f' 0 = (nI (B.length + cl x)).toInt64)) ∧ isX cy ad n M' T xs cnt lim O (sel (fdK B x) (B ++ fd4 (cl x) x1 x2 x3 x4) B) fp ot ∧ Fr (63 :: clsS) M M') := by
  obtain ⟨h1, h2, h3, h4, ⟨en, tk, od, hps⟩, h6, h7, h8, h9, h10, ⟨w1, w2, w3, h11⟩, ⟨F4, h12⟩, h13, ⟨t0, i0, h14⟩, ⟨Fd, h15⟩, L5, h16⟩ := id hX
  obtain ⟨p1, p2, p3, p4, ⟨ds, lg0, p5⟩, p6, ⟨P7, p7⟩, P8, p8⟩ := id hps
  refine m_entryH (cc := cL_feed) (maxL := 8) (ret := (some .int)) (hh := [(0, 16, 19, 27), (0, 16, 23, 13)]) (own := RL) (lv := [(0, .ref (ad 0)), (1, .int (x)), (2, .int (x1)), (3, .int (x2)), (4, .int (x3)), (5, .int (x4)), (6, .ref (ad 63))]) hI (by decide) rfl rfl (Nat.le_of_ble_eq_true rfl) rfl (fun pX eX sX mX aX bX tX cX C hrt0 hlk0 hz9 hx9 htb9 => ?_)
  refine m_aload (pc' := 2) C dL_feed_0 6 rfl rfl ?_
  refine m_iconst (pc' := 3) (v := nI 0) C dL_feed_2 (by decide) rfl ?_
  refine m_aload_n (pc' := 4) C dL_feed_3 rfl 0 rfl rfl ?_
  refine m_iload_n (pc' := 5) C dL_feed_4 rfl 1 rfl rfl ?_
  refine m_iload_n (pc' := 6) C dL_feed_5 rfl 2 rfl rfl ?_
  refine m_iload_n (pc' := 7) C dL_feed_6 rfl 3 rfl rfl ?_
  refine m_iload (pc' := 9) C dL_feed_7 4 rfl rfl ?_
  refine m_iload (pc' := 11) C dL_feed_9 5 rfl rfl ?_
  refine m_callXi (pc' := 14) (As := [.int (x), .int (x1), .int (x2), .int (x3), .int (x4)]) (rest := [.int (nI 0), .ref (ad 63)]) C (kX11_feed hI hst9 (by omega) h2 h8 h9 x x1 x2 x3 x4) hz9 hx9 (cwV 5 C.1.2.2.2.2 (hGoodV tm_4_62 tm_4_63 tm_4_64 tm_1_1 tm_4_65) rfl rfl rfl (by decide +kernel) ⟨by decide, by decide⟩) (by omega) h2 rfl rfl rfl (Nat.le_of_ble_eq_true rfl) dL_feed_11 rfl ⟨by decide, by decide⟩ (fun E M1 q9 hpx => ?_) (fun r9 M1 hpo => ?_)
  · obtain ⟨hpx, rfl⟩ := hpx
    rcases hpx with ⟨q1, rfl⟩ | ⟨q1, rfl⟩
    · refine ⟨19, ⟨[], ⟨0, 16, 19, 27⟩, [⟨0, 16, 23, 13⟩], "java/lang/IllegalArgumentException", htb9, (fun z hz => by cases hz), by decide, by decide, hW_of tm_4_35, by decide, rfl⟩, ?_⟩
      refine m_astore (pc' := 21) (lv' := [(7, (.ref q9)), (0, .ref (ad 0)), (1, .int (x)), (2, .int (x1)), (3, .int (x2)), (4, .int (x3)), (5, .int (x4)), (6, .ref (ad 63))]) C dL_feed_19 (by decide) rfl rfl ?_
      refine m_iconst (pc' := 22) (v := nI 1) C dL_feed_21 (by decide) rfl ?_
      have hK : fdK B x = 1 := by unfold fdK; rw [if_pos q1]
      have hKn : ¬ fdK B x = 0 := by rw [hK]; decide
      refine m_iret C hrt0 hlk0 rfl dL_feed_22 ?_
      simp only [sel1 hKn]
      exact ⟨by rw [hK], ⟨f, h63, fun z => absurd z hKn⟩, hX, Fr.rf⟩
    · refine ⟨23, ⟨[⟨0, 16, 19, 27⟩], ⟨0, 16, 23, 13⟩, [], "java/lang/IllegalStateException", htb9, (fun z hz => by rw [List.mem_singleton.mp hz]; exact Or.inr ⟨by decide, "java/lang/IllegalArgumentException", hW_of tm_4_35, by decide⟩), by decide, by decide, hW_of tm_3_170, by decide, rfl⟩, ?_⟩
      refine m_astore (pc' := 25) (lv' := [(7, (.ref q9)), (0, .ref (ad 0)), (1, .int (x)), (2, .int (x1)), (3, .int (x2)), (4, .int (x3)), (5, .int (x4)), (6, .ref (ad 63))]) C dL_feed_23 (by decide) rfl rfl ?_
      refine m_iconst (pc' := 26) (v := nI 2) C dL_feed_25 (by decide) rfl ?_
      have hK : fdK B x = 2 := by unfold fdK; rw [if_neg (fun z => z.elim q1.1 (fun z => by have := q1.2.1; omega)), if_pos q1.2.2]
      have hKn : ¬ fdK B x = 0 := by rw [hK]; decide
      refine m_iret C hrt0 hlk0 rfl dL_feed_26 ?_
      simp only [sel1 hKn]
      exact ⟨by rw [hK], ⟨f, h63, fun z => absurd z hKn⟩, hX, Fr.rf⟩
  · obtain ⟨q1, q2, q3, q4⟩ := hpo
    have hK : fdK B x = 0 := by unfold fdK; rw [if_neg (fun z => z.elim q1.1 (fun z => by have := q1.2.1; omega)), if_neg (by have := q1.2.2; omega)]
    replace h63 : M1 63 = .inl (cy 2, 1, .inr (.inl f)) := (q4 63 (by decide)).trans h63
    refine m_i2l (pc' := 15) (v := r9.toInt64) C dL_feed_14 rfl rfl ?_
    refine m_last (pc' := 16) (E' := .inl (cy 2, 1, .inr (.inl (va_up f 0 r9.toInt64)))) C 63 (by omega) h63 (vp_in_nI (by decide) (by decide)) rfl dL_feed_15 rfl (fun M2 g2 F2 => ?_)
    refine m_goto (tgt := 27) C dL_feed_16 (by decide) ?_
    refine m_iconst (pc' := 28) (v := nI 0) C dL_feed_27 (by decide) rfl ?_
    refine m_iret C hrt0 hlk0 rfl dL_feed_28 ?_
    have hX1 : isX cy ad n M1 T xs cnt lim O (B ++ fd4 (cl x) x1 x2 x3 x4) fp ot := hX.bytes q3 (by rw [List.length_append, fd4_len q1.2.1]; exact q1.2.2) q4
    simp only [sel0 hK]
    exact ⟨by rw [hK], ⟨_, g2, fun _ => by rw [va_up_self, q2]⟩, hX1.fr F2 (by decide), (q4.sub (by decide)).tr (F2.sub (by decide))⟩
set_option maxHeartbeats 4000000 in
set_option maxRecDepth 100000 in
theorem kL_cut {l : Launch} {D : va_G} {cy : Nat → ClassId} {ad : Nat → Nat} {n : Nat} {A : Nat → Prop} (hI : mI ad n A) {M : Nat → va_E} (hst9 : l.stackTraces = false) (hn : 64 ≤ n) {T : List Nat} {xs : Nat → Arg} {cnt lim : Nat} {O B : List Nat} {fp ot : Int32} (hX : isX cy ad n M T xs cnt lim O B fp ot) {f : Nat → Int64} (h63 : M 63 = .inl (cy 2, 1, .inr (.inl f))) (x : Int32) : mHi l yL_cut (gWH yL_cut cL_cut 4 (some .int) [(0, 9, 12, 27)]) { frames := 7, cells := 1, slots := 6, locals := 111 } D cy ad n A [.ref (ad 0), .int (x), .ref (ad 63)] M (fun res M' => res = nI (cuK B x) ∧ (∃ f' : Nat → Int64, M' 63 = .inl (cy 2, 1, .inr (.inl f')) ∧ (cuK B x = 0 → f' 0 = (nI (B.length - cl x)).toInt64)) ∧ isX cy ad n M' T xs cnt lim O (sel (cuK B x) (B.take (cl x)) B) fp ot ∧ Fr (63 :: clsS) M M') := by
  obtain ⟨h1, h2, h3, h4, ⟨en, tk, od, hps⟩, h6, h7, h8, h9, h10, ⟨w1, w2, w3, h11⟩, ⟨F4, h12⟩, h13, ⟨t0, i0, h14⟩, ⟨Fd, h15⟩, L5, h16⟩ := id hX
  obtain ⟨p1, p2, p3, p4, ⟨ds, lg0, p5⟩, p6, ⟨P7, p7⟩, P8, p8⟩ := id hps
  refine m_entryH (cc := cL_cut) (maxL := 4) (ret := (some .int)) (hh := [(0, 9, 12, 27)]) (own := RL) (lv := [(0, .ref (ad 0)), (1, .int (x)), (2, .ref (ad 63))]) hI (by decide) rfl rfl (Nat.le_of_ble_eq_true rfl) rfl (fun pX eX sX mX aX bX tX cX C hrt0 hlk0 hz9 hx9 htb9 => ?_)
  refine m_aload_n (pc' := 1) C dL_cut_0 rfl 2 rfl rfl ?_
  refine m_iconst (pc' := 2) (v := nI 0) C dL_cut_1 (by decide) rfl ?_
  refine m_aload_n (pc' := 3) C dL_cut_2 rfl 0 rfl rfl ?_
  refine m_iload_n (pc' := 4) C dL_cut_3 rfl 1 rfl rfl ?_
  refine m_callXi (pc' := 7) (As := [.int (x)]) (rest := [.int (nI 0), .ref (ad 63)]) C (kX11_cut hI hst9 (by omega) h2 h8 h9 x) hz9 hx9 (cwV 1 C.1.2.2.2.2 (hGoodV tm_4_73 tm_4_74 tm_4_75 tm_1_1 tm_4_76) rfl rfl rfl (by decide +kernel) ⟨by decide, by decide⟩) (by omega) h2 rfl rfl rfl (Nat.le_of_ble_eq_true rfl) dL_cut_4 rfl ⟨by decide, by decide⟩ (fun E M1 q9 hpx => ?_) (fun r9 M1 hpo => ?_)
  · obtain ⟨⟨q1, rfl⟩, rfl⟩ := hpx
    refine ⟨12, ⟨[], ⟨0, 9, 12, 27⟩, [], "java/lang/IllegalArgumentException", htb9, (fun z hz => by cases hz), by decide, by decide, hW_of tm_4_35, by decide, rfl⟩, ?_⟩
    refine m_astore_n (pc' := 13) (lv' := [(3, (.ref q9)), (0, .ref (ad 0)), (1, .int (x)), (2, .ref (ad 63))]) C dL_cut_12 rfl (by decide) rfl rfl ?_
    refine m_iconst (pc' := 14) (v := nI 1) C dL_cut_13 (by decide) rfl ?_
    have hK : cuK B x = 1 := by unfold cuK; rw [if_pos q1]
    have hKn : ¬ cuK B x = 0 := by rw [hK]; decide
    refine m_iret C hrt0 hlk0 rfl dL_cut_14 ?_
    simp only [sel1 hKn]
    exact ⟨by rw [hK], ⟨f, h63, fun z => absurd z hKn⟩, hX, Fr.rf⟩
  · obtain ⟨q1, q2, q3, q4⟩ := hpo
    have hK : cuK B x = 0 := by unfold cuK; rw [if_neg (fun z => z.elim q1.1 (fun z => by have := q1.2; omega))]
    replace h63 : M1 63 = .inl (cy 2, 1, .inr (.inl f)) := (q4 63 (by decide)).trans h63
    refine m_i2l (pc' := 8) (v := r9.toInt64) C dL_cut_7 rfl rfl ?_
    refine m_last (pc' := 9) (E' := .inl (cy 2, 1, .inr (.inl (va_up f 0 r9.toInt64)))) C 63 (by omega) h63 (vp_in_nI (by decide) (by decide)) rfl dL_cut_8 rfl (fun M2 g2 F2 => ?_)
    refine m_goto (tgt := 15) C dL_cut_9 (by decide) ?_
    refine m_iconst (pc' := 16) (v := nI 0) C dL_cut_15 (by decide) rfl ?_
    refine m_iret C hrt0 hlk0 rfl dL_cut_16 ?_
    have hX1 : isX cy ad n M1 T xs cnt lim O (B.take (cl x)) fp ot := hX.bytes q3 (by rw [List.length_take]; omega) (q4.sub (by decide))
    simp only [sel0 hK]
    exact ⟨by rw [hK], ⟨_, g2, fun _ => by rw [va_up_self, q2]⟩, hX1.fr F2 (by decide), (q4.sub (by decide)).tr (F2.sub (by decide))⟩
set_option maxHeartbeats 4000000 in
set_option maxRecDepth 100000 in
theorem kL_trim {l : Launch} {D : va_G} {cy : Nat → ClassId} {ad : Nat → Nat} {n : Nat} {A : Nat → Prop} (hI : mI ad n A) {M : Nat → va_E} (hst9 : l.stackTraces = false) (hn : 64 ≤ n) {T : List Nat} {xs : Nat → Arg} {cnt lim : Nat} {O B : List Nat} {fp ot : Int32} (hX : isX cy ad n M T xs cnt lim O B fp ot) {f : Nat → Int64} (h63 : M 63 = .inl (cy 2, 1, .inr (.inl f))) (x : Int32) : mHi l yL_trim (gWH yL_trim cL_trim 4 (some .int) [(0, 9, 12, 27)]) { frames := 7, cells := 1, slots := 6, locals := 111 } D cy ad n A [.ref (ad 0), .int (x), .ref (ad 63)] M (fun res M' => res = nI (cuK O x) ∧ (∃ f' : Nat → Int64, M' 63 = .inl (cy 2, 1, .inr (.inl f')) ∧ (cuK O x = 0 → f' 0 = (nI (O.length - cl x)).toInt64)) ∧ isX cy ad n M' T xs cnt lim (sel (cuK O x) (O.take (cl x)) O) B fp ot ∧ Fr (63 :: clsS) M M') := by
  obtain ⟨h1, h2, h3, h4, ⟨en, tk, od, hps⟩, h6, h7, h8, h9, h10, ⟨w1, w2, w3, h11⟩, ⟨F4, h12⟩, h13, ⟨t0, i0, h14⟩, ⟨Fd, h15⟩, L5, h16⟩ := id hX
  obtain ⟨p1, p2, p3, p4, ⟨ds, lg0, p5⟩, p6, ⟨P7, p7⟩, P8, p8⟩ := id hps
  refine m_entryH (cc := cL_trim) (maxL := 4) (ret := (some .int)) (hh := [(0, 9, 12, 27)]) (own := RL) (lv := [(0, .ref (ad 0)), (1, .int (x)), (2, .ref (ad 63))]) hI (by decide) rfl rfl (Nat.le_of_ble_eq_true rfl) rfl (fun pX eX sX mX aX bX tX cX C hrt0 hlk0 hz9 hx9 htb9 => ?_)
  refine m_aload_n (pc' := 1) C dL_trim_0 rfl 2 rfl rfl ?_
  refine m_iconst (pc' := 2) (v := nI 0) C dL_trim_1 (by decide) rfl ?_
  refine m_aload_n (pc' := 3) C dL_trim_2 rfl 0 rfl rfl ?_
  refine m_iload_n (pc' := 4) C dL_trim_3 rfl 1 rfl rfl ?_
  refine m_callXi (pc' := 7) (As := [.int (x)]) (rest := [.int (nI 0), .ref (ad 63)]) C (kX11_trim hI hst9 (by omega) h2 p3 h6 h7 x) hz9 hx9 (cwV 1 C.1.2.2.2.2 (hGoodV tm_5_40 tm_5_41 tm_5_42 tm_1_1 tm_5_43) rfl rfl rfl (by decide +kernel) ⟨by decide, by decide⟩) (by omega) h2 rfl rfl rfl (Nat.le_of_ble_eq_true rfl) dL_trim_4 rfl ⟨by decide, by decide⟩ (fun E M1 q9 hpx => ?_) (fun r9 M1 hpo => ?_)
  · obtain ⟨⟨q1, rfl⟩, rfl⟩ := hpx
    refine ⟨12, ⟨[], ⟨0, 9, 12, 27⟩, [], "java/lang/IllegalArgumentException", htb9, (fun z hz => by cases hz), by decide, by decide, hW_of tm_4_35, by decide, rfl⟩, ?_⟩
    refine m_astore_n (pc' := 13) (lv' := [(3, (.ref q9)), (0, .ref (ad 0)), (1, .int (x)), (2, .ref (ad 63))]) C dL_trim_12 rfl (by decide) rfl rfl ?_
    refine m_iconst (pc' := 14) (v := nI 1) C dL_trim_13 (by decide) rfl ?_
    have hK : cuK O x = 1 := by unfold cuK; rw [if_pos q1]
    have hKn : ¬ cuK O x = 0 := by rw [hK]; decide
    refine m_iret C hrt0 hlk0 rfl dL_trim_14 ?_
    simp only [sel1 hKn]
    exact ⟨by rw [hK], ⟨f, h63, fun z => absurd z hKn⟩, hX, Fr.rf⟩
  · obtain ⟨q1, q2, q3, q4⟩ := hpo
    have hK : cuK O x = 0 := by unfold cuK; rw [if_neg (fun z => z.elim q1.1 (fun z => by have := q1.2; omega))]
    replace h63 : M1 63 = .inl (cy 2, 1, .inr (.inl f)) := (q4 63 (by decide)).trans h63
    refine m_i2l (pc' := 8) (v := r9.toInt64) C dL_trim_7 rfl rfl ?_
    refine m_last (pc' := 9) (E' := .inl (cy 2, 1, .inr (.inl (va_up f 0 r9.toInt64)))) C 63 (by omega) h63 (vp_in_nI (by decide) (by decide)) rfl dL_trim_8 rfl (fun M2 g2 F2 => ?_)
    refine m_goto (tgt := 15) C dL_trim_9 (by decide) ?_
    refine m_iconst (pc' := 16) (v := nI 0) C dL_trim_15 (by decide) rfl ?_
    refine m_iret C hrt0 hlk0 rfl dL_trim_16 ?_
    have hX1 : isX cy ad n M1 T xs cnt lim (O.take (cl x)) B fp ot := hX.page q3 (by rw [List.length_take]; omega) h7 (q4.sub (by decide))
    simp only [sel0 hK]
    exact ⟨by rw [hK], ⟨_, g2, fun _ => by rw [va_up_self, q2]⟩, hX1.fr F2 (by decide), (q4.sub (by decide)).tr (F2.sub (by decide))⟩
set_option maxHeartbeats 4000000 in
set_option maxRecDepth 100000 in
theorem kL_patch {l : Launch} {D : va_G} {cy : Nat → ClassId} {ad : Nat → Nat} {n : Nat} {A : Nat → Prop} (hI : mI ad n A) {M : Nat → va_E} (hst9 : l.stackTraces = false) (hn : 64 ≤ n) {T : List Nat} {xs : Nat → Arg} {cnt lim : Nat} {O B : List Nat} {fp ot : Int32} (hX : isX cy ad n M T xs cnt lim O B fp ot) {f : Nat → Int64} (h63 : M 63 = .inl (cy 2, 1, .inr (.inl f))) (x y : Int32) : mHi l yL_patch (gWH yL_patch cL_patch 5 (some .int) [(0, 10, 13, 51), (0, 10, 17, 27)]) { frames := 7, cells := 1, slots := 6, locals := 113 } D cy ad n A [.ref (ad 0), .int (x), .int (y), .ref (ad 63)] M (fun res M' => res = nI (paK O x y) ∧ (∃ f' : Nat → Int64, M' 63 = .inl (cy 2, 1, .inr (.inl f')) ∧ (paK O x y = 0 → f' 0 = (rowAt O x).toInt64)) ∧ isX cy ad n M' T xs cnt lim (sel (paK O x y) (O.set (cl x) (lowb y)) O) B fp ot ∧ Fr (63 :: clsS) M M') := by
  obtain ⟨h1, h2, h3, h4, ⟨en, tk, od, hps⟩, h6, h7, h8, h9, h10, ⟨w1, w2, w3, h11⟩, ⟨F4, h12⟩, h13, ⟨t0, i0, h14⟩, ⟨Fd, h15⟩, L5, h16⟩ := id hX
  obtain ⟨p1, p2, p3, p4, ⟨ds, lg0, p5⟩, p6, ⟨P7, p7⟩, P8, p8⟩ := id hps
  refine m_entryH (cc := cL_patch) (maxL := 5) (ret := (some .int)) (hh := [(0, 10, 13, 51), (0, 10, 17, 27)]) (own := RL) (lv := [(0, .ref (ad 0)), (1, .int (x)), (2, .int (y)), (3, .ref (ad 63))]) hI (by decide) rfl rfl (Nat.le_of_ble_eq_true rfl) rfl (fun pX eX sX mX aX bX tX cX C hrt0 hlk0 hz9 hx9 htb9 => ?_)
  refine m_aload_n (pc' := 1) C dL_patch_0 rfl 3 rfl rfl ?_
  refine m_iconst (pc' := 2) (v := nI 0) C dL_patch_1 (by decide) rfl ?_
  refine m_aload_n (pc' := 3) C dL_patch_2 rfl 0 rfl rfl ?_
  refine m_iload_n (pc' := 4) C dL_patch_3 rfl 1 rfl rfl ?_
  refine m_iload_n (pc' := 5) C dL_patch_4 rfl 2 rfl rfl ?_
  refine m_callXi (pc' := 8) (As := [.int (x), .int (y)]) (rest := [.int (nI 0), .ref (ad 63)]) C (kX11_patch hI hst9 (by omega) h2 p3 h6 x y) hz9 hx9 (cwV 2 C.1.2.2.2.2 (hGoodV tm_5_14 tm_5_15 tm_5_16 tm_1_1 tm_5_17) rfl rfl rfl (by decide +kernel) ⟨by decide, by decide⟩) (by omega) h2 rfl rfl rfl (Nat.le_of_ble_eq_true rfl) dL_patch_5 rfl ⟨by decide, by decide⟩ (fun E M1 q9 hpx => ?_) (fun r9 M1 hpo => ?_)
  · obtain ⟨hpx, rfl⟩ := hpx
    rcases hpx with ⟨q1, rfl⟩ | ⟨q1, rfl⟩
    · refine ⟨13, ⟨[], ⟨0, 10, 13, 51⟩, [⟨0, 10, 17, 27⟩], "java/lang/IndexOutOfBoundsException", htb9, (fun z hz => by cases hz), by decide, by decide, hW_of tm_5_13, by decide, rfl⟩, ?_⟩
      refine m_astore (pc' := 15) (lv' := [(4, (.ref q9)), (0, .ref (ad 0)), (1, .int (x)), (2, .int (y)), (3, .ref (ad 63))]) C dL_patch_13 (by decide) rfl rfl ?_
      refine m_iconst (pc' := 16) (v := nI 1) C dL_patch_15 (by decide) rfl ?_
      have hK : paK O x y = 1 := by unfold paK; rw [if_pos q1]
      have hKn : ¬ paK O x y = 0 := by rw [hK]; decide
      refine m_iret C hrt0 hlk0 rfl dL_patch_16 ?_
      simp only [sel1 hKn]
      exact ⟨by rw [hK], ⟨f, h63, fun z => absurd z hKn⟩, hX, Fr.rf⟩
    · refine ⟨17, ⟨[⟨0, 10, 13, 51⟩], ⟨0, 10, 17, 27⟩, [], "java/lang/IllegalArgumentException", htb9, (fun z hz => by rw [List.mem_singleton.mp hz]; exact Or.inr ⟨by decide, "java/lang/IndexOutOfBoundsException", hW_of tm_5_13, by decide⟩), by decide, by decide, hW_of tm_4_35, by decide, rfl⟩, ?_⟩
      refine m_astore (pc' := 19) (lv' := [(4, (.ref q9)), (0, .ref (ad 0)), (1, .int (x)), (2, .int (y)), (3, .ref (ad 63))]) C dL_patch_17 (by decide) rfl rfl ?_
      refine m_iconst (pc' := 20) (v := nI 2) C dL_patch_19 (by decide) rfl ?_
      have hK : paK O x y = 2 := by unfold paK; rw [if_neg (fun z => z q1.1), if_pos q1.2]
      have hKn : ¬ paK O x y = 0 := by rw [hK]; decide
      refine m_iret C hrt0 hlk0 rfl dL_patch_20 ?_
      simp only [sel1 hKn]
      exact ⟨by rw [hK], ⟨f, h63, fun z => absurd z hKn⟩, hX, Fr.rf⟩
  · obtain ⟨q1, q2, q3, q4⟩ := hpo
    have hK : paK O x y = 0 := by unfold paK; rw [if_neg (fun z => z q1.1), if_neg (fun z => z.elim q1.2.1 (fun z => by have := q1.2.2; omega))]
    replace h63 : M1 63 = .inl (cy 2, 1, .inr (.inl f)) := (q4 63 (by decide)).trans h63
    refine m_i2l (pc' := 9) (v := r9.toInt64) C dL_patch_8 rfl rfl ?_
    refine m_last (pc' := 10) (E' := .inl (cy 2, 1, .inr (.inl (va_up f 0 r9.toInt64)))) C 63 (by omega) h63 (vp_in_nI (by decide) (by decide)) rfl dL_patch_9 rfl (fun M2 g2 F2 => ?_)
    refine m_goto (tgt := 21) C dL_patch_10 (by decide) ?_
    refine m_iconst (pc' := 22) (v := nI 0) C dL_patch_21 (by decide) rfl ?_
    refine m_iret C hrt0 hlk0 rfl dL_patch_22 ?_
    have hX1 : isX cy ad n M1 T xs cnt lim (O.set (cl x) (lowb y)) B fp ot := hX.page q3 (by rw [List.length_set]; exact h6) h7 q4
    simp only [sel0 hK]
    exact ⟨by rw [hK], ⟨_, g2, fun _ => by rw [va_up_self, q2]⟩, hX1.fr F2 (by decide), (q4.sub (by decide)).tr (F2.sub (by decide))⟩
set_option maxHeartbeats 4000000 in
set_option maxRecDepth 100000 in
theorem kL_words {l : Launch} {D : va_G} {cy : Nat → ClassId} {ad : Nat → Nat} {n : Nat} {A : Nat → Prop} (hI : mI ad n A) {M : Nat → va_E} (hst9 : l.stackTraces = false) (hn : 64 ≤ n) {T : List Nat} {xs : Nat → Arg} {cnt lim : Nat} {O B : List Nat} {fp ot : Int32} (hX : isX cy ad n M T xs cnt lim O B fp ot) {f : Nat → Int64} (h63 : M 63 = .inl (cy 2, 1, .inr (.inl f))) (x y : Int32) {lt : Nat} (hlt6 : lt < 65536) (al : Bool) : mHi l yL_words (gWH yL_words cL_words 7 (some .int) [(0, 14, 17, 27)]) { frames := 7, cells := 1, slots := 6, locals := 174 } D cy ad n A [.ref (ad 0), .int (x), .int (nI lt), .int (y), .int (bI al), .ref (ad 63)] M (fun res M' => res = nI (wdK x y lt) ∧ (∃ f' : Nat → Int64, M' 63 = .inl (cy 2, 1, .inr (.inl f')) ∧ (wdK x y lt = 0 → f' 0 = (pgI lim (wDump B (cl x) lt (cl y) al)).toInt64)) ∧ isX cy ad n M' T xs cnt lim (sel (wdK x y lt) (pgO lim (wDump B (cl x) lt (cl y) al)) O) B fp ot ∧ Fr (63 :: clsS) M M') := by
  obtain ⟨h1, h2, h3, h4, ⟨en, tk, od, hps⟩, h6, h7, h8, h9, h10, ⟨w1, w2, w3, h11⟩, ⟨F4, h12⟩, h13, ⟨t0, i0, h14⟩, ⟨Fd, h15⟩, L5, h16⟩ := id hX
  obtain ⟨p1, p2, p3, p4, ⟨ds, lg0, p5⟩, p6, ⟨P7, p7⟩, P8, p8⟩ := id hps
  refine m_entryH (cc := cL_words) (maxL := 7) (ret := (some .int)) (hh := [(0, 14, 17, 27)]) (own := RL) (lv := [(0, .ref (ad 0)), (1, .int (x)), (2, .int (nI lt)), (3, .int (y)), (4, .int (bI al)), (5, .ref (ad 63))]) hI (by decide) rfl rfl (Nat.le_of_ble_eq_true rfl) rfl (fun pX eX sX mX aX bX tX cX C hrt0 hlk0 hz9 hx9 htb9 => ?_)
  refine m_aload (pc' := 2) C dL_words_0 5 rfl rfl ?_
  refine m_iconst (pc' := 3) (v := nI 0) C dL_words_2 (by decide) rfl ?_
  refine m_aload_n (pc' := 4) C dL_words_3 rfl 0 rfl rfl ?_
  refine m_iload_n (pc' := 5) C dL_words_4 rfl 1 rfl rfl ?_
  refine m_iload_n (pc' := 6) C dL_words_5 rfl 2 rfl rfl ?_
  refine m_iload_n (pc' := 7) C dL_words_6 rfl 3 rfl rfl ?_
  refine m_iload (pc' := 9) C dL_words_7 4 rfl rfl ?_
  refine m_callXi (pc' := 12) (As := [.int (x), .int (nI lt), .int (y), .int (bI al)]) (rest := [.int (nI 0), .ref (ad 63)]) C (kX11_words hI hst9 (by omega) h2 p3 h8 h9 h12 p5 h11 x y hlt6 al) hz9 hx9 (cwV 4 C.1.2.2.2.2 (hGoodV tm_4_81 tm_4_82 tm_4_83 tm_1_1 tm_4_84) rfl rfl rfl (by decide +kernel) ⟨by decide, by decide⟩) (by omega) h2 rfl rfl rfl (Nat.le_of_ble_eq_true rfl) dL_words_9 rfl ⟨by decide, by decide⟩ (fun E M1 q9 hpx => ?_) (fun r9 M1 hpo => ?_)
  · obtain ⟨⟨q1, rfl⟩, rfl⟩ := hpx
    refine ⟨17, ⟨[], ⟨0, 14, 17, 27⟩, [], "java/lang/IllegalArgumentException", htb9, (fun z hz => by cases hz), by decide, by decide, hW_of tm_4_35, by decide, rfl⟩, ?_⟩
    refine m_astore (pc' := 19) (lv' := [(6, (.ref q9)), (0, .ref (ad 0)), (1, .int (x)), (2, .int (nI lt)), (3, .int (y)), (4, .int (bI al)), (5, .ref (ad 63))]) C dL_words_17 (by decide) rfl rfl ?_
    refine m_iconst (pc' := 20) (v := nI 1) C dL_words_19 (by decide) rfl ?_
    have hK : wdK x y lt = 1 := by unfold wdK; rw [if_neg (fun z => q1.elim (fun w => by rw [z.1] at w; cases w) (fun w => by rw [z.2] at w; cases w))]
    have hKn : ¬ wdK x y lt = 0 := by rw [hK]; decide
    refine m_iret C hrt0 hlk0 rfl dL_words_20 ?_
    simp only [sel1 hKn]
    exact ⟨by rw [hK], ⟨f, h63, fun z => absurd z hKn⟩, hX, Fr.rf⟩
  · obtain ⟨q1, q2, q3, q5, q6, q7, q4⟩ := hpo
    have hK : wdK x y lt = 0 := by unfold wdK; rw [if_pos q1]
    replace h63 : M1 63 = .inl (cy 2, 1, .inr (.inl f)) := (q4 63 (by decide)).trans h63
    refine m_i2l (pc' := 13) (v := r9.toInt64) C dL_words_12 rfl rfl ?_
    refine m_last (pc' := 14) (E' := .inl (cy 2, 1, .inr (.inl (va_up f 0 r9.toInt64)))) C 63 (by omega) h63 (vp_in_nI (by decide) (by decide)) rfl dL_words_13 rfl (fun M2 g2 F2 => ?_)
    refine m_goto (tgt := 21) C dL_words_14 (by decide) ?_
    refine m_iconst (pc' := 22) (v := nI 0) C dL_words_21 (by decide) rfl ?_
    refine m_iret C hrt0 hlk0 rfl dL_words_22 ?_
    have hX1 : isX cy ad n M1 T xs cnt lim (pgO lim (wDump B (cl x) lt (cl y) al)) B fp ot := hX.pageW q3 (pgO_le _ _) q5 q6 q7 q4
    simp only [sel0 hK]
    exact ⟨by rw [hK], ⟨_, g2, fun _ => by rw [va_up_self, q2]⟩, hX1.fr F2 (by decide), (q4.sub (by decide)).tr (F2.sub (by decide))⟩
set_option maxHeartbeats 4000000 in
set_option maxRecDepth 100000 in
theorem kL_pairs {l : Launch} {D : va_G} {cy : Nat → ClassId} {ad : Nat → Nat} {n : Nat} {A : Nat → Prop} (hI : mI ad n A) {M : Nat → va_E} (hst9 : l.stackTraces = false) (hn : 64 ≤ n) {T : List Nat} {xs : Nat → Arg} {cnt lim : Nat} {O B : List Nat} {fp ot : Int32} (hX : isX cy ad n M T xs cnt lim O B fp ot) {f : Nat → Int64} (h63 : M 63 = .inl (cy 2, 1, .inr (.inl f))) (x g : Int32) (lg : Bool) : mHi l yL_pairs (gWH yL_pairs cL_pairs 6 (some .int) [(0, 12, 15, 27)]) { frames := 7, cells := 1, slots := 6, locals := 127 } D cy ad n A [.ref (ad 0), .int (x), .int (g), .int (bI lg), .ref (ad 63)] M (fun res M' => res = nI (prK x g) ∧ (∃ f' : Nat → Int64, M' 63 = .inl (cy 2, 1, .inr (.inl f')) ∧ (prK x g = 0 → f' 0 = (pgI lim (pDump B (cl x) (grN x g) lg)).toInt64)) ∧ isX cy ad n M' T xs cnt lim (sel (prK x g) (pgO lim (pDump B (cl x) (grN x g) lg)) O) B fp ot ∧ Fr (63 :: clsS) M M') := by
  obtain ⟨h1, h2, h3, h4, ⟨en, tk, od, hps⟩, h6, h7, h8, h9, h10, ⟨w1, w2, w3, h11⟩, ⟨F4, h12⟩, h13, ⟨t0, i0, h14⟩, ⟨Fd, h15⟩, L5, h16⟩ := id hX
  obtain ⟨p1, p2, p3, p4, ⟨ds, lg0, p5⟩, p6, ⟨P7, p7⟩, P8, p8⟩ := id hps
  refine m_entryH (cc := cL_pairs) (maxL := 6) (ret := (some .int)) (hh := [(0, 12, 15, 27)]) (own := RL) (lv := [(0, .ref (ad 0)), (1, .int (x)), (2, .int (g)), (3, .int (bI lg)), (4, .ref (ad 63))]) hI (by decide) rfl rfl (Nat.le_of_ble_eq_true rfl) rfl (fun pX eX sX mX aX bX tX cX C hrt0 hlk0 hz9 hx9 htb9 => ?_)
  refine m_aload (pc' := 2) C dL_pairs_0 4 rfl rfl ?_
  refine m_iconst (pc' := 3) (v := nI 0) C dL_pairs_2 (by decide) rfl ?_
  refine m_aload_n (pc' := 4) C dL_pairs_3 rfl 0 rfl rfl ?_
  refine m_iload_n (pc' := 5) C dL_pairs_4 rfl 1 rfl rfl ?_
  refine m_iload_n (pc' := 6) C dL_pairs_5 rfl 2 rfl rfl ?_
  refine m_iload_n (pc' := 7) C dL_pairs_6 rfl 3 rfl rfl ?_
  refine m_callXi (pc' := 10) (As := [.int (x), .int (g), .int (bI lg)]) (rest := [.int (nI 0), .ref (ad 63)]) C (kX11_pairs hI hst9 (by omega) h2 p3 h8 h9 p5 h13 x g lg) hz9 hx9 (cwV 3 C.1.2.2.2.2 (hGoodV tm_4_157 tm_4_158 tm_4_159 tm_1_1 tm_4_160) rfl rfl rfl (by decide +kernel) ⟨by decide, by decide⟩) (by omega) h2 rfl rfl rfl (Nat.le_of_ble_eq_true rfl) dL_pairs_7 rfl ⟨by decide, by decide⟩ (fun E M1 q9 hpx => ?_) (fun r9 M1 hpo => ?_)
  · obtain ⟨⟨q1, rfl⟩, rfl⟩ := hpx
    refine ⟨15, ⟨[], ⟨0, 12, 15, 27⟩, [], "java/lang/IllegalArgumentException", htb9, (fun z hz => by cases hz), by decide, by decide, hW_of tm_4_35, by decide, rfl⟩, ?_⟩
    refine m_astore (pc' := 17) (lv' := [(5, (.ref q9)), (0, .ref (ad 0)), (1, .int (x)), (2, .int (g)), (3, .int (bI lg)), (4, .ref (ad 63))]) C dL_pairs_15 (by decide) rfl rfl ?_
    refine m_iconst (pc' := 18) (v := nI 1) C dL_pairs_17 (by decide) rfl ?_
    have hK : prK x g = 1 := by unfold prK; rw [if_neg (by rw [q1]; decide)]
    have hKn : ¬ prK x g = 0 := by rw [hK]; decide
    refine m_iret C hrt0 hlk0 rfl dL_pairs_18 ?_
    simp only [sel1 hKn]
    exact ⟨by rw [hK], ⟨f, h63, fun z => absurd z hKn⟩, hX, Fr.rf⟩
  · obtain ⟨q1, q2, q3, q5, q4⟩ := hpo
    have hK : prK x g = 0 := by unfold prK; rw [if_pos q1]
    replace h63 : M1 63 = .inl (cy 2, 1, .inr (.inl f)) := (q4 63 (by decide)).trans h63
    refine m_i2l (pc' := 11) (v := r9.toInt64) C dL_pairs_10 rfl rfl ?_
    refine m_last (pc' := 12) (E' := .inl (cy 2, 1, .inr (.inl (va_up f 0 r9.toInt64)))) C 63 (by omega) h63 (vp_in_nI (by decide) (by decide)) rfl dL_pairs_11 rfl (fun M2 g2 F2 => ?_)
    refine m_goto (tgt := 19) C dL_pairs_12 (by decide) ?_
    refine m_iconst (pc' := 20) (v := nI 0) C dL_pairs_19 (by decide) rfl ?_
    refine m_iret C hrt0 hlk0 rfl dL_pairs_20 ?_
    have hX1 : isX cy ad n M1 T xs cnt lim (pgO lim (pDump B (cl x) (grN x g) lg)) B fp ot := hX.pageP q3 (pgO_le _ _) q5 q4
    simp only [sel0 hK]
    exact ⟨by rw [hK], ⟨_, g2, fun _ => by rw [va_up_self, q2]⟩, hX1.fr F2 (by decide), (q4.sub (by decide)).tr (F2.sub (by decide))⟩
set_option maxHeartbeats 4000000 in
set_option maxRecDepth 100000 in
theorem kL_back {l : Launch} {D : va_G} {cy : Nat → ClassId} {ad : Nat → Nat} {n : Nat} {A : Nat → Prop} (hI : mI ad n A) {M : Nat → va_E} (hst9 : l.stackTraces = false) (hn : 64 ≤ n) {T : List Nat} {xs : Nat → Arg} {cnt lim : Nat} {O B : List Nat} {fp ot : Int32} (hX : isX cy ad n M T xs cnt lim O B fp ot) {f : Nat → Int64} (h63 : M 63 = .inl (cy 2, 1, .inr (.inl f))) (x g : Int32) : mHi l yL_back (gWH yL_back cL_back 5 (some .int) [(0, 10, 13, 27)]) { frames := 7, cells := 1, slots := 6, locals := 139 } D cy ad n A [.ref (ad 0), .int (x), .int (g), .ref (ad 63)] M (fun res M' => res = nI (prK x g) ∧ (∃ f' : Nat → Int64, M' 63 = .inl (cy 2, 1, .inr (.inl f')) ∧ (prK x g = 0 → f' 0 = (bkI O x g).toInt64)) ∧ isX cy ad n M' T xs cnt lim O (sel (prK x g) (bkB O x g B) B) (sel (prK x g) (bkF O x g) fp) ot ∧ Fr (63 :: clsS) M M') := by
  obtain ⟨h1, h2, h3, h4, ⟨en, tk, od, hps⟩, h6, h7, h8, h9, h10, ⟨w1, w2, w3, h11⟩, ⟨F4, h12⟩, h13, ⟨t0, i0, h14⟩, ⟨Fd, h15⟩, L5, h16⟩ := id hX
  obtain ⟨p1, p2, p3, p4, ⟨ds, lg0, p5⟩, p6, ⟨P7, p7⟩, P8, p8⟩ := id hps
  refine m_entryH (cc := cL_back) (maxL := 5) (ret := (some .int)) (hh := [(0, 10, 13, 27)]) (own := RL) (lv := [(0, .ref (ad 0)), (1, .int (x)), (2, .int (g)), (3, .ref (ad 63))]) hI (by decide) rfl rfl (Nat.le_of_ble_eq_true rfl) rfl (fun pX eX sX mX aX bX tX cX C hrt0 hlk0 hz9 hx9 htb9 => ?_)
  refine m_aload_n (pc' := 1) C dL_back_0 rfl 3 rfl rfl ?_
  refine m_iconst (pc' := 2) (v := nI 0) C dL_back_1 (by decide) rfl ?_
  refine m_aload_n (pc' := 3) C dL_back_2 rfl 0 rfl rfl ?_
  refine m_iload_n (pc' := 4) C dL_back_3 rfl 1 rfl rfl ?_
  refine m_iload_n (pc' := 5) C dL_back_4 rfl 2 rfl rfl ?_
  refine m_callXi (pc' := 8) (As := [.int (x), .int (g)]) (rest := [.int (nI 0), .ref (ad 63)]) C (kX11_back hI hst9 (by omega) h2 h14 p3 h6 h8 h9 h16 h15 x g) hz9 hx9 (cwV 2 C.1.2.2.2.2 (hGoodV tm_4_197 tm_4_198 tm_4_199 tm_1_1 tm_4_200) rfl rfl rfl (by decide +kernel) ⟨by decide, by decide⟩) (by omega) h2 rfl rfl rfl (Nat.le_of_ble_eq_true rfl) dL_back_5 rfl ⟨by decide, by decide⟩ (fun E M1 q9 hpx => ?_) (fun r9 M1 hpo => ?_)
  · obtain ⟨⟨q1, rfl⟩, rfl⟩ := hpx
    refine ⟨13, ⟨[], ⟨0, 10, 13, 27⟩, [], "java/lang/IllegalArgumentException", htb9, (fun z hz => by cases hz), by decide, by decide, hW_of tm_4_35, by decide, rfl⟩, ?_⟩
    refine m_astore (pc' := 15) (lv' := [(4, (.ref q9)), (0, .ref (ad 0)), (1, .int (x)), (2, .int (g)), (3, .ref (ad 63))]) C dL_back_13 (by decide) rfl rfl ?_
    refine m_iconst (pc' := 16) (v := nI 1) C dL_back_15 (by decide) rfl ?_
    have hK : prK x g = 1 := by unfold prK; rw [if_neg (by rw [q1]; decide)]
    have hKn : ¬ prK x g = 0 := by rw [hK]; decide
    refine m_iret C hrt0 hlk0 rfl dL_back_16 ?_
    simp only [sel1 hKn]
    exact ⟨by rw [hK], ⟨f, h63, fun z => absurd z hKn⟩, hX, Fr.rf⟩
  · obtain ⟨q1, q2, q3, q5, q6, q7, q8, q4⟩ := hpo
    have hK : prK x g = 0 := by unfold prK; rw [if_pos q1]
    replace h63 : M1 63 = .inl (cy 2, 1, .inr (.inl f)) := (q4 63 (by decide)).trans h63
    refine m_i2l (pc' := 9) (v := r9.toInt64) C dL_back_8 rfl rfl ?_
    refine m_last (pc' := 10) (E' := .inl (cy 2, 1, .inr (.inl (va_up f 0 r9.toInt64)))) C 63 (by omega) h63 (vp_in_nI (by decide) (by decide)) rfl dL_back_9 rfl (fun M2 g2 F2 => ?_)
    refine m_goto (tgt := 17) C dL_back_10 (by decide) ?_
    refine m_iconst (pc' := 18) (v := nI 0) C dL_back_17 (by decide) rfl ?_
    refine m_iret C hrt0 hlk0 rfl dL_back_18 ?_
    have hX1 : isX cy ad n M1 T xs cnt lim O (bkB O x g B) (bkF O x g) ot := hX.back q3 q5 (bkB_le h9) q6 q7 q8 q4
    simp only [sel0 hK]
    exact ⟨by rw [hK], ⟨_, g2, fun _ => by rw [va_up_self, q2]⟩, hX1.fr F2 (by decide), (q4.sub (by decide)).tr (F2.sub (by decide))⟩
