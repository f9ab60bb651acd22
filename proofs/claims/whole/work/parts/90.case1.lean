set_option maxHeartbeats 4000000 in
set_option maxRecDepth 100000 in
theorem law_0 {p : Program} {l : Launch} {e : Env} {s : State} {m : MethodId} {args : Array Value} {below : List Frame} {meth : Method} {c : Code} {cells slots : Nat} {Q : State → Prop} {D : va_G} {cy : Nat → ClassId} {ad : Nat → Nat} {A : Nat → Prop} {M : Nat → va_E} (C : mC p s m args c cL_law 7 RL GT D cy ad 64 A) (hst9 : l.stackTraces = false) (hz9 : zK A s s.heap) (hx9 : xK s) {b L : Nat} {xs : Nat → Int32} (hS9 : va_X b L xs s s.heap) (hb1 : b < s.heap.size) (hb2 : ¬ A b) {i : Nat} (hi : i + 6 ≤ L) (hL : L ≤ 3072) (hIS : isS cy ad M) (hcs : cells + 1 ≤ 601024 ∧ slots + 6 ≤ 7293034) (kk : ∀ M' : Nat → va_E, isS cy ad M' → mW p l e { frames := 10, cells := 601024, slots := 7293034, locals := 396 } s m args below meth c D A 7 (cells + 1) (slots + 6) Q ad 64 M' 1073 [(0, (.ref b)), (1, .ref (ad 0)), (2, .ref (ad 52)), (3, .ref (ad 63)), (4, .int (nI i))] []) : mW p l e { frames := 10, cells := 601024, slots := 7293034, locals := 396 } s m args below meth c D A 7 cells slots Q ad 64 M 128 [(0, (.ref b)), (1, .ref (ad 0)), (2, .ref (ad 52)), (3, .ref (ad 63)), (4, .int (nI i))] [] := by
  obtain ⟨⟨T, ys, cnt, lim, O, B, fp, ot, hX, hM⟩, f0, h63⟩ := hIS
  refine m_aload_n (pc' := 129) C dL_law_128 rfl 1 rfl rfl ?_
  refine m_aload_n (pc' := 130) C dL_law_129 rfl 0 rfl rfl ?_
  refine m_iload (pc' := 132) C dL_law_130 4 rfl rfl ?_
  refine m_iconst (pc' := 133) (v := nI 1) C dL_law_132 (by decide) rfl ?_
  refine m_iadd (pc' := 134) (v := nI (i + 1)) C dL_law_133 (nI_add _ _) rfl ?_
  refine m_sald (pc' := 135) (v := xs (i + 1)) C hS9 hb1 hb2 (vp_in_nI (by omega) (by omega)) (by rw [nI_clamp (by omega)]) dL_law_134 rfl ?_
  refine m_aload_n (pc' := 136) C dL_law_135 rfl 0 rfl rfl ?_
  refine m_iload (pc' := 138) C dL_law_136 4 rfl rfl ?_
  refine m_iconst (pc' := 139) (v := nI 2) C dL_law_138 (by decide) rfl ?_
  refine m_iadd (pc' := 140) (v := nI (i + 2)) C dL_law_139 (nI_add _ _) rfl ?_
  refine m_sald (pc' := 141) (v := xs (i + 2)) C hS9 hb1 hb2 (vp_in_nI (by omega) (by omega)) (by rw [nI_clamp (by omega)]) dL_law_140 rfl ?_
  refine m_aload_n (pc' := 142) C dL_law_141 rfl 0 rfl rfl ?_
  refine m_iload (pc' := 144) C dL_law_142 4 rfl rfl ?_
  refine m_iconst (pc' := 145) (v := nI 3) C dL_law_144 (by decide) rfl ?_
  refine m_iadd (pc' := 146) (v := nI (i + 3)) C dL_law_145 (nI_add _ _) rfl ?_
  refine m_sald (pc' := 147) (v := xs (i + 3)) C hS9 hb1 hb2 (vp_in_nI (by omega) (by omega)) (by rw [nI_clamp (by omega)]) dL_law_146 rfl ?_
  refine m_aload_n (pc' := 148) C dL_law_147 rfl 0 rfl rfl ?_
  refine m_iload (pc' := 150) C dL_law_148 4 rfl rfl ?_
  refine m_iconst (pc' := 151) (v := nI 4) C dL_law_150 (by decide) rfl ?_
  refine m_iadd (pc' := 152) (v := nI (i + 4)) C dL_law_151 (nI_add _ _) rfl ?_
  refine m_sald (pc' := 153) (v := xs (i + 4)) C hS9 hb1 hb2 (vp_in_nI (by omega) (by omega)) (by rw [nI_clamp (by omega)]) dL_law_152 rfl ?_
  refine m_aload_n (pc' := 154) C dL_law_153 rfl 0 rfl rfl ?_
  refine m_iload (pc' := 156) C dL_law_154 4 rfl rfl ?_
  refine m_iconst (pc' := 157) (v := nI 5) C dL_law_156 (by decide) rfl ?_
  refine m_iadd (pc' := 158) (v := nI (i + 5)) C dL_law_157 (nI_add _ _) rfl ?_
  refine m_sald (pc' := 159) (v := xs (i + 5)) C hS9 hb1 hb2 (vp_in_nI (by omega) (by omega)) (by rw [nI_clamp (by omega)]) dL_law_158 rfl ?_
  refine m_aload_n (pc' := 160) C dL_law_159 rfl 3 rfl rfl ?_
  refine m_callH (pc' := 163) (As := [.ref (ad 0), .int (xs (i + 1)), .int (xs (i + 2)), .int (xs (i + 3)), .int (xs (i + 4)), .int (xs (i + 5)), .ref (ad 63)]) (rest := []) C (kL_type C.2.2.1 hst9 (by decide) hX h63 (xs (i + 1)) (xs (i + 2)) (xs (i + 3)) (xs (i + 4)) (xs (i + 5))) hz9 hx9 (vx_cwSW 7 C.1.2.2.2.2 (goodSL tm_3_167 tm_3_168 tm_1_0 th_type) rfl rfl rfl (by decide +kernel) ⟨by decide, by decide⟩) rfl rfl (Nat.le_of_ble_eq_true rfl) dL_law_160 rfl ⟨by show _ ≤ 601024; omega, by show _ ≤ 7293034; omega⟩ (fun r_1 M1 q_1 => ?_)
  obtain ⟨e_1, ⟨f_1, h63_1, hv_1⟩, hX_1, F_1⟩ := q_1
  replace e_1 := e_1.symm
  subst e_1
  have hM_1 := hM.fr F_1 (by decide)
  refine m_istore (pc' := 165) (lv' := [(5, .int (nI (tyK T (xs (i + 1)) (xs (i + 2)) (xs (i + 3)) (xs (i + 4)) (xs (i + 5))))), (0, (.ref b)), (1, .ref (ad 0)), (2, .ref (ad 52)), (3, .ref (ad 63)), (4, .int (nI i))]) C dL_law_163 (by decide) rfl rfl ?_
  refine m_aload_n (pc' := 166) C dL_law_165 rfl 3 rfl rfl ?_
  refine m_aload_n (pc' := 167) C dL_law_166 rfl 1 rfl rfl ?_
  refine m_iload (pc' := 169) C dL_law_167 5 rfl rfl ?_
  refine m_iconst (pc' := 170) (v := nI 1) C dL_law_169 (by decide) rfl ?_
  refine m_iadd (pc' := 171) (v := nI (i + 1)) C dL_law_170 (nI_add _ _) rfl ?_
  refine m_sald (pc' := 172) (v := xs (i + 1)) C hS9 hb1 hb2 (vp_in_nI (by omega) (by omega)) (by rw [nI_clamp (by omega)]) dL_law_171 rfl ?_
  refine m_aload_n (pc' := 173) C dL_law_172 rfl 1 rfl rfl ?_
  refine m_iload (pc' := 175) C dL_law_173 5 rfl rfl ?_
  refine m_iconst (pc' := 176) (v := nI 2) C dL_law_175 (by decide) rfl ?_
  refine m_iadd (pc' := 177) (v := nI (i + 2)) C dL_law_176 (nI_add _ _) rfl ?_
  refine m_sald (pc' := 178) (v := xs (i + 2)) C hS9 hb1 hb2 (vp_in_nI (by omega) (by omega)) (by rw [nI_clamp (by omega)]) dL_law_177 rfl ?_
  refine m_aload_n (pc' := 179) C dL_law_178 rfl 1 rfl rfl ?_
  refine m_iload (pc' := 181) C dL_law_179 5 rfl rfl ?_
  refine m_iconst (pc' := 182) (v := nI 3) C dL_law_181 (by decide) rfl ?_
  refine m_iadd (pc' := 183) (v := nI (i + 3)) C dL_law_182 (nI_add _ _) rfl ?_
  refine m_sald (pc' := 184) (v := xs (i + 3)) C hS9 hb1 hb2 (vp_in_nI (by omega) (by omega)) (by rw [nI_clamp (by omega)]) dL_law_183 rfl ?_
  refine m_aload_n (pc' := 185) C dL_law_184 rfl 1 rfl rfl ?_
  refine m_iload (pc' := 187) C dL_law_185 5 rfl rfl ?_
  refine m_iconst (pc' := 188) (v := nI 4) C dL_law_187 (by decide) rfl ?_
  refine m_iadd (pc' := 189) (v := nI (i + 4)) C dL_law_188 (nI_add _ _) rfl ?_
  refine m_sald (pc' := 190) (v := xs (i + 4)) C hS9 hb1 hb2 (vp_in_nI (by omega) (by omega)) (by rw [nI_clamp (by omega)]) dL_law_189 rfl ?_
  refine m_aload_n (pc' := 191) C dL_law_190 rfl 1 rfl rfl ?_
  refine m_iload (pc' := 193) C dL_law_191 5 rfl rfl ?_
  refine m_iconst (pc' := 194) (v := nI 5) C dL_law_193 (by decide) rfl ?_
  refine m_iadd (pc' := 195) (v := nI (i + 5)) C dL_law_194 (nI_add _ _) rfl ?_
  refine m_sald (pc' := 196) (v := xs (i + 5)) C hS9 hb1 hb2 (vp_in_nI (by omega) (by omega)) (by rw [nI_clamp (by omega)]) dL_law_195 rfl ?_
  refine m_callVi (pc' := 199) (As := [.int (xs (i + 1)), .int (xs (i + 2)), .int (xs (i + 3)), .int (xs (i + 4)), .int (xs (i + 5))]) (rest := []) C (kX12_type C.2.2.1 (by decide) (by decide) hM_1 (xs (i + 1)) (xs (i + 2)) (xs (i + 3)) (xs (i + 4)) (xs (i + 5))) (cwV 5 C.1.2.2.2.2 (goodVL tm_5_166 tm_5_167 tm_5_168 tm_1_13 tm_5_169) rfl rfl rfl (by decide +kernel) ⟨by decide, by decide⟩) (by decide) hM_1.1 rfl rfl rfl (Nat.le_of_ble_eq_true rfl) dL_law_196 rfl ⟨by show _ ≤ 601024; omega, by show _ ≤ 7293034; omega⟩ (fun r_2 M2 q_2 => ?_)
  obtain ⟨hr_2, h100_2, hM_2, F_2⟩ := q_2
  have hX_2 := hX_1.fr F_2 (by decide)
  have h63_2 := (F_2 63 (by decide)).trans h63_1
  refine m_istore (pc' := 201) (lv' := [(6, .int (r_2)), (5, .int (nI (tyK T (xs (i + 1)) (xs (i + 2)) (xs (i + 3)) (xs (i + 4)) (xs (i + 5))))), (0, (.ref b)), (1, .ref (ad 0)), (2, .ref (ad 52)), (3, .ref (ad 63)), (4, .int (nI i))]) C dL_law_199 (by decide) rfl rfl ?_
  refine m_aload_n (pc' := 202) C dL_law_201 rfl 4 rfl rfl ?_
  refine m_callVi (pc' := 205) (As := []) (rest := []) C (kX12_thrown C.2.2.1 (by decide) (by decide) hM_2.1 h100_2) (cwV 0 C.1.2.2.2.2 (goodVL tm_5_162 tm_5_163 tm_5_164 tm_1_13 tm_5_165) rfl rfl rfl (by decide +kernel) ⟨by decide, by decide⟩) (by decide) hM_2.1 rfl rfl rfl (Nat.le_of_ble_eq_true rfl) dL_law_202 rfl ⟨by show _ ≤ 601024; omega, by show _ ≤ 7293034; omega⟩ (fun r_3 N_3 q_3 => ?_)
  obtain ⟨e_3, E_3⟩ := q_3
  replace E_3 := E_3.symm
  subst E_3
  replace e_3 := e_3.symm
  subst e_3
  refine m_iload (pc' := 207) C dL_law_205 1 rfl rfl ?_
  refine m_icmp_eq (pc' := 210) (tgt := 212) C dL_law_207 (by decide) rfl (fun c_207 => ?_) (fun c_207 => ?_)
  · refine m_iload (pc' := 214) C dL_law_212 1 rfl rfl ?_
    refine m_if_ne (pc' := 217) (tgt := 229) C dL_law_214 (by decide) rfl (fun c_214 => ?_) (fun c_214 => ?_)
    · refine m_goto (tgt := 1073) C dL_law_229 (by decide) ?_
      refine m_lv [2, 3, 4, 5, 6] rfl ?_
      exact kk _ ⟨⟨_, _, _, _, _, _, _, _, hX_2, hM_2⟩, ⟨_, h63_2⟩⟩
    · have hKb : tyK T (xs (i + 1)) (xs (i + 2)) (xs (i + 3)) (xs (i + 4)) (xs (i + 5)) ≤ 2 := by unfold tyK; (repeat' split) <;> omega
      have hK0 : tyK T (xs (i + 1)) (xs (i + 2)) (xs (i + 3)) (xs (i + 4)) (xs (i + 5)) = 0 := (nI_eq (by omega) (by decide)).mp ((Classical.not_not.mp c_214).trans nI_0.symm)
      refine m_aload_n (pc' := 218) C dL_law_217 rfl 5 rfl rfl ?_
      refine m_iconst (pc' := 219) (v := nI 0) C dL_law_218 (by decide) rfl ?_
      refine m_lald (pc' := 220) (v := f_1 0) C 63 (by decide) h63_2 (vp_in_nI (by decide) (by decide)) rfl dL_law_219 rfl ?_
      refine m_iload (pc' := 222) C dL_law_220 0 rfl rfl ?_
      refine m_i2l (pc' := 223) (v := (r_2).toInt64) C dL_law_222 rfl rfl ?_
      refine m_lcmp (pc' := 224) (v := lg_cmp (f_1 0) ((r_2).toInt64)) C dL_law_223 rfl rfl ?_
      refine m_if_eq (pc' := 227) (tgt := 229) C dL_law_224 (by decide) rfl (fun c_224 => ?_) (fun c_224 => ?_)
      · refine m_goto (tgt := 1073) C dL_law_229 (by decide) ?_
        refine m_lv [2, 3, 4, 5, 6] rfl ?_
        exact kk _ ⟨⟨_, _, _, _, _, _, _, _, hX_2, hM_2⟩, ⟨_, h63_2⟩⟩
      · exact absurd (by rw [hv_1 hK0, hr_2 hK0]; exact lcmp_self _) c_224
  · exact absurd rfl c_207
set_option maxHeartbeats 4000000 in
set_option maxRecDepth 100000 in
theorem law_1 {p : Program} {l : Launch} {e : Env} {s : State} {m : MethodId} {args : Array Value} {below : List Frame} {meth : Method} {c : Code} {cells slots : Nat} {Q : State → Prop} {D : va_G} {cy : Nat → ClassId} {ad : Nat → Nat} {A : Nat → Prop} {M : Nat → va_E} (C : mC p s m args c cL_law 7 RL GT D cy ad 64 A) (hst9 : l.stackTraces = false) (hz9 : zK A s s.heap) (hx9 : xK s) {b L : Nat} {xs : Nat → Int32} (hS9 : va_X b L xs s s.heap) (hb1 : b < s.heap.size) (hb2 : ¬ A b) {i : Nat} (hi : i + 6 ≤ L) (hL : L ≤ 3072) (hIS : isS cy ad M) (hcs : cells + 1 ≤ 601024 ∧ slots + 6 ≤ 7293034) (kk : ∀ M' : Nat → va_E, isS cy ad M' → mW p l e { frames := 10, cells := 601024, slots := 7293034, locals := 396 } s m args below meth c D A 7 (cells + 1) (slots + 6) Q ad 64 M' 1073 [(0, (.ref b)), (1, .ref (ad 0)), (2, .ref (ad 52)), (3, .ref (ad 63)), (4, .int (nI i))] []) : mW p l e { frames := 10, cells := 601024, slots := 7293034, locals := 396 } s m args below meth c D A 7 cells slots Q ad 64 M 232 [(0, (.ref b)), (1, .ref (ad 0)), (2, .ref (ad 52)), (3, .ref (ad 63)), (4, .int (nI i))] [] := by
  obtain ⟨⟨T, ys, cnt, lim, O, B, fp, ot, hX, hM⟩, f0, h63⟩ := hIS
  refine m_aload_n (pc' := 233) C dL_law_232 rfl 1 rfl rfl ?_
  obtain ⟨h1, h2, h3, h4, ⟨en, tk, od, hps⟩, h6, h7, h8, h9, h10, h11, h12, h13, h14, h15⟩ := id hX
  obtain ⟨p1, p2, p3, p4, p5⟩ := id hps
  refine m_callVi (pc' := 236) (As := []) (rest := []) C (kX11_erase C.2.2.1 (by decide) h2 h3 h4) (cwV 0 C.1.2.2.2.2 (goodVL tm_2_90 tm_2_91 tm_2_92 tm_1_1 tm_2_93) rfl rfl rfl (by decide +kernel) ⟨by decide, by decide⟩) (by decide) h2 rfl rfl rfl (Nat.le_of_ble_eq_true rfl) dL_law_233 rfl ⟨by show _ ≤ 601024; omega, by show _ ≤ 7293034; omega⟩ (fun r_1 M1 q_1 => ?_)
  obtain ⟨e_1, q3, q4⟩ := q_1
  have hX_1 := hX.line q3 (Nat.zero_le _) (q4.sub (by decide))
  have hM_1 := hM.fr q4 (by decide)
  have h63_1 := (q4 63 (by decide)).trans h63
  replace e_1 := e_1.symm
  subst e_1
  refine m_aload_n (pc' := 237) C dL_law_236 rfl 2 rfl rfl ?_
  refine m_callVi (pc' := 240) (As := []) (rest := [.int (nI T.length)]) C (kX12_erase C.2.2.1 (by decide) (by decide) hM_1 ) (cwV 0 C.1.2.2.2.2 (goodVL tm_5_178 tm_5_179 tm_5_180 tm_1_13 tm_5_181) rfl rfl rfl (by decide +kernel) ⟨by decide, by decide⟩) (by decide) hM_1.1 rfl rfl rfl (Nat.le_of_ble_eq_true rfl) dL_law_237 rfl ⟨by show _ ≤ 601024; omega, by show _ ≤ 7293034; omega⟩ (fun r_2 M2 q_2 => ?_)
  obtain ⟨hr_2, h100_2, hM_2, F_2⟩ := q_2
  have hX_2 := hX_1.fr F_2 (by decide)
  have h63_2 := (F_2 63 (by decide)).trans h63_1
  replace hr_2 := hr_2.symm
  subst hr_2
  refine m_icmp_eq (pc' := 243) (tgt := 1073) C dL_law_240 (by decide) rfl (fun c_240 => ?_) (fun c_240 => ?_)
  · refine m_wid (k := cells + 1) (q := slots + 6) (by omega) (by omega) ?_
    refine m_lv [0, 1, 2, 3, 4] rfl ?_
    exact kk _ ⟨⟨_, _, _, _, _, _, _, _, hX_2, hM_2⟩, ⟨_, h63_2⟩⟩
  · exact absurd rfl c_240
set_option maxHeartbeats 4000000 in
set_option maxRecDepth 100000 in
theorem law_2 {p : Program} {l : Launch} {e : Env} {s : State} {m : MethodId} {args : Array Value} {below : List Frame} {meth : Method} {c : Code} {cells slots : Nat} {Q : State → Prop} {D : va_G} {cy : Nat → ClassId} {ad : Nat → Nat} {A : Nat → Prop} {M : Nat → va_E} (C : mC p s m args c cL_law 7 RL GT D cy ad 64 A) (hst9 : l.stackTraces = false) (hz9 : zK A s s.heap) (hx9 : xK s) {b L : Nat} {xs : Nat → Int32} (hS9 : va_X b L xs s s.heap) (hb1 : b < s.heap.size) (hb2 : ¬ A b) {i : Nat} (hi : i + 6 ≤ L) (hL : L ≤ 3072) (hIS : isS cy ad M) (hcs : cells + 1 ≤ 601024 ∧ slots + 6 ≤ 7293034) (kk : ∀ M' : Nat → va_E, isS cy ad M' → mW p l e { frames := 10, cells := 601024, slots := 7293034, locals := 396 } s m args below meth c D A 7 (cells + 1) (slots + 6) Q ad 64 M' 1073 [(0, (.ref b)), (1, .ref (ad 0)), (2, .ref (ad 52)), (3, .ref (ad 63)), (4, .int (nI i))] []) : mW p l e { frames := 10, cells := 601024, slots := 7293034, locals := 396 } s m args below meth c D A 7 cells slots Q ad 64 M 245 [(0, (.ref b)), (1, .ref (ad 0)), (2, .ref (ad 52)), (3, .ref (ad 63)), (4, .int (nI i))] [] := by
  obtain ⟨⟨T, ys, cnt, lim, O, B, fp, ot, hX, hM⟩, f0, h63⟩ := hIS
  refine m_aload_n (pc' := 246) C dL_law_245 rfl 1 rfl rfl ?_
  refine m_aload_n (pc' := 247) C dL_law_246 rfl 0 rfl rfl ?_
  refine m_iload (pc' := 249) C dL_law_247 4 rfl rfl ?_
  refine m_iconst (pc' := 250) (v := nI 1) C dL_law_249 (by decide) rfl ?_
  refine m_iadd (pc' := 251) (v := nI (i + 1)) C dL_law_250 (nI_add _ _) rfl ?_
  refine m_sald (pc' := 252) (v := xs (i + 1)) C hS9 hb1 hb2 (vp_in_nI (by omega) (by omega)) (by rw [nI_clamp (by omega)]) dL_law_251 rfl ?_
  refine m_i2l (pc' := 253) (v := (xs (i + 1)).toInt64) C dL_law_252 rfl rfl ?_
  refine m_bipush (pc' := 255) (v := nI 32) C dL_law_253 (by decide) rfl ?_
  refine m_lshl (pc' := 256) (v := ((xs (i + 1)).toInt64) <<< (((nI 32)).toInt64 &&& 63)) C dL_law_255 rfl rfl ?_
  refine m_aload_n (pc' := 257) C dL_law_256 rfl 0 rfl rfl ?_
  refine m_iload (pc' := 259) C dL_law_257 4 rfl rfl ?_
  refine m_iconst (pc' := 260) (v := nI 2) C dL_law_259 (by decide) rfl ?_
  refine m_iadd (pc' := 261) (v := nI (i + 2)) C dL_law_260 (nI_add _ _) rfl ?_
  refine m_sald (pc' := 262) (v := xs (i + 2)) C hS9 hb1 hb2 (vp_in_nI (by omega) (by omega)) (by rw [nI_clamp (by omega)]) dL_law_261 rfl ?_
  refine m_i2l (pc' := 263) (v := (xs (i + 2)).toInt64) C dL_law_262 rfl rfl ?_
  refine m_ldc2 (pc' := 266) (v := (4294967295)) C dL_law_263 (inL_of tm_6_156) rfl ?_
  refine m_land (pc' := 267) (v := ((xs (i + 2)).toInt64) &&& (4294967295)) C dL_law_266 rfl rfl ?_
  refine m_lor (pc' := 268) (v := (((xs (i + 1)).toInt64) <<< (((nI 32)).toInt64 &&& 63)) ||| (((xs (i + 2)).toInt64) &&& (4294967295))) C dL_law_267 rfl rfl ?_
  refine m_aload_n (pc' := 269) C dL_law_268 rfl 3 rfl rfl ?_
  refine m_callH (pc' := 272) (As := [.ref (ad 0), .long ((((xs (i + 1)).toInt64) <<< (((nI 32)).toInt64 &&& 63)) ||| (((xs (i + 2)).toInt64) &&& (4294967295))), .ref (ad 63)]) (rest := []) C (kL_number C.2.2.1 hst9 (by decide) hX h63 ((((xs (i + 1)).toInt64) <<< (((nI 32)).toInt64 &&& 63)) ||| (((xs (i + 2)).toInt64) &&& (4294967295)))) hz9 hx9 (vx_cwSW 3 C.1.2.2.2.2 (goodSL tm_4_9 tm_4_10 tm_1_0 th_number) rfl rfl rfl (by decide +kernel) ⟨by decide, by decide⟩) rfl rfl (Nat.le_of_ble_eq_true rfl) dL_law_269 rfl ⟨by show _ ≤ 601024; omega, by show _ ≤ 7293034; omega⟩ (fun r_1 M1 q_1 => ?_)
  obtain ⟨e_1, ⟨f_1, h63_1, hv_1⟩, hX_1, F_1⟩ := q_1
  replace e_1 := e_1.symm
  subst e_1
  have hM_1 := hM.fr F_1 (by decide)
  refine m_istore (pc' := 274) (lv' := [(5, .int (nI (nuK cnt))), (0, (.ref b)), (1, .ref (ad 0)), (2, .ref (ad 52)), (3, .ref (ad 63)), (4, .int (nI i))]) C dL_law_272 (by decide) rfl rfl ?_
  refine m_aload_n (pc' := 275) C dL_law_274 rfl 3 rfl rfl ?_
  refine m_aload_n (pc' := 276) C dL_law_275 rfl 1 rfl rfl ?_
  refine m_iload (pc' := 278) C dL_law_276 5 rfl rfl ?_
  refine m_iconst (pc' := 279) (v := nI 1) C dL_law_278 (by decide) rfl ?_
  refine m_iadd (pc' := 280) (v := nI (i + 1)) C dL_law_279 (nI_add _ _) rfl ?_
  refine m_sald (pc' := 281) (v := xs (i + 1)) C hS9 hb1 hb2 (vp_in_nI (by omega) (by omega)) (by rw [nI_clamp (by omega)]) dL_law_280 rfl ?_
  refine m_i2l (pc' := 282) (v := (xs (i + 1)).toInt64) C dL_law_281 rfl rfl ?_
  refine m_bipush (pc' := 284) (v := nI 32) C dL_law_282 (by decide) rfl ?_
  refine m_lshl (pc' := 285) (v := ((xs (i + 1)).toInt64) <<< (((nI 32)).toInt64 &&& 63)) C dL_law_284 rfl rfl ?_
  refine m_aload_n (pc' := 286) C dL_law_285 rfl 1 rfl rfl ?_
  refine m_iload (pc' := 288) C dL_law_286 5 rfl rfl ?_
  refine m_iconst (pc' := 289) (v := nI 2) C dL_law_288 (by decide) rfl ?_
  refine m_iadd (pc' := 290) (v := nI (i + 2)) C dL_law_289 (nI_add _ _) rfl ?_
  refine m_sald (pc' := 291) (v := xs (i + 2)) C hS9 hb1 hb2 (vp_in_nI (by omega) (by omega)) (by rw [nI_clamp (by omega)]) dL_law_290 rfl ?_
  refine m_i2l (pc' := 292) (v := (xs (i + 2)).toInt64) C dL_law_291 rfl rfl ?_
  refine m_ldc2 (pc' := 295) (v := (4294967295)) C dL_law_292 (inL_of tm_6_156) rfl ?_
  refine m_land (pc' := 296) (v := ((xs (i + 2)).toInt64) &&& (4294967295)) C dL_law_295 rfl rfl ?_
  refine m_lor (pc' := 297) (v := (((xs (i + 1)).toInt64) <<< (((nI 32)).toInt64 &&& 63)) ||| (((xs (i + 2)).toInt64) &&& (4294967295))) C dL_law_296 rfl rfl ?_
  refine m_callVi (pc' := 300) (As := [.long ((((xs (i + 1)).toInt64) <<< (((nI 32)).toInt64 &&& 63)) ||| (((xs (i + 2)).toInt64) &&& (4294967295)))]) (rest := []) C (kX12_number C.2.2.1 (by decide) (by decide) hM_1 ((((xs (i + 1)).toInt64) <<< (((nI 32)).toInt64 &&& 63)) ||| (((xs (i + 2)).toInt64) &&& (4294967295)))) (cwV 1 C.1.2.2.2.2 (goodVL tm_5_182 tm_5_183 tm_5_184 tm_1_13 tm_5_185) rfl rfl rfl (by decide +kernel) ⟨by decide, by decide⟩) (by decide) hM_1.1 rfl rfl rfl (Nat.le_of_ble_eq_true rfl) dL_law_297 rfl ⟨by show _ ≤ 601024; omega, by show _ ≤ 7293034; omega⟩ (fun r_2 M2 q_2 => ?_)
  obtain ⟨hr_2, h100_2, hM_2, F_2⟩ := q_2
  have hX_2 := hX_1.fr F_2 (by decide)
  have h63_2 := (F_2 63 (by decide)).trans h63_1
  refine m_istore (pc' := 302) (lv' := [(6, .int (r_2)), (5, .int (nI (nuK cnt))), (0, (.ref b)), (1, .ref (ad 0)), (2, .ref (ad 52)), (3, .ref (ad 63)), (4, .int (nI i))]) C dL_law_300 (by decide) rfl rfl ?_
  refine m_aload_n (pc' := 303) C dL_law_302 rfl 4 rfl rfl ?_
  refine m_callVi (pc' := 306) (As := []) (rest := []) C (kX12_thrown C.2.2.1 (by decide) (by decide) hM_2.1 h100_2) (cwV 0 C.1.2.2.2.2 (goodVL tm_5_162 tm_5_163 tm_5_164 tm_1_13 tm_5_165) rfl rfl rfl (by decide +kernel) ⟨by decide, by decide⟩) (by decide) hM_2.1 rfl rfl rfl (Nat.le_of_ble_eq_true rfl) dL_law_303 rfl ⟨by show _ ≤ 601024; omega, by show _ ≤ 7293034; omega⟩ (fun r_3 N_3 q_3 => ?_)
  obtain ⟨e_3, E_3⟩ := q_3
  replace E_3 := E_3.symm
  subst E_3
  replace e_3 := e_3.symm
  subst e_3
  refine m_iload (pc' := 308) C dL_law_306 1 rfl rfl ?_
  refine m_icmp_eq (pc' := 311) (tgt := 313) C dL_law_308 (by decide) rfl (fun c_308 => ?_) (fun c_308 => ?_)
  · refine m_iload (pc' := 315) C dL_law_313 1 rfl rfl ?_
    refine m_if_ne (pc' := 318) (tgt := 330) C dL_law_315 (by decide) rfl (fun c_315 => ?_) (fun c_315 => ?_)
    · refine m_goto (tgt := 1073) C dL_law_330 (by decide) ?_
      refine m_lv [2, 3, 4, 5, 6] rfl ?_
      exact kk _ ⟨⟨_, _, _, _, _, _, _, _, hX_2, hM_2⟩, ⟨_, h63_2⟩⟩
    · have hKb : nuK cnt ≤ 2 := by unfold nuK; (repeat' split) <;> omega
      have hK0 : nuK cnt = 0 := (nI_eq (by omega) (by decide)).mp ((Classical.not_not.mp c_315).trans nI_0.symm)
      refine m_aload_n (pc' := 319) C dL_law_318 rfl 5 rfl rfl ?_
      refine m_iconst (pc' := 320) (v := nI 0) C dL_law_319 (by decide) rfl ?_
      refine m_lald (pc' := 321) (v := f_1 0) C 63 (by decide) h63_2 (vp_in_nI (by decide) (by decide)) rfl dL_law_320 rfl ?_
      refine m_iload (pc' := 323) C dL_law_321 0 rfl rfl ?_
      refine m_i2l (pc' := 324) (v := (r_2).toInt64) C dL_law_323 rfl rfl ?_
      refine m_lcmp (pc' := 325) (v := lg_cmp (f_1 0) ((r_2).toInt64)) C dL_law_324 rfl rfl ?_
      refine m_if_eq (pc' := 328) (tgt := 330) C dL_law_325 (by decide) rfl (fun c_325 => ?_) (fun c_325 => ?_)
      · refine m_goto (tgt := 1073) C dL_law_330 (by decide) ?_
        refine m_lv [2, 3, 4, 5, 6] rfl ?_
        exact kk _ ⟨⟨_, _, _, _, _, _, _, _, hX_2, hM_2⟩, ⟨_, h63_2⟩⟩
      · exact absurd (by rw [hv_1 hK0, hr_2 hK0]; exact lcmp_self _) c_325
  · exact absurd rfl c_308
set_option maxHeartbeats 4000000 in
set_option maxRecDepth 100000 in
theorem law_3 {p : Program} {l : Launch} {e : Env} {s : State} {m : MethodId} {args : Array Value} {below : List Frame} {meth : Method} {c : Code} {cells slots : Nat} {Q : State → Prop} {D : va_G} {cy : Nat → ClassId} {ad : Nat → Nat} {A : Nat → Prop} {M : Nat → va_E} (C : mC p s m args c cL_law 7 RL GT D cy ad 64 A) (hst9 : l.stackTraces = false) (hz9 : zK A s s.heap) (hx9 : xK s) {b L : Nat} {xs : Nat → Int32} (hS9 : va_X b L xs s s.heap) (hb1 : b < s.heap.size) (hb2 : ¬ A b) {i : Nat} (hi : i + 6 ≤ L) (hL : L ≤ 3072) (hIS : isS cy ad M) (hcs : cells + 1 ≤ 601024 ∧ slots + 6 ≤ 7293034) (kk : ∀ M' : Nat → va_E, isS cy ad M' → mW p l e { frames := 10, cells := 601024, slots := 7293034, locals := 396 } s m args below meth c D A 7 (cells + 1) (slots + 6) Q ad 64 M' 1073 [(0, (.ref b)), (1, .ref (ad 0)), (2, .ref (ad 52)), (3, .ref (ad 63)), (4, .int (nI i))] []) : mW p l e { frames := 10, cells := 601024, slots := 7293034, locals := 396 } s m args below meth c D A 7 cells slots Q ad 64 M 333 [(0, (.ref b)), (1, .ref (ad 0)), (2, .ref (ad 52)), (3, .ref (ad 63)), (4, .int (nI i))] [] := by
  obtain ⟨⟨T, ys, cnt, lim, O, B, fp, ot, hX, hM⟩, f0, h63⟩ := hIS
  refine m_aload_n (pc' := 334) C dL_law_333 rfl 1 rfl rfl ?_
  refine m_aload_n (pc' := 335) C dL_law_334 rfl 3 rfl rfl ?_
  refine m_callH (pc' := 338) (As := [.ref (ad 0), .ref (ad 63)]) (rest := []) C (kL_text C.2.2.1 hst9 (by decide) hX h63 ) hz9 hx9 (vx_cwSW 2 C.1.2.2.2.2 (goodSL tm_4_20 tm_4_21 tm_1_0 th_text) rfl rfl rfl (by decide +kernel) ⟨by decide, by decide⟩) rfl rfl (Nat.le_of_ble_eq_true rfl) dL_law_335 rfl ⟨by show _ ≤ 601024; omega, by show _ ≤ 7293034; omega⟩ (fun r_1 M1 q_1 => ?_)
  obtain ⟨e_1, ⟨f_1, h63_1, hv_1⟩, hX_1, F_1⟩ := q_1
  replace e_1 := e_1.symm
  subst e_1
  have hM_1 := hM.fr F_1 (by decide)
  refine m_istore (pc' := 340) (lv' := [(5, .int (nI (nuK cnt))), (0, (.ref b)), (1, .ref (ad 0)), (2, .ref (ad 52)), (3, .ref (ad 63)), (4, .int (nI i))]) C dL_law_338 (by decide) rfl rfl ?_
  refine m_aload_n (pc' := 341) C dL_law_340 rfl 3 rfl rfl ?_
  refine m_callVi (pc' := 344) (As := []) (rest := []) C (kX12_text C.2.2.1 (by decide) (by decide) hM_1 ) (cwV 0 C.1.2.2.2.2 (goodVL tm_5_186 tm_5_187 tm_5_188 tm_1_13 tm_5_189) rfl rfl rfl (by decide +kernel) ⟨by decide, by decide⟩) (by decide) hM_1.1 rfl rfl rfl (Nat.le_of_ble_eq_true rfl) dL_law_341 rfl ⟨by show _ ≤ 601024; omega, by show _ ≤ 7293034; omega⟩ (fun r_2 M2 q_2 => ?_)
  obtain ⟨hr_2, h100_2, hM_2, F_2⟩ := q_2
  have hX_2 := hX_1.fr F_2 (by decide)
  have h63_2 := (F_2 63 (by decide)).trans h63_1
  refine m_istore (pc' := 346) (lv' := [(6, .int (r_2)), (5, .int (nI (nuK cnt))), (0, (.ref b)), (1, .ref (ad 0)), (2, .ref (ad 52)), (3, .ref (ad 63)), (4, .int (nI i))]) C dL_law_344 (by decide) rfl rfl ?_
  refine m_aload_n (pc' := 347) C dL_law_346 rfl 4 rfl rfl ?_
  refine m_callVi (pc' := 350) (As := []) (rest := []) C (kX12_thrown C.2.2.1 (by decide) (by decide) hM_2.1 h100_2) (cwV 0 C.1.2.2.2.2 (goodVL tm_5_162 tm_5_163 tm_5_164 tm_1_13 tm_5_165) rfl rfl rfl (by decide +kernel) ⟨by decide, by decide⟩) (by decide) hM_2.1 rfl rfl rfl (Nat.le_of_ble_eq_true rfl) dL_law_347 rfl ⟨by show _ ≤ 601024; omega, by show _ ≤ 7293034; omega⟩ (fun r_3 N_3 q_3 => ?_)
  obtain ⟨e_3, E_3⟩ := q_3
  replace E_3 := E_3.symm
  subst E_3
  replace e_3 := e_3.symm
  subst e_3
  refine m_iload (pc' := 352) C dL_law_350 1 rfl rfl ?_
  refine m_icmp_eq (pc' := 355) (tgt := 357) C dL_law_352 (by decide) rfl (fun c_352 => ?_) (fun c_352 => ?_)
  · refine m_iload (pc' := 359) C dL_law_357 1 rfl rfl ?_
    refine m_if_ne (pc' := 362) (tgt := 374) C dL_law_359 (by decide) rfl (fun c_359 => ?_) (fun c_359 => ?_)
    · refine m_goto (tgt := 1073) C dL_law_374 (by decide) ?_
      refine m_lv [2, 3, 4, 5, 6] rfl ?_
      exact kk _ ⟨⟨_, _, _, _, _, _, _, _, hX_2, hM_2⟩, ⟨_, h63_2⟩⟩
    · have hKb : nuK cnt ≤ 2 := by unfold nuK; (repeat' split) <;> omega
      have hK0 : nuK cnt = 0 := (nI_eq (by omega) (by decide)).mp ((Classical.not_not.mp c_359).trans nI_0.symm)
      refine m_aload_n (pc' := 363) C dL_law_362 rfl 5 rfl rfl ?_
      refine m_iconst (pc' := 364) (v := nI 0) C dL_law_363 (by decide) rfl ?_
      refine m_lald (pc' := 365) (v := f_1 0) C 63 (by decide) h63_2 (vp_in_nI (by decide) (by decide)) rfl dL_law_364 rfl ?_
      refine m_iload (pc' := 367) C dL_law_365 0 rfl rfl ?_
      refine m_i2l (pc' := 368) (v := (r_2).toInt64) C dL_law_367 rfl rfl ?_
      refine m_lcmp (pc' := 369) (v := lg_cmp (f_1 0) ((r_2).toInt64)) C dL_law_368 rfl rfl ?_
      refine m_if_eq (pc' := 372) (tgt := 374) C dL_law_369 (by decide) rfl (fun c_369 => ?_) (fun c_369 => ?_)
      · refine m_goto (tgt := 1073) C dL_law_374 (by decide) ?_
        refine m_lv [2, 3, 4, 5, 6] rfl ?_
        exact kk _ ⟨⟨_, _, _, _, _, _, _, _, hX_2, hM_2⟩, ⟨_, h63_2⟩⟩
      · exact absurd (by rw [hv_1 hK0, hr_2 hK0]; exact lcmp_self _) c_369
  · exact absurd rfl c_352
set_option maxHeartbeats 4000000 in
set_option maxRecDepth 100000 in
theorem law_4 {p : Program} {l : Launch} {e : Env} {s : State} {m : MethodId} {args : Array Value} {below : List Frame} {meth : Method} {c : Code} {cells slots : Nat} {Q : State → Prop} {D : va_G} {cy : Nat → ClassId} {ad : Nat → Nat} {A : Nat → Prop} {M : Nat → va_E} (C : mC p s m args c cL_law 7 RL GT D cy ad 64 A) (hst9 : l.stackTraces = false) (hz9 : zK A s s.heap) (hx9 : xK s) {b L : Nat} {xs : Nat → Int32} (hS9 : va_X b L xs s s.heap) (hb1 : b < s.heap.size) (hb2 : ¬ A b) {i : Nat} (hi : i + 6 ≤ L) (hL : L ≤ 3072) (hIS : isS cy ad M) (hcs : cells + 1 ≤ 601024 ∧ slots + 6 ≤ 7293034) (kk : ∀ M' : Nat → va_E, isS cy ad M' → mW p l e { frames := 10, cells := 601024, slots := 7293034, locals := 396 } s m args below meth c D A 7 (cells + 1) (slots + 6) Q ad 64 M' 1073 [(0, (.ref b)), (1, .ref (ad 0)), (2, .ref (ad 52)), (3, .ref (ad 63)), (4, .int (nI i))] []) : mW p l e { frames := 10, cells := 601024, slots := 7293034, locals := 396 } s m args below meth c D A 7 cells slots Q ad 64 M 377 [(0, (.ref b)), (1, .ref (ad 0)), (2, .ref (ad 52)), (3, .ref (ad 63)), (4, .int (nI i))] [] := by
  obtain ⟨⟨T, ys, cnt, lim, O, B, fp, ot, hX, hM⟩, f0, h63⟩ := hIS
  refine m_aload_n (pc' := 378) C dL_law_377 rfl 1 rfl rfl ?_
  obtain ⟨h1, h2, h3, h4, ⟨en, tk, od, hps⟩, h6, h7, h8, h9, h10, h11, h12, h13, h14, h15⟩ := id hX
  obtain ⟨p1, p2, p3, p4, p5⟩ := id hps
  refine m_callVi (pc' := 381) (As := []) (rest := []) C (kX11_none C.2.2.1 (by decide) h2 p4) (cwV 0 C.1.2.2.2.2 (goodVL tm_2_102 tm_2_103 tm_2_104 tm_1_1 tm_2_105) rfl rfl rfl (by decide +kernel) ⟨by decide, by decide⟩) (by decide) h2 rfl rfl rfl (Nat.le_of_ble_eq_true rfl) dL_law_378 rfl ⟨by show _ ≤ 601024; omega, by show _ ≤ 7293034; omega⟩ (fun r_1 M1 q_1 => ?_)
  obtain ⟨e_1, q3, q4⟩ := q_1
  have hX_1 := hX.args9 q3 q4
  have hM_1 := hM.fr q4 (by decide)
  have h63_1 := (q4 63 (by decide)).trans h63
  replace e_1 := e_1.symm
  subst e_1
  refine m_aload_n (pc' := 382) C dL_law_381 rfl 2 rfl rfl ?_
  refine m_callVi (pc' := 385) (As := []) (rest := [.int (nI cnt)]) C (kX12_none C.2.2.1 (by decide) (by decide) hM_1 ) (cwV 0 C.1.2.2.2.2 (goodVL tm_5_190 tm_5_191 tm_5_192 tm_1_13 tm_5_193) rfl rfl rfl (by decide +kernel) ⟨by decide, by decide⟩) (by decide) hM_1.1 rfl rfl rfl (Nat.le_of_ble_eq_true rfl) dL_law_382 rfl ⟨by show _ ≤ 601024; omega, by show _ ≤ 7293034; omega⟩ (fun r_2 M2 q_2 => ?_)
  obtain ⟨hr_2, h100_2, hM_2, F_2⟩ := q_2
  have hX_2 := hX_1.fr F_2 (by decide)
  have h63_2 := (F_2 63 (by decide)).trans h63_1
  replace hr_2 := hr_2.symm
  subst hr_2
  refine m_icmp_eq (pc' := 388) (tgt := 1073) C dL_law_385 (by decide) rfl (fun c_385 => ?_) (fun c_385 => ?_)
  · refine m_wid (k := cells + 1) (q := slots + 6) (by omega) (by omega) ?_
    refine m_lv [0, 1, 2, 3, 4] rfl ?_
    exact kk _ ⟨⟨_, _, _, _, _, _, _, _, hX_2, hM_2⟩, ⟨_, h63_2⟩⟩
  · exact absurd rfl c_385
