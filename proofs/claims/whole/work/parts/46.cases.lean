theorem XL_56 : cwdL 56 y_L_function b_L_function 4 hh_L_function 3 := ⟨⟨gw_in 135 (by decide +kernel) (by decide +kernel), gw_in 136 (by decide +kernel) (by decide +kernel), gw_in 27 (by decide +kernel) (by decide +kernel), gw_in 137 (by decide +kernel) (by decide +kernel)⟩, by decide, by decide, by decide +kernel⟩
set_option maxHeartbeats 4000000 in
set_option maxRecDepth 100000 in
theorem L_case_function {p : Program} {l : Launch} {e : Env} {s : State} {m : MethodId} {below : List Frame} {meth : Method} {c : Code} {H : Heap} {locs : List Loc} {cells slots : Nat} {Q : State → Prop} {ls : Array Slot} {D : va_G} {cs : Nat → Nat} {A : Nat → Prop} {b L : Nat} {xs : Nat → Int32} {x o out i : Nat} {ad : Nat → Nat} {h1 h3 : pw_H} {v : Nat → Int64} {S : St} (hst : l.stackTraces = false) (F : CallFix p m c code 7 s #[Value.ref b] gws R_L) (hX : va_X b L xs s s.heap) (hbl : b < s.heap.size) (hbA : ¬ A b) (hL : L ≤ 2560) (hA : ∀ q, s.heap.size ≤ q → A q) (hK : kon D cs A s s.heap)
    (hI : LI D cs A s x o out ad H locs h1 v h3 S) (hl : lv_has ls 7 (lLo b x o out i)) (hi : i + 4 < L) (hf : cells + 9 ≤ room_1.cells ∧ slots + 53 ≤ room_1.slots)
    (kk : ∀ (H : Heap) (locs : List Loc) (ls : Array Slot) (h1 : pw_H) (v : Nat → Int64) (h3 : pw_H) (S : St), LI D cs A s x o out ad H locs h1 v h3 S → lv_has ls 7 (lLo b x o out i) → W p l e room_1 s m #[Value.ref b] below meth c H locs (cells + 9) (slots + 53) Q (F0 m 786 ls [])) :
    W p l e room_1 s m #[Value.ref b] below meth c H locs cells slots Q (F0 m 100 ls []) := by
  obtain ⟨hP1, hPo, hP3, e1, e2, e3, hE, hR, hS⟩ := hI
  obtain ⟨g, gr, nf, pT, nt, hs, hw⟩ := id hE
  obtain ⟨⟨bA, bB, bC, bD, bE, bF, bG, bH, bI, bJ⟩, bT⟩ := id hw
  refine lv_aload_n F.1 F.2.1 d_law_100 rfl (lv_at hl 3 rfl) ?_
  refine L_arg (d := 1) 4 0 F hX hbl hbA hL hS hl rfl rfl (by omega) (by decide) d_law_101 d_law_102 d_law_104 d_law_105 d_law_106 ?_
  refine lv_aload_n F.1 F.2.1 d_law_107 rfl (lv_at hl 1 rfl) ?_
  refine pl_ci (pl_S F (c_L_function l D cs (sA (un h1 (oM (cs 2) out v)) H) h1 hst x out v e1 S hE (xs (i + 1))) XL_56 rfl rfl ⟨by decide, by decide⟩ (hP1.join hPo e1) hA hK hS rfl hl.1 rfl (Nat.le_of_ble_eq_true rfl) d_law_108 ⟨by omega, by omega⟩) (hP1.join hPo e1) hA hS hP3 (un_djt e2 e3) (fun r1 u H locs hq hPu hP3 dj hS => ?_)
  obtain ⟨u1, w1, rfl, f1, hE1, hr1, hv1⟩ := hq
  have hP1 : pw D vwCl A u1 H := hPu.sub (fun q e he => un_l he)
  have hPo : pw D vwCl A (oM (cs 2) out w1) H := hPu.sub (fun q e he => un_r f1 he)
  refine lv_istore F.1 F.2.1 d_law_111 hl (by decide) rfl (fun ls hl => ?_)
  replace hl : lv_has ls 7 ((5, .int r1) :: lLo b x o out i) := hl
  refine lv_aload_n F.1 F.2.1 d_law_113 rfl (lv_at hl 3 rfl) ?_
  refine L_arg (d := 1) 5 1 F hX hbl hbA hL hS hl rfl rfl (by omega) (by decide) d_law_114 d_law_115 d_law_117 d_law_118 d_law_119 ?_
  refine p3_ci (p3_V F (c_M_function l D cs (sA h3 H) h3 o ad S hR nf bA bD (xs (i + 1))) X_L_61 rfl rfl ⟨by decide, by decide⟩ hP3 hA hK hS hR.1 rfl rfl rfl hl.1 rfl (Nat.le_of_ble_eq_true rfl) d_law_120 ⟨by omega, by omega⟩) hP3 hA hS hP1 (djt_l dj).symm hPo (djt_r f1 dj).symm (fun r2 u3 H locs hq hP3 hP1 g1 hPo g2 hS => ?_)
  obtain ⟨hR3, hr3⟩ := hq
  refine lv_istore F.1 F.2.1 d_law_123 hl (by decide) rfl (fun ls hl => ?_)
  replace hl : lv_has ls 7 ((6, .int r2) :: (5, .int r1) :: lLo b x o out i) := hl
  exact W.widen (k := cells + 9) (n := slots + 53) (by omega) (by omega) (L_tail F hA hK ⟨hP1, hPo, hP3, f1, g1.symm, g2.symm, hE1, hR3, hS⟩ hl (th_Function.trans hr1.symm) (fun z9 => by rw [hv1 (hr1.symm.trans z9), hr3]) hf d_law_125 d_law_126 d_law_129 d_law_131 d_law_136 d_law_138 d_law_141 d_law_142 d_law_143 d_law_144 d_law_146 d_law_147 d_law_148 d_law_153 (by decide) (fun H locs hI => kk H locs ls _ _ _ _ hI (lv_sub hl [2, 3, 4, 5, 6] rfl)))
theorem XL_65 : cwdL 65 y_L_operation b_L_operation 7 hh_L_operation 6 := ⟨⟨gw_in 334 (by decide +kernel) (by decide +kernel), gw_in 335 (by decide +kernel) (by decide +kernel), gw_in 27 (by decide +kernel) (by decide +kernel), gw_in 336 (by decide +kernel) (by decide +kernel)⟩, by decide, by decide, by decide +kernel⟩
set_option maxHeartbeats 4000000 in
set_option maxRecDepth 100000 in
theorem L_case_operation {p : Program} {l : Launch} {e : Env} {s : State} {m : MethodId} {below : List Frame} {meth : Method} {c : Code} {H : Heap} {locs : List Loc} {cells slots : Nat} {Q : State → Prop} {ls : Array Slot} {D : va_G} {cs : Nat → Nat} {A : Nat → Prop} {b L : Nat} {xs : Nat → Int32} {x o out i : Nat} {ad : Nat → Nat} {h1 h3 : pw_H} {v : Nat → Int64} {S : St} (hst : l.stackTraces = false) (F : CallFix p m c code 7 s #[Value.ref b] gws R_L) (hX : va_X b L xs s s.heap) (hbl : b < s.heap.size) (hbA : ¬ A b) (hL : L ≤ 2560) (hA : ∀ q, s.heap.size ≤ q → A q) (hK : kon D cs A s s.heap)
    (hI : LI D cs A s x o out ad H locs h1 v h3 S) (hl : lv_has ls 7 (lLo b x o out i)) (hi : i + 4 < L) (hf : cells + 9 ≤ room_1.cells ∧ slots + 53 ≤ room_1.slots)
    (kk : ∀ (H : Heap) (locs : List Loc) (ls : Array Slot) (h1 : pw_H) (v : Nat → Int64) (h3 : pw_H) (S : St), LI D cs A s x o out ad H locs h1 v h3 S → lv_has ls 7 (lLo b x o out i) → W p l e room_1 s m #[Value.ref b] below meth c H locs (cells + 9) (slots + 53) Q (F0 m 786 ls [])) :
    W p l e room_1 s m #[Value.ref b] below meth c H locs cells slots Q (F0 m 156 ls []) := by
  obtain ⟨hP1, hPo, hP3, e1, e2, e3, hE, hR, hS⟩ := hI
  obtain ⟨g, gr, nf, pT, nt, hs, hw⟩ := id hE
  obtain ⟨⟨bA, bB, bC, bD, bE, bF, bG, bH, bI, bJ⟩, bT⟩ := id hw
  have hB : ∀ j, j < 56 → ¬ S 0 j = 0 → ∃ z, z ≤ 12 ∧ S 2 j = nI z := fun j hj h0 => by obtain ⟨z, hz, hz2, -⟩ := (bJ j hj ((bH j hj).resolve_left h0)).2; exact ⟨z, hz, hz2⟩
  by_cases hz : xs (i + 2) = 0
  · skip
    refine lv_aload_n F.1 F.2.1 d_law_156 rfl (lv_at hl 3 rfl) ?_
    refine L_arg (d := 1) 4 0 F hX hbl hbA hL hS hl rfl rfl (by omega) (by decide) d_law_157 d_law_158 d_law_160 d_law_161 d_law_162 ?_
    refine L_arg (d := 2) 4 0 F hX hbl hbA hL hS hl rfl rfl (by omega) (by decide) d_law_163 d_law_164 d_law_166 d_law_167 d_law_168 ?_
    refine lv_if_eq (tgt := 176) F.1 F.2.1 d_law_169 (by decide) (fun _ => ?_) (fun z9 => absurd hz z9)
    refine lv_iconst (v := 0) F.1 F.2.1 d_law_176 (by decide) ?_
    refine L_arg (d := 3) 4 0 F hX hbl hbA hL hS hl rfl rfl (by omega) (by decide) d_law_177 d_law_178 d_law_180 d_law_181 d_law_182 ?_
    refine L_arg (d := 4) 4 0 F hX hbl hbA hL hS hl rfl rfl (by omega) (by decide) d_law_183 d_law_184 d_law_186 d_law_187 d_law_188 ?_
    refine lv_aload_n F.1 F.2.1 d_law_189 rfl (lv_at hl 1 rfl) ?_
    refine pl_ci (pl_S F (c_L_operation l D cs (sA (un h1 (oM (cs 2) out v)) H) h1 hst x out v e1 S hE (xs (i + 1)) 0 (xs (i + 3)) (xs (i + 4))) XL_65 rfl rfl ⟨by decide, by decide⟩ (hP1.join hPo e1) hA hK hS rfl hl.1 rfl (Nat.le_of_ble_eq_true rfl) d_law_190 ⟨by omega, by omega⟩) (hP1.join hPo e1) hA hS hP3 (un_djt e2 e3) (fun r1 u H locs hq hPu hP3 dj hS => ?_)
    obtain ⟨u1, w1, rfl, f1, hE1, hr1, hv1⟩ := hq
    have hP1 : pw D vwCl A u1 H := hPu.sub (fun q e he => un_l he)
    have hPo : pw D vwCl A (oM (cs 2) out w1) H := hPu.sub (fun q e he => un_r f1 he)
    refine lv_istore F.1 F.2.1 d_law_193 hl (by decide) rfl (fun ls hl => ?_)
    replace hl : lv_has ls 7 ((5, .int r1) :: lLo b x o out i) := hl
    refine lv_aload_n F.1 F.2.1 d_law_195 rfl (lv_at hl 3 rfl) ?_
    refine L_arg (d := 1) 5 1 F hX hbl hbA hL hS hl rfl rfl (by omega) (by decide) d_law_196 d_law_197 d_law_199 d_law_200 d_law_201 ?_
    refine L_arg (d := 2) 5 1 F hX hbl hbA hL hS hl rfl rfl (by omega) (by decide) d_law_202 d_law_203 d_law_205 d_law_206 d_law_207 ?_
    refine lv_if_eq (tgt := 215) F.1 F.2.1 d_law_208 (by decide) (fun _ => ?_) (fun z9 => absurd hz z9)
    refine lv_iconst (v := 0) F.1 F.2.1 d_law_215 (by decide) ?_
    refine L_arg (d := 3) 5 1 F hX hbl hbA hL hS hl rfl rfl (by omega) (by decide) d_law_216 d_law_217 d_law_219 d_law_220 d_law_221 ?_
    refine L_arg (d := 4) 5 1 F hX hbl hbA hL hS hl rfl rfl (by omega) (by decide) d_law_222 d_law_223 d_law_225 d_law_226 d_law_227 ?_
    refine p3_ci (p3_V F (c_M_operation l D cs (sA h3 H) h3 o ad S hR hB (xs (i + 1)) 0 (xs (i + 3)) (xs (i + 4))) X_L_68 rfl rfl ⟨by decide, by decide⟩ hP3 hA hK hS hR.1 rfl rfl rfl hl.1 rfl (Nat.le_of_ble_eq_true rfl) d_law_228 ⟨by omega, by omega⟩) hP3 hA hS hP1 (djt_l dj).symm hPo (djt_r f1 dj).symm (fun r2 u3 H locs hq hP3 hP1 g1 hPo g2 hS => ?_)
    obtain ⟨hR3, hr3⟩ := hq
    refine lv_istore F.1 F.2.1 d_law_231 hl (by decide) rfl (fun ls hl => ?_)
    replace hl : lv_has ls 7 ((6, .int r2) :: (5, .int r1) :: lLo b x o out i) := hl
    exact W.widen (k := cells + 9) (n := slots + 53) (by omega) (by omega) (L_tail F hA hK ⟨hP1, hPo, hP3, f1, g1.symm, g2.symm, hE1, hR3, hS⟩ hl (th_Operation.trans hr1.symm) (fun z9 => by rw [hv1 (hr1.symm.trans z9), hr3]) hf d_law_233 d_law_234 d_law_237 d_law_239 d_law_244 d_law_246 d_law_249 d_law_250 d_law_251 d_law_252 d_law_254 d_law_255 d_law_256 d_law_261 (by decide) (fun H locs hI => kk H locs ls _ _ _ _ hI (lv_sub hl [2, 3, 4, 5, 6] rfl)))
  · skip
    refine lv_aload_n F.1 F.2.1 d_law_156 rfl (lv_at hl 3 rfl) ?_
    refine L_arg (d := 1) 4 0 F hX hbl hbA hL hS hl rfl rfl (by omega) (by decide) d_law_157 d_law_158 d_law_160 d_law_161 d_law_162 ?_
    refine L_arg (d := 2) 4 0 F hX hbl hbA hL hS hl rfl rfl (by omega) (by decide) d_law_163 d_law_164 d_law_166 d_law_167 d_law_168 ?_
    refine lv_if_eq (tgt := 176) F.1 F.2.1 d_law_169 (by decide) (fun z9 => absurd z9 hz) (fun _ => ?_)
    refine lv_iconst (v := 1) F.1 F.2.1 d_law_172 (by decide) ?_
    refine lv_goto (tgt := 177) F.1 F.2.1 d_law_173 (by decide) ?_
    refine L_arg (d := 3) 4 0 F hX hbl hbA hL hS hl rfl rfl (by omega) (by decide) d_law_177 d_law_178 d_law_180 d_law_181 d_law_182 ?_
    refine L_arg (d := 4) 4 0 F hX hbl hbA hL hS hl rfl rfl (by omega) (by decide) d_law_183 d_law_184 d_law_186 d_law_187 d_law_188 ?_
    refine lv_aload_n F.1 F.2.1 d_law_189 rfl (lv_at hl 1 rfl) ?_
    refine pl_ci (pl_S F (c_L_operation l D cs (sA (un h1 (oM (cs 2) out v)) H) h1 hst x out v e1 S hE (xs (i + 1)) 1 (xs (i + 3)) (xs (i + 4))) XL_65 rfl rfl ⟨by decide, by decide⟩ (hP1.join hPo e1) hA hK hS rfl hl.1 rfl (Nat.le_of_ble_eq_true rfl) d_law_190 ⟨by omega, by omega⟩) (hP1.join hPo e1) hA hS hP3 (un_djt e2 e3) (fun r1 u H locs hq hPu hP3 dj hS => ?_)
    obtain ⟨u1, w1, rfl, f1, hE1, hr1, hv1⟩ := hq
    have hP1 : pw D vwCl A u1 H := hPu.sub (fun q e he => un_l he)
    have hPo : pw D vwCl A (oM (cs 2) out w1) H := hPu.sub (fun q e he => un_r f1 he)
    refine lv_istore F.1 F.2.1 d_law_193 hl (by decide) rfl (fun ls hl => ?_)
    replace hl : lv_has ls 7 ((5, .int r1) :: lLo b x o out i) := hl
    refine lv_aload_n F.1 F.2.1 d_law_195 rfl (lv_at hl 3 rfl) ?_
    refine L_arg (d := 1) 5 1 F hX hbl hbA hL hS hl rfl rfl (by omega) (by decide) d_law_196 d_law_197 d_law_199 d_law_200 d_law_201 ?_
    refine L_arg (d := 2) 5 1 F hX hbl hbA hL hS hl rfl rfl (by omega) (by decide) d_law_202 d_law_203 d_law_205 d_law_206 d_law_207 ?_
    refine lv_if_eq (tgt := 215) F.1 F.2.1 d_law_208 (by decide) (fun z9 => absurd z9 hz) (fun _ => ?_)
    refine lv_iconst (v := 1) F.1 F.2.1 d_law_211 (by decide) ?_
    refine lv_goto (tgt := 216) F.1 F.2.1 d_law_212 (by decide) ?_
    refine L_arg (d := 3) 5 1 F hX hbl hbA hL hS hl rfl rfl (by omega) (by decide) d_law_216 d_law_217 d_law_219 d_law_220 d_law_221 ?_
    refine L_arg (d := 4) 5 1 F hX hbl hbA hL hS hl rfl rfl (by omega) (by decide) d_law_222 d_law_223 d_law_225 d_law_226 d_law_227 ?_
    refine p3_ci (p3_V F (c_M_operation l D cs (sA h3 H) h3 o ad S hR hB (xs (i + 1)) 1 (xs (i + 3)) (xs (i + 4))) X_L_68 rfl rfl ⟨by decide, by decide⟩ hP3 hA hK hS hR.1 rfl rfl rfl hl.1 rfl (Nat.le_of_ble_eq_true rfl) d_law_228 ⟨by omega, by omega⟩) hP3 hA hS hP1 (djt_l dj).symm hPo (djt_r f1 dj).symm (fun r2 u3 H locs hq hP3 hP1 g1 hPo g2 hS => ?_)
    obtain ⟨hR3, hr3⟩ := hq
    refine lv_istore F.1 F.2.1 d_law_231 hl (by decide) rfl (fun ls hl => ?_)
    replace hl : lv_has ls 7 ((6, .int r2) :: (5, .int r1) :: lLo b x o out i) := hl
    exact W.widen (k := cells + 9) (n := slots + 53) (by omega) (by omega) (L_tail F hA hK ⟨hP1, hPo, hP3, f1, g1.symm, g2.symm, hE1, hR3, hS⟩ hl (th_Operation.trans hr1.symm) (fun z9 => by rw [hv1 (hr1.symm.trans z9), hr3]) hf d_law_233 d_law_234 d_law_237 d_law_239 d_law_244 d_law_246 d_law_249 d_law_250 d_law_251 d_law_252 d_law_254 d_law_255 d_law_256 d_law_261 (by decide) (fun H locs hI => kk H locs ls _ _ _ _ hI (lv_sub hl [2, 3, 4, 5, 6] rfl)))
theorem XL_69 : cwdL 69 y_L_name b_L_name 5 hh_L_name 4 := ⟨⟨gw_in 378 (by decide +kernel) (by decide +kernel), gw_in 379 (by decide +kernel) (by decide +kernel), gw_in 27 (by decide +kernel) (by decide +kernel), gw_in 380 (by decide +kernel) (by decide +kernel)⟩, by decide, by decide, by decide +kernel⟩
set_option maxHeartbeats 4000000 in
set_option maxRecDepth 100000 in
theorem L_case_name {p : Program} {l : Launch} {e : Env} {s : State} {m : MethodId} {below : List Frame} {meth : Method} {c : Code} {H : Heap} {locs : List Loc} {cells slots : Nat} {Q : State → Prop} {ls : Array Slot} {D : va_G} {cs : Nat → Nat} {A : Nat → Prop} {b L : Nat} {xs : Nat → Int32} {x o out i : Nat} {ad : Nat → Nat} {h1 h3 : pw_H} {v : Nat → Int64} {S : St} (hst : l.stackTraces = false) (F : CallFix p m c code 7 s #[Value.ref b] gws R_L) (hX : va_X b L xs s s.heap) (hbl : b < s.heap.size) (hbA : ¬ A b) (hL : L ≤ 2560) (hA : ∀ q, s.heap.size ≤ q → A q) (hK : kon D cs A s s.heap)
    (hI : LI D cs A s x o out ad H locs h1 v h3 S) (hl : lv_has ls 7 (lLo b x o out i)) (hi : i + 4 < L) (hf : cells + 9 ≤ room_1.cells ∧ slots + 53 ≤ room_1.slots)
    (kk : ∀ (H : Heap) (locs : List Loc) (ls : Array Slot) (h1 : pw_H) (v : Nat → Int64) (h3 : pw_H) (S : St), LI D cs A s x o out ad H locs h1 v h3 S → lv_has ls 7 (lLo b x o out i) → W p l e room_1 s m #[Value.ref b] below meth c H locs (cells + 9) (slots + 53) Q (F0 m 786 ls [])) :
    W p l e room_1 s m #[Value.ref b] below meth c H locs cells slots Q (F0 m 264 ls []) := by
  obtain ⟨hP1, hPo, hP3, e1, e2, e3, hE, hR, hS⟩ := hI
  obtain ⟨g, gr, nf, pT, nt, hs, hw⟩ := id hE
  obtain ⟨⟨bA, bB, bC, bD, bE, bF, bG, bH, bI, bJ⟩, bT⟩ := id hw
  refine lv_aload_n F.1 F.2.1 d_law_264 rfl (lv_at hl 3 rfl) ?_
  refine L_arg (d := 1) 4 0 F hX hbl hbA hL hS hl rfl rfl (by omega) (by decide) d_law_265 d_law_266 d_law_268 d_law_269 d_law_270 ?_
  refine L_arg (d := 2) 4 0 F hX hbl hbA hL hS hl rfl rfl (by omega) (by decide) d_law_271 d_law_272 d_law_274 d_law_275 d_law_276 ?_
  refine lv_aload_n F.1 F.2.1 d_law_277 rfl (lv_at hl 1 rfl) ?_
  refine pl_ci (pl_S F (c_L_name l D cs (sA (un h1 (oM (cs 2) out v)) H) h1 hst x out v e1 S hE (xs (i + 1)) (xs (i + 2))) XL_69 rfl rfl ⟨by decide, by decide⟩ (hP1.join hPo e1) hA hK hS rfl hl.1 rfl (Nat.le_of_ble_eq_true rfl) d_law_278 ⟨by omega, by omega⟩) (hP1.join hPo e1) hA hS hP3 (un_djt e2 e3) (fun r1 u H locs hq hPu hP3 dj hS => ?_)
  obtain ⟨u1, w1, rfl, f1, hE1, hr1, hv1⟩ := hq
  have hP1 : pw D vwCl A u1 H := hPu.sub (fun q e he => un_l he)
  have hPo : pw D vwCl A (oM (cs 2) out w1) H := hPu.sub (fun q e he => un_r f1 he)
  refine lv_istore F.1 F.2.1 d_law_281 hl (by decide) rfl (fun ls hl => ?_)
  replace hl : lv_has ls 7 ((5, .int r1) :: lLo b x o out i) := hl
  refine lv_aload_n F.1 F.2.1 d_law_283 rfl (lv_at hl 3 rfl) ?_
  refine L_arg (d := 1) 5 1 F hX hbl hbA hL hS hl rfl rfl (by omega) (by decide) d_law_284 d_law_285 d_law_287 d_law_288 d_law_289 ?_
  refine L_arg (d := 2) 5 1 F hX hbl hbA hL hS hl rfl rfl (by omega) (by decide) d_law_290 d_law_291 d_law_293 d_law_294 d_law_295 ?_
  refine p3_ci (p3_V F (c_M_name l D cs (sA h3 H) h3 o ad S hR nf bA bD (xs (i + 1)) (xs (i + 2))) X_L_72 rfl rfl ⟨by decide, by decide⟩ hP3 hA hK hS hR.1 rfl rfl rfl hl.1 rfl (Nat.le_of_ble_eq_true rfl) d_law_296 ⟨by omega, by omega⟩) hP3 hA hS hP1 (djt_l dj).symm hPo (djt_r f1 dj).symm (fun r2 u3 H locs hq hP3 hP1 g1 hPo g2 hS => ?_)
  obtain ⟨hR3, hr3⟩ := hq
  refine lv_istore F.1 F.2.1 d_law_299 hl (by decide) rfl (fun ls hl => ?_)
  replace hl : lv_has ls 7 ((6, .int r2) :: (5, .int r1) :: lLo b x o out i) := hl
  exact W.widen (k := cells + 9) (n := slots + 53) (by omega) (by omega) (L_tail F hA hK ⟨hP1, hPo, hP3, f1, g1.symm, g2.symm, hE1, hR3, hS⟩ hl (th_Name.trans hr1.symm) (fun z9 => by rw [hv1 (hr1.symm.trans z9), hr3]) hf d_law_301 d_law_302 d_law_305 d_law_307 d_law_312 d_law_314 d_law_317 d_law_318 d_law_319 d_law_320 d_law_322 d_law_323 d_law_324 d_law_329 (by decide) (fun H locs hI => kk H locs ls _ _ _ _ hI (lv_sub hl [2, 3, 4, 5, 6] rfl)))
theorem XL_73 : cwdL 73 y_L_apply b_L_apply 3 hh_L_apply 2 := ⟨⟨gw_in 391 (by decide +kernel) (by decide +kernel), gw_in 392 (by decide +kernel) (by decide +kernel), gw_in 27 (by decide +kernel) (by decide +kernel), gw_in 393 (by decide +kernel) (by decide +kernel)⟩, by decide, by decide, by decide +kernel⟩
set_option maxHeartbeats 4000000 in
set_option maxRecDepth 100000 in
theorem L_case_apply {p : Program} {l : Launch} {e : Env} {s : State} {m : MethodId} {below : List Frame} {meth : Method} {c : Code} {H : Heap} {locs : List Loc} {cells slots : Nat} {Q : State → Prop} {ls : Array Slot} {D : va_G} {cs : Nat → Nat} {A : Nat → Prop} {b L : Nat} {xs : Nat → Int32} {x o out i : Nat} {ad : Nat → Nat} {h1 h3 : pw_H} {v : Nat → Int64} {S : St} (hst : l.stackTraces = false) (F : CallFix p m c code 7 s #[Value.ref b] gws R_L) (hX : va_X b L xs s s.heap) (hbl : b < s.heap.size) (hbA : ¬ A b) (hL : L ≤ 2560) (hA : ∀ q, s.heap.size ≤ q → A q) (hK : kon D cs A s s.heap)
    (hI : LI D cs A s x o out ad H locs h1 v h3 S) (hl : lv_has ls 7 (lLo b x o out i)) (hi : i + 4 < L) (hf : cells + 9 ≤ room_1.cells ∧ slots + 53 ≤ room_1.slots)
    (kk : ∀ (H : Heap) (locs : List Loc) (ls : Array Slot) (h1 : pw_H) (v : Nat → Int64) (h3 : pw_H) (S : St), LI D cs A s x o out ad H locs h1 v h3 S → lv_has ls 7 (lLo b x o out i) → W p l e room_1 s m #[Value.ref b] below meth c H locs (cells + 9) (slots + 53) Q (F0 m 786 ls [])) :
    W p l e room_1 s m #[Value.ref b] below meth c H locs cells slots Q (F0 m 332 ls []) := by
  obtain ⟨hP1, hPo, hP3, e1, e2, e3, hE, hR, hS⟩ := hI
  obtain ⟨g, gr, nf, pT, nt, hs, hw⟩ := id hE
  obtain ⟨⟨bA, bB, bC, bD, bE, bF, bG, bH, bI, bJ⟩, bT⟩ := id hw
  refine lv_aload_n F.1 F.2.1 d_law_332 rfl (lv_at hl 3 rfl) ?_
  refine lv_aload_n F.1 F.2.1 d_law_333 rfl (lv_at hl 1 rfl) ?_
  refine pl_ci (pl_S F (c_L_apply l D cs (sA (un h1 (oM (cs 2) out v)) H) h1 hst x out v e1 S hE) XL_73 rfl rfl ⟨by decide, by decide⟩ (hP1.join hPo e1) hA hK hS rfl hl.1 rfl (Nat.le_of_ble_eq_true rfl) d_law_334 ⟨by omega, by omega⟩) (hP1.join hPo e1) hA hS hP3 (un_djt e2 e3) (fun r1 u H locs hq hPu hP3 dj hS => ?_)
  obtain ⟨u1, w1, rfl, f1, hE1, hr1, hv1⟩ := hq
  have hP1 : pw D vwCl A u1 H := hPu.sub (fun q e he => un_l he)
  have hPo : pw D vwCl A (oM (cs 2) out w1) H := hPu.sub (fun q e he => un_r f1 he)
  refine lv_istore F.1 F.2.1 d_law_337 hl (by decide) rfl (fun ls hl => ?_)
  replace hl : lv_has ls 7 ((5, .int r1) :: lLo b x o out i) := hl
  refine lv_aload_n F.1 F.2.1 d_law_339 rfl (lv_at hl 3 rfl) ?_
  refine p3_ci (p3_V F (c_M_apply l D cs (sA h3 H) h3 o ad S hR nf bA bD nt bC bF pT bB bE bH) X_L_76 rfl rfl ⟨by decide, by decide⟩ hP3 hA hK hS hR.1 rfl rfl rfl hl.1 rfl (Nat.le_of_ble_eq_true rfl) d_law_340 ⟨by omega, by omega⟩) hP3 hA hS hP1 (djt_l dj).symm hPo (djt_r f1 dj).symm (fun r2 u3 H locs hq hP3 hP1 g1 hPo g2 hS => ?_)
  obtain ⟨hR3, hr3⟩ := hq
  refine lv_istore F.1 F.2.1 d_law_343 hl (by decide) rfl (fun ls hl => ?_)
  replace hl : lv_has ls 7 ((6, .int r2) :: (5, .int r1) :: lLo b x o out i) := hl
  exact W.widen (k := cells + 9) (n := slots + 53) (by omega) (by omega) (L_tail F hA hK ⟨hP1, hPo, hP3, f1, g1.symm, g2.symm, hE1, hR3, hS⟩ hl (th_Apply.trans hr1.symm) (fun z9 => by rw [hv1 (hr1.symm.trans z9), hr3]) hf d_law_345 d_law_346 d_law_349 d_law_351 d_law_356 d_law_358 d_law_361 d_law_362 d_law_363 d_law_364 d_law_366 d_law_367 d_law_368 d_law_373 (by decide) (fun H locs hI => kk H locs ls _ _ _ _ hI (lv_sub hl [2, 3, 4, 5, 6] rfl)))
theorem XL_77 : cwdL 77 y_L_turn b_L_turn 3 hh_L_turn 2 := ⟨⟨gw_in 439 (by decide +kernel) (by decide +kernel), gw_in 440 (by decide +kernel) (by decide +kernel), gw_in 27 (by decide +kernel) (by decide +kernel), gw_in 441 (by decide +kernel) (by decide +kernel)⟩, by decide, by decide, by decide +kernel⟩
set_option maxHeartbeats 4000000 in
set_option maxRecDepth 100000 in
theorem L_case_turn {p : Program} {l : Launch} {e : Env} {s : State} {m : MethodId} {below : List Frame} {meth : Method} {c : Code} {H : Heap} {locs : List Loc} {cells slots : Nat} {Q : State → Prop} {ls : Array Slot} {D : va_G} {cs : Nat → Nat} {A : Nat → Prop} {b L : Nat} {xs : Nat → Int32} {x o out i : Nat} {ad : Nat → Nat} {h1 h3 : pw_H} {v : Nat → Int64} {S : St} (hst : l.stackTraces = false) (F : CallFix p m c code 7 s #[Value.ref b] gws R_L) (hX : va_X b L xs s s.heap) (hbl : b < s.heap.size) (hbA : ¬ A b) (hL : L ≤ 2560) (hA : ∀ q, s.heap.size ≤ q → A q) (hK : kon D cs A s s.heap)
    (hI : LI D cs A s x o out ad H locs h1 v h3 S) (hl : lv_has ls 7 (lLo b x o out i)) (hi : i + 4 < L) (hf : cells + 9 ≤ room_1.cells ∧ slots + 53 ≤ room_1.slots)
    (kk : ∀ (H : Heap) (locs : List Loc) (ls : Array Slot) (h1 : pw_H) (v : Nat → Int64) (h3 : pw_H) (S : St), LI D cs A s x o out ad H locs h1 v h3 S → lv_has ls 7 (lLo b x o out i) → W p l e room_1 s m #[Value.ref b] below meth c H locs (cells + 9) (slots + 53) Q (F0 m 786 ls [])) :
    W p l e room_1 s m #[Value.ref b] below meth c H locs cells slots Q (F0 m 376 ls []) := by
  obtain ⟨hP1, hPo, hP3, e1, e2, e3, hE, hR, hS⟩ := hI
  obtain ⟨g, gr, nf, pT, nt, hs, hw⟩ := id hE
  obtain ⟨⟨bA, bB, bC, bD, bE, bF, bG, bH, bI, bJ⟩, bT⟩ := id hw
  refine lv_aload_n F.1 F.2.1 d_law_376 rfl (lv_at hl 3 rfl) ?_
  refine lv_aload_n F.1 F.2.1 d_law_377 rfl (lv_at hl 1 rfl) ?_
  refine pl_ci (pl_S F (c_L_turn l D cs (sA (un h1 (oM (cs 2) out v)) H) h1 hst x out v e1 S hE) XL_77 rfl rfl ⟨by decide, by decide⟩ (hP1.join hPo e1) hA hK hS rfl hl.1 rfl (Nat.le_of_ble_eq_true rfl) d_law_378 ⟨by omega, by omega⟩) (hP1.join hPo e1) hA hS hP3 (un_djt e2 e3) (fun r1 u H locs hq hPu hP3 dj hS => ?_)
  obtain ⟨u1, w1, rfl, f1, hE1, hr1, hv1⟩ := hq
  have hP1 : pw D vwCl A u1 H := hPu.sub (fun q e he => un_l he)
  have hPo : pw D vwCl A (oM (cs 2) out w1) H := hPu.sub (fun q e he => un_r f1 he)
  refine lv_istore F.1 F.2.1 d_law_381 hl (by decide) rfl (fun ls hl => ?_)
  replace hl : lv_has ls 7 ((5, .int r1) :: lLo b x o out i) := hl
  refine lv_aload_n F.1 F.2.1 d_law_383 rfl (lv_at hl 3 rfl) ?_
  refine p3_ci (p3_V F (c_M_turn l D cs (sA h3 H) h3 o ad S hR nt bC bF) X_L_79 rfl rfl ⟨by decide, by decide⟩ hP3 hA hK hS hR.1 rfl rfl rfl hl.1 rfl (Nat.le_of_ble_eq_true rfl) d_law_384 ⟨by omega, by omega⟩) hP3 hA hS hP1 (djt_l dj).symm hPo (djt_r f1 dj).symm (fun r2 u3 H locs hq hP3 hP1 g1 hPo g2 hS => ?_)
  obtain ⟨hR3, hr3⟩ := hq
  refine lv_istore F.1 F.2.1 d_law_387 hl (by decide) rfl (fun ls hl => ?_)
  replace hl : lv_has ls 7 ((6, .int r2) :: (5, .int r1) :: lLo b x o out i) := hl
  exact W.widen (k := cells + 9) (n := slots + 53) (by omega) (by omega) (L_tail F hA hK ⟨hP1, hPo, hP3, f1, g1.symm, g2.symm, hE1, hR3, hS⟩ hl (th_Turn.trans hr1.symm) (fun z9 => by rw [hv1 (hr1.symm.trans z9), hr3]) hf d_law_389 d_law_390 d_law_393 d_law_395 d_law_400 d_law_402 d_law_405 d_law_406 d_law_407 d_law_408 d_law_410 d_law_411 d_law_412 d_law_417 (by decide) (fun H locs hI => kk H locs ls _ _ _ _ hI (lv_sub hl [2, 3, 4, 5, 6] rfl)))
theorem XL_80 : cwdL 80 y_L_task b_L_task 4 hh_L_task 3 := ⟨⟨gw_in 447 (by decide +kernel) (by decide +kernel), gw_in 448 (by decide +kernel) (by decide +kernel), gw_in 27 (by decide +kernel) (by decide +kernel), gw_in 449 (by decide +kernel) (by decide +kernel)⟩, by decide, by decide, by decide +kernel⟩
set_option maxHeartbeats 4000000 in
set_option maxRecDepth 100000 in
theorem L_case_task {p : Program} {l : Launch} {e : Env} {s : State} {m : MethodId} {below : List Frame} {meth : Method} {c : Code} {H : Heap} {locs : List Loc} {cells slots : Nat} {Q : State → Prop} {ls : Array Slot} {D : va_G} {cs : Nat → Nat} {A : Nat → Prop} {b L : Nat} {xs : Nat → Int32} {x o out i : Nat} {ad : Nat → Nat} {h1 h3 : pw_H} {v : Nat → Int64} {S : St} (hst : l.stackTraces = false) (F : CallFix p m c code 7 s #[Value.ref b] gws R_L) (hX : va_X b L xs s s.heap) (hbl : b < s.heap.size) (hbA : ¬ A b) (hL : L ≤ 2560) (hA : ∀ q, s.heap.size ≤ q → A q) (hK : kon D cs A s s.heap)
    (hI : LI D cs A s x o out ad H locs h1 v h3 S) (hl : lv_has ls 7 (lLo b x o out i)) (hi : i + 4 < L) (hf : cells + 9 ≤ room_1.cells ∧ slots + 53 ≤ room_1.slots)
    (kk : ∀ (H : Heap) (locs : List Loc) (ls : Array Slot) (h1 : pw_H) (v : Nat → Int64) (h3 : pw_H) (S : St), LI D cs A s x o out ad H locs h1 v h3 S → lv_has ls 7 (lLo b x o out i) → W p l e room_1 s m #[Value.ref b] below meth c H locs (cells + 9) (slots + 53) Q (F0 m 786 ls [])) :
    W p l e room_1 s m #[Value.ref b] below meth c H locs cells slots Q (F0 m 420 ls []) := by
  obtain ⟨hP1, hPo, hP3, e1, e2, e3, hE, hR, hS⟩ := hI
  obtain ⟨g, gr, nf, pT, nt, hs, hw⟩ := id hE
  obtain ⟨⟨bA, bB, bC, bD, bE, bF, bG, bH, bI, bJ⟩, bT⟩ := id hw
  obtain ⟨Lv, hL5, hLv⟩ : ∃ Lv : Nat, Lv ≤ 5 ∧ (if S 16 4 < 0 then S 16 3 else S 16 4) = nI Lv := by
    rcases bG with z | ⟨z1, z | z⟩
    · exact ⟨pT, bB, by rw [z, if_pos (by decide)]; exact bE⟩
    · exact ⟨pT, bB, by rw [z, if_neg (nI_pos (by omega))]⟩
    · exact ⟨pT - 1, by omega, by rw [z, if_neg (nI_pos (by omega))]⟩
  refine lv_aload_n F.1 F.2.1 d_law_420 rfl (lv_at hl 3 rfl) ?_
  refine L_arg (d := 1) 4 0 F hX hbl hbA hL hS hl rfl rfl (by omega) (by decide) d_law_421 d_law_422 d_law_424 d_law_425 d_law_426 ?_
  refine lv_aload_n F.1 F.2.1 d_law_427 rfl (lv_at hl 1 rfl) ?_
  refine pl_ci (pl_S F (c_L_task l D cs (sA (un h1 (oM (cs 2) out v)) H) h1 hst x out v e1 S hE (xs (i + 1))) XL_80 rfl rfl ⟨by decide, by decide⟩ (hP1.join hPo e1) hA hK hS rfl hl.1 rfl (Nat.le_of_ble_eq_true rfl) d_law_428 ⟨by omega, by omega⟩) (hP1.join hPo e1) hA hS hP3 (un_djt e2 e3) (fun r1 u H locs hq hPu hP3 dj hS => ?_)
  obtain ⟨u1, w1, rfl, f1, hE1, hr1, hv1⟩ := hq
  have hP1 : pw D vwCl A u1 H := hPu.sub (fun q e he => un_l he)
  have hPo : pw D vwCl A (oM (cs 2) out w1) H := hPu.sub (fun q e he => un_r f1 he)
  refine lv_istore F.1 F.2.1 d_law_431 hl (by decide) rfl (fun ls hl => ?_)
  replace hl : lv_has ls 7 ((5, .int r1) :: lLo b x o out i) := hl
  refine lv_aload_n F.1 F.2.1 d_law_433 rfl (lv_at hl 3 rfl) ?_
  refine L_arg (d := 1) 5 1 F hX hbl hbA hL hS hl rfl rfl (by omega) (by decide) d_law_434 d_law_435 d_law_437 d_law_438 d_law_439 ?_
  refine p3_ci (p3_V F (c_M_task l D cs (sA h3 H) h3 o ad S hR nf bA bD nt bC bF Lv hL5 hLv (fun h4 => (bT.2 nt (Nat.le_refl _) h4).1) (xs (i + 1))) X_L_82 rfl rfl ⟨by decide, by decide⟩ hP3 hA hK hS hR.1 rfl rfl rfl hl.1 rfl (Nat.le_of_ble_eq_true rfl) d_law_440 ⟨by omega, by omega⟩) hP3 hA hS hP1 (djt_l dj).symm hPo (djt_r f1 dj).symm (fun r2 u3 H locs hq hP3 hP1 g1 hPo g2 hS => ?_)
  obtain ⟨hR3, hr3⟩ := hq
  refine lv_istore F.1 F.2.1 d_law_443 hl (by decide) rfl (fun ls hl => ?_)
  replace hl : lv_has ls 7 ((6, .int r2) :: (5, .int r1) :: lLo b x o out i) := hl
  exact W.widen (k := cells + 9) (n := slots + 53) (by omega) (by omega) (L_tail F hA hK ⟨hP1, hPo, hP3, f1, g1.symm, g2.symm, hE1, hR3, hS⟩ hl (th_Task.trans hr1.symm) (fun z9 => by rw [hv1 (hr1.symm.trans z9), hr3]) hf d_law_445 d_law_446 d_law_449 d_law_451 d_law_456 d_law_458 d_law_461 d_law_462 d_law_463 d_law_464 d_law_466 d_law_467 d_law_468 d_law_473 (by decide) (fun H locs hI => kk H locs ls _ _ _ _ hI (lv_sub hl [2, 3, 4, 5, 6] rfl)))
theorem XL_83 : cwdL 83 y_L_step b_L_step 5 hh_L_step 4 := ⟨⟨gw_in 523 (by decide +kernel) (by decide +kernel), gw_in 524 (by decide +kernel) (by decide +kernel), gw_in 27 (by decide +kernel) (by decide +kernel), gw_in 525 (by decide +kernel) (by decide +kernel)⟩, by decide, by decide, by decide +kernel⟩
set_option maxHeartbeats 4000000 in
set_option maxRecDepth 100000 in
theorem L_case_step {p : Program} {l : Launch} {e : Env} {s : State} {m : MethodId} {below : List Frame} {meth : Method} {c : Code} {H : Heap} {locs : List Loc} {cells slots : Nat} {Q : State → Prop} {ls : Array Slot} {D : va_G} {cs : Nat → Nat} {A : Nat → Prop} {b L : Nat} {xs : Nat → Int32} {x o out i : Nat} {ad : Nat → Nat} {h1 h3 : pw_H} {v : Nat → Int64} {S : St} (hst : l.stackTraces = false) (F : CallFix p m c code 7 s #[Value.ref b] gws R_L) (hX : va_X b L xs s s.heap) (hbl : b < s.heap.size) (hbA : ¬ A b) (hL : L ≤ 2560) (hA : ∀ q, s.heap.size ≤ q → A q) (hK : kon D cs A s s.heap)
    (hI : LI D cs A s x o out ad H locs h1 v h3 S) (hl : lv_has ls 7 (lLo b x o out i)) (hi : i + 4 < L) (hf : cells + 9 ≤ room_1.cells ∧ slots + 53 ≤ room_1.slots)
    (kk : ∀ (H : Heap) (locs : List Loc) (ls : Array Slot) (h1 : pw_H) (v : Nat → Int64) (h3 : pw_H) (S : St), LI D cs A s x o out ad H locs h1 v h3 S → lv_has ls 7 (lLo b x o out i) → W p l e room_1 s m #[Value.ref b] below meth c H locs (cells + 9) (slots + 53) Q (F0 m 786 ls [])) :
    W p l e room_1 s m #[Value.ref b] below meth c H locs cells slots Q (F0 m 476 ls []) := by
  obtain ⟨hP1, hPo, hP3, e1, e2, e3, hE, hR, hS⟩ := hI
  obtain ⟨g, gr, nf, pT, nt, hs, hw⟩ := id hE
  obtain ⟨⟨bA, bB, bC, bD, bE, bF, bG, bH, bI, bJ⟩, bT⟩ := id hw
  refine lv_aload_n F.1 F.2.1 d_law_476 rfl (lv_at hl 3 rfl) ?_
  refine L_arg (d := 1) 4 0 F hX hbl hbA hL hS hl rfl rfl (by omega) (by decide) d_law_477 d_law_478 d_law_480 d_law_481 d_law_482 ?_
  refine L_arg (d := 2) 4 0 F hX hbl hbA hL hS hl rfl rfl (by omega) (by decide) d_law_483 d_law_484 d_law_486 d_law_487 d_law_488 ?_
  refine lv_aload_n F.1 F.2.1 d_law_489 rfl (lv_at hl 1 rfl) ?_
  refine pl_ci (pl_S F (c_L_step l D cs (sA (un h1 (oM (cs 2) out v)) H) h1 hst x out v e1 S hE (xs (i + 1)) (xs (i + 2))) XL_83 rfl rfl ⟨by decide, by decide⟩ (hP1.join hPo e1) hA hK hS rfl hl.1 rfl (Nat.le_of_ble_eq_true rfl) d_law_490 ⟨by omega, by omega⟩) (hP1.join hPo e1) hA hS hP3 (un_djt e2 e3) (fun r1 u H locs hq hPu hP3 dj hS => ?_)
  obtain ⟨u1, w1, rfl, f1, hE1, hr1, hv1⟩ := hq
  have hP1 : pw D vwCl A u1 H := hPu.sub (fun q e he => un_l he)
  have hPo : pw D vwCl A (oM (cs 2) out w1) H := hPu.sub (fun q e he => un_r f1 he)
  refine lv_istore F.1 F.2.1 d_law_493 hl (by decide) rfl (fun ls hl => ?_)
  replace hl : lv_has ls 7 ((5, .int r1) :: lLo b x o out i) := hl
  refine lv_aload_n F.1 F.2.1 d_law_495 rfl (lv_at hl 3 rfl) ?_
  refine L_arg (d := 1) 5 1 F hX hbl hbA hL hS hl rfl rfl (by omega) (by decide) d_law_496 d_law_497 d_law_499 d_law_500 d_law_501 ?_
  refine L_arg (d := 2) 5 1 F hX hbl hbA hL hS hl rfl rfl (by omega) (by decide) d_law_502 d_law_503 d_law_505 d_law_506 d_law_507 ?_
  refine p3_ci (p3_V F (c_M_step l D cs (sA h3 H) h3 o ad S hR nf pT nt hw (xs (i + 1)) (xs (i + 2))) X_L_85 rfl rfl ⟨by decide, by decide⟩ hP3 hA hK hS hR.1 rfl rfl rfl hl.1 rfl (Nat.le_of_ble_eq_true rfl) d_law_508 ⟨by omega, by omega⟩) hP3 hA hS hP1 (djt_l dj).symm hPo (djt_r f1 dj).symm (fun r2 u3 H locs hq hP3 hP1 g1 hPo g2 hS => ?_)
  obtain ⟨hR3, hr3⟩ := hq
  refine lv_istore F.1 F.2.1 d_law_511 hl (by decide) rfl (fun ls hl => ?_)
  replace hl : lv_has ls 7 ((6, .int r2) :: (5, .int r1) :: lLo b x o out i) := hl
  exact W.widen (k := cells + 9) (n := slots + 53) (by omega) (by omega) (L_tail F hA hK ⟨hP1, hPo, hP3, f1, g1.symm, g2.symm, hE1, hR3, hS⟩ hl (th_Step.trans hr1.symm) (fun z9 => by rw [hv1 (hr1.symm.trans z9), hr3]) hf d_law_513 d_law_514 d_law_517 d_law_519 d_law_524 d_law_526 d_law_529 d_law_530 d_law_531 d_law_532 d_law_534 d_law_535 d_law_536 d_law_541 (by decide) (fun H locs hI => kk H locs ls _ _ _ _ hI (lv_sub hl [2, 3, 4, 5, 6] rfl)))
theorem XL_86 : cwdL 86 y_L_look b_L_look 5 hh_L_look 4 := ⟨⟨gw_in 580 (by decide +kernel) (by decide +kernel), gw_in 581 (by decide +kernel) (by decide +kernel), gw_in 27 (by decide +kernel) (by decide +kernel), gw_in 582 (by decide +kernel) (by decide +kernel)⟩, by decide, by decide, by decide +kernel⟩
set_option maxHeartbeats 4000000 in
set_option maxRecDepth 100000 in
theorem L_case_look {p : Program} {l : Launch} {e : Env} {s : State} {m : MethodId} {below : List Frame} {meth : Method} {c : Code} {H : Heap} {locs : List Loc} {cells slots : Nat} {Q : State → Prop} {ls : Array Slot} {D : va_G} {cs : Nat → Nat} {A : Nat → Prop} {b L : Nat} {xs : Nat → Int32} {x o out i : Nat} {ad : Nat → Nat} {h1 h3 : pw_H} {v : Nat → Int64} {S : St} (hst : l.stackTraces = false) (F : CallFix p m c code 7 s #[Value.ref b] gws R_L) (hX : va_X b L xs s s.heap) (hbl : b < s.heap.size) (hbA : ¬ A b) (hL : L ≤ 2560) (hA : ∀ q, s.heap.size ≤ q → A q) (hK : kon D cs A s s.heap)
    (hI : LI D cs A s x o out ad H locs h1 v h3 S) (hl : lv_has ls 7 (lLo b x o out i)) (hi : i + 4 < L) (hf : cells + 9 ≤ room_1.cells ∧ slots + 53 ≤ room_1.slots)
    (kk : ∀ (H : Heap) (locs : List Loc) (ls : Array Slot) (h1 : pw_H) (v : Nat → Int64) (h3 : pw_H) (S : St), LI D cs A s x o out ad H locs h1 v h3 S → lv_has ls 7 (lLo b x o out i) → W p l e room_1 s m #[Value.ref b] below meth c H locs (cells + 9) (slots + 53) Q (F0 m 786 ls [])) :
    W p l e room_1 s m #[Value.ref b] below meth c H locs cells slots Q (F0 m 544 ls []) := by
  obtain ⟨hP1, hPo, hP3, e1, e2, e3, hE, hR, hS⟩ := hI
  obtain ⟨g, gr, nf, pT, nt, hs, hw⟩ := id hE
  obtain ⟨⟨bA, bB, bC, bD, bE, bF, bG, bH, bI, bJ⟩, bT⟩ := id hw
  refine lv_aload_n F.1 F.2.1 d_law_544 rfl (lv_at hl 3 rfl) ?_
  refine L_arg (d := 1) 4 0 F hX hbl hbA hL hS hl rfl rfl (by omega) (by decide) d_law_545 d_law_546 d_law_548 d_law_549 d_law_550 ?_
  refine L_arg (d := 2) 4 0 F hX hbl hbA hL hS hl rfl rfl (by omega) (by decide) d_law_551 d_law_552 d_law_554 d_law_555 d_law_556 ?_
  refine lv_aload_n F.1 F.2.1 d_law_557 rfl (lv_at hl 1 rfl) ?_
  refine pl_ci (pl_S F (c_L_look l D cs (sA (un h1 (oM (cs 2) out v)) H) h1 hst x out v e1 S hE (xs (i + 1)) (xs (i + 2))) XL_86 rfl rfl ⟨by decide, by decide⟩ (hP1.join hPo e1) hA hK hS rfl hl.1 rfl (Nat.le_of_ble_eq_true rfl) d_law_558 ⟨by omega, by omega⟩) (hP1.join hPo e1) hA hS hP3 (un_djt e2 e3) (fun r1 u H locs hq hPu hP3 dj hS => ?_)
  obtain ⟨u1, w1, rfl, f1, hE1, hr1, hv1⟩ := hq
  have hP1 : pw D vwCl A u1 H := hPu.sub (fun q e he => un_l he)
  have hPo : pw D vwCl A (oM (cs 2) out w1) H := hPu.sub (fun q e he => un_r f1 he)
  refine lv_istore F.1 F.2.1 d_law_561 hl (by decide) rfl (fun ls hl => ?_)
  replace hl : lv_has ls 7 ((5, .int r1) :: lLo b x o out i) := hl
  refine lv_aload_n F.1 F.2.1 d_law_563 rfl (lv_at hl 3 rfl) ?_
  refine L_arg (d := 1) 5 1 F hX hbl hbA hL hS hl rfl rfl (by omega) (by decide) d_law_564 d_law_565 d_law_567 d_law_568 d_law_569 ?_
  refine L_arg (d := 2) 5 1 F hX hbl hbA hL hS hl rfl rfl (by omega) (by decide) d_law_570 d_law_571 d_law_573 d_law_574 d_law_575 ?_
  refine p3_ci (p3_V F (c_M_look l D cs (sA h3 H) h3 o ad S hR nt bC bF (xs (i + 1)) (xs (i + 2))) X_L_88 rfl rfl ⟨by decide, by decide⟩ hP3 hA hK hS hR.1 rfl rfl rfl hl.1 rfl (Nat.le_of_ble_eq_true rfl) d_law_576 ⟨by omega, by omega⟩) hP3 hA hS hP1 (djt_l dj).symm hPo (djt_r f1 dj).symm (fun r2 u3 H locs hq hP3 hP1 g1 hPo g2 hS => ?_)
  obtain ⟨hR3, hr3⟩ := hq
  refine lv_istore F.1 F.2.1 d_law_579 hl (by decide) rfl (fun ls hl => ?_)
  replace hl : lv_has ls 7 ((6, .int r2) :: (5, .int r1) :: lLo b x o out i) := hl
  exact W.widen (k := cells + 9) (n := slots + 53) (by omega) (by omega) (L_tail F hA hK ⟨hP1, hPo, hP3, f1, g1.symm, g2.symm, hE1, hR3, hS⟩ hl (sp_s.trans hr1.symm) (fun z9 => by rw [hv1 (hr1.symm.trans z9), hr3]) hf d_law_581 d_law_582 d_law_585 d_law_587 d_law_592 d_law_594 d_law_597 d_law_598 d_law_599 d_law_600 d_law_602 d_law_603 d_law_604 d_law_609 (by decide) (fun H locs hI => kk H locs ls _ _ _ _ hI (lv_sub hl [2, 3, 4, 5, 6] rfl)))
theorem XL_89 : cwdL 89 y_L_frame b_L_frame 6 hh_L_frame 5 := ⟨⟨gw_in 588 (by decide +kernel) (by decide +kernel), gw_in 589 (by decide +kernel) (by decide +kernel), gw_in 27 (by decide +kernel) (by decide +kernel), gw_in 590 (by decide +kernel) (by decide +kernel)⟩, by decide, by decide, by decide +kernel⟩
set_option maxHeartbeats 4000000 in
set_option maxRecDepth 100000 in
theorem L_case_frame {p : Program} {l : Launch} {e : Env} {s : State} {m : MethodId} {below : List Frame} {meth : Method} {c : Code} {H : Heap} {locs : List Loc} {cells slots : Nat} {Q : State → Prop} {ls : Array Slot} {D : va_G} {cs : Nat → Nat} {A : Nat → Prop} {b L : Nat} {xs : Nat → Int32} {x o out i : Nat} {ad : Nat → Nat} {h1 h3 : pw_H} {v : Nat → Int64} {S : St} (hst : l.stackTraces = false) (F : CallFix p m c code 7 s #[Value.ref b] gws R_L) (hX : va_X b L xs s s.heap) (hbl : b < s.heap.size) (hbA : ¬ A b) (hL : L ≤ 2560) (hA : ∀ q, s.heap.size ≤ q → A q) (hK : kon D cs A s s.heap)
    (hI : LI D cs A s x o out ad H locs h1 v h3 S) (hl : lv_has ls 7 (lLo b x o out i)) (hi : i + 4 < L) (hf : cells + 9 ≤ room_1.cells ∧ slots + 53 ≤ room_1.slots)
    (kk : ∀ (H : Heap) (locs : List Loc) (ls : Array Slot) (h1 : pw_H) (v : Nat → Int64) (h3 : pw_H) (S : St), LI D cs A s x o out ad H locs h1 v h3 S → lv_has ls 7 (lLo b x o out i) → W p l e room_1 s m #[Value.ref b] below meth c H locs (cells + 9) (slots + 53) Q (F0 m 786 ls [])) :
    W p l e room_1 s m #[Value.ref b] below meth c H locs cells slots Q (F0 m 612 ls []) := by
  obtain ⟨hP1, hPo, hP3, e1, e2, e3, hE, hR, hS⟩ := hI
  obtain ⟨g, gr, nf, pT, nt, hs, hw⟩ := id hE
  obtain ⟨⟨bA, bB, bC, bD, bE, bF, bG, bH, bI, bJ⟩, bT⟩ := id hw
  have dep : ∀ t, t < nt → ∃ d, d < 6 ∧ S 11 t = nI (d + 1) ∧ ∀ k, k ≤ d → ∃ rk, rk < 48 ∧ S 12 (6 * t + k) = nI rk := fun t ht => by
    obtain ⟨d, Lv, mf, q1, q2, q3, q4, q5, q6, q7, q8⟩ := bT.1 t ht
    exact ⟨d, by omega, q2, fun k hk => by obtain ⟨r, a, z, z1, z2, -⟩ := q7 k (by omega); exact ⟨r, z1, z2⟩⟩
  refine lv_aload_n F.1 F.2.1 d_law_612 rfl (lv_at hl 3 rfl) ?_
  refine L_arg (d := 1) 4 0 F hX hbl hbA hL hS hl rfl rfl (by omega) (by decide) d_law_613 d_law_614 d_law_616 d_law_617 d_law_618 ?_
  refine L_arg (d := 2) 4 0 F hX hbl hbA hL hS hl rfl rfl (by omega) (by decide) d_law_619 d_law_620 d_law_622 d_law_623 d_law_624 ?_
  refine L_arg (d := 3) 4 0 F hX hbl hbA hL hS hl rfl rfl (by omega) (by decide) d_law_625 d_law_626 d_law_628 d_law_629 d_law_630 ?_
  refine lv_aload_n F.1 F.2.1 d_law_631 rfl (lv_at hl 1 rfl) ?_
  refine pl_ci (pl_S F (c_L_frame l D cs (sA (un h1 (oM (cs 2) out v)) H) h1 hst x out v e1 S hE (xs (i + 1)) (xs (i + 2)) (xs (i + 3))) XL_89 rfl rfl ⟨by decide, by decide⟩ (hP1.join hPo e1) hA hK hS rfl hl.1 rfl (Nat.le_of_ble_eq_true rfl) d_law_632 ⟨by omega, by omega⟩) (hP1.join hPo e1) hA hS hP3 (un_djt e2 e3) (fun r1 u H locs hq hPu hP3 dj hS => ?_)
  obtain ⟨u1, w1, rfl, f1, hE1, hr1, hv1⟩ := hq
  have hP1 : pw D vwCl A u1 H := hPu.sub (fun q e he => un_l he)
  have hPo : pw D vwCl A (oM (cs 2) out w1) H := hPu.sub (fun q e he => un_r f1 he)
  refine lv_istore F.1 F.2.1 d_law_635 hl (by decide) rfl (fun ls hl => ?_)
  replace hl : lv_has ls 7 ((5, .int r1) :: lLo b x o out i) := hl
  refine lv_aload_n F.1 F.2.1 d_law_637 rfl (lv_at hl 3 rfl) ?_
  refine L_arg (d := 1) 5 1 F hX hbl hbA hL hS hl rfl rfl (by omega) (by decide) d_law_638 d_law_639 d_law_641 d_law_642 d_law_643 ?_
  refine L_arg (d := 2) 5 1 F hX hbl hbA hL hS hl rfl rfl (by omega) (by decide) d_law_644 d_law_645 d_law_647 d_law_648 d_law_649 ?_
  refine L_arg (d := 3) 5 1 F hX hbl hbA hL hS hl rfl rfl (by omega) (by decide) d_law_650 d_law_651 d_law_653 d_law_654 d_law_655 ?_
  refine p3_ci (p3_V F (c_M_frame l D cs (sA h3 H) h3 o ad S hR nt bC bF dep (xs (i + 1)) (xs (i + 2)) (xs (i + 3))) X_L_92 rfl rfl ⟨by decide, by decide⟩ hP3 hA hK hS hR.1 rfl rfl rfl hl.1 rfl (Nat.le_of_ble_eq_true rfl) d_law_656 ⟨by omega, by omega⟩) hP3 hA hS hP1 (djt_l dj).symm hPo (djt_r f1 dj).symm (fun r2 u3 H locs hq hP3 hP1 g1 hPo g2 hS => ?_)
  obtain ⟨hR3, hr3⟩ := hq
  refine lv_istore F.1 F.2.1 d_law_659 hl (by decide) rfl (fun ls hl => ?_)
  replace hl : lv_has ls 7 ((6, .int r2) :: (5, .int r1) :: lLo b x o out i) := hl
  exact W.widen (k := cells + 9) (n := slots + 53) (by omega) (by omega) (L_tail F hA hK ⟨hP1, hPo, hP3, f1, g1.symm, g2.symm, hE1, hR3, hS⟩ hl (sp_s.trans hr1.symm) (fun z9 => by rw [hv1 (hr1.symm.trans z9), hr3]) hf d_law_661 d_law_662 d_law_665 d_law_667 d_law_672 d_law_674 d_law_677 d_law_678 d_law_679 d_law_680 d_law_682 d_law_683 d_law_684 d_law_689 (by decide) (fun H locs hI => kk H locs ls _ _ _ _ hI (lv_sub hl [2, 3, 4, 5, 6] rfl)))
theorem XL_101 : cwdL 101 y_L_body b_L_body 5 hh_L_body 4 := ⟨⟨gw_in 612 (by decide +kernel) (by decide +kernel), gw_in 613 (by decide +kernel) (by decide +kernel), gw_in 27 (by decide +kernel) (by decide +kernel), gw_in 614 (by decide +kernel) (by decide +kernel)⟩, by decide, by decide, by decide +kernel⟩
set_option maxHeartbeats 4000000 in
set_option maxRecDepth 100000 in
theorem L_case_body {p : Program} {l : Launch} {e : Env} {s : State} {m : MethodId} {below : List Frame} {meth : Method} {c : Code} {H : Heap} {locs : List Loc} {cells slots : Nat} {Q : State → Prop} {ls : Array Slot} {D : va_G} {cs : Nat → Nat} {A : Nat → Prop} {b L : Nat} {xs : Nat → Int32} {x o out i : Nat} {ad : Nat → Nat} {h1 h3 : pw_H} {v : Nat → Int64} {S : St} (hst : l.stackTraces = false) (F : CallFix p m c code 7 s #[Value.ref b] gws R_L) (hX : va_X b L xs s s.heap) (hbl : b < s.heap.size) (hbA : ¬ A b) (hL : L ≤ 2560) (hA : ∀ q, s.heap.size ≤ q → A q) (hK : kon D cs A s s.heap)
    (hI : LI D cs A s x o out ad H locs h1 v h3 S) (hl : lv_has ls 7 (lLo b x o out i)) (hi : i + 4 < L) (hf : cells + 9 ≤ room_1.cells ∧ slots + 53 ≤ room_1.slots)
    (kk : ∀ (H : Heap) (locs : List Loc) (ls : Array Slot) (h1 : pw_H) (v : Nat → Int64) (h3 : pw_H) (S : St), LI D cs A s x o out ad H locs h1 v h3 S → lv_has ls 7 (lLo b x o out i) → W p l e room_1 s m #[Value.ref b] below meth c H locs (cells + 9) (slots + 53) Q (F0 m 786 ls [])) :
    W p l e room_1 s m #[Value.ref b] below meth c H locs cells slots Q (F0 m 718 ls []) := by
  obtain ⟨hP1, hPo, hP3, e1, e2, e3, hE, hR, hS⟩ := hI
  obtain ⟨g, gr, nf, pT, nt, hs, hw⟩ := id hE
  obtain ⟨⟨bA, bB, bC, bD, bE, bF, bG, bH, bI, bJ⟩, bT⟩ := id hw
  refine lv_aload_n F.1 F.2.1 d_law_718 rfl (lv_at hl 3 rfl) ?_
  refine L_arg (d := 1) 4 0 F hX hbl hbA hL hS hl rfl rfl (by omega) (by decide) d_law_719 d_law_720 d_law_722 d_law_723 d_law_724 ?_
  refine L_arg (d := 2) 4 0 F hX hbl hbA hL hS hl rfl rfl (by omega) (by decide) d_law_725 d_law_726 d_law_728 d_law_729 d_law_730 ?_
  refine lv_aload_n F.1 F.2.1 d_law_731 rfl (lv_at hl 1 rfl) ?_
  refine pl_ci (pl_S F (c_L_body l D cs (sA (un h1 (oM (cs 2) out v)) H) h1 hst x out v e1 S hE (xs (i + 1)) (xs (i + 2))) XL_101 rfl rfl ⟨by decide, by decide⟩ (hP1.join hPo e1) hA hK hS rfl hl.1 rfl (Nat.le_of_ble_eq_true rfl) d_law_732 ⟨by omega, by omega⟩) (hP1.join hPo e1) hA hS hP3 (un_djt e2 e3) (fun r1 u H locs hq hPu hP3 dj hS => ?_)
  obtain ⟨u1, w1, rfl, f1, hE1, hr1, hv1⟩ := hq
  have hP1 : pw D vwCl A u1 H := hPu.sub (fun q e he => un_l he)
  have hPo : pw D vwCl A (oM (cs 2) out w1) H := hPu.sub (fun q e he => un_r f1 he)
  refine lv_istore F.1 F.2.1 d_law_735 hl (by decide) rfl (fun ls hl => ?_)
  replace hl : lv_has ls 7 ((5, .int r1) :: lLo b x o out i) := hl
  refine lv_aload_n F.1 F.2.1 d_law_737 rfl (lv_at hl 3 rfl) ?_
  refine L_arg (d := 1) 5 1 F hX hbl hbA hL hS hl rfl rfl (by omega) (by decide) d_law_738 d_law_739 d_law_741 d_law_742 d_law_743 ?_
  refine L_arg (d := 2) 5 1 F hX hbl hbA hL hS hl rfl rfl (by omega) (by decide) d_law_744 d_law_745 d_law_747 d_law_748 d_law_749 ?_
  refine p3_ci (p3_V F (c_M_body l D cs (sA h3 H) h3 o ad S hR nf bA bD pT bB bE (xs (i + 1)) (xs (i + 2))) X_L_103 rfl rfl ⟨by decide, by decide⟩ hP3 hA hK hS hR.1 rfl rfl rfl hl.1 rfl (Nat.le_of_ble_eq_true rfl) d_law_750 ⟨by omega, by omega⟩) hP3 hA hS hP1 (djt_l dj).symm hPo (djt_r f1 dj).symm (fun r2 u3 H locs hq hP3 hP1 g1 hPo g2 hS => ?_)
  obtain ⟨hR3, hr3⟩ := hq
  refine lv_istore F.1 F.2.1 d_law_753 hl (by decide) rfl (fun ls hl => ?_)
  replace hl : lv_has ls 7 ((6, .int r2) :: (5, .int r1) :: lLo b x o out i) := hl
  exact W.widen (k := cells + 9) (n := slots + 53) (by omega) (by omega) (L_tail F hA hK ⟨hP1, hPo, hP3, f1, g1.symm, g2.symm, hE1, hR3, hS⟩ hl (sp_s.trans hr1.symm) (fun z9 => by rw [hv1 (hr1.symm.trans z9), hr3]) hf d_law_755 d_law_756 d_law_759 d_law_761 d_law_766 d_law_768 d_law_771 d_law_772 d_law_773 d_law_774 d_law_776 d_law_777 d_law_778 d_law_783 (by decide) (fun H locs hI => kk H locs ls _ _ _ _ hI (lv_sub hl [2, 3, 4, 5, 6] rfl)))
set_option maxHeartbeats 4000000 in
set_option maxRecDepth 100000 in
theorem L_case_patches {p : Program} {l : Launch} {e : Env} {s : State} {m : MethodId} {below : List Frame} {meth : Method} {c : Code} {H : Heap} {locs : List Loc} {cells slots : Nat} {Q : State → Prop} {ls : Array Slot} {D : va_G} {cs : Nat → Nat} {A : Nat → Prop} {b L : Nat} {xs : Nat → Int32} {x o out i : Nat} {ad : Nat → Nat} {h1 h3 : pw_H} {v : Nat → Int64} {S : St} (hst : l.stackTraces = false) (F : CallFix p m c code 7 s #[Value.ref b] gws R_L) (hX : va_X b L xs s s.heap) (hbl : b < s.heap.size) (hbA : ¬ A b) (hL : L ≤ 2560) (hA : ∀ q, s.heap.size ≤ q → A q) (hK : kon D cs A s s.heap)
    (hI : LI D cs A s x o out ad H locs h1 v h3 S) (hl : lv_has ls 7 (lLo b x o out i)) (hi : i + 4 < L) (hf : cells + 9 ≤ room_1.cells ∧ slots + 53 ≤ room_1.slots)
    (kk : ∀ (H : Heap) (locs : List Loc) (ls : Array Slot) (h1 : pw_H) (v : Nat → Int64) (h3 : pw_H) (S : St), LI D cs A s x o out ad H locs h1 v h3 S → lv_has ls 7 (lLo b x o out i) → W p l e room_1 s m #[Value.ref b] below meth c H locs (cells + 9) (slots + 53) Q (F0 m 786 ls [])) :
    W p l e room_1 s m #[Value.ref b] below meth c H locs cells slots Q (F0 m 692 ls []) := by
  obtain ⟨hP1, hPo, hP3, e1, e2, e3, hE, hR, hS⟩ := hI
  obtain ⟨g, gr, nf, pT, nt, hs, hw⟩ := id hE
  obtain ⟨⟨bA, bB, bC, bD, bE, bF, bG, bH, bI, bJ⟩, bT⟩ := id hw
  refine lv_aload_n F.1 F.2.1 d_law_692 rfl (lv_at hl 3 rfl) ?_
  refine p3_ci (p3_V F (c_D_patches l D cs (sA h1 H) h1 x g gr (dpS S) S nf pT nt hs) X_L_93 rfl rfl ⟨by decide, by decide⟩ hP1 hA hK hS hs.1 rfl rfl rfl hl.1 rfl (Nat.le_of_ble_eq_true rfl) d_law_693 ⟨by omega, by omega⟩) hP1 hA hS hPo e1 hP3 e2 (fun r1 u1 H locs hq hP1 hPo g1 hP3 g2 hS => ?_)
  obtain ⟨hq1, hr1⟩ := hq
  rw [hq1] at hP1
  clear g1 g2
  refine lv_aload_n F.1 F.2.1 d_law_696 rfl (lv_at hl 2 rfl) ?_
  refine p3_ci (p3_V F (c_M_patches l D cs (sA h3 H) h3 o ad S hR) X_L_96 rfl rfl ⟨by decide, by decide⟩ hP3 hA hK hS hR.1 rfl rfl rfl hl.1 rfl (Nat.le_of_ble_eq_true rfl) d_law_697 ⟨by omega, by omega⟩) hP3 hA hS hP1 e2.symm hPo e3.symm (fun r2 u3 H locs hq hP3 hP1 g1 hPo g2 hS => ?_)
  obtain ⟨hR3, hr3⟩ := hq
  refine lv_icmp_eq (tgt := 786) F.1 F.2.1 d_law_700 (by decide) (fun _ => ?_) (fun z9 => absurd (by rw [hr1, hr3, bE]) z9)
  exact W.widen (k := cells + 9) (n := slots + 53) (by omega) (by omega) (kk H locs ls _ _ _ _ ⟨hP1, hPo, hP3, e1, g1.symm, g2.symm, hE.num 0, hR3, hS⟩ hl)
set_option maxHeartbeats 4000000 in
set_option maxRecDepth 100000 in
theorem L_case_target {p : Program} {l : Launch} {e : Env} {s : State} {m : MethodId} {below : List Frame} {meth : Method} {c : Code} {H : Heap} {locs : List Loc} {cells slots : Nat} {Q : State → Prop} {ls : Array Slot} {D : va_G} {cs : Nat → Nat} {A : Nat → Prop} {b L : Nat} {xs : Nat → Int32} {x o out i : Nat} {ad : Nat → Nat} {h1 h3 : pw_H} {v : Nat → Int64} {S : St} (hst : l.stackTraces = false) (F : CallFix p m c code 7 s #[Value.ref b] gws R_L) (hX : va_X b L xs s s.heap) (hbl : b < s.heap.size) (hbA : ¬ A b) (hL : L ≤ 2560) (hA : ∀ q, s.heap.size ≤ q → A q) (hK : kon D cs A s s.heap)
    (hI : LI D cs A s x o out ad H locs h1 v h3 S) (hl : lv_has ls 7 (lLo b x o out i)) (hi : i + 4 < L) (hf : cells + 9 ≤ room_1.cells ∧ slots + 53 ≤ room_1.slots)
    (kk : ∀ (H : Heap) (locs : List Loc) (ls : Array Slot) (h1 : pw_H) (v : Nat → Int64) (h3 : pw_H) (S : St), LI D cs A s x o out ad H locs h1 v h3 S → lv_has ls 7 (lLo b x o out i) → W p l e room_1 s m #[Value.ref b] below meth c H locs (cells + 9) (slots + 53) Q (F0 m 786 ls [])) :
    W p l e room_1 s m #[Value.ref b] below meth c H locs cells slots Q (F0 m 705 ls []) := by
  obtain ⟨hP1, hPo, hP3, e1, e2, e3, hE, hR, hS⟩ := hI
  obtain ⟨g, gr, nf, pT, nt, hs, hw⟩ := id hE
  obtain ⟨⟨bA, bB, bC, bD, bE, bF, bG, bH, bI, bJ⟩, bT⟩ := id hw
  refine lv_aload_n F.1 F.2.1 d_law_705 rfl (lv_at hl 3 rfl) ?_
  refine p3_ci (p3_V F (c_D_target l D cs (sA h1 H) h1 x g gr (dpS S) S nf pT nt hs) X_L_97 rfl rfl ⟨by decide, by decide⟩ hP1 hA hK hS hs.1 rfl rfl rfl hl.1 rfl (Nat.le_of_ble_eq_true rfl) d_law_706 ⟨by omega, by omega⟩) hP1 hA hS hPo e1 hP3 e2 (fun r1 u1 H locs hq hP1 hPo g1 hP3 g2 hS => ?_)
  obtain ⟨hq1, hr1⟩ := hq
  rw [hq1] at hP1
  clear g1 g2
  refine lv_aload_n F.1 F.2.1 d_law_709 rfl (lv_at hl 2 rfl) ?_
  refine p3_ci (p3_V F (c_M_target l D cs (sA h3 H) h3 o ad S hR) X_L_100 rfl rfl ⟨by decide, by decide⟩ hP3 hA hK hS hR.1 rfl rfl rfl hl.1 rfl (Nat.le_of_ble_eq_true rfl) d_law_710 ⟨by omega, by omega⟩) hP3 hA hS hP1 e2.symm hPo e3.symm (fun r2 u3 H locs hq hP3 hP1 g1 hPo g2 hS => ?_)
  obtain ⟨hR3, hr3⟩ := hq
  refine lv_icmp_eq (tgt := 786) F.1 F.2.1 d_law_713 (by decide) (fun _ => ?_) (fun z9 => absurd (by rw [hr1, hr3]) z9)
  exact W.widen (k := cells + 9) (n := slots + 53) (by omega) (by omega) (kk H locs ls _ _ _ _ ⟨hP1, hPo, hP3, e1, g1.symm, g2.symm, hE.num 0, hR3, hS⟩ hl)
