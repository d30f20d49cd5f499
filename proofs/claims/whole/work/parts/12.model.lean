theorem tn_nI {n : Nat} (h : n < 2 ^ 31) : tn (nI n) = n := nI_clamp h
theorem mSettle_t {S : St} {nt : Nat} (hT : S 16 5 = nI nt) (hn : nt ≤ 4) (hh : ∀ j, j < nt → S 6 j = S 16 4) : mSettle S = sp (sp S 16 3 (S 16 4)) 16 4 (-1) := by
  unfold mSettle
  rw [if_pos (show allOver S from fun t ht => hh t (by rw [hT, tn_nI (by omega)] at ht; exact ht))]
theorem mSettle_f {S : St} {nt : Nat} (hT : S 16 5 = nI nt) (hn : nt ≤ 4) (hh : ∃ j, j < nt ∧ ¬ S 6 j = S 16 4) : mSettle S = S := by
  unfold mSettle
  obtain ⟨j, hj, hne⟩ := hh
  rw [if_neg (show ¬ allOver S from fun z => hne (z j (by rw [hT, tn_nI (by omega)]; exact hj)))]
theorem mEnter_6 {S : St} {t f : Nat} (hd : S 11 t = 6) : mEnter S t f = S := by unfold mEnter; rw [if_pos hd]
theorem mEnter_go {S : St} {t f d L : Nat} (hd : S 11 t = nI d) (hd6 : d < 6) (hL : S 6 t = nI L) (hL5 : L ≤ 5) :
    mEnter S t f = sp (sp (sp (sp (sp S 12 (6 * t + d) (nI (bRow S f L))) 13 (6 * t + d) (nI L)) 14 (6 * t + d) 0) 15 (6 * t + d) 0) 11 t (nI (d + 1)) := by
  have h1 : ¬ S 11 t = 6 := fun z => by
    rw [hd] at z
    have := (nI_eq (a := d) (b := 6) (by omega) (by decide)).mp z
    omega
  unfold mEnter
  rw [if_neg h1, hd, hL, nI_1]
  simp only [tn_nI (show d < 2 ^ 31 by omega), tn_nI (show L < 2 ^ 31 by omega)]
abbrev rm_M_inn : Room := { frames := 0, cells := 0, slots := 0, locals := 0 }
set_option maxHeartbeats 4000000 in
set_option maxRecDepth 100000 in
theorem c_M_inn (l : Launch) (D : va_G) (cs : Nat → Nat) (A : Nat → Prop) (h : pw_H) (k lo hi : Int32) : pm l y_M_inn b_M_inn 3 (some .boolean) rm_M_inn [.int k, .int lo, .int hi] D cs A h (va_Qi (fun (r : Int32) (h' : pw_H) => h' = h ∧ r = (if lo ≤ k ∧ k ≤ hi then 1 else 0)) (ww D cs A) A) 0 0 := by
  refine pm_of R_M rfl (by decide) (Nat.le_of_ble_eq_true rfl) (fun p e s m below meth c ls F hr hlk hnm hP hA hK hl => ?_)
  have hS : va_S A s.heap s.heap [] := va_S.rf
  replace hl : lv_has ls 3 [(0, .int k), (1, .int lo), (2, .int hi)] := hl
  refine lv_iload_n F.1 F.2.1 d_M_inn_0 rfl (lv_at hl 0 rfl) ?_
  refine lv_iload_n F.1 F.2.1 d_M_inn_1 rfl (lv_at hl 1 rfl) ?_
  refine lv_icmp_lt (tgt := 14) F.1 F.2.1 d_M_inn_2 (by decide) (fun c1 => ?_) (fun c1 => ?_)
  · skip
    refine lv_iconst (v := 0) F.1 F.2.1 d_M_inn_14 (by decide) ?_
    exact pw_zret F hr rfl hlk hP hA hK hS (by decide) (by decide) d_M_inn_15 ⟨rfl, by rw [if_neg (fun z9 => absurd c1 (Int32.not_lt.mpr z9.1))]⟩
  · skip
    refine lv_iload_n F.1 F.2.1 d_M_inn_5 rfl (lv_at hl 0 rfl) ?_
    refine lv_iload_n F.1 F.2.1 d_M_inn_6 rfl (lv_at hl 2 rfl) ?_
    refine lv_icmp_gt (tgt := 14) F.1 F.2.1 d_M_inn_7 (by decide) (fun c2 => ?_) (fun c2 => ?_)
    · skip
      refine lv_iconst (v := 0) F.1 F.2.1 d_M_inn_14 (by decide) ?_
      exact pw_zret F hr rfl hlk hP hA hK hS (by decide) (by decide) d_M_inn_15 ⟨rfl, by rw [if_neg (fun z9 => absurd c2 (Int32.not_lt.mpr z9.2))]⟩
    · skip
      refine lv_iconst (v := 1) F.1 F.2.1 d_M_inn_10 (by decide) ?_
      refine lv_goto (tgt := 15) F.1 F.2.1 d_M_inn_11 (by decide) ?_
      exact pw_zret F hr rfl hlk hP hA hK hS (by decide) (by decide) d_M_inn_15 ⟨rfl, by rw [if_pos ⟨Int32.not_lt.mp c1, Int32.not_lt.mp c2⟩]⟩
abbrev rm_M_thrown : Room := { frames := 0, cells := 0, slots := 0, locals := 0 }
set_option maxHeartbeats 4000000 in
set_option maxRecDepth 100000 in
theorem c_M_thrown (l : Launch) (D : va_G) (cs : Nat → Nat) (A : Nat → Prop) (h : pw_H) (o : Nat) (ad : Nat → Nat) (S : St) (hR : RM cs h o ad S) : pm l y_M_thrown b_M_thrown 1 (some .int) rm_M_thrown [.ref o] D cs A h (va_Qi (fun (r : Int32) (h' : pw_H) => h' = h ∧ r = S 16 0) (ww D cs A) A) 0 0 := by
  refine pm_of R_M rfl (by decide) (Nat.le_of_ble_eq_true rfl) (fun p e s m below meth c ls F hr hlk hnm hP hA hK hl => ?_)
  have hS : va_S A s.heap s.heap [] := va_S.rf
  replace hl : lv_has ls 1 [(0, .ref o)] := hl
  refine lv_aload_n F.1 F.2.1 d_M_thrown_0 rfl (lv_at hl 0 rfl) ?_
  have f1 : h o = some (.inr (7, [.int (S 16 0), .int (S 16 1), .ref (ad 0), .ref (ad 1), .ref (ad 2), .ref (ad 3), .ref (ad 4), .int (S 16 2), .int (S 16 3), .int (S 16 4), .int (S 16 5), .ref (ad 5), .ref (ad 6), .ref (ad 7), .ref (ad 8), .ref (ad 9), .ref (ad 10), .ref (ad 11), .ref (ad 12), .ref (ad 13), .ref (ad 14), .ref (ad 15)])) := hR.1
  refine pw_get F I_M hK.1 hP f1 rfl 0 (by decide) L_M_63 (fun _ z => z) rfl d_M_thrown_1 ?_
  exact pw_iret F hr hlk hP hA hK hS (by decide) (by decide) d_M_thrown_4 ⟨rfl, rfl⟩
abbrev rm_M_patches : Room := { frames := 0, cells := 0, slots := 0, locals := 0 }
set_option maxHeartbeats 4000000 in
set_option maxRecDepth 100000 in
theorem c_M_patches (l : Launch) (D : va_G) (cs : Nat → Nat) (A : Nat → Prop) (h : pw_H) (o : Nat) (ad : Nat → Nat) (S : St) (hR : RM cs h o ad S) : pm l y_M_patches b_M_patches 1 (some .int) rm_M_patches [.ref o] D cs A h (va_Qi (fun (r : Int32) (h' : pw_H) => RM cs h' o ad (sp S 16 0 0) ∧ r = S 16 3) (ww D cs A) A) 0 0 := by
  refine pm_of R_M rfl (by decide) (Nat.le_of_ble_eq_true rfl) (fun p e s m below meth c ls F hr hlk hnm hP hA hK hl => ?_)
  have hS : va_S A s.heap s.heap [] := va_S.rf
  replace hl : lv_has ls 1 [(0, .ref o)] := hl
  refine lv_aload_n F.1 F.2.1 d_M_patches_0 rfl (lv_at hl 0 rfl) ?_
  refine lv_iconst (v := 0) F.1 F.2.1 d_M_patches_1 (by decide) ?_
  have f1 : h o = some (.inr (7, [.int (S 16 0), .int (S 16 1), .ref (ad 0), .ref (ad 1), .ref (ad 2), .ref (ad 3), .ref (ad 4), .int (S 16 2), .int (S 16 3), .int (S 16 4), .int (S 16 5), .ref (ad 5), .ref (ad 6), .ref (ad 7), .ref (ad 8), .ref (ad 9), .ref (ad 10), .ref (ad 11), .ref (ad 12), .ref (ad 13), .ref (ad 14), .ref (ad 15)])) := hR.1
  refine pw_put F I_M ty_M k_M n_M hK.1 hP hS f1 rfl 0 (by decide) L_M_63 (fun _ z => z) rfl rfl rfl (Nat.le_of_ble_eq_true rfl) d_M_patches_2 (fun H locs hP hS => ?_)
  have hP : pw D vwCl A (pu h o (.inr (7, (mfs ad S).set (mpos 0) (.int 0)))) H := hP
  have hR := hR.num (show 0 < 6 by decide) 0
  obtain ⟨h2, e3⟩ : ∃ z9 : pw_H, z9 = pu h o (.inr (7, (mfs ad S).set (mpos 0) (.int 0))) := ⟨_, rfl⟩
  rw [← e3] at hP
  obtain ⟨S4, t5⟩ : ∃ z9 : St, z9 = sp S 16 0 0 := ⟨_, rfl⟩
  have hR : RM cs h2 o ad S4 := by rw [e3, t5]; exact hR
  refine lv_aload_n F.1 F.2.1 d_M_patches_5 rfl (lv_at hl 0 rfl) ?_
  have f6 : h2 o = some (.inr (7, [.int (S4 16 0), .int (S4 16 1), .ref (ad 0), .ref (ad 1), .ref (ad 2), .ref (ad 3), .ref (ad 4), .int (S4 16 2), .int (S4 16 3), .int (S4 16 4), .int (S4 16 5), .ref (ad 5), .ref (ad 6), .ref (ad 7), .ref (ad 8), .ref (ad 9), .ref (ad 10), .ref (ad 11), .ref (ad 12), .ref (ad 13), .ref (ad 14), .ref (ad 15)])) := hR.1
  refine pw_get F I_M hK.1 hP f6 rfl 8 (by decide) L_M_69 (fun _ z => z) rfl d_M_patches_6 ?_
  refine W.eq (g2 := F0 m 9 ls [.int (S 16 3)]) (by rw [show S4 16 3 = S 16 3 from by rw [t5]; exact sp_j (by decide)]) ?_
  exact pw_iret F hr hlk hP hA hK hS (by decide) (by decide) d_M_patches_9 ⟨by rw [t5] at hR; exact hR, rfl⟩
abbrev rm_M_target : Room := { frames := 0, cells := 0, slots := 0, locals := 0 }
set_option maxHeartbeats 4000000 in
set_option maxRecDepth 100000 in
theorem c_M_target (l : Launch) (D : va_G) (cs : Nat → Nat) (A : Nat → Prop) (h : pw_H) (o : Nat) (ad : Nat → Nat) (S : St) (hR : RM cs h o ad S) : pm l y_M_target b_M_target 1 (some .int) rm_M_target [.ref o] D cs A h (va_Qi (fun (r : Int32) (h' : pw_H) => RM cs h' o ad (sp S 16 0 0) ∧ r = S 16 4) (ww D cs A) A) 0 0 := by
  refine pm_of R_M rfl (by decide) (Nat.le_of_ble_eq_true rfl) (fun p e s m below meth c ls F hr hlk hnm hP hA hK hl => ?_)
  have hS : va_S A s.heap s.heap [] := va_S.rf
  replace hl : lv_has ls 1 [(0, .ref o)] := hl
  refine lv_aload_n F.1 F.2.1 d_M_target_0 rfl (lv_at hl 0 rfl) ?_
  refine lv_iconst (v := 0) F.1 F.2.1 d_M_target_1 (by decide) ?_
  have f1 : h o = some (.inr (7, [.int (S 16 0), .int (S 16 1), .ref (ad 0), .ref (ad 1), .ref (ad 2), .ref (ad 3), .ref (ad 4), .int (S 16 2), .int (S 16 3), .int (S 16 4), .int (S 16 5), .ref (ad 5), .ref (ad 6), .ref (ad 7), .ref (ad 8), .ref (ad 9), .ref (ad 10), .ref (ad 11), .ref (ad 12), .ref (ad 13), .ref (ad 14), .ref (ad 15)])) := hR.1
  refine pw_put F I_M ty_M k_M n_M hK.1 hP hS f1 rfl 0 (by decide) L_M_63 (fun _ z => z) rfl rfl rfl (Nat.le_of_ble_eq_true rfl) d_M_target_2 (fun H locs hP hS => ?_)
  have hP : pw D vwCl A (pu h o (.inr (7, (mfs ad S).set (mpos 0) (.int 0)))) H := hP
  have hR := hR.num (show 0 < 6 by decide) 0
  obtain ⟨h2, e3⟩ : ∃ z9 : pw_H, z9 = pu h o (.inr (7, (mfs ad S).set (mpos 0) (.int 0))) := ⟨_, rfl⟩
  rw [← e3] at hP
  obtain ⟨S4, t5⟩ : ∃ z9 : St, z9 = sp S 16 0 0 := ⟨_, rfl⟩
  have hR : RM cs h2 o ad S4 := by rw [e3, t5]; exact hR
  refine lv_aload_n F.1 F.2.1 d_M_target_5 rfl (lv_at hl 0 rfl) ?_
  have f6 : h2 o = some (.inr (7, [.int (S4 16 0), .int (S4 16 1), .ref (ad 0), .ref (ad 1), .ref (ad 2), .ref (ad 3), .ref (ad 4), .int (S4 16 2), .int (S4 16 3), .int (S4 16 4), .int (S4 16 5), .ref (ad 5), .ref (ad 6), .ref (ad 7), .ref (ad 8), .ref (ad 9), .ref (ad 10), .ref (ad 11), .ref (ad 12), .ref (ad 13), .ref (ad 14), .ref (ad 15)])) := hR.1
  refine pw_get F I_M hK.1 hP f6 rfl 9 (by decide) L_M_26 (fun _ z => z) rfl d_M_target_6 ?_
  refine W.eq (g2 := F0 m 9 ls [.int (S 16 4)]) (by rw [show S4 16 4 = S 16 4 from by rw [t5]; exact sp_j (by decide)]) ?_
  exact pw_iret F hr hlk hP hA hK hS (by decide) (by decide) d_M_target_9 ⟨by rw [t5] at hR; exact hR, rfl⟩
abbrev rm_M_fail : Room := { frames := 0, cells := 0, slots := 0, locals := 0 }
set_option maxHeartbeats 4000000 in
set_option maxRecDepth 100000 in
theorem c_M_fail (l : Launch) (D : va_G) (cs : Nat → Nat) (A : Nat → Prop) (h : pw_H) (o : Nat) (ad : Nat → Nat) (S : St) (hR : RM cs h o ad S) (y : Int32) : pm l y_M_fail b_M_fail 2 (some .int) rm_M_fail [.ref o, .int y] D cs A h (va_Qi (fun (r : Int32) (h' : pw_H) => RM cs h' o ad (sp S 16 0 y) ∧ r = 0) (ww D cs A) A) 0 0 := by
  refine pm_of R_M rfl (by decide) (Nat.le_of_ble_eq_true rfl) (fun p e s m below meth c ls F hr hlk hnm hP hA hK hl => ?_)
  have hS : va_S A s.heap s.heap [] := va_S.rf
  replace hl : lv_has ls 2 [(0, .ref o), (1, .int y)] := hl
  refine lv_aload_n F.1 F.2.1 d_M_fail_0 rfl (lv_at hl 0 rfl) ?_
  refine lv_iload_n F.1 F.2.1 d_M_fail_1 rfl (lv_at hl 1 rfl) ?_
  have f1 : h o = some (.inr (7, [.int (S 16 0), .int (S 16 1), .ref (ad 0), .ref (ad 1), .ref (ad 2), .ref (ad 3), .ref (ad 4), .int (S 16 2), .int (S 16 3), .int (S 16 4), .int (S 16 5), .ref (ad 5), .ref (ad 6), .ref (ad 7), .ref (ad 8), .ref (ad 9), .ref (ad 10), .ref (ad 11), .ref (ad 12), .ref (ad 13), .ref (ad 14), .ref (ad 15)])) := hR.1
  refine pw_put F I_M ty_M k_M n_M hK.1 hP hS f1 rfl 0 (by decide) L_M_63 (fun _ z => z) rfl rfl rfl (Nat.le_of_ble_eq_true rfl) d_M_fail_2 (fun H locs hP hS => ?_)
  have hP : pw D vwCl A (pu h o (.inr (7, (mfs ad S).set (mpos 0) (.int y)))) H := hP
  have hR := hR.num (show 0 < 6 by decide) y
  obtain ⟨h2, e3⟩ : ∃ z9 : pw_H, z9 = pu h o (.inr (7, (mfs ad S).set (mpos 0) (.int y))) := ⟨_, rfl⟩
  rw [← e3] at hP
  obtain ⟨S4, t5⟩ : ∃ z9 : St, z9 = sp S 16 0 y := ⟨_, rfl⟩
  have hR : RM cs h2 o ad S4 := by rw [e3, t5]; exact hR
  refine lv_iconst (v := 0) F.1 F.2.1 d_M_fail_5 (by decide) ?_
  exact pw_iret F hr hlk hP hA hK hS (by decide) (by decide) d_M_fail_6 ⟨by rw [t5] at hR; exact hR, rfl⟩
abbrev rm_M_fresh : Room := { frames := 0, cells := 0, slots := 0, locals := 0 }
set_option maxHeartbeats 4000000 in
set_option maxRecDepth 100000 in
theorem c_M_fresh (l : Launch) (D : va_G) (cs : Nat → Nat) (A : Nat → Prop) (h : pw_H) (o : Nat) (ad : Nat → Nat) (S : St) (hR : RM cs h o ad S) : pm l y_M_fresh b_M_fresh 1 (some .boolean) rm_M_fresh [.ref o] D cs A h (va_Qi (fun (r : Int32) (h' : pw_H) => h' = h ∧ r = (if mFresh S then 1 else 0)) (ww D cs A) A) 0 0 := by
  refine pm_of R_M rfl (by decide) (Nat.le_of_ble_eq_true rfl) (fun p e s m below meth c ls F hr hlk hnm hP hA hK hl => ?_)
  have hS : va_S A s.heap s.heap [] := va_S.rf
  replace hl : lv_has ls 1 [(0, .ref o)] := hl
  refine lv_aload_n F.1 F.2.1 d_M_fresh_0 rfl (lv_at hl 0 rfl) ?_
  have f1 : h o = some (.inr (7, [.int (S 16 0), .int (S 16 1), .ref (ad 0), .ref (ad 1), .ref (ad 2), .ref (ad 3), .ref (ad 4), .int (S 16 2), .int (S 16 3), .int (S 16 4), .int (S 16 5), .ref (ad 5), .ref (ad 6), .ref (ad 7), .ref (ad 8), .ref (ad 9), .ref (ad 10), .ref (ad 11), .ref (ad 12), .ref (ad 13), .ref (ad 14), .ref (ad 15)])) := hR.1
  refine pw_get F I_M hK.1 hP f1 rfl 10 (by decide) L_M_66 (fun _ z => z) rfl d_M_fresh_1 ?_
  refine lv_if_ne (tgt := 18) F.1 F.2.1 d_M_fresh_4 (by decide) (fun c2 => ?_) (fun c2 => ?_)
  · skip
    refine lv_iconst (v := 0) F.1 F.2.1 d_M_fresh_18 (by decide) ?_
    exact pw_zret F hr rfl hlk hP hA hK hS (by decide) (by decide) d_M_fresh_19 ⟨rfl, by rw [if_neg (fun z9 => c2 z9.1)]⟩
  · skip
    refine lv_aload_n F.1 F.2.1 d_M_fresh_7 rfl (lv_at hl 0 rfl) ?_
    refine pw_get F I_M hK.1 hP f1 rfl 8 (by decide) L_M_69 (fun _ z => z) rfl d_M_fresh_8 ?_
    refine lv_if_ne (tgt := 18) F.1 F.2.1 d_M_fresh_11 (by decide) (fun c3 => ?_) (fun c3 => ?_)
    · skip
      refine lv_iconst (v := 0) F.1 F.2.1 d_M_fresh_18 (by decide) ?_
      exact pw_zret F hr rfl hlk hP hA hK hS (by decide) (by decide) d_M_fresh_19 ⟨rfl, by rw [if_neg (fun z9 => c3 z9.2)]⟩
    · skip
      refine lv_iconst (v := 1) F.1 F.2.1 d_M_fresh_14 (by decide) ?_
      refine lv_goto (tgt := 19) F.1 F.2.1 d_M_fresh_15 (by decide) ?_
      exact pw_zret F hr rfl hlk hP hA hK hS (by decide) (by decide) d_M_fresh_19 ⟨rfl, by rw [if_pos ⟨c2, c3⟩]⟩
abbrev rm_M_bodyRow : Room := { frames := 0, cells := 0, slots := 0, locals := 0 }
set_option maxHeartbeats 4000000 in
set_option maxRecDepth 100000 in
theorem c_M_bodyRow (l : Launch) (D : va_G) (cs : Nat → Nat) (A : Nat → Prop) (h : pw_H) (o : Nat) (ad : Nat → Nat) (S : St) (hR : RM cs h o ad S) (f L : Nat) (hf : f < 8) (hL : L ≤ 5) : pm l y_M_bodyRow b_M_bodyRow 5 (some .int) rm_M_bodyRow [.ref o, .int (nI f), .int (nI L)] D cs A h (va_Qi (fun (r : Int32) (h' : pw_H) => h' = h ∧ r = nI (bRow S f L)) (ww D cs A) A) 0 0 := by
  refine pm_of R_M rfl (by decide) (Nat.le_of_ble_eq_true rfl) (fun p e s m below meth c ls F hr hlk hnm hP hA hK hl => ?_)
  have hS : va_S A s.heap s.heap [] := va_S.rf
  replace hl : lv_has ls 5 [(0, .ref o), (1, .int (nI f)), (2, .int (nI L))] := hl
  refine lv_iload_n F.1 F.2.1 d_M_bodyRow_0 rfl (lv_at hl 1 rfl) ?_
  refine lv_istore_n F.1 F.2.1 d_M_bodyRow_1 rfl hl (by decide) rfl (fun ls hl => ?_)
  replace hl : lv_has ls 5 [(3, .int (nI f)), (0, .ref o), (1, .int (nI f)), (2, .int (nI L))] := hl
  refine lv_iconst (v := 1) F.1 F.2.1 d_M_bodyRow_2 (by decide) ?_
  refine lv_istore F.1 F.2.1 d_M_bodyRow_3 hl (by decide) rfl (fun ls hl => ?_)
  replace hl : lv_has ls 5 [(4, .int 1), (3, .int (nI f)), (0, .ref o), (1, .int (nI f)), (2, .int (nI L))] := hl
  obtain ⟨i, hi⟩ : ∃ i : Nat, i = 0 := ⟨0, rfl⟩
  have hiL : i ≤ L := by omega
  obtain ⟨n, hn⟩ : ∃ n : Nat, L - i = n := ⟨_, rfl⟩
  replace hl : lv_has ls 5 [(4, .int (nI (i + 1))), (3, .int (nI (bRow S f i))), (0, .ref o), (1, .int (nI f)), (2, .int (nI L))] := by rw [hi]; exact hl
  clear hi
  induction n generalizing ls i with
  | zero =>
    refine lv_iload F.1 F.2.1 d_M_bodyRow_5 (lv_at hl 0 rfl) ?_
    refine lv_iload_n F.1 F.2.1 d_M_bodyRow_7 rfl (lv_at hl 4 rfl) ?_
    refine lv_icmp_gt (tgt := 44) F.1 F.2.1 d_M_bodyRow_8 (by decide) (fun c1 => ?_) (fun c1 => absurd (nI_lt (show L < i + 1 by omega) (by omega)) c1)
    refine lv_iload_n F.1 F.2.1 d_M_bodyRow_44 rfl (lv_at hl 1 rfl) ?_
    exact pw_iret F hr hlk hP hA hK hS (by decide) (by decide) d_M_bodyRow_45 ⟨rfl, by rw [show i = L by omega]⟩
  | succ n ih =>
    refine lv_iload F.1 F.2.1 d_M_bodyRow_5 (lv_at hl 0 rfl) ?_
    refine lv_iload_n F.1 F.2.1 d_M_bodyRow_7 rfl (lv_at hl 4 rfl) ?_
    refine lv_icmp_gt (tgt := 44) F.1 F.2.1 d_M_bodyRow_8 (by decide) (fun c2 => absurd c2 (nI_nlt (show i + 1 ≤ L by omega) (by omega))) (fun c2 => ?_)
    refine lv_aload_n F.1 F.2.1 d_M_bodyRow_11 rfl (lv_at hl 2 rfl) ?_
    have f3 : h o = some (.inr (7, [.int (S 16 0), .int (S 16 1), .ref (ad 0), .ref (ad 1), .ref (ad 2), .ref (ad 3), .ref (ad 4), .int (S 16 2), .int (S 16 3), .int (S 16 4), .int (S 16 5), .ref (ad 5), .ref (ad 6), .ref (ad 7), .ref (ad 8), .ref (ad 9), .ref (ad 10), .ref (ad 11), .ref (ad 12), .ref (ad 13), .ref (ad 14), .ref (ad 15)])) := hR.1
    refine pw_get F I_M hK.1 hP f3 rfl 2 (by decide) L_M_7 (fun _ z => z) rfl d_M_bodyRow_12 ?_
    refine lv_bipush (v := 8) F.1 F.2.1 d_M_bodyRow_15 (by decide) ?_
    refine lv_iload F.1 F.2.1 d_M_bodyRow_17 (lv_at hl 0 rfl) ?_
    refine lv_imul F.1 F.2.1 d_M_bodyRow_19 ?_
    refine W.eq (g2 := F0 m 20 ls [.int (nI (8 * (i + 1))), .ref (ad 0)]) (by rw [show (8 : Int32) = nI 8 from rfl, pk_mul]) ?_
    refine lv_iload_n F.1 F.2.1 d_M_bodyRow_20 rfl (lv_at hl 3 rfl) ?_
    refine lv_iadd F.1 F.2.1 d_M_bodyRow_21 ?_
    refine W.eq (g2 := F0 m 22 ls [.int (nI ((8 * (i + 1)) + f)), .ref (ad 0)]) (by rw [nI_add]) ?_
    have f4 : h (ad 0) = some (.inl (cs 1, 56, .inl (S 0))) := hR.2.1 0 (by decide)
    refine pw_zaldN F hK.1 hP 1 f4 rfl (k := (8 * (i + 1)) + f) (by omega) (by decide) d_M_bodyRow_22 ?_
    refine lv_if_eq (tgt := 36) F.1 F.2.1 d_M_bodyRow_23 (by decide) (fun c5 => ?_) (fun c5 => ?_)
    · skip
      refine lv_iload_n F.1 F.2.1 d_M_bodyRow_36 rfl (lv_at hl 1 rfl) ?_
      refine W.eq (g2 := F0 m 37 ls [.int (nI (bRow S f (i + 1)))]) (by rw [show nI (bRow S f (i + 1)) = nI (bRow S f i) from by simp only [bRow]; rw [if_neg (fun z9 => z9 c5)]]) ?_
      refine lv_istore_n F.1 F.2.1 d_M_bodyRow_37 rfl hl (by decide) rfl (fun ls hl => ?_)
      replace hl : lv_has ls 5 [(3, .int (nI (bRow S f (i + 1)))), (4, .int (nI (i + 1))), (0, .ref o), (1, .int (nI f)), (2, .int (nI L))] := hl
      refine lv_iinc (k := 1) (v := nI (i + 1 + 1)) F.1 F.2.1 d_M_bodyRow_38 hl rfl (by rw [show Int32.ofInt 1 = nI 1 from rfl, nI_add]) (by decide) rfl (fun ls hl => ?_)
      replace hl : lv_has ls 5 [(4, .int (nI (i + 1 + 1))), (3, .int (nI (bRow S f (i + 1)))), (0, .ref o), (1, .int (nI f)), (2, .int (nI L))] := hl
      refine lv_goto (tgt := 5) F.1 F.2.1 d_M_bodyRow_41 (by decide) ?_
      exact ih (ls := ls) (i := i + 1) (by first | exact hl | omega) (by first | exact hl | omega) (by first | exact hl | omega)
    · skip
      refine lv_bipush (v := 8) F.1 F.2.1 d_M_bodyRow_26 (by decide) ?_
      refine lv_iload F.1 F.2.1 d_M_bodyRow_28 (lv_at hl 0 rfl) ?_
      refine lv_imul F.1 F.2.1 d_M_bodyRow_30 ?_
      refine W.eq (g2 := F0 m 31 ls [.int (nI (8 * (i + 1)))]) (by rw [show (8 : Int32) = nI 8 from rfl, pk_mul]) ?_
      refine lv_iload_n F.1 F.2.1 d_M_bodyRow_31 rfl (lv_at hl 3 rfl) ?_
      refine lv_iadd F.1 F.2.1 d_M_bodyRow_32 ?_
      refine W.eq (g2 := F0 m 33 ls [.int (nI ((8 * (i + 1)) + f))]) (by rw [nI_add]) ?_
      refine lv_goto (tgt := 37) F.1 F.2.1 d_M_bodyRow_33 (by decide) ?_
      refine W.eq (g2 := F0 m 37 ls [.int (nI (bRow S f (i + 1)))]) (by rw [show nI (bRow S f (i + 1)) = nI ((8 * (i + 1)) + f) from by simp only [bRow]; rw [if_pos c5]]) ?_
      refine lv_istore_n F.1 F.2.1 d_M_bodyRow_37 rfl hl (by decide) rfl (fun ls hl => ?_)
      replace hl : lv_has ls 5 [(3, .int (nI (bRow S f (i + 1)))), (4, .int (nI (i + 1))), (0, .ref o), (1, .int (nI f)), (2, .int (nI L))] := hl
      refine lv_iinc (k := 1) (v := nI (i + 1 + 1)) F.1 F.2.1 d_M_bodyRow_38 hl rfl (by rw [show Int32.ofInt 1 = nI 1 from rfl, nI_add]) (by decide) rfl (fun ls hl => ?_)
      replace hl : lv_has ls 5 [(4, .int (nI (i + 1 + 1))), (3, .int (nI (bRow S f (i + 1)))), (0, .ref o), (1, .int (nI f)), (2, .int (nI L))] := hl
      refine lv_goto (tgt := 5) F.1 F.2.1 d_M_bodyRow_41 (by decide) ?_
      exact ih (ls := ls) (i := i + 1) (by first | exact hl | omega) (by first | exact hl | omega) (by first | exact hl | omega)
abbrev rm_M_settle : Room := { frames := 0, cells := 0, slots := 0, locals := 0 }
set_option maxHeartbeats 4000000 in
set_option maxRecDepth 100000 in
theorem c_M_settle (l : Launch) (D : va_G) (cs : Nat → Nat) (A : Nat → Prop) (h : pw_H) (o : Nat) (ad : Nat → Nat) (S : St) (hR : RM cs h o ad S) (nt : Nat) (hnt : nt ≤ 4) (hT : S 16 5 = nI nt) : pm l y_M_settle b_M_settle 3 none rm_M_settle [.ref o] D cs A h (va_Qv (fun (h' : pw_H) => RM cs h' o ad (mSettle S)) (ww D cs A) A) 0 0 := by
  refine pm_of R_M rfl (by decide) (Nat.le_of_ble_eq_true rfl) (fun p e s m below meth c ls F hr hlk hnm hP hA hK hl => ?_)
  have hS : va_S A s.heap s.heap [] := va_S.rf
  replace hl : lv_has ls 3 [(0, .ref o)] := hl
  refine lv_iconst (v := 1) F.1 F.2.1 d_M_settle_0 (by decide) ?_
  refine lv_istore_n F.1 F.2.1 d_M_settle_1 rfl hl (by decide) rfl (fun ls hl => ?_)
  replace hl : lv_has ls 3 [(1, .int 1), (0, .ref o)] := hl
  refine lv_iconst (v := 0) F.1 F.2.1 d_M_settle_2 (by decide) ?_
  refine lv_istore_n F.1 F.2.1 d_M_settle_3 rfl hl (by decide) rfl (fun ls hl => ?_)
  replace hl : lv_has ls 3 [(2, .int 0), (1, .int 1), (0, .ref o)] := hl
  obtain ⟨t, ht0⟩ : ∃ t : Nat, t = 0 := ⟨0, rfl⟩
  obtain ⟨b, hb0⟩ : ∃ b : Int32, b = 1 := ⟨1, rfl⟩
  have hb : (b = 1 ∧ ∀ j, j < t → S 6 j = S 16 4) ∨ (b = 0 ∧ ∃ j, j < t ∧ ¬ S 6 j = S 16 4) := Or.inl ⟨hb0, fun j hj => by omega⟩
  have hle : t ≤ nt := by omega
  obtain ⟨n, hn⟩ : ∃ n : Nat, nt - t = n := ⟨_, rfl⟩
  replace hl : lv_has ls 3 [(2, .int (nI t)), (1, .int b), (0, .ref o)] := by rw [ht0, hb0]; exact hl
  clear ht0 hb0
  induction n generalizing ls t b with
  | zero =>
    refine lv_iload_n F.1 F.2.1 d_M_settle_4 rfl (lv_at hl 0 rfl) ?_
    refine lv_aload_n F.1 F.2.1 d_M_settle_5 rfl (lv_at hl 2 rfl) ?_
    have f1 : h o = some (.inr (7, [.int (S 16 0), .int (S 16 1), .ref (ad 0), .ref (ad 1), .ref (ad 2), .ref (ad 3), .ref (ad 4), .int (S 16 2), .int (S 16 3), .int (S 16 4), .int (S 16 5), .ref (ad 5), .ref (ad 6), .ref (ad 7), .ref (ad 8), .ref (ad 9), .ref (ad 10), .ref (ad 11), .ref (ad 12), .ref (ad 13), .ref (ad 14), .ref (ad 15)])) := hR.1
    refine pw_get F I_M hK.1 hP f1 rfl 10 (by decide) L_M_66 (fun _ z => z) rfl d_M_settle_6 ?_
    refine W.eq (g2 := F0 m 9 ls [.int (nI nt), .int (nI t)]) (by rw [hT]) ?_
    refine lv_icmp_ge (tgt := 41) F.1 F.2.1 d_M_settle_9 (by decide) (fun c2 => ?_) (fun c2 => absurd (nI_le (show nt ≤ t by omega) (by omega)) c2)
    refine lv_iload_n F.1 F.2.1 d_M_settle_41 rfl (lv_at hl 1 rfl) ?_
    refine lv_if_ne (tgt := 46) F.1 F.2.1 d_M_settle_42 (by decide) (fun c3 => ?_) (fun c3 => ?_)
    · skip
      refine lv_aload_n F.1 F.2.1 d_M_settle_46 rfl (lv_at hl 2 rfl) ?_
      refine lv_aload_n F.1 F.2.1 d_M_settle_47 rfl (lv_at hl 2 rfl) ?_
      refine pw_get F I_M hK.1 hP f1 rfl 9 (by decide) L_M_26 (fun _ z => z) rfl d_M_settle_48 ?_
      refine pw_put F I_M ty_M k_M n_M hK.1 hP hS f1 rfl 8 (by decide) L_M_69 (fun _ z => z) rfl rfl rfl (Nat.le_of_ble_eq_true rfl) d_M_settle_51 (fun H locs hP hS => ?_)
      have hP : pw D vwCl A (pu h o (.inr (7, (mfs ad S).set (mpos 3) (.int (S 16 4))))) H := hP
      have hR := hR.num (show 3 < 6 by decide) (S 16 4)
      obtain ⟨h4, e5⟩ : ∃ z9 : pw_H, z9 = pu h o (.inr (7, (mfs ad S).set (mpos 3) (.int (S 16 4)))) := ⟨_, rfl⟩
      rw [← e5] at hP
      obtain ⟨S6, t7⟩ : ∃ z9 : St, z9 = sp S 16 3 (S 16 4) := ⟨_, rfl⟩
      have hR : RM cs h4 o ad S6 := by rw [e5, t7]; exact hR
      refine lv_aload_n F.1 F.2.1 d_M_settle_54 rfl (lv_at hl 2 rfl) ?_
      refine lv_iconst (v := (-1)) F.1 F.2.1 d_M_settle_55 (by decide) ?_
      have f8 : h4 o = some (.inr (7, [.int (S6 16 0), .int (S6 16 1), .ref (ad 0), .ref (ad 1), .ref (ad 2), .ref (ad 3), .ref (ad 4), .int (S6 16 2), .int (S6 16 3), .int (S6 16 4), .int (S6 16 5), .ref (ad 5), .ref (ad 6), .ref (ad 7), .ref (ad 8), .ref (ad 9), .ref (ad 10), .ref (ad 11), .ref (ad 12), .ref (ad 13), .ref (ad 14), .ref (ad 15)])) := hR.1
      refine pw_put F I_M ty_M k_M n_M hK.1 hP hS f8 rfl 9 (by decide) L_M_26 (fun _ z => z) rfl rfl rfl (Nat.le_of_ble_eq_true rfl) d_M_settle_56 (fun H locs hP hS => ?_)
      have hP : pw D vwCl A (pu h4 o (.inr (7, (mfs ad S6).set (mpos 4) (.int (-1))))) H := hP
      have hR := hR.num (show 4 < 6 by decide) (-1)
      obtain ⟨h9, e10⟩ : ∃ z9 : pw_H, z9 = pu h4 o (.inr (7, (mfs ad S6).set (mpos 4) (.int (-1)))) := ⟨_, rfl⟩
      rw [← e10] at hP
      obtain ⟨S11, t12⟩ : ∃ z9 : St, z9 = sp S6 16 4 (-1) := ⟨_, rfl⟩
      have hR : RM cs h9 o ad S11 := by rw [e10, t12]; exact hR
      exact pw_vret F hr hlk hP hA hK hS (by decide) (by decide) d_M_settle_59 (by rw [t12, t7] at hR; rw [mSettle_t hT hnt (hb.elim (fun hb j hj => hb.2 j (by omega)) (fun hb => absurd hb.1 c3))]; exact hR)
    · skip
      exact pw_vret F hr hlk hP hA hK hS (by decide) (by decide) d_M_settle_45 (by rw [mSettle_f hT hnt (hb.elim (fun hb => absurd (hb.1.symm.trans c3) (by decide)) (fun hb => hb.2.elim (fun j h9 => ⟨j, by have := h9.1; omega, h9.2⟩)))]; exact hR)
  | succ n ih =>
    refine lv_iload_n F.1 F.2.1 d_M_settle_4 rfl (lv_at hl 0 rfl) ?_
    refine lv_aload_n F.1 F.2.1 d_M_settle_5 rfl (lv_at hl 2 rfl) ?_
    have f13 : h o = some (.inr (7, [.int (S 16 0), .int (S 16 1), .ref (ad 0), .ref (ad 1), .ref (ad 2), .ref (ad 3), .ref (ad 4), .int (S 16 2), .int (S 16 3), .int (S 16 4), .int (S 16 5), .ref (ad 5), .ref (ad 6), .ref (ad 7), .ref (ad 8), .ref (ad 9), .ref (ad 10), .ref (ad 11), .ref (ad 12), .ref (ad 13), .ref (ad 14), .ref (ad 15)])) := hR.1
    refine pw_get F I_M hK.1 hP f13 rfl 10 (by decide) L_M_66 (fun _ z => z) rfl d_M_settle_6 ?_
    refine W.eq (g2 := F0 m 9 ls [.int (nI nt), .int (nI t)]) (by rw [hT]) ?_
    refine lv_icmp_ge (tgt := 41) F.1 F.2.1 d_M_settle_9 (by decide) (fun c14 => absurd c14 (nI_ge (show t < nt by omega) (by omega))) (fun c14 => ?_)
    refine lv_iload_n F.1 F.2.1 d_M_settle_12 rfl (lv_at hl 1 rfl) ?_
    refine lv_if_eq (tgt := 33) F.1 F.2.1 d_M_settle_13 (by decide) (fun c15 => ?_) (fun c15 => ?_)
    · skip
      refine lv_iconst (v := 0) F.1 F.2.1 d_M_settle_33 (by decide) ?_
      refine lv_istore_n F.1 F.2.1 d_M_settle_34 rfl hl (by decide) rfl (fun ls hl => ?_)
      replace hl : lv_has ls 3 [(1, .int 0), (2, .int (nI t)), (0, .ref o)] := hl
      refine lv_iinc (k := 1) (v := nI (t + 1)) F.1 F.2.1 d_M_settle_35 hl rfl (by rw [show Int32.ofInt 1 = nI 1 from rfl, nI_add]) (by decide) rfl (fun ls hl => ?_)
      replace hl : lv_has ls 3 [(2, .int (nI (t + 1))), (1, .int 0), (0, .ref o)] := hl
      refine lv_goto (tgt := 4) F.1 F.2.1 d_M_settle_38 (by decide) ?_
      have hb9 : ((0 : Int32) = 1 ∧ ∀ j, j < t + 1 → S 6 j = S 16 4) ∨ ((0 : Int32) = 0 ∧ ∃ j, j < t + 1 ∧ ¬ S 6 j = S 16 4) := Or.inr ⟨rfl, hb.elim (fun hb => absurd (hb.1.symm.trans c15) (by decide)) (fun hb => hb.2.elim (fun j h9 => ⟨j, by have := h9.1; omega, h9.2⟩))⟩
      exact ih (ls := ls) (t := t + 1) (b := 0) (by first | exact hl | exact hb9 | omega) (by first | exact hl | exact hb9 | omega) (by first | exact hl | exact hb9 | omega) (by first | exact hl | exact hb9 | omega)
    · skip
      refine lv_aload_n F.1 F.2.1 d_M_settle_16 rfl (lv_at hl 2 rfl) ?_
      refine pw_get F I_M hK.1 hP f13 rfl 12 (by decide) L_M_33 (fun _ z => z) rfl d_M_settle_17 ?_
      refine lv_iload_n F.1 F.2.1 d_M_settle_20 rfl (lv_at hl 0 rfl) ?_
      have f16 : h (ad 6) = some (.inl (cs 0, 4, .inl (S 6))) := hR.2.1 6 (by decide)
      refine pw_ialdN F hK.1 hP 0 f16 rfl (k := t) (by omega) (by decide) d_M_settle_21 ?_
      refine lv_aload_n F.1 F.2.1 d_M_settle_22 rfl (lv_at hl 2 rfl) ?_
      refine pw_get F I_M hK.1 hP f13 rfl 9 (by decide) L_M_26 (fun _ z => z) rfl d_M_settle_23 ?_
      refine lv_icmp_ne (tgt := 33) F.1 F.2.1 d_M_settle_26 (by decide) (fun c17 => ?_) (fun c17 => ?_)
      · skip
        refine lv_iconst (v := 0) F.1 F.2.1 d_M_settle_33 (by decide) ?_
        refine lv_istore_n F.1 F.2.1 d_M_settle_34 rfl hl (by decide) rfl (fun ls hl => ?_)
        replace hl : lv_has ls 3 [(1, .int 0), (2, .int (nI t)), (0, .ref o)] := hl
        refine lv_iinc (k := 1) (v := nI (t + 1)) F.1 F.2.1 d_M_settle_35 hl rfl (by rw [show Int32.ofInt 1 = nI 1 from rfl, nI_add]) (by decide) rfl (fun ls hl => ?_)
        replace hl : lv_has ls 3 [(2, .int (nI (t + 1))), (1, .int 0), (0, .ref o)] := hl
        refine lv_goto (tgt := 4) F.1 F.2.1 d_M_settle_38 (by decide) ?_
        have hb9 : ((0 : Int32) = 1 ∧ ∀ j, j < t + 1 → S 6 j = S 16 4) ∨ ((0 : Int32) = 0 ∧ ∃ j, j < t + 1 ∧ ¬ S 6 j = S 16 4) := Or.inr ⟨rfl, t, by omega, c17⟩
        exact ih (ls := ls) (t := t + 1) (b := 0) (by first | exact hl | exact hb9 | omega) (by first | exact hl | exact hb9 | omega) (by first | exact hl | exact hb9 | omega) (by first | exact hl | exact hb9 | omega)
      · skip
        refine lv_iconst (v := 1) F.1 F.2.1 d_M_settle_29 (by decide) ?_
        refine lv_goto (tgt := 34) F.1 F.2.1 d_M_settle_30 (by decide) ?_
        refine lv_istore_n F.1 F.2.1 d_M_settle_34 rfl hl (by decide) rfl (fun ls hl => ?_)
        replace hl : lv_has ls 3 [(1, .int 1), (2, .int (nI t)), (0, .ref o)] := hl
        refine lv_iinc (k := 1) (v := nI (t + 1)) F.1 F.2.1 d_M_settle_35 hl rfl (by rw [show Int32.ofInt 1 = nI 1 from rfl, nI_add]) (by decide) rfl (fun ls hl => ?_)
        replace hl : lv_has ls 3 [(2, .int (nI (t + 1))), (1, .int 1), (0, .ref o)] := hl
        refine lv_goto (tgt := 4) F.1 F.2.1 d_M_settle_38 (by decide) ?_
        have hb9 : ((1 : Int32) = 1 ∧ ∀ j, j < t + 1 → S 6 j = S 16 4) ∨ ((1 : Int32) = 0 ∧ ∃ j, j < t + 1 ∧ ¬ S 6 j = S 16 4) := Or.inl ⟨rfl, fun j hj => hb.elim (fun hb => (Nat.lt_or_ge j t).elim (fun h9 => hb.2 j h9) (fun h9 => by rw [show j = t by omega]; exact c17)) (fun hb => absurd hb.1 c15)⟩
        exact ih (ls := ls) (t := t + 1) (b := 1) (by first | exact hl | exact hb9 | omega) (by first | exact hl | exact hb9 | omega) (by first | exact hl | exact hb9 | omega) (by first | exact hl | exact hb9 | omega)
abbrev rm_M_enter : Room := { frames := 1, cells := 0, slots := 0, locals := 24 }
set_option maxHeartbeats 4000000 in
set_option maxRecDepth 100000 in
theorem c_M_enter (l : Launch) (D : va_G) (cs : Nat → Nat) (A : Nat → Prop) (h : pw_H) (o : Nat) (ad : Nat → Nat) (S : St) (hR : RM cs h o ad S) (t f d L : Nat) (ht : t < 4) (hf : f < 8) (hd6 : d ≤ 6) (hL5 : L ≤ 5) (hd : S 11 t = nI d) (hL : S 6 t = nI L) : pm l y_M_enter b_M_enter 4 none rm_M_enter [.ref o, .int (nI t), .int (nI f)] D cs A h (va_Qv (fun (h' : pw_H) => RM cs h' o ad (mEnter S t f)) (ww D cs A) A) 0 0 := by
  refine pm_of R_M rfl (by decide) (Nat.le_of_ble_eq_true rfl) (fun p e s m below meth c ls F hr hlk hnm hP hA hK hl => ?_)
  have hS : va_S A s.heap s.heap [] := va_S.rf
  replace hl : lv_has ls 4 [(0, .ref o), (1, .int (nI t)), (2, .int (nI f))] := hl
  refine lv_aload_n F.1 F.2.1 d_M_enter_0 rfl (lv_at hl 0 rfl) ?_
  have f1 : h o = some (.inr (7, [.int (S 16 0), .int (S 16 1), .ref (ad 0), .ref (ad 1), .ref (ad 2), .ref (ad 3), .ref (ad 4), .int (S 16 2), .int (S 16 3), .int (S 16 4), .int (S 16 5), .ref (ad 5), .ref (ad 6), .ref (ad 7), .ref (ad 8), .ref (ad 9), .ref (ad 10), .ref (ad 11), .ref (ad 12), .ref (ad 13), .ref (ad 14), .ref (ad 15)])) := hR.1
  refine pw_get F I_M hK.1 hP f1 rfl 17 (by decide) L_M_48 (fun _ z => z) rfl d_M_enter_1 ?_
  refine lv_iload_n F.1 F.2.1 d_M_enter_4 rfl (lv_at hl 1 rfl) ?_
  have f2 : h (ad 11) = some (.inl (cs 0, 4, .inl (S 11))) := hR.2.1 11 (by decide)
  refine pw_ialdN F hK.1 hP 0 f2 rfl (k := t) (by omega) (by decide) d_M_enter_5 ?_
  refine W.eq (g2 := F0 m 6 ls [.int (nI d)]) (by rw [hd]) ?_
  refine lv_bipush (v := 6) F.1 F.2.1 d_M_enter_6 (by decide) ?_
  refine lv_icmp_ne (tgt := 12) F.1 F.2.1 d_M_enter_8 (by decide) (fun c3 => ?_) (fun c3 => ?_)
  · skip
    have hlt : d < 6 := by
      rcases Nat.lt_or_ge d 6 with h9 | h9
      · exact h9
      · exact absurd (show nI d = 6 by rw [show d = 6 by omega]; rfl) c3
    refine lv_bipush (v := 6) F.1 F.2.1 d_M_enter_12 (by decide) ?_
    refine lv_iload_n F.1 F.2.1 d_M_enter_14 rfl (lv_at hl 1 rfl) ?_
    refine lv_imul F.1 F.2.1 d_M_enter_15 ?_
    refine W.eq (g2 := F0 m 16 ls [.int (nI (6 * t))]) (by rw [show (6 : Int32) = nI 6 from rfl, pk_mul]) ?_
    refine lv_aload_n F.1 F.2.1 d_M_enter_16 rfl (lv_at hl 0 rfl) ?_
    refine pw_get F I_M hK.1 hP f1 rfl 17 (by decide) L_M_48 (fun _ z => z) rfl d_M_enter_17 ?_
    refine lv_iload_n F.1 F.2.1 d_M_enter_20 rfl (lv_at hl 1 rfl) ?_
    refine pw_ialdN F hK.1 hP 0 f2 rfl (k := t) (by omega) (by decide) d_M_enter_21 ?_
    refine W.eq (g2 := F0 m 22 ls [.int (nI d), .int (nI (6 * t))]) (by rw [hd]) ?_
    refine lv_iadd F.1 F.2.1 d_M_enter_22 ?_
    refine W.eq (g2 := F0 m 23 ls [.int (nI (6 * t + d))]) (by rw [nI_add]) ?_
    refine lv_istore_n F.1 F.2.1 d_M_enter_23 rfl hl (by decide) rfl (fun ls hl => ?_)
    replace hl : lv_has ls 4 [(3, .int (nI (6 * t + d))), (0, .ref o), (1, .int (nI t)), (2, .int (nI f))] := hl
    refine lv_aload_n F.1 F.2.1 d_M_enter_24 rfl (lv_at hl 1 rfl) ?_
    refine pw_get F I_M hK.1 hP f1 rfl 18 (by decide) L_M_51 (fun _ z => z) rfl d_M_enter_25 ?_
    refine lv_iload_n F.1 F.2.1 d_M_enter_28 rfl (lv_at hl 0 rfl) ?_
    refine lv_aload_n F.1 F.2.1 d_M_enter_29 rfl (lv_at hl 1 rfl) ?_
    refine lv_iload_n F.1 F.2.1 d_M_enter_30 rfl (lv_at hl 3 rfl) ?_
    refine lv_aload_n F.1 F.2.1 d_M_enter_31 rfl (lv_at hl 1 rfl) ?_
    refine pw_get F I_M hK.1 hP f1 rfl 12 (by decide) L_M_33 (fun _ z => z) rfl d_M_enter_32 ?_
    refine lv_iload_n F.1 F.2.1 d_M_enter_35 rfl (lv_at hl 2 rfl) ?_
    have f4 : h (ad 6) = some (.inl (cs 0, 4, .inl (S 6))) := hR.2.1 6 (by decide)
    refine pw_ialdN F hK.1 hP 0 f4 rfl (k := t) (by omega) (by decide) d_M_enter_36 ?_
    refine W.eq (g2 := F0 m 37 ls [.int (nI L), .int (nI f), .ref o, .int (nI (6 * t + d)), .ref (ad 12)]) (by rw [hL]) ?_
    refine pw_ciE (pr_V F (c_M_bodyRow l D cs A h o ad S hR f L hf hL5) X_M_93 rfl rfl ⟨by decide, by decide⟩ hP hA hK hS f1 rfl rfl rfl hl.1 rfl (Nat.le_of_ble_eq_true rfl) d_M_enter_37 ⟨by decide, by decide⟩) hS (fun H locs hP hS => ?_)
    have f5 : h (ad 12) = some (.inl (cs 0, 24, .inl (S 12))) := hR.2.1 12 (by decide)
    refine pw_iastN F hK.1 hP hS 0 f5 rfl (k := 6 * t + d) (by omega) (by decide) d_M_enter_40 (fun H locs hP hS => ?_)
    have hP : pw D vwCl A (pu h (ad 12) (.inl (cs 0, 24, .inl (upd (S 12) (6 * t + d) (nI (bRow S f L)))))) H := hP
    have hR := hR.arr (show 12 < 16 by decide) (6 * t + d) (nI (bRow S f L))
    obtain ⟨h6, e7⟩ : ∃ z9 : pw_H, z9 = pu h (ad 12) (.inl (cs 0, 24, .inl (upd (S 12) (6 * t + d) (nI (bRow S f L))))) := ⟨_, rfl⟩
    rw [← e7] at hP
    obtain ⟨S8, t9⟩ : ∃ z9 : St, z9 = sp S 12 (6 * t + d) (nI (bRow S f L)) := ⟨_, rfl⟩
    have hR : RM cs h6 o ad S8 := by rw [e7, t9]; exact hR
    refine lv_aload_n F.1 F.2.1 d_M_enter_41 rfl (lv_at hl 1 rfl) ?_
    have f10 : h6 o = some (.inr (7, [.int (S8 16 0), .int (S8 16 1), .ref (ad 0), .ref (ad 1), .ref (ad 2), .ref (ad 3), .ref (ad 4), .int (S8 16 2), .int (S8 16 3), .int (S8 16 4), .int (S8 16 5), .ref (ad 5), .ref (ad 6), .ref (ad 7), .ref (ad 8), .ref (ad 9), .ref (ad 10), .ref (ad 11), .ref (ad 12), .ref (ad 13), .ref (ad 14), .ref (ad 15)])) := hR.1
    refine pw_get F I_M hK.1 hP f10 rfl 19 (by decide) L_M_54 (fun _ z => z) rfl d_M_enter_42 ?_
    refine lv_iload_n F.1 F.2.1 d_M_enter_45 rfl (lv_at hl 0 rfl) ?_
    refine lv_aload_n F.1 F.2.1 d_M_enter_46 rfl (lv_at hl 1 rfl) ?_
    refine pw_get F I_M hK.1 hP f10 rfl 12 (by decide) L_M_33 (fun _ z => z) rfl d_M_enter_47 ?_
    refine lv_iload_n F.1 F.2.1 d_M_enter_50 rfl (lv_at hl 2 rfl) ?_
    have f11 : h6 (ad 6) = some (.inl (cs 0, 4, .inl (S8 6))) := hR.2.1 6 (by decide)
    refine pw_ialdN F hK.1 hP 0 f11 rfl (k := t) (by omega) (by decide) d_M_enter_51 ?_
    refine W.eq (g2 := F0 m 52 ls [.int (nI L), .int (nI (6 * t + d)), .ref (ad 13)]) (by rw [show S8 6 t = S 6 t from by rw [t9]; exact sp_k (by decide), hL]) ?_
    have f12 : h6 (ad 13) = some (.inl (cs 0, 24, .inl (S8 13))) := hR.2.1 13 (by decide)
    refine pw_iastN F hK.1 hP hS 0 f12 rfl (k := 6 * t + d) (by omega) (by decide) d_M_enter_52 (fun H locs hP hS => ?_)
    have hP : pw D vwCl A (pu h6 (ad 13) (.inl (cs 0, 24, .inl (upd (S8 13) (6 * t + d) (nI L))))) H := hP
    have hR := hR.arr (show 13 < 16 by decide) (6 * t + d) (nI L)
    obtain ⟨h13, e14⟩ : ∃ z9 : pw_H, z9 = pu h6 (ad 13) (.inl (cs 0, 24, .inl (upd (S8 13) (6 * t + d) (nI L)))) := ⟨_, rfl⟩
    rw [← e14] at hP
    obtain ⟨S15, t16⟩ : ∃ z9 : St, z9 = sp S8 13 (6 * t + d) (nI L) := ⟨_, rfl⟩
    have hR : RM cs h13 o ad S15 := by rw [e14, t16]; exact hR
    refine lv_aload_n F.1 F.2.1 d_M_enter_53 rfl (lv_at hl 1 rfl) ?_
    have f17 : h13 o = some (.inr (7, [.int (S15 16 0), .int (S15 16 1), .ref (ad 0), .ref (ad 1), .ref (ad 2), .ref (ad 3), .ref (ad 4), .int (S15 16 2), .int (S15 16 3), .int (S15 16 4), .int (S15 16 5), .ref (ad 5), .ref (ad 6), .ref (ad 7), .ref (ad 8), .ref (ad 9), .ref (ad 10), .ref (ad 11), .ref (ad 12), .ref (ad 13), .ref (ad 14), .ref (ad 15)])) := hR.1
    refine pw_get F I_M hK.1 hP f17 rfl 20 (by decide) L_M_57 (fun _ z => z) rfl d_M_enter_54 ?_
    refine lv_iload_n F.1 F.2.1 d_M_enter_57 rfl (lv_at hl 0 rfl) ?_
    refine lv_iconst (v := 0) F.1 F.2.1 d_M_enter_58 (by decide) ?_
    have f18 : h13 (ad 14) = some (.inl (cs 0, 24, .inl (S15 14))) := hR.2.1 14 (by decide)
    refine pw_iastN F hK.1 hP hS 0 f18 rfl (k := 6 * t + d) (by omega) (by decide) d_M_enter_59 (fun H locs hP hS => ?_)
    have hP : pw D vwCl A (pu h13 (ad 14) (.inl (cs 0, 24, .inl (upd (S15 14) (6 * t + d) 0)))) H := hP
    have hR := hR.arr (show 14 < 16 by decide) (6 * t + d) 0
    obtain ⟨h19, e20⟩ : ∃ z9 : pw_H, z9 = pu h13 (ad 14) (.inl (cs 0, 24, .inl (upd (S15 14) (6 * t + d) 0))) := ⟨_, rfl⟩
    rw [← e20] at hP
    obtain ⟨S21, t22⟩ : ∃ z9 : St, z9 = sp S15 14 (6 * t + d) 0 := ⟨_, rfl⟩
    have hR : RM cs h19 o ad S21 := by rw [e20, t22]; exact hR
    refine lv_aload_n F.1 F.2.1 d_M_enter_60 rfl (lv_at hl 1 rfl) ?_
    have f23 : h19 o = some (.inr (7, [.int (S21 16 0), .int (S21 16 1), .ref (ad 0), .ref (ad 1), .ref (ad 2), .ref (ad 3), .ref (ad 4), .int (S21 16 2), .int (S21 16 3), .int (S21 16 4), .int (S21 16 5), .ref (ad 5), .ref (ad 6), .ref (ad 7), .ref (ad 8), .ref (ad 9), .ref (ad 10), .ref (ad 11), .ref (ad 12), .ref (ad 13), .ref (ad 14), .ref (ad 15)])) := hR.1
    refine pw_get F I_M hK.1 hP f23 rfl 21 (by decide) L_M_60 (fun _ z => z) rfl d_M_enter_61 ?_
    refine lv_iload_n F.1 F.2.1 d_M_enter_64 rfl (lv_at hl 0 rfl) ?_
    refine lv_iconst (v := 0) F.1 F.2.1 d_M_enter_65 (by decide) ?_
    have f24 : h19 (ad 15) = some (.inl (cs 0, 24, .inl (S21 15))) := hR.2.1 15 (by decide)
    refine pw_iastN F hK.1 hP hS 0 f24 rfl (k := 6 * t + d) (by omega) (by decide) d_M_enter_66 (fun H locs hP hS => ?_)
    have hP : pw D vwCl A (pu h19 (ad 15) (.inl (cs 0, 24, .inl (upd (S21 15) (6 * t + d) 0)))) H := hP
    have hR := hR.arr (show 15 < 16 by decide) (6 * t + d) 0
    obtain ⟨h25, e26⟩ : ∃ z9 : pw_H, z9 = pu h19 (ad 15) (.inl (cs 0, 24, .inl (upd (S21 15) (6 * t + d) 0))) := ⟨_, rfl⟩
    rw [← e26] at hP
    obtain ⟨S27, t28⟩ : ∃ z9 : St, z9 = sp S21 15 (6 * t + d) 0 := ⟨_, rfl⟩
    have hR : RM cs h25 o ad S27 := by rw [e26, t28]; exact hR
    refine lv_aload_n F.1 F.2.1 d_M_enter_67 rfl (lv_at hl 1 rfl) ?_
    have f29 : h25 o = some (.inr (7, [.int (S27 16 0), .int (S27 16 1), .ref (ad 0), .ref (ad 1), .ref (ad 2), .ref (ad 3), .ref (ad 4), .int (S27 16 2), .int (S27 16 3), .int (S27 16 4), .int (S27 16 5), .ref (ad 5), .ref (ad 6), .ref (ad 7), .ref (ad 8), .ref (ad 9), .ref (ad 10), .ref (ad 11), .ref (ad 12), .ref (ad 13), .ref (ad 14), .ref (ad 15)])) := hR.1
    refine pw_get F I_M hK.1 hP f29 rfl 17 (by decide) L_M_48 (fun _ z => z) rfl d_M_enter_68 ?_
    refine lv_iload_n F.1 F.2.1 d_M_enter_71 rfl (lv_at hl 2 rfl) ?_
    refine lv_dup2_11 F.1 F.2.1 d_M_enter_72 rfl rfl ?_
    have f30 : h25 (ad 11) = some (.inl (cs 0, 4, .inl (S27 11))) := hR.2.1 11 (by decide)
    refine pw_ialdN F hK.1 hP 0 f30 rfl (k := t) (by omega) (by decide) d_M_enter_73 ?_
    refine W.eq (g2 := F0 m 74 ls [.int (nI d), .int (nI t), .ref (ad 11)]) (by rw [show S27 11 t = S21 11 t from by rw [t28]; exact sp_k (by decide), show S21 11 t = S15 11 t from by rw [t22]; exact sp_k (by decide), show S15 11 t = S8 11 t from by rw [t16]; exact sp_k (by decide), show S8 11 t = S 11 t from by rw [t9]; exact sp_k (by decide), hd]) ?_
    refine lv_iconst (v := 1) F.1 F.2.1 d_M_enter_74 (by decide) ?_
    refine lv_iadd F.1 F.2.1 d_M_enter_75 ?_
    refine W.eq (g2 := F0 m 76 ls [.int (nI (d + 1)), .int (nI t), .ref (ad 11)]) (by rw [show (1 : Int32) = nI 1 from rfl, nI_add]) ?_
    refine pw_iastN F hK.1 hP hS 0 f30 rfl (k := t) (by omega) (by decide) d_M_enter_76 (fun H locs hP hS => ?_)
    have hP : pw D vwCl A (pu h25 (ad 11) (.inl (cs 0, 4, .inl (upd (S27 11) t (nI (d + 1)))))) H := hP
    have hR := hR.arr (show 11 < 16 by decide) t (nI (d + 1))
    obtain ⟨h31, e32⟩ : ∃ z9 : pw_H, z9 = pu h25 (ad 11) (.inl (cs 0, 4, .inl (upd (S27 11) t (nI (d + 1))))) := ⟨_, rfl⟩
    rw [← e32] at hP
    obtain ⟨S33, t34⟩ : ∃ z9 : St, z9 = sp S27 11 t (nI (d + 1)) := ⟨_, rfl⟩
    have hR : RM cs h31 o ad S33 := by rw [e32, t34]; exact hR
    exact pw_vret F hr hlk hP hA hK hS (by decide) (by decide) d_M_enter_77 (by rw [t34, t28, t22, t16, t9] at hR; rw [mEnter_go hd hlt hL hL5]; exact hR)
  · skip
    exact pw_vret F hr hlk hP hA hK hS (by decide) (by decide) d_M_enter_11 (by rw [mEnter_6 (hd.trans c3)]; exact hR)
