abbrev rm_AL_size : Room := { frames := 0, cells := 0, slots := 0, locals := 0 }
set_option maxHeartbeats 4000000 in
set_option maxRecDepth 100000 in
theorem c_AL_size (l : Launch) (D : va_G) (cs : Nat → Nat) (A : Nat → Prop) (h : pw_H) (L : Nat) (E : Value) (n mc : Int32) (fL : h L = some (.inr (0, [E, .int n, .int mc]))) : pm l y_AL_size b_AL_size 1 (some .int) rm_AL_size [.ref L] D cs A h (va_Qi (fun (r : Int32) (h' : pw_H) => h' = h ∧ r = n) (ww D cs A) A) 0 0 := by
  refine pm_of R_AL rfl (by decide) (Nat.le_of_ble_eq_true rfl) (fun p e s m below meth c ls F hr hlk hnm hP hA hK hl => ?_)
  have hS : va_S A s.heap s.heap [] := va_S.rf
  replace hl : lv_has ls 1 [(0, .ref L)] := hl
  refine lv_aload_n F.1 F.2.1 d_AL_size_0 rfl (lv_at hl 0 rfl) ?_
  refine pw_get F I_AL hK.1 hP fL rfl 1 (by decide) L_AL_48 (fun _ z => z) rfl d_AL_size_1 ?_
  exact pw_iret F hr hlk hP hA hK hS (by decide) (by decide) d_AL_size_4 ⟨rfl, rfl⟩
abbrev rm_AL_isEmpty : Room := { frames := 0, cells := 0, slots := 0, locals := 0 }
set_option maxHeartbeats 4000000 in
set_option maxRecDepth 100000 in
theorem c_AL_isEmpty (l : Launch) (D : va_G) (cs : Nat → Nat) (A : Nat → Prop) (h : pw_H) (L : Nat) (E : Value) (n mc : Int32) (fL : h L = some (.inr (0, [E, .int n, .int mc]))) : pm l y_AL_isEmpty b_AL_isEmpty 1 (some .boolean) rm_AL_isEmpty [.ref L] D cs A h (va_Qi (fun (r : Int32) (h' : pw_H) => h' = h ∧ r = (if n = 0 then 1 else 0)) (ww D cs A) A) 0 0 := by
  refine pm_of R_AL rfl (by decide) (Nat.le_of_ble_eq_true rfl) (fun p e s m below meth c ls F hr hlk hnm hP hA hK hl => ?_)
  have hS : va_S A s.heap s.heap [] := va_S.rf
  replace hl : lv_has ls 1 [(0, .ref L)] := hl
  refine lv_aload_n F.1 F.2.1 d_AL_isEmpty_0 rfl (lv_at hl 0 rfl) ?_
  refine pw_get F I_AL hK.1 hP fL rfl 1 (by decide) L_AL_48 (fun _ z => z) rfl d_AL_isEmpty_1 ?_
  refine lv_if_ne (tgt := 11) F.1 F.2.1 d_AL_isEmpty_4 (by decide) (fun c1 => ?_) (fun c1 => ?_)
  · skip
    refine lv_iconst (v := 0) F.1 F.2.1 d_AL_isEmpty_11 (by decide) ?_
    exact pw_zret F hr rfl hlk hP hA hK hS (by decide) (by decide) d_AL_isEmpty_12 ⟨rfl, by rw [if_neg c1]⟩
  · skip
    refine lv_iconst (v := 1) F.1 F.2.1 d_AL_isEmpty_7 (by decide) ?_
    refine lv_goto (tgt := 12) F.1 F.2.1 d_AL_isEmpty_8 (by decide) ?_
    exact pw_zret F hr rfl hlk hP hA hK hS (by decide) (by decide) d_AL_isEmpty_12 ⟨rfl, by rw [if_pos c1]⟩
abbrev rm_B_init : Room := { frames := 1, cells := 2, slots := 24, locals := 16 }
set_option maxHeartbeats 4000000 in
set_option maxRecDepth 100000 in
theorem c_B_init (l : Launch) (D : va_G) (cs : Nat → Nat) (A : Nat → Prop) (h : pw_H) (b : Nat) (fb : h b = some (.inr (1, [.null, .null, .int 0]))) : pm l y_B_init b_B_init 1 none rm_B_init [.ref b] D cs A h (va_Qv (fun (h' : pw_H) => ∃ ka na : Nat, ka ≠ na ∧ h ka = none ∧ h na = none ∧ h' ka = some (.inl (cs 0, 12, .inl (fun _ => 0))) ∧ h' na = some (.inl (cs 0, 12, .inl (fun _ => 0))) ∧ h' b = some (.inr (1, [.ref ka, .ref na, .int 0])) ∧ ext h h' [b]) (ww D cs A) A) 2 24 := by
  refine pm_of R_B rfl (by decide) (Nat.le_of_ble_eq_true rfl) (fun p e s m below meth c ls F hr hlk hnm hP hA hK hl => ?_)
  have hS : va_S A s.heap s.heap [] := va_S.rf
  replace hl : lv_has ls 1 [(0, .ref b)] := hl
  have hx : ext h h [b] := ext.rf
  refine lv_aload_n F.1 F.2.1 d_B_init_0 rfl (lv_at hl 0 rfl) ?_
  refine W.objInit F.1 F.2.1 F.2.2.2.1 (F.2.2.2.2 _ O_B_3) (F.2.2.2.2 _ iM_obj) (F.2.2.2.2 _ co_obj) rfl (hl.1.trans F.2.2.1.symm) rfl d_B_init_1 (by decide) (Nat.le_of_ble_eq_true rfl) ?_
  refine W.eq (g2 := F0 m 4 ls []) (by rfl) ?_
  refine lv_aload_n F.1 F.2.1 d_B_init_4 rfl (lv_at hl 0 rfl) ?_
  refine lv_bipush (v := 12) F.1 F.2.1 d_B_init_5 (by decide) ?_
  refine pw_newa (a0 := (12, .inl (fun _ => 0))) (atype := .int) F aC_int rfl hK.1 hP hS hA 0 rfl (fun _ => rfl) (by decide) (by decide) (by decide) (by decide) (by decide) d_B_init_7 (fun q1 H n2 hP hS => ?_)
  replace hP : pw D vwCl A (pu h q1 (.inl (cs 0, 12, .inl (fun _ => 0)))) H := hP
  have g5 : h q1 = none := hx.2 _ n2
  obtain ⟨h3, e4⟩ : ∃ z9 : pw_H, z9 = pu h q1 (.inl (cs 0, 12, .inl (fun _ => 0))) := ⟨_, rfl⟩
  rw [← e4] at hP
  have hx : ext h h3 [b] := by rw [e4]; exact hx.pu (Or.inr g5)
  have f6 : h3 q1 = some (.inl (cs 0, 12, .inl (fun _ => 0))) := by rw [e4]; exact pu_s
  have f7 : h3 b = some (.inr (1, [.null, .null, .int 0])) := by rw [e4]; exact pu_f n2 fb
  refine pw_putF F I_B ty_B k_B n_B hK.1 hP hS f7 rfl 0 (by decide) L_B_9 (fun _ z => z) rfl hnm rfl rfl rfl (Nat.le_of_ble_eq_true rfl) d_B_init_9 (fun H locs hP hS => ?_)
  replace hP : pw D vwCl A (pu h3 b (.inr (1, [.ref q1, .null, .int 0]))) H := hP
  obtain ⟨h8, e9⟩ : ∃ z9 : pw_H, z9 = pu h3 b (.inr (1, [.ref q1, .null, .int 0])) := ⟨_, rfl⟩
  rw [← e9] at hP
  have hx : ext h h8 [b] := by rw [e9]; exact hx.pu (Or.inl (by simp))
  have f10 : h8 b = some (.inr (1, [.ref q1, .null, .int 0])) := by rw [e9]; exact pu_s
  refine lv_aload_n F.1 F.2.1 d_B_init_12 rfl (lv_at hl 0 rfl) ?_
  refine lv_bipush (v := 12) F.1 F.2.1 d_B_init_13 (by decide) ?_
  refine pw_newa (a0 := (12, .inl (fun _ => 0))) (atype := .int) F aC_int rfl hK.1 hP hS hA 0 rfl (fun _ => rfl) (by decide) (by decide) (by decide) (by decide) (by decide) d_B_init_15 (fun q11 H n12 hP hS => ?_)
  have f13 : h8 q1 = some (.inl (cs 0, 12, .inl (fun _ => 0))) := by rw [e9]; exact pu_k f6 (pu_t f6 f7 (show (112 : Nat) ≠ 1 by decide))
  have k14 : q1 ≠ q11 := none_ne f13 n12
  replace hP : pw D vwCl A (pu h8 q11 (.inl (cs 0, 12, .inl (fun _ => 0)))) H := hP
  have g17 : h q11 = none := hx.2 _ n12
  obtain ⟨h15, e16⟩ : ∃ z9 : pw_H, z9 = pu h8 q11 (.inl (cs 0, 12, .inl (fun _ => 0))) := ⟨_, rfl⟩
  rw [← e16] at hP
  have hx : ext h h15 [b] := by rw [e16]; exact hx.pu (Or.inr g17)
  have f18 : h15 q11 = some (.inl (cs 0, 12, .inl (fun _ => 0))) := by rw [e16]; exact pu_s
  have f19 : h15 b = some (.inr (1, [.ref q1, .null, .int 0])) := by rw [e16]; exact pu_f n12 f10
  refine pw_putF F I_B ty_B k_B n_B hK.1 hP hS f19 rfl 1 (by decide) L_B_15 (fun _ z => z) rfl hnm rfl rfl rfl (Nat.le_of_ble_eq_true rfl) d_B_init_17 (fun H locs hP hS => ?_)
  replace hP : pw D vwCl A (pu h15 b (.inr (1, [.ref q1, .ref q11, .int 0]))) H := hP
  obtain ⟨h20, e21⟩ : ∃ z9 : pw_H, z9 = pu h15 b (.inr (1, [.ref q1, .ref q11, .int 0])) := ⟨_, rfl⟩
  rw [← e21] at hP
  have hx : ext h h20 [b] := by rw [e21]; exact hx.pu (Or.inl (by simp))
  have f22 : h20 b = some (.inr (1, [.ref q1, .ref q11, .int 0])) := by rw [e21]; exact pu_s
  have f23 : h15 q1 = some (.inl (cs 0, 12, .inl (fun _ => 0))) := by rw [e16]; exact pu_f n12 f13
  have f24 : h20 q1 = some (.inl (cs 0, 12, .inl (fun _ => 0))) := by rw [e21]; exact pu_k f23 (pu_t f23 f19 (show (112 : Nat) ≠ 1 by decide))
  have f25 : h20 q11 = some (.inl (cs 0, 12, .inl (fun _ => 0))) := by rw [e21]; exact pu_k f18 (pu_t f18 f19 (show (112 : Nat) ≠ 1 by decide))
  exact pw_vret F hr hlk hP hA hK hS (by decide) (by decide) d_B_init_20 ⟨q1, q11, k14, g5, g17, f24, f25, f22, hx⟩
abbrev rm_B_isFull : Room := { frames := 0, cells := 0, slots := 0, locals := 0 }
set_option maxHeartbeats 4000000 in
set_option maxRecDepth 100000 in
theorem c_B_isFull (l : Launch) (D : va_G) (cs : Nat → Nat) (A : Nat → Prop) (h : pw_H) (b : Nat) (k n : Value) (z : Int32) (fb : h b = some (.inr (1, [k, n, .int z]))) : pm l y_B_isFull b_B_isFull 1 (some .boolean) rm_B_isFull [.ref b] D cs A h (va_Qi (fun (r : Int32) (h' : pw_H) => h' = h ∧ r = (if 12 ≤ z then 1 else 0)) (ww D cs A) A) 0 0 := by
  refine pm_of R_B rfl (by decide) (Nat.le_of_ble_eq_true rfl) (fun p e s m below meth c ls F hr hlk hnm hP hA hK hl => ?_)
  have hS : va_S A s.heap s.heap [] := va_S.rf
  replace hl : lv_has ls 1 [(0, .ref b)] := hl
  refine lv_aload_n F.1 F.2.1 d_B_isFull_0 rfl (lv_at hl 0 rfl) ?_
  refine pw_get F I_B hK.1 hP fb rfl 2 (by decide) L_B_18 (fun _ z => z) rfl d_B_isFull_1 ?_
  refine lv_bipush (v := 12) F.1 F.2.1 d_B_isFull_4 (by decide) ?_
  refine lv_icmp_lt (tgt := 13) F.1 F.2.1 d_B_isFull_6 (by decide) (fun c1 => ?_) (fun c1 => ?_)
  · skip
    refine lv_iconst (v := 0) F.1 F.2.1 d_B_isFull_13 (by decide) ?_
    exact pw_zret F hr rfl hlk hP hA hK hS (by decide) (by decide) d_B_isFull_14 ⟨rfl, by rw [if_neg (Int32.not_le.mpr c1)]⟩
  · skip
    refine lv_iconst (v := 1) F.1 F.2.1 d_B_isFull_9 (by decide) ?_
    refine lv_goto (tgt := 14) F.1 F.2.1 d_B_isFull_10 (by decide) ?_
    exact pw_zret F hr rfl hlk hP hA hK hS (by decide) (by decide) d_B_isFull_14 ⟨rfl, by rw [if_pos (Int32.not_lt.mp c1)]⟩
abbrev rm_B_append : Room := { frames := 0, cells := 0, slots := 0, locals := 0 }
set_option maxHeartbeats 4000000 in
set_option maxRecDepth 100000 in
theorem c_B_append (l : Launch) (D : va_G) (cs : Nat → Nat) (A : Nat → Prop) (h : pw_H) (b ka na z : Nat) (fk fn : Nat → Int32) (kd n : Int32) (hne : ka ≠ na) (hz : z < 12) (fb : h b = some (.inr (1, [.ref ka, .ref na, .int (nI z)]))) (fka : h ka = some (.inl (cs 0, 12, .inl fk))) (fna : h na = some (.inl (cs 0, 12, .inl fn))) : pm l y_B_append b_B_append 3 none rm_B_append [.ref b, .int kd, .int n] D cs A h (va_Qv (fun (h' : pw_H) => h' ka = some (.inl (cs 0, 12, .inl (upd fk z kd))) ∧ h' na = some (.inl (cs 0, 12, .inl (upd fn z n))) ∧ h' b = some (.inr (1, [.ref ka, .ref na, .int (nI z + 1)])) ∧ ext h h' [b, ka, na]) (ww D cs A) A) 0 0 := by
  refine pm_of R_B rfl (by decide) (Nat.le_of_ble_eq_true rfl) (fun p e s m below meth c ls F hr hlk hnm hP hA hK hl => ?_)
  have hS : va_S A s.heap s.heap [] := va_S.rf
  replace hl : lv_has ls 3 [(0, .ref b), (1, .int kd), (2, .int n)] := hl
  have hx : ext h h [b, ka, na] := ext.rf
  refine lv_aload_n F.1 F.2.1 d_B_append_0 rfl (lv_at hl 0 rfl) ?_
  refine pw_get F I_B hK.1 hP fb rfl 0 (by decide) L_B_9 (fun _ z => z) rfl d_B_append_1 ?_
  refine lv_aload_n F.1 F.2.1 d_B_append_4 rfl (lv_at hl 0 rfl) ?_
  refine pw_get F I_B hK.1 hP fb rfl 2 (by decide) L_B_18 (fun _ z => z) rfl d_B_append_5 ?_
  refine lv_iload_n F.1 F.2.1 d_B_append_8 rfl (lv_at hl 1 rfl) ?_
  refine pw_iastN F hK.1 hP hS 0 fka rfl (k := z) hz (by decide) d_B_append_9 (fun H locs hP hS => ?_)
  replace hP : pw D vwCl A (pu h ka (.inl (cs 0, 12, .inl (upd fk z kd)))) H := hP
  obtain ⟨h1, e2⟩ : ∃ z9 : pw_H, z9 = pu h ka (.inl (cs 0, 12, .inl (upd fk z kd))) := ⟨_, rfl⟩
  rw [← e2] at hP
  have hx : ext h h1 [b, ka, na] := by rw [e2]; exact hx.pu (Or.inl (by simp))
  have f3 : h1 ka = some (.inl (cs 0, 12, .inl (upd fk z kd))) := by rw [e2]; exact pu_s
  refine lv_aload_n F.1 F.2.1 d_B_append_10 rfl (lv_at hl 0 rfl) ?_
  have f4 : h1 b = some (.inr (1, [.ref ka, .ref na, .int (nI z)])) := by rw [e2]; exact pu_k fb (pu_t fb fka (show (1 : Nat) ≠ 112 by decide))
  refine pw_get F I_B hK.1 hP f4 rfl 1 (by decide) L_B_15 (fun _ z => z) rfl d_B_append_11 ?_
  refine lv_aload_n F.1 F.2.1 d_B_append_14 rfl (lv_at hl 0 rfl) ?_
  refine pw_get F I_B hK.1 hP f4 rfl 2 (by decide) L_B_18 (fun _ z => z) rfl d_B_append_15 ?_
  refine lv_iload_n F.1 F.2.1 d_B_append_18 rfl (lv_at hl 2 rfl) ?_
  have f5 : h1 na = some (.inl (cs 0, 12, .inl fn)) := by rw [e2]; exact pu_k fna (Ne.symm hne)
  refine pw_iastN F hK.1 hP hS 0 f5 rfl (k := z) hz (by decide) d_B_append_19 (fun H locs hP hS => ?_)
  replace hP : pw D vwCl A (pu h1 na (.inl (cs 0, 12, .inl (upd fn z n)))) H := hP
  obtain ⟨h6, e7⟩ : ∃ z9 : pw_H, z9 = pu h1 na (.inl (cs 0, 12, .inl (upd fn z n))) := ⟨_, rfl⟩
  rw [← e7] at hP
  have hx : ext h h6 [b, ka, na] := by rw [e7]; exact hx.pu (Or.inl (by simp))
  have f8 : h6 na = some (.inl (cs 0, 12, .inl (upd fn z n))) := by rw [e7]; exact pu_s
  refine lv_aload_n F.1 F.2.1 d_B_append_20 rfl (lv_at hl 0 rfl) ?_
  refine lv_dup F.1 F.2.1 d_B_append_21 rfl ?_
  have f9 : h6 b = some (.inr (1, [.ref ka, .ref na, .int (nI z)])) := by rw [e7]; exact pu_k f4 (pu_t f4 f5 (show (1 : Nat) ≠ 112 by decide))
  refine pw_get F I_B hK.1 hP f9 rfl 2 (by decide) L_B_18 (fun _ z => z) rfl d_B_append_22 ?_
  refine lv_iconst (v := 1) F.1 F.2.1 d_B_append_25 (by decide) ?_
  refine lv_iadd F.1 F.2.1 d_B_append_26 ?_
  refine pw_put F I_B ty_B k_B n_B hK.1 hP hS f9 rfl 2 (by decide) L_B_18 (fun _ z => z) rfl rfl rfl (Nat.le_of_ble_eq_true rfl) d_B_append_27 (fun H locs hP hS => ?_)
  replace hP : pw D vwCl A (pu h6 b (.inr (1, [.ref ka, .ref na, .int ((nI z) + 1)]))) H := hP
  obtain ⟨h10, e11⟩ : ∃ z9 : pw_H, z9 = pu h6 b (.inr (1, [.ref ka, .ref na, .int ((nI z) + 1)])) := ⟨_, rfl⟩
  rw [← e11] at hP
  have hx : ext h h10 [b, ka, na] := by rw [e11]; exact hx.pu (Or.inl (by simp))
  have f12 : h10 b = some (.inr (1, [.ref ka, .ref na, .int ((nI z) + 1)])) := by rw [e11]; exact pu_s
  have f13 : h6 ka = some (.inl (cs 0, 12, .inl (upd fk z kd))) := by rw [e7]; exact pu_k f3 hne
  have f14 : h10 ka = some (.inl (cs 0, 12, .inl (upd fk z kd))) := by rw [e11]; exact pu_k f13 (pu_t f13 f9 (show (112 : Nat) ≠ 1 by decide))
  have f15 : h10 na = some (.inl (cs 0, 12, .inl (upd fn z n))) := by rw [e11]; exact pu_k f8 (pu_t f8 f9 (show (112 : Nat) ≠ 1 by decide))
  exact pw_vret F hr hlk hP hA hK hS (by decide) (by decide) d_B_append_30 ⟨f14, f15, f12, hx⟩
abbrev rm_Fn_init : Room := { frames := 2, cells := 3, slots := 27, locals := 36 }
set_option maxHeartbeats 4000000 in
set_option maxRecDepth 100000 in
theorem c_Fn_init (l : Launch) (D : va_G) (cs : Nat → Nat) (A : Nat → Prop) (h : pw_H) (a : Nat) (sg : Int32) (fa : h a = some (.inr (2, [.int 0, .null]))) : pm l y_Fn_init b_Fn_init 2 none rm_Fn_init [.ref a, .int sg] D cs A h (va_Qv (fun (h' : pw_H) => ∃ b ka na : Nat, ka ≠ na ∧ h b = none ∧ h ka = none ∧ h na = none ∧ h' a = some (.inr (2, [.int sg, .ref b])) ∧ h' b = some (.inr (1, [.ref ka, .ref na, .int 0])) ∧ h' ka = some (.inl (cs 0, 12, .inl (fun _ => 0))) ∧ h' na = some (.inl (cs 0, 12, .inl (fun _ => 0))) ∧ ext h h' [a]) (ww D cs A) A) 3 27 := by
  refine pm_of R_Fn rfl (by decide) (Nat.le_of_ble_eq_true rfl) (fun p e s m below meth c ls F hr hlk hnm hP hA hK hl => ?_)
  have hS : va_S A s.heap s.heap [] := va_S.rf
  replace hl : lv_has ls 2 [(0, .ref a), (1, .int sg)] := hl
  have hx : ext h h [a] := ext.rf
  refine lv_aload_n F.1 F.2.1 d_Fn_init_0 rfl (lv_at hl 0 rfl) ?_
  refine W.objInit F.1 F.2.1 F.2.2.2.1 (F.2.2.2.2 _ O_Fn_1) (F.2.2.2.2 _ iM_obj) (F.2.2.2.2 _ co_obj) rfl (hl.1.trans F.2.2.1.symm) rfl d_Fn_init_1 (by decide) (Nat.le_of_ble_eq_true rfl) ?_
  refine W.eq (g2 := F0 m 4 ls []) (by rfl) ?_
  refine lv_aload_n F.1 F.2.1 d_Fn_init_4 rfl (lv_at hl 0 rfl) ?_
  refine lv_iload_n F.1 F.2.1 d_Fn_init_5 rfl (lv_at hl 1 rfl) ?_
  refine pw_putF F I_Fn ty_Fn k_Fn n_Fn hK.1 hP hS fa rfl 0 (by decide) L_Fn_7 (fun _ z => z) rfl hnm rfl rfl rfl (Nat.le_of_ble_eq_true rfl) d_Fn_init_6 (fun H locs hP hS => ?_)
  replace hP : pw D vwCl A (pu h a (.inr (2, [.int sg, .null]))) H := hP
  obtain ⟨h1, e2⟩ : ∃ z9 : pw_H, z9 = pu h a (.inr (2, [.int sg, .null])) := ⟨_, rfl⟩
  rw [← e2] at hP
  have hx : ext h h1 [a] := by rw [e2]; exact hx.pu (Or.inl (by simp))
  have f3 : h1 a = some (.inr (2, [.int sg, .null])) := by rw [e2]; exact pu_s
  refine lv_aload_n F.1 F.2.1 d_Fn_init_9 rfl (lv_at hl 0 rfl) ?_
  refine pw_new (ci := 1) (fs := [.null, .null, .int 0]) F I_B ty_B k_B C_Fn_13 N_B Z_B hK.1 hP hS hA rfl (fun j hj => by rcases (show j = 0 ∨ j = 1 ∨ j = 2 by omega) with rfl | rfl | rfl <;> rfl) (by decide) (by decide) d_Fn_init_10 (fun q4 H n5 hP hS => ?_)
  replace hP : pw D vwCl A (pu h1 q4 (.inr (1, [.null, .null, .int 0]))) H := hP
  have g8 : h q4 = none := hx.2 _ n5
  obtain ⟨h6, e7⟩ : ∃ z9 : pw_H, z9 = pu h1 q4 (.inr (1, [.null, .null, .int 0])) := ⟨_, rfl⟩
  rw [← e7] at hP
  have hx : ext h h6 [a] := by rw [e7]; exact hx.pu (Or.inr g8)
  have f9 : h6 q4 = some (.inr (1, [.null, .null, .int 0])) := by rw [e7]; exact pu_s
  refine lv_dup F.1 F.2.1 d_Fn_init_13 rfl ?_
  refine pw_cv (pr_I F (c_B_init l D cs A h6 q4 f9) X_Fn_15 rfl rfl ⟨by decide, by decide⟩ hP hA hK hS rfl hl.1 rfl (Nat.le_of_ble_eq_true rfl) d_Fn_init_14 ⟨by decide, by decide⟩) hS (fun hw8 H locs hq hP hS => ?_)
  obtain ⟨ka, na, kw9, jw1, jw2, jw3, jw4, jw5, jw6⟩ := hq
  have g10 : h ka = none := hx.2 _ jw1
  have g11 : h na = none := hx.2 _ jw2
  have hx : ext h hw8 [a] := hx.trans jw6 (fun y hy => by
    simp only [List.mem_cons, List.not_mem_nil, or_false] at hy
    rcases hy with rfl
    · exact Or.inr g8)
  have f12 : h6 a = some (.inr (2, [.int sg, .null])) := by rw [e7]; exact pu_f n5 f3
  have f13 : hw8 a = some (.inr (2, [.int sg, .null])) := jw6.1 _ _ f12 (nin1 (pu_t f12 f9 (show (2 : Nat) ≠ 1 by decide)))
  refine pw_putF F I_Fn ty_Fn k_Fn n_Fn hK.1 hP hS f13 rfl 1 (by decide) L_Fn_16 (fun _ z => z) rfl hnm rfl rfl rfl (Nat.le_of_ble_eq_true rfl) d_Fn_init_17 (fun H locs hP hS => ?_)
  replace hP : pw D vwCl A (pu hw8 a (.inr (2, [.int sg, .ref q4]))) H := hP
  obtain ⟨h14, e15⟩ : ∃ z9 : pw_H, z9 = pu hw8 a (.inr (2, [.int sg, .ref q4])) := ⟨_, rfl⟩
  rw [← e15] at hP
  have hx : ext h h14 [a] := by rw [e15]; exact hx.pu (Or.inl (by simp))
  have f16 : h14 a = some (.inr (2, [.int sg, .ref q4])) := by rw [e15]; exact pu_s
  have f17 : h14 q4 = some (.inr (1, [.ref ka, .ref na, .int 0])) := by rw [e15]; exact pu_k jw5 (pu_t jw5 f13 (show (1 : Nat) ≠ 2 by decide))
  have f18 : h14 ka = some (.inl (cs 0, 12, .inl (fun _ => 0))) := by rw [e15]; exact pu_k jw3 (pu_t jw3 f13 (show (112 : Nat) ≠ 2 by decide))
  have f19 : h14 na = some (.inl (cs 0, 12, .inl (fun _ => 0))) := by rw [e15]; exact pu_k jw4 (pu_t jw4 f13 (show (112 : Nat) ≠ 2 by decide))
  exact pw_vret F hr hlk hP hA hK hS (by decide) (by decide) d_Fn_init_20 ⟨q4, ka, na, kw9, g8, g10, g11, f16, f17, f18, f19, hx⟩
abbrev rm_P_init : Room := { frames := 1, cells := 2, slots := 16, locals := 16 }
set_option maxHeartbeats 4000000 in
set_option maxRecDepth 100000 in
theorem c_P_init (l : Launch) (D : va_G) (cs : Nat → Nat) (A : Nat → Prop) (h : pw_H) (a : Nat) (fa : h a = some (.inr (3, [.null, .null, .int 0]))) : pm l y_P_init b_P_init 1 none rm_P_init [.ref a] D cs A h (va_Qv (fun (h' : pw_H) => ∃ ba sa : Nat, h ba = none ∧ h sa = none ∧ h' ba = some (.inl (cs 3, 8, .inr (.inr (.inr (.inr (fun _ => none)))))) ∧ h' sa = some (.inl (cs 0, 8, .inl (fun _ => 0))) ∧ h' a = some (.inr (3, [.ref ba, .ref sa, .int 0])) ∧ ext h h' [a]) (ww D cs A) A) 2 16 := by
  refine pm_of R_P rfl (by decide) (Nat.le_of_ble_eq_true rfl) (fun p e s m below meth c ls F hr hlk hnm hP hA hK hl => ?_)
  have hS : va_S A s.heap s.heap [] := va_S.rf
  replace hl : lv_has ls 1 [(0, .ref a)] := hl
  have hx : ext h h [a] := ext.rf
  refine lv_aload_n F.1 F.2.1 d_P_init_0 rfl (lv_at hl 0 rfl) ?_
  refine W.objInit F.1 F.2.1 F.2.2.2.1 (F.2.2.2.2 _ O_P_3) (F.2.2.2.2 _ iM_obj) (F.2.2.2.2 _ co_obj) rfl (hl.1.trans F.2.2.1.symm) rfl d_P_init_1 (by decide) (Nat.le_of_ble_eq_true rfl) ?_
  refine W.eq (g2 := F0 m 4 ls []) (by rfl) ?_
  refine lv_aload_n F.1 F.2.1 d_P_init_4 rfl (lv_at hl 0 rfl) ?_
  refine lv_bipush (v := 8) F.1 F.2.1 d_P_init_5 (by decide) ?_
  refine pw_newq (N' := 8) F C_P_9 (hK.2.2.2.2.2.2.2.2.1 _ (by decide)) hK.1 hP hS hA 3 rfl (by decide) (by decide) (by decide) (by decide) (by decide) d_P_init_7 (fun q1 H n2 hP hS => ?_)
  replace hP : pw D vwCl A (pu h q1 (.inl (cs 3, 8, .inr (.inr (.inr (.inr (fun _ => none))))))) H := hP
  have g5 : h q1 = none := hx.2 _ n2
  obtain ⟨h3, e4⟩ : ∃ z9 : pw_H, z9 = pu h q1 (.inl (cs 3, 8, .inr (.inr (.inr (.inr (fun _ => none)))))) := ⟨_, rfl⟩
  rw [← e4] at hP
  have hx : ext h h3 [a] := by rw [e4]; exact hx.pu (Or.inr g5)
  have f6 : h3 q1 = some (.inl (cs 3, 8, .inr (.inr (.inr (.inr (fun _ => none)))))) := by rw [e4]; exact pu_s
  have f7 : h3 a = some (.inr (3, [.null, .null, .int 0])) := by rw [e4]; exact pu_f n2 fa
  refine pw_putF F I_P ty_P k_P n_P hK.1 hP hS f7 rfl 0 (by decide) L_P_11 (fun _ z => z) rfl hnm rfl rfl rfl (Nat.le_of_ble_eq_true rfl) d_P_init_10 (fun H locs hP hS => ?_)
  replace hP : pw D vwCl A (pu h3 a (.inr (3, [.ref q1, .null, .int 0]))) H := hP
  obtain ⟨h8, e9⟩ : ∃ z9 : pw_H, z9 = pu h3 a (.inr (3, [.ref q1, .null, .int 0])) := ⟨_, rfl⟩
  rw [← e9] at hP
  have hx : ext h h8 [a] := by rw [e9]; exact hx.pu (Or.inl (by simp))
  have f10 : h8 a = some (.inr (3, [.ref q1, .null, .int 0])) := by rw [e9]; exact pu_s
  refine lv_aload_n F.1 F.2.1 d_P_init_13 rfl (lv_at hl 0 rfl) ?_
  refine lv_bipush (v := 8) F.1 F.2.1 d_P_init_14 (by decide) ?_
  refine pw_newa (a0 := (8, .inl (fun _ => 0))) (atype := .int) F aC_int rfl hK.1 hP hS hA 0 rfl (fun _ => rfl) (by decide) (by decide) (by decide) (by decide) (by decide) d_P_init_16 (fun q11 H n12 hP hS => ?_)
  replace hP : pw D vwCl A (pu h8 q11 (.inl (cs 0, 8, .inl (fun _ => 0)))) H := hP
  have g15 : h q11 = none := hx.2 _ n12
  obtain ⟨h13, e14⟩ : ∃ z9 : pw_H, z9 = pu h8 q11 (.inl (cs 0, 8, .inl (fun _ => 0))) := ⟨_, rfl⟩
  rw [← e14] at hP
  have hx : ext h h13 [a] := by rw [e14]; exact hx.pu (Or.inr g15)
  have f16 : h13 q11 = some (.inl (cs 0, 8, .inl (fun _ => 0))) := by rw [e14]; exact pu_s
  have f17 : h13 a = some (.inr (3, [.ref q1, .null, .int 0])) := by rw [e14]; exact pu_f n12 f10
  refine pw_putF F I_P ty_P k_P n_P hK.1 hP hS f17 rfl 1 (by decide) L_P_17 (fun _ z => z) rfl hnm rfl rfl rfl (Nat.le_of_ble_eq_true rfl) d_P_init_18 (fun H locs hP hS => ?_)
  replace hP : pw D vwCl A (pu h13 a (.inr (3, [.ref q1, .ref q11, .int 0]))) H := hP
  obtain ⟨h18, e19⟩ : ∃ z9 : pw_H, z9 = pu h13 a (.inr (3, [.ref q1, .ref q11, .int 0])) := ⟨_, rfl⟩
  rw [← e19] at hP
  have hx : ext h h18 [a] := by rw [e19]; exact hx.pu (Or.inl (by simp))
  have f20 : h18 a = some (.inr (3, [.ref q1, .ref q11, .int 0])) := by rw [e19]; exact pu_s
  have f21 : h8 q1 = some (.inl (cs 3, 8, .inr (.inr (.inr (.inr (fun _ => none)))))) := by rw [e9]; exact pu_k f6 (pu_t f6 f7 (show (308 : Nat) ≠ 3 by decide))
  have f22 : h13 q1 = some (.inl (cs 3, 8, .inr (.inr (.inr (.inr (fun _ => none)))))) := by rw [e14]; exact pu_f n12 f21
  have f23 : h18 q1 = some (.inl (cs 3, 8, .inr (.inr (.inr (.inr (fun _ => none)))))) := by rw [e19]; exact pu_k f22 (pu_t f22 f17 (show (308 : Nat) ≠ 3 by decide))
  have f24 : h18 q11 = some (.inl (cs 0, 8, .inl (fun _ => 0))) := by rw [e19]; exact pu_k f16 (pu_t f16 f17 (show (108 : Nat) ≠ 3 by decide))
  exact pw_vret F hr hlk hP hA hK hS (by decide) (by decide) d_P_init_21 ⟨q1, q11, g5, g15, f23, f24, f20, hx⟩
abbrev rm_P_hasNamed : Room := { frames := 0, cells := 0, slots := 0, locals := 0 }
set_option maxHeartbeats 4000000 in
set_option maxRecDepth 100000 in
theorem c_P_hasNamed (l : Launch) (D : va_G) (cs : Nat → Nat) (A : Nat → Prop) (h : pw_H) (a ba k : Nat) (sv nv : Value) (q : Nat → Option Nat) (hk : k < 8) (fa : h a = some (.inr (3, [.ref ba, sv, nv]))) (fba : h ba = some (.inl (cs 3, 8, .inr (.inr (.inr (.inr q)))))) : pm l y_P_hasNamed b_P_hasNamed 2 (some .boolean) rm_P_hasNamed [.ref a, .int (nI k)] D cs A h (va_Qi (fun (r : Int32) (h' : pw_H) => h' = h ∧ r = (if q k = none then 0 else 1)) (ww D cs A) A) 0 0 := by
  refine pm_of R_P rfl (by decide) (Nat.le_of_ble_eq_true rfl) (fun p e s m below meth c ls F hr hlk hnm hP hA hK hl => ?_)
  have hS : va_S A s.heap s.heap [] := va_S.rf
  replace hl : lv_has ls 2 [(0, .ref a), (1, .int (nI k))] := hl
  refine lv_aload_n F.1 F.2.1 d_P_hasNamed_0 rfl (lv_at hl 0 rfl) ?_
  refine pw_get F I_P hK.1 hP fa rfl 0 (by decide) L_P_11 (fun _ z => z) rfl d_P_hasNamed_1 ?_
  refine lv_iload_n F.1 F.2.1 d_P_hasNamed_4 rfl (lv_at hl 1 rfl) ?_
  refine pw_aldqN F hK.1 hP 3 fba rfl (k := k) hk (by decide) d_P_hasNamed_5 ?_
  rcases v1 : q k with _ | y
  · skip
    refine W.eq (g2 := F0 m 6 ls [.null]) (by rfl) ?_
    refine lv_ifnullN (tgt := 13) F.1 F.2.1 d_P_hasNamed_6 (by decide) ?_
    refine lv_iconst (v := 0) F.1 F.2.1 d_P_hasNamed_13 (by decide) ?_
    exact pw_zret F hr rfl hlk hP hA hK hS (by decide) (by decide) d_P_hasNamed_14 ⟨rfl, by simp⟩
  · skip
    refine W.eq (g2 := F0 m 6 ls [.ref y]) (by rfl) ?_
    refine lv_ifnull F.1 F.2.1 d_P_hasNamed_6 ?_
    refine lv_iconst (v := 1) F.1 F.2.1 d_P_hasNamed_9 (by decide) ?_
    refine lv_goto (tgt := 14) F.1 F.2.1 d_P_hasNamed_10 (by decide) ?_
    exact pw_zret F hr rfl hlk hP hA hK hS (by decide) (by decide) d_P_hasNamed_14 ⟨rfl, by simp⟩
abbrev rm_P_include : Room := { frames := 2, cells := 3, slots := 27, locals := 36 }
set_option maxHeartbeats 4000000 in
set_option maxRecDepth 100000 in
theorem c_P_include (l : Launch) (D : va_G) (cs : Nat → Nat) (A : Nat → Prop) (h : pw_H) (a ba sa k : Nat) (nv sg : Int32) (q : Nat → Option Nat) (f : Nat → Int32) (hk : k < 8) (fa : h a = some (.inr (3, [.ref ba, .ref sa, .int nv]))) (fba : h ba = some (.inl (cs 3, 8, .inr (.inr (.inr (.inr q)))))) (fsa : h sa = some (.inl (cs 0, 8, .inl f))) : pm l y_P_include b_P_include 3 none rm_P_include [.ref a, .int (nI k), .int sg] D cs A h (va_Qv (fun (h' : pw_H) => ∃ b ka na : Nat, ka ≠ na ∧ h b = none ∧ h ka = none ∧ h na = none ∧ h' b = some (.inr (1, [.ref ka, .ref na, .int 0])) ∧ h' ka = some (.inl (cs 0, 12, .inl (fun _ => 0))) ∧ h' na = some (.inl (cs 0, 12, .inl (fun _ => 0))) ∧ h' ba = some (.inl (cs 3, 8, .inr (.inr (.inr (.inr (va_up q k (some b))))))) ∧ h' sa = some (.inl (cs 0, 8, .inl (upd f k sg))) ∧ h' a = some (.inr (3, [.ref ba, .ref sa, .int (nv + 1)])) ∧ ext h h' [a, ba, sa]) (ww D cs A) A) 3 27 := by
  refine pm_of R_P rfl (by decide) (Nat.le_of_ble_eq_true rfl) (fun p e s m below meth c ls F hr hlk hnm hP hA hK hl => ?_)
  have hS : va_S A s.heap s.heap [] := va_S.rf
  replace hl : lv_has ls 3 [(0, .ref a), (1, .int (nI k)), (2, .int sg)] := hl
  have hx : ext h h [a, ba, sa] := ext.rf
  refine lv_aload_n F.1 F.2.1 d_P_include_0 rfl (lv_at hl 0 rfl) ?_
  refine pw_get F I_P hK.1 hP fa rfl 0 (by decide) L_P_11 (fun _ z => z) rfl d_P_include_1 ?_
  refine lv_iload_n F.1 F.2.1 d_P_include_4 rfl (lv_at hl 1 rfl) ?_
  refine pw_new (ci := 1) (fs := [.null, .null, .int 0]) F I_B ty_B k_B C_P_9 N_B Z_B hK.1 hP hS hA rfl (fun j hj => by rcases (show j = 0 ∨ j = 1 ∨ j = 2 by omega) with rfl | rfl | rfl <;> rfl) (by decide) (by decide) d_P_include_5 (fun q1 H n2 hP hS => ?_)
  replace hP : pw D vwCl A (pu h q1 (.inr (1, [.null, .null, .int 0]))) H := hP
  have g5 : h q1 = none := hx.2 _ n2
  obtain ⟨h3, e4⟩ : ∃ z9 : pw_H, z9 = pu h q1 (.inr (1, [.null, .null, .int 0])) := ⟨_, rfl⟩
  rw [← e4] at hP
  have hx : ext h h3 [a, ba, sa] := by rw [e4]; exact hx.pu (Or.inr g5)
  have f6 : h3 q1 = some (.inr (1, [.null, .null, .int 0])) := by rw [e4]; exact pu_s
  refine lv_dup F.1 F.2.1 d_P_include_8 rfl ?_
  refine pw_cv (pr_I F (c_B_init l D cs A h3 q1 f6) X_P_21 rfl rfl ⟨by decide, by decide⟩ hP hA hK hS rfl hl.1 rfl (Nat.le_of_ble_eq_true rfl) d_P_include_9 ⟨by decide, by decide⟩) hS (fun hw8 H locs hq hP hS => ?_)
  obtain ⟨ka, na, kw9, jw1, jw2, jw3, jw4, jw5, jw6⟩ := hq
  have g7 : h ka = none := hx.2 _ jw1
  have g8 : h na = none := hx.2 _ jw2
  have hx : ext h hw8 [a, ba, sa] := hx.trans jw6 (fun y hy => by
    simp only [List.mem_cons, List.not_mem_nil, or_false] at hy
    rcases hy with rfl
    · exact Or.inr g5)
  have f9 : h3 ba = some (.inl (cs 3, 8, .inr (.inr (.inr (.inr q))))) := by rw [e4]; exact pu_f n2 fba
  have f10 : hw8 ba = some (.inl (cs 3, 8, .inr (.inr (.inr (.inr q))))) := jw6.1 _ _ f9 (nin1 (pu_t f9 f6 (show (308 : Nat) ≠ 1 by decide)))
  refine pw_astqN1 F hK.1 hP hS 3 1 f10 rfl jw5 rfl (k := k) hk (by decide) d_P_include_12 (fun H locs hP hS => ?_)
  replace hP : pw D vwCl A (pu hw8 ba (.inl (cs 3, 8, .inr (.inr (.inr (.inr (va_up q k (some q1)))))))) H := hP
  obtain ⟨h11, e12⟩ : ∃ z9 : pw_H, z9 = pu hw8 ba (.inl (cs 3, 8, .inr (.inr (.inr (.inr (va_up q k (some q1))))))) := ⟨_, rfl⟩
  rw [← e12] at hP
  have hx : ext h h11 [a, ba, sa] := by rw [e12]; exact hx.pu (Or.inl (by simp))
  have f13 : h11 ba = some (.inl (cs 3, 8, .inr (.inr (.inr (.inr (va_up q k (some q1))))))) := by rw [e12]; exact pu_s
  refine lv_aload_n F.1 F.2.1 d_P_include_13 rfl (lv_at hl 0 rfl) ?_
  have f14 : h3 a = some (.inr (3, [.ref ba, .ref sa, .int nv])) := by rw [e4]; exact pu_f n2 fa
  have f15 : hw8 a = some (.inr (3, [.ref ba, .ref sa, .int nv])) := jw6.1 _ _ f14 (nin1 (pu_t f14 f6 (show (3 : Nat) ≠ 1 by decide)))
  have f16 : h11 a = some (.inr (3, [.ref ba, .ref sa, .int nv])) := by rw [e12]; exact pu_k f15 (pu_t f15 f10 (show (3 : Nat) ≠ 308 by decide))
  refine pw_get F I_P hK.1 hP f16 rfl 1 (by decide) L_P_17 (fun _ z => z) rfl d_P_include_14 ?_
  refine lv_iload_n F.1 F.2.1 d_P_include_17 rfl (lv_at hl 1 rfl) ?_
  refine lv_iload_n F.1 F.2.1 d_P_include_18 rfl (lv_at hl 2 rfl) ?_
  have f17 : h3 sa = some (.inl (cs 0, 8, .inl f)) := by rw [e4]; exact pu_f n2 fsa
  have f18 : hw8 sa = some (.inl (cs 0, 8, .inl f)) := jw6.1 _ _ f17 (nin1 (pu_t f17 f6 (show (108 : Nat) ≠ 1 by decide)))
  have f19 : h11 sa = some (.inl (cs 0, 8, .inl f)) := by rw [e12]; exact pu_k f18 (pu_t f18 f10 (show (108 : Nat) ≠ 308 by decide))
  refine pw_iastN F hK.1 hP hS 0 f19 rfl (k := k) hk (by decide) d_P_include_19 (fun H locs hP hS => ?_)
  replace hP : pw D vwCl A (pu h11 sa (.inl (cs 0, 8, .inl (upd f k sg)))) H := hP
  obtain ⟨h20, e21⟩ : ∃ z9 : pw_H, z9 = pu h11 sa (.inl (cs 0, 8, .inl (upd f k sg))) := ⟨_, rfl⟩
  rw [← e21] at hP
  have hx : ext h h20 [a, ba, sa] := by rw [e21]; exact hx.pu (Or.inl (by simp))
  have f22 : h20 sa = some (.inl (cs 0, 8, .inl (upd f k sg))) := by rw [e21]; exact pu_s
  refine lv_aload_n F.1 F.2.1 d_P_include_20 rfl (lv_at hl 0 rfl) ?_
  refine lv_dup F.1 F.2.1 d_P_include_21 rfl ?_
  have f23 : h20 a = some (.inr (3, [.ref ba, .ref sa, .int nv])) := by rw [e21]; exact pu_k f16 (pu_t f16 f19 (show (3 : Nat) ≠ 108 by decide))
  refine pw_get F I_P hK.1 hP f23 rfl 2 (by decide) L_P_22 (fun _ z => z) rfl d_P_include_22 ?_
  refine lv_iconst (v := 1) F.1 F.2.1 d_P_include_25 (by decide) ?_
  refine lv_iadd F.1 F.2.1 d_P_include_26 ?_
  refine pw_put F I_P ty_P k_P n_P hK.1 hP hS f23 rfl 2 (by decide) L_P_22 (fun _ z => z) rfl rfl rfl (Nat.le_of_ble_eq_true rfl) d_P_include_27 (fun H locs hP hS => ?_)
  replace hP : pw D vwCl A (pu h20 a (.inr (3, [.ref ba, .ref sa, .int (nv + 1)]))) H := hP
  obtain ⟨h24, e25⟩ : ∃ z9 : pw_H, z9 = pu h20 a (.inr (3, [.ref ba, .ref sa, .int (nv + 1)])) := ⟨_, rfl⟩
  rw [← e25] at hP
  have hx : ext h h24 [a, ba, sa] := by rw [e25]; exact hx.pu (Or.inl (by simp))
  have f26 : h24 a = some (.inr (3, [.ref ba, .ref sa, .int (nv + 1)])) := by rw [e25]; exact pu_s
  have f27 : h11 q1 = some (.inr (1, [.ref ka, .ref na, .int 0])) := by rw [e12]; exact pu_k jw5 (pu_t jw5 f10 (show (1 : Nat) ≠ 308 by decide))
  have f28 : h20 q1 = some (.inr (1, [.ref ka, .ref na, .int 0])) := by rw [e21]; exact pu_k f27 (pu_t f27 f19 (show (1 : Nat) ≠ 108 by decide))
  have f29 : h24 q1 = some (.inr (1, [.ref ka, .ref na, .int 0])) := by rw [e25]; exact pu_k f28 (pu_t f28 f23 (show (1 : Nat) ≠ 3 by decide))
  have f30 : h11 ka = some (.inl (cs 0, 12, .inl (fun _ => 0))) := by rw [e12]; exact pu_k jw3 (pu_t jw3 f10 (show (112 : Nat) ≠ 308 by decide))
  have f31 : h20 ka = some (.inl (cs 0, 12, .inl (fun _ => 0))) := by rw [e21]; exact pu_k f30 (pu_t f30 f19 (show (112 : Nat) ≠ 108 by decide))
  have f32 : h24 ka = some (.inl (cs 0, 12, .inl (fun _ => 0))) := by rw [e25]; exact pu_k f31 (pu_t f31 f23 (show (112 : Nat) ≠ 3 by decide))
  have f33 : h11 na = some (.inl (cs 0, 12, .inl (fun _ => 0))) := by rw [e12]; exact pu_k jw4 (pu_t jw4 f10 (show (112 : Nat) ≠ 308 by decide))
  have f34 : h20 na = some (.inl (cs 0, 12, .inl (fun _ => 0))) := by rw [e21]; exact pu_k f33 (pu_t f33 f19 (show (112 : Nat) ≠ 108 by decide))
  have f35 : h24 na = some (.inl (cs 0, 12, .inl (fun _ => 0))) := by rw [e25]; exact pu_k f34 (pu_t f34 f23 (show (112 : Nat) ≠ 3 by decide))
  have f36 : h20 ba = some (.inl (cs 3, 8, .inr (.inr (.inr (.inr (va_up q k (some q1))))))) := by rw [e21]; exact pu_k f13 (pu_t f13 f19 (show (308 : Nat) ≠ 108 by decide))
  have f37 : h24 ba = some (.inl (cs 3, 8, .inr (.inr (.inr (.inr (va_up q k (some q1))))))) := by rw [e25]; exact pu_k f36 (pu_t f36 f23 (show (308 : Nat) ≠ 3 by decide))
  have f38 : h24 sa = some (.inl (cs 0, 8, .inl (upd f k sg))) := by rw [e25]; exact pu_k f22 (pu_t f22 f23 (show (108 : Nat) ≠ 3 by decide))
  exact pw_vret F hr hlk hP hA hK hS (by decide) (by decide) d_P_include_30 ⟨q1, ka, na, kw9, g5, g7, g8, f29, f32, f35, f37, f38, f26, hx⟩
abbrev rm_Fr_init : Room := { frames := 1, cells := 0, slots := 0, locals := 16 }
set_option maxHeartbeats 4000000 in
set_option maxRecDepth 100000 in
theorem c_Fr_init (l : Launch) (D : va_G) (cs : Nat → Nat) (A : Nat → Prop) (h : pw_H) (a bo : Nat) (fa : h a = some (.inr (4, [.int 0, .int 0, .null, .int 0, .int 0]))) : pm l y_Fr_init b_Fr_init 2 none rm_Fr_init [.ref a, .ref bo] D cs A h (va_Qv (fun (h' : pw_H) => h' a = some (.inr (4, [.int 0, .int 0, .ref bo, .int 0, .int 0])) ∧ ext h h' [a]) (ww D cs A) A) 0 0 := by
  refine pm_of R_Fr rfl (by decide) (Nat.le_of_ble_eq_true rfl) (fun p e s m below meth c ls F hr hlk hnm hP hA hK hl => ?_)
  have hS : va_S A s.heap s.heap [] := va_S.rf
  replace hl : lv_has ls 2 [(0, .ref a), (1, .ref bo)] := hl
  have hx : ext h h [a] := ext.rf
  refine lv_aload_n F.1 F.2.1 d_Fr_init_0 rfl (lv_at hl 0 rfl) ?_
  refine W.objInit F.1 F.2.1 F.2.2.2.1 (F.2.2.2.2 _ O_Fr_3) (F.2.2.2.2 _ iM_obj) (F.2.2.2.2 _ co_obj) rfl (hl.1.trans F.2.2.1.symm) rfl d_Fr_init_1 (by decide) (Nat.le_of_ble_eq_true rfl) ?_
  refine W.eq (g2 := F0 m 4 ls []) (by rfl) ?_
  refine lv_aload_n F.1 F.2.1 d_Fr_init_4 rfl (lv_at hl 0 rfl) ?_
  refine lv_aload_n F.1 F.2.1 d_Fr_init_5 rfl (lv_at hl 1 rfl) ?_
  refine pw_put F I_Fr ty_Fr k_Fr n_Fr hK.1 hP hS fa rfl 2 (by decide) L_Fr_9 (fun _ z => z) rfl rfl rfl (Nat.le_of_ble_eq_true rfl) d_Fr_init_6 (fun H locs hP hS => ?_)
  replace hP : pw D vwCl A (pu h a (.inr (4, [.int 0, .int 0, .ref bo, .int 0, .int 0]))) H := hP
  obtain ⟨h1, e2⟩ : ∃ z9 : pw_H, z9 = pu h a (.inr (4, [.int 0, .int 0, .ref bo, .int 0, .int 0])) := ⟨_, rfl⟩
  rw [← e2] at hP
  have hx : ext h h1 [a] := by rw [e2]; exact hx.pu (Or.inl (by simp))
  have f3 : h1 a = some (.inr (4, [.int 0, .int 0, .ref bo, .int 0, .int 0])) := by rw [e2]; exact pu_s
  exact pw_vret F hr hlk hP hA hK hS (by decide) (by decide) d_Fr_init_9 ⟨f3, hx⟩
abbrev rm_Fr_begin : Room := { frames := 0, cells := 0, slots := 0, locals := 0 }
set_option maxHeartbeats 4000000 in
set_option maxRecDepth 100000 in
theorem c_Fr_begin (l : Launch) (D : va_G) (cs : Nat → Nat) (A : Nat → Prop) (h : pw_H) (a bo : Nat) (v0 v1 v2 v3 v4 : Value) (fu lv : Int32) (fa : h a = some (.inr (4, [v0, v1, v2, v3, v4]))) : pm l y_Fr_begin b_Fr_begin 4 none rm_Fr_begin [.ref a, .int fu, .int lv, .ref bo] D cs A h (va_Qv (fun (h' : pw_H) => h' a = some (.inr (4, [.int fu, .int lv, .ref bo, .int 0, .int 0])) ∧ ext h h' [a]) (ww D cs A) A) 0 0 := by
  refine pm_of R_Fr rfl (by decide) (Nat.le_of_ble_eq_true rfl) (fun p e s m below meth c ls F hr hlk hnm hP hA hK hl => ?_)
  have hS : va_S A s.heap s.heap [] := va_S.rf
  replace hl : lv_has ls 4 [(0, .ref a), (1, .int fu), (2, .int lv), (3, .ref bo)] := hl
  have hx : ext h h [a] := ext.rf
  refine lv_aload_n F.1 F.2.1 d_Fr_begin_0 rfl (lv_at hl 0 rfl) ?_
  refine lv_iload_n F.1 F.2.1 d_Fr_begin_1 rfl (lv_at hl 1 rfl) ?_
  refine pw_put F I_Fr ty_Fr k_Fr n_Fr hK.1 hP hS fa rfl 0 (by decide) L_Fr_15 (fun _ z => z) rfl rfl rfl (Nat.le_of_ble_eq_true rfl) d_Fr_begin_2 (fun H locs hP hS => ?_)
  replace hP : pw D vwCl A (pu h a (.inr (4, [.int fu, v1, v2, v3, v4]))) H := hP
  obtain ⟨h1, e2⟩ : ∃ z9 : pw_H, z9 = pu h a (.inr (4, [.int fu, v1, v2, v3, v4])) := ⟨_, rfl⟩
  rw [← e2] at hP
  have hx : ext h h1 [a] := by rw [e2]; exact hx.pu (Or.inl (by simp))
  have f3 : h1 a = some (.inr (4, [.int fu, v1, v2, v3, v4])) := by rw [e2]; exact pu_s
  refine lv_aload_n F.1 F.2.1 d_Fr_begin_5 rfl (lv_at hl 0 rfl) ?_
  refine lv_iload_n F.1 F.2.1 d_Fr_begin_6 rfl (lv_at hl 2 rfl) ?_
  refine pw_put F I_Fr ty_Fr k_Fr n_Fr hK.1 hP hS f3 rfl 1 (by decide) L_Fr_19 (fun _ z => z) rfl rfl rfl (Nat.le_of_ble_eq_true rfl) d_Fr_begin_7 (fun H locs hP hS => ?_)
  replace hP : pw D vwCl A (pu h1 a (.inr (4, [.int fu, .int lv, v2, v3, v4]))) H := hP
  obtain ⟨h4, e5⟩ : ∃ z9 : pw_H, z9 = pu h1 a (.inr (4, [.int fu, .int lv, v2, v3, v4])) := ⟨_, rfl⟩
  rw [← e5] at hP
  have hx : ext h h4 [a] := by rw [e5]; exact hx.pu (Or.inl (by simp))
  have f6 : h4 a = some (.inr (4, [.int fu, .int lv, v2, v3, v4])) := by rw [e5]; exact pu_s
  refine lv_aload_n F.1 F.2.1 d_Fr_begin_10 rfl (lv_at hl 0 rfl) ?_
  refine lv_aload_n F.1 F.2.1 d_Fr_begin_11 rfl (lv_at hl 3 rfl) ?_
  refine pw_put F I_Fr ty_Fr k_Fr n_Fr hK.1 hP hS f6 rfl 2 (by decide) L_Fr_9 (fun _ z => z) rfl rfl rfl (Nat.le_of_ble_eq_true rfl) d_Fr_begin_12 (fun H locs hP hS => ?_)
  replace hP : pw D vwCl A (pu h4 a (.inr (4, [.int fu, .int lv, .ref bo, v3, v4]))) H := hP
  obtain ⟨h7, e8⟩ : ∃ z9 : pw_H, z9 = pu h4 a (.inr (4, [.int fu, .int lv, .ref bo, v3, v4])) := ⟨_, rfl⟩
  rw [← e8] at hP
  have hx : ext h h7 [a] := by rw [e8]; exact hx.pu (Or.inl (by simp))
  have f9 : h7 a = some (.inr (4, [.int fu, .int lv, .ref bo, v3, v4])) := by rw [e8]; exact pu_s
  refine lv_aload_n F.1 F.2.1 d_Fr_begin_15 rfl (lv_at hl 0 rfl) ?_
  refine lv_iconst (v := 0) F.1 F.2.1 d_Fr_begin_16 (by decide) ?_
  refine pw_put F I_Fr ty_Fr k_Fr n_Fr hK.1 hP hS f9 rfl 3 (by decide) L_Fr_22 (fun _ z => z) rfl rfl rfl (Nat.le_of_ble_eq_true rfl) d_Fr_begin_17 (fun H locs hP hS => ?_)
  replace hP : pw D vwCl A (pu h7 a (.inr (4, [.int fu, .int lv, .ref bo, .int 0, v4]))) H := hP
  obtain ⟨h10, e11⟩ : ∃ z9 : pw_H, z9 = pu h7 a (.inr (4, [.int fu, .int lv, .ref bo, .int 0, v4])) := ⟨_, rfl⟩
  rw [← e11] at hP
  have hx : ext h h10 [a] := by rw [e11]; exact hx.pu (Or.inl (by simp))
  have f12 : h10 a = some (.inr (4, [.int fu, .int lv, .ref bo, .int 0, v4])) := by rw [e11]; exact pu_s
  refine lv_aload_n F.1 F.2.1 d_Fr_begin_20 rfl (lv_at hl 0 rfl) ?_
  refine lv_iconst (v := 0) F.1 F.2.1 d_Fr_begin_21 (by decide) ?_
  refine pw_put F I_Fr ty_Fr k_Fr n_Fr hK.1 hP hS f12 rfl 4 (by decide) L_Fr_25 (fun _ z => z) rfl rfl rfl (Nat.le_of_ble_eq_true rfl) d_Fr_begin_22 (fun H locs hP hS => ?_)
  replace hP : pw D vwCl A (pu h10 a (.inr (4, [.int fu, .int lv, .ref bo, .int 0, .int 0]))) H := hP
  obtain ⟨h13, e14⟩ : ∃ z9 : pw_H, z9 = pu h10 a (.inr (4, [.int fu, .int lv, .ref bo, .int 0, .int 0])) := ⟨_, rfl⟩
  rw [← e14] at hP
  have hx : ext h h13 [a] := by rw [e14]; exact hx.pu (Or.inl (by simp))
  have f15 : h13 a = some (.inr (4, [.int fu, .int lv, .ref bo, .int 0, .int 0])) := by rw [e14]; exact pu_s
  exact pw_vret F hr hlk hP hA hK hS (by decide) (by decide) d_Fr_begin_25 ⟨f15, hx⟩
abbrev rm_Fr_nextKind : Room := { frames := 0, cells := 0, slots := 0, locals := 0 }
set_option maxHeartbeats 4000000 in
set_option maxRecDepth 100000 in
theorem c_Fr_nextKind (l : Launch) (D : va_G) (cs : Nat → Nat) (A : Nat → Prop) (h : pw_H) (a bo ka pl z : Nat) (v0 v1 v4 w1 : Value) (f : Nat → Int32) (hpz : pl ≤ z) (hz : z ≤ 12) (fa : h a = some (.inr (4, [v0, v1, .ref bo, .int (nI pl), v4]))) (fb : h bo = some (.inr (1, [.ref ka, w1, .int (nI z)]))) (fk : h ka = some (.inl (cs 0, 12, .inl f))) : pm l y_Fr_nextKind b_Fr_nextKind 1 (some .int) rm_Fr_nextKind [.ref a] D cs A h (va_Qi (fun (r : Int32) (h' : pw_H) => h' = h ∧ r = (if pl = z then (-1) else f pl)) (ww D cs A) A) 0 0 := by
  refine pm_of R_Fr rfl (by decide) (Nat.le_of_ble_eq_true rfl) (fun p e s m below meth c ls F hr hlk hnm hP hA hK hl => ?_)
  have hS : va_S A s.heap s.heap [] := va_S.rf
  replace hl : lv_has ls 1 [(0, .ref a)] := hl
  refine lv_aload_n F.1 F.2.1 d_Fr_nextKind_0 rfl (lv_at hl 0 rfl) ?_
  refine pw_get F I_Fr hK.1 hP fa rfl 3 (by decide) L_Fr_22 (fun _ z => z) rfl d_Fr_nextKind_1 ?_
  refine lv_aload_n F.1 F.2.1 d_Fr_nextKind_4 rfl (lv_at hl 0 rfl) ?_
  refine pw_get F I_Fr hK.1 hP fa rfl 2 (by decide) L_Fr_9 (fun _ z => z) rfl d_Fr_nextKind_5 ?_
  refine pw_get F I_B hK.1 hP fb rfl 2 (by decide) L_Fr_28 (fun _ z => z) rfl d_Fr_nextKind_8 ?_
  refine lv_icmp_ge (tgt := 29) F.1 F.2.1 d_Fr_nextKind_11 (by decide) (fun c1 => ?_) (fun c1 => ?_)
  · skip
    refine lv_iconst (v := (-1)) F.1 F.2.1 d_Fr_nextKind_29 (by decide) ?_
    exact pw_iret F hr hlk hP hA hK hS (by decide) (by decide) d_Fr_nextKind_30 ⟨rfl, by rw [if_pos (by have := (nI_leI (a := z) (b := pl) (by omega) (by omega)).mp c1; omega)]⟩
  · skip
    refine lv_aload_n F.1 F.2.1 d_Fr_nextKind_14 rfl (lv_at hl 0 rfl) ?_
    refine pw_get F I_Fr hK.1 hP fa rfl 2 (by decide) L_Fr_9 (fun _ z => z) rfl d_Fr_nextKind_15 ?_
    refine pw_get F I_B hK.1 hP fb rfl 0 (by decide) L_Fr_33 (fun _ z => z) rfl d_Fr_nextKind_18 ?_
    refine lv_aload_n F.1 F.2.1 d_Fr_nextKind_21 rfl (lv_at hl 0 rfl) ?_
    refine pw_get F I_Fr hK.1 hP fa rfl 3 (by decide) L_Fr_22 (fun _ z => z) rfl d_Fr_nextKind_22 ?_
    refine pw_ialdN F hK.1 hP 0 fk rfl (k := pl) (Nat.lt_of_lt_of_le (Nat.not_le.mp (fun z9 => c1 ((nI_leI (a := z) (b := pl) (by omega) (by omega)).mpr z9))) hz) (by decide) d_Fr_nextKind_25 ?_
    refine lv_goto (tgt := 30) F.1 F.2.1 d_Fr_nextKind_26 (by decide) ?_
    exact pw_iret F hr hlk hP hA hK hS (by decide) (by decide) d_Fr_nextKind_30 ⟨rfl, by rw [if_neg (fun z9 => c1 (by rw [z9]; exact Int32.le_refl _))]⟩
abbrev rm_Fr_nextNumber : Room := { frames := 0, cells := 0, slots := 0, locals := 0 }
set_option maxHeartbeats 4000000 in
set_option maxRecDepth 100000 in
theorem c_Fr_nextNumber (l : Launch) (D : va_G) (cs : Nat → Nat) (A : Nat → Prop) (h : pw_H) (a bo na pl z : Nat) (v0 v1 v4 w1 : Value) (f : Nat → Int32) (hpz : pl ≤ z) (hz : z ≤ 12) (fa : h a = some (.inr (4, [v0, v1, .ref bo, .int (nI pl), v4]))) (fb : h bo = some (.inr (1, [w1, .ref na, .int (nI z)]))) (fk : h na = some (.inl (cs 0, 12, .inl f))) : pm l y_Fr_nextNumber b_Fr_nextNumber 1 (some .int) rm_Fr_nextNumber [.ref a] D cs A h (va_Qi (fun (r : Int32) (h' : pw_H) => h' = h ∧ r = (if pl = z then 0 else f pl)) (ww D cs A) A) 0 0 := by
  refine pm_of R_Fr rfl (by decide) (Nat.le_of_ble_eq_true rfl) (fun p e s m below meth c ls F hr hlk hnm hP hA hK hl => ?_)
  have hS : va_S A s.heap s.heap [] := va_S.rf
  replace hl : lv_has ls 1 [(0, .ref a)] := hl
  refine lv_aload_n F.1 F.2.1 d_Fr_nextNumber_0 rfl (lv_at hl 0 rfl) ?_
  refine pw_get F I_Fr hK.1 hP fa rfl 3 (by decide) L_Fr_22 (fun _ z => z) rfl d_Fr_nextNumber_1 ?_
  refine lv_aload_n F.1 F.2.1 d_Fr_nextNumber_4 rfl (lv_at hl 0 rfl) ?_
  refine pw_get F I_Fr hK.1 hP fa rfl 2 (by decide) L_Fr_9 (fun _ z => z) rfl d_Fr_nextNumber_5 ?_
  refine pw_get F I_B hK.1 hP fb rfl 2 (by decide) L_Fr_28 (fun _ z => z) rfl d_Fr_nextNumber_8 ?_
  refine lv_icmp_ge (tgt := 29) F.1 F.2.1 d_Fr_nextNumber_11 (by decide) (fun c1 => ?_) (fun c1 => ?_)
  · skip
    refine lv_iconst (v := 0) F.1 F.2.1 d_Fr_nextNumber_29 (by decide) ?_
    exact pw_iret F hr hlk hP hA hK hS (by decide) (by decide) d_Fr_nextNumber_30 ⟨rfl, by rw [if_pos (by have := (nI_leI (a := z) (b := pl) (by omega) (by omega)).mp c1; omega)]⟩
  · skip
    refine lv_aload_n F.1 F.2.1 d_Fr_nextNumber_14 rfl (lv_at hl 0 rfl) ?_
    refine pw_get F I_Fr hK.1 hP fa rfl 2 (by decide) L_Fr_9 (fun _ z => z) rfl d_Fr_nextNumber_15 ?_
    refine pw_get F I_B hK.1 hP fb rfl 1 (by decide) L_Fr_37 (fun _ z => z) rfl d_Fr_nextNumber_18 ?_
    refine lv_aload_n F.1 F.2.1 d_Fr_nextNumber_21 rfl (lv_at hl 0 rfl) ?_
    refine pw_get F I_Fr hK.1 hP fa rfl 3 (by decide) L_Fr_22 (fun _ z => z) rfl d_Fr_nextNumber_22 ?_
    refine pw_ialdN F hK.1 hP 0 fk rfl (k := pl) (Nat.lt_of_lt_of_le (Nat.not_le.mp (fun z9 => c1 ((nI_leI (a := z) (b := pl) (by omega) (by omega)).mpr z9))) hz) (by decide) d_Fr_nextNumber_25 ?_
    refine lv_goto (tgt := 30) F.1 F.2.1 d_Fr_nextNumber_26 (by decide) ?_
    exact pw_iret F hr hlk hP hA hK hS (by decide) (by decide) d_Fr_nextNumber_30 ⟨rfl, by rw [if_neg (fun z9 => c1 (by rw [z9]; exact Int32.le_refl _))]⟩
abbrev rm_Fr_repeatFrom : Room := { frames := 0, cells := 0, slots := 0, locals := 0 }
set_option maxHeartbeats 4000000 in
set_option maxRecDepth 100000 in
theorem c_Fr_repeatFrom (l : Launch) (D : va_G) (cs : Nat → Nat) (A : Nat → Prop) (h : pw_H) (a : Nat) (v0 v1 v2 : Value) (pl re n : Int32) (fa : h a = some (.inr (4, [v0, v1, v2, .int pl, .int re]))) : pm l y_Fr_repeatFrom b_Fr_repeatFrom 2 none rm_Fr_repeatFrom [.ref a, .int n] D cs A h (va_Qv (fun (h' : pw_H) => h' a = some (.inr (4, [v0, v1, v2, .int (if re < 3 then n else pl), .int (if re < 3 then re + 1 else re)])) ∧ ext h h' [a]) (ww D cs A) A) 0 0 := by
  refine pm_of R_Fr rfl (by decide) (Nat.le_of_ble_eq_true rfl) (fun p e s m below meth c ls F hr hlk hnm hP hA hK hl => ?_)
  have hS : va_S A s.heap s.heap [] := va_S.rf
  replace hl : lv_has ls 2 [(0, .ref a), (1, .int n)] := hl
  have hx : ext h h [a] := ext.rf
  refine lv_aload_n F.1 F.2.1 d_Fr_repeatFrom_0 rfl (lv_at hl 0 rfl) ?_
  refine pw_get F I_Fr hK.1 hP fa rfl 4 (by decide) L_Fr_25 (fun _ z => z) rfl d_Fr_repeatFrom_1 ?_
  refine lv_iconst (v := 3) F.1 F.2.1 d_Fr_repeatFrom_4 (by decide) ?_
  refine lv_icmp_ge (tgt := 23) F.1 F.2.1 d_Fr_repeatFrom_5 (by decide) (fun c1 => ?_) (fun c1 => ?_)
  · skip
    exact pw_vret F hr hlk hP hA hK hS (by decide) (by decide) d_Fr_repeatFrom_23 ⟨by rw [if_neg (Int32.not_lt.mpr c1), if_neg (Int32.not_lt.mpr c1)]; exact fa, hx⟩
  · skip
    refine lv_aload_n F.1 F.2.1 d_Fr_repeatFrom_8 rfl (lv_at hl 0 rfl) ?_
    refine lv_dup F.1 F.2.1 d_Fr_repeatFrom_9 rfl ?_
    refine pw_get F I_Fr hK.1 hP fa rfl 4 (by decide) L_Fr_25 (fun _ z => z) rfl d_Fr_repeatFrom_10 ?_
    refine lv_iconst (v := 1) F.1 F.2.1 d_Fr_repeatFrom_13 (by decide) ?_
    refine lv_iadd F.1 F.2.1 d_Fr_repeatFrom_14 ?_
    refine pw_put F I_Fr ty_Fr k_Fr n_Fr hK.1 hP hS fa rfl 4 (by decide) L_Fr_25 (fun _ z => z) rfl rfl rfl (Nat.le_of_ble_eq_true rfl) d_Fr_repeatFrom_15 (fun H locs hP hS => ?_)
    replace hP : pw D vwCl A (pu h a (.inr (4, [v0, v1, v2, .int pl, .int (re + 1)]))) H := hP
    obtain ⟨h2, e3⟩ : ∃ z9 : pw_H, z9 = pu h a (.inr (4, [v0, v1, v2, .int pl, .int (re + 1)])) := ⟨_, rfl⟩
    rw [← e3] at hP
    have hx : ext h h2 [a] := by rw [e3]; exact hx.pu (Or.inl (by simp))
    have f4 : h2 a = some (.inr (4, [v0, v1, v2, .int pl, .int (re + 1)])) := by rw [e3]; exact pu_s
    refine lv_aload_n F.1 F.2.1 d_Fr_repeatFrom_18 rfl (lv_at hl 0 rfl) ?_
    refine lv_iload_n F.1 F.2.1 d_Fr_repeatFrom_19 rfl (lv_at hl 1 rfl) ?_
    refine pw_put F I_Fr ty_Fr k_Fr n_Fr hK.1 hP hS f4 rfl 3 (by decide) L_Fr_22 (fun _ z => z) rfl rfl rfl (Nat.le_of_ble_eq_true rfl) d_Fr_repeatFrom_20 (fun H locs hP hS => ?_)
    replace hP : pw D vwCl A (pu h2 a (.inr (4, [v0, v1, v2, .int n, .int (re + 1)]))) H := hP
    obtain ⟨h5, e6⟩ : ∃ z9 : pw_H, z9 = pu h2 a (.inr (4, [v0, v1, v2, .int n, .int (re + 1)])) := ⟨_, rfl⟩
    rw [← e6] at hP
    have hx : ext h h5 [a] := by rw [e6]; exact hx.pu (Or.inl (by simp))
    have f7 : h5 a = some (.inr (4, [v0, v1, v2, .int n, .int (re + 1)])) := by rw [e6]; exact pu_s
    exact pw_vret F hr hlk hP hA hK hS (by decide) (by decide) d_Fr_repeatFrom_23 ⟨by rw [if_pos (Int32.not_le.mp c1), if_pos (Int32.not_le.mp c1)]; exact f7, hx⟩
abbrev rm_T_init : Room := { frames := 2, cells := 7, slots := 36, locals := 37 }
set_option maxHeartbeats 4000000 in
set_option maxRecDepth 100000 in
theorem c_T_init (l : Launch) (D : va_G) (cs : Nat → Nat) (A : Nat → Prop) (h : pw_H) (a bo : Nat) (fn lv : Int32) (fa : h a = some (.inr (5, [.null, .int 0, .int 0, .int 0, .int 0, .int 0, .int 0]))) : pm l y_T_init b_T_init 5 none rm_T_init [.ref a, .int fn, .int lv, .ref bo] D cs A h (va_Qv (fun (h' : pw_H) => ∃ (fa : Nat) (fr : Nat → Nat), h fa = none ∧ (∀ k, k < 6 → h (fr k) = none) ∧ (∀ i j, i < 6 → j < 6 → fr i = fr j → i = j) ∧ ∃ q : Nat → Option Nat, h' fa = some (.inl (cs 4, 6, .inr (.inr (.inr (.inr q))))) ∧ (∀ k, k < 6 → q k = some (fr k)) ∧ h' (fr 0) = some (.inr (4, [.int fn, .int lv, .ref bo, .int 0, .int 0])) ∧ (∀ k, 1 ≤ k → k < 6 → h' (fr k) = some (.inr (4, [.int 0, .int 0, .ref bo, .int 0, .int 0]))) ∧ h' a = some (.inr (5, [.ref fa, .int 1, .int lv, .int 0, .int 0, .int 0, .int 0])) ∧ ext h h' [a]) (ww D cs A) A) 7 36 := by
  refine pm_of R_T rfl (by decide) (Nat.le_of_ble_eq_true rfl) (fun p e s m below meth c ls F hr hlk hnm hP hA hK hl => ?_)
  have hS : va_S A s.heap s.heap [] := va_S.rf
  replace hl : lv_has ls 5 [(0, .ref a), (1, .int fn), (2, .int lv), (3, .ref bo)] := hl
  have hx : ext h h [a] := ext.rf
  refine lv_aload_n F.1 F.2.1 d_T_init_0 rfl (lv_at hl 0 rfl) ?_
  refine W.objInit F.1 F.2.1 F.2.2.2.1 (F.2.2.2.2 _ O_T_3) (F.2.2.2.2 _ iM_obj) (F.2.2.2.2 _ co_obj) rfl (hl.1.trans F.2.2.1.symm) rfl d_T_init_1 (by decide) (Nat.le_of_ble_eq_true rfl) ?_
  refine W.eq (g2 := F0 m 4 ls []) (by rfl) ?_
  refine lv_aload_n F.1 F.2.1 d_T_init_4 rfl (lv_at hl 0 rfl) ?_
  refine lv_iload_n F.1 F.2.1 d_T_init_5 rfl (lv_at hl 2 rfl) ?_
  refine pw_put F I_T ty_T k_T n_T hK.1 hP hS fa rfl 2 (by decide) L_T_9 (fun _ z => z) rfl rfl rfl (Nat.le_of_ble_eq_true rfl) d_T_init_6 (fun H locs hP hS => ?_)
  replace hP : pw D vwCl A (pu h a (.inr (5, [.null, .int 0, .int lv, .int 0, .int 0, .int 0, .int 0]))) H := hP
  obtain ⟨h1, e2⟩ : ∃ z9 : pw_H, z9 = pu h a (.inr (5, [.null, .int 0, .int lv, .int 0, .int 0, .int 0, .int 0])) := ⟨_, rfl⟩
  rw [← e2] at hP
  have hx : ext h h1 [a] := by rw [e2]; exact hx.pu (Or.inl (by simp))
  have f3 : h1 a = some (.inr (5, [.null, .int 0, .int lv, .int 0, .int 0, .int 0, .int 0])) := by rw [e2]; exact pu_s
  refine lv_aload_n F.1 F.2.1 d_T_init_9 rfl (lv_at hl 0 rfl) ?_
  refine lv_bipush (v := 6) F.1 F.2.1 d_T_init_10 (by decide) ?_
  refine pw_newq (N' := 6) F C_T_15 (hK.2.2.2.2.2.2.2.2.1 _ (by decide)) hK.1 hP hS hA 4 rfl (by decide) (by decide) (by decide) (by decide) (by decide) d_T_init_12 (fun q4 H n5 hP hS => ?_)
  replace hP : pw D vwCl A (pu h1 q4 (.inl (cs 4, 6, .inr (.inr (.inr (.inr (fun _ => none))))))) H := hP
  have g8 : h q4 = none := hx.2 _ n5
  obtain ⟨h6, e7⟩ : ∃ z9 : pw_H, z9 = pu h1 q4 (.inl (cs 4, 6, .inr (.inr (.inr (.inr (fun _ => none)))))) := ⟨_, rfl⟩
  rw [← e7] at hP
  have hx : ext h h6 [a] := by rw [e7]; exact hx.pu (Or.inr g8)
  have f9 : h6 q4 = some (.inl (cs 4, 6, .inr (.inr (.inr (.inr (fun _ => none)))))) := by rw [e7]; exact pu_s
  have f10 : h6 a = some (.inr (5, [.null, .int 0, .int lv, .int 0, .int 0, .int 0, .int 0])) := by rw [e7]; exact pu_f n5 f3
  refine pw_putF F I_T ty_T k_T n_T hK.1 hP hS f10 rfl 0 (by decide) L_T_17 (fun _ z => z) rfl hnm rfl rfl rfl (Nat.le_of_ble_eq_true rfl) d_T_init_15 (fun H locs hP hS => ?_)
  replace hP : pw D vwCl A (pu h6 a (.inr (5, [.ref q4, .int 0, .int lv, .int 0, .int 0, .int 0, .int 0]))) H := hP
  obtain ⟨h11, e12⟩ : ∃ z9 : pw_H, z9 = pu h6 a (.inr (5, [.ref q4, .int 0, .int lv, .int 0, .int 0, .int 0, .int 0])) := ⟨_, rfl⟩
  rw [← e12] at hP
  have hx : ext h h11 [a] := by rw [e12]; exact hx.pu (Or.inl (by simp))
  have f13 : h11 a = some (.inr (5, [.ref q4, .int 0, .int lv, .int 0, .int 0, .int 0, .int 0])) := by rw [e12]; exact pu_s
  refine lv_iconst (v := 0) F.1 F.2.1 d_T_init_18 (by decide) ?_
  refine lv_istore F.1 F.2.1 d_T_init_19 hl (by decide) rfl (fun ls hl => ?_)
  replace hl : lv_has ls 5 [(4, .int 0), (0, .ref a), (1, .int fn), (2, .int lv), (3, .ref bo)] := hl
  refine lv_iload F.1 F.2.1 d_T_init_21 (lv_at hl 0 rfl) ?_
  refine lv_bipush (v := 6) F.1 F.2.1 d_T_init_23 (by decide) ?_
  refine lv_icmp_ge (tgt := 49) F.1 F.2.1 d_T_init_25 (by decide) (fun c14 => absurd c14 (by decide)) (fun c14 => ?_)
  refine lv_aload_n F.1 F.2.1 d_T_init_28 rfl (lv_at hl 1 rfl) ?_
  refine pw_get F I_T hK.1 hP f13 rfl 0 (by decide) L_T_17 (fun _ z => z) rfl d_T_init_29 ?_
  refine lv_iload F.1 F.2.1 d_T_init_32 (lv_at hl 0 rfl) ?_
  refine pw_new (ci := 4) (fs := [.int 0, .int 0, .null, .int 0, .int 0]) F I_Fr ty_Fr k_Fr C_T_15 N_Fr Z_Fr hK.1 hP hS hA rfl (fun j hj => by rcases (show j = 0 ∨ j = 1 ∨ j = 2 ∨ j = 3 ∨ j = 4 by omega) with rfl | rfl | rfl | rfl | rfl <;> rfl) (by decide) (by decide) d_T_init_34 (fun q15 H n16 hP hS => ?_)
  replace hP : pw D vwCl A (pu h11 q15 (.inr (4, [.int 0, .int 0, .null, .int 0, .int 0]))) H := hP
  have g19 : h q15 = none := hx.2 _ n16
  obtain ⟨h17, e18⟩ : ∃ z9 : pw_H, z9 = pu h11 q15 (.inr (4, [.int 0, .int 0, .null, .int 0, .int 0])) := ⟨_, rfl⟩
  rw [← e18] at hP
  have hx : ext h h17 [a] := by rw [e18]; exact hx.pu (Or.inr g19)
  have f20 : h17 q15 = some (.inr (4, [.int 0, .int 0, .null, .int 0, .int 0])) := by rw [e18]; exact pu_s
  refine lv_dup F.1 F.2.1 d_T_init_37 rfl ?_
  refine lv_aload_n F.1 F.2.1 d_T_init_38 rfl (lv_at hl 4 rfl) ?_
  refine pw_cv (pr_I F (c_Fr_init l D cs A h17 q15 bo f20) X_T_21 rfl rfl ⟨by decide, by decide⟩ hP hA hK hS rfl hl.1 rfl (Nat.le_of_ble_eq_true rfl) d_T_init_39 ⟨by decide, by decide⟩) hS (fun h21 H locs hq hP hS => ?_)
  obtain ⟨j22, j23⟩ := hq
  have hx : ext h h21 [a] := hx.trans j23 (fun y hy => by
    simp only [List.mem_cons, List.not_mem_nil, or_false] at hy
    rcases hy with rfl
    · exact Or.inr g19)
  have f24 : h11 q4 = some (.inl (cs 4, 6, .inr (.inr (.inr (.inr (fun _ => none)))))) := by rw [e12]; exact pu_k f9 (pu_t f9 f10 (show (306 : Nat) ≠ 5 by decide))
  have f25 : h17 q4 = some (.inl (cs 4, 6, .inr (.inr (.inr (.inr (fun _ => none)))))) := by rw [e18]; exact pu_f n16 f24
  have f26 : h21 q4 = some (.inl (cs 4, 6, .inr (.inr (.inr (.inr (fun _ => none)))))) := j23.1 _ _ f25 (nin1 (pu_t f25 f20 (show (306 : Nat) ≠ 4 by decide)))
  refine W.eq (g2 := F0 m 42 ls [.ref q15, .int (nI 0), .ref q4]) (by rw [(show (0 : Int32) = nI 0 by decide)]) ?_
  refine pw_astqN1 F hK.1 hP hS 4 4 f26 rfl j22 rfl (k := 0) (by decide) (by decide) d_T_init_42 (fun H locs hP hS => ?_)
  replace hP : pw D vwCl A (pu h21 q4 (.inl (cs 4, 6, .inr (.inr (.inr (.inr (va_up (fun _ => none) 0 (some q15)))))))) H := hP
  obtain ⟨h27, e28⟩ : ∃ z9 : pw_H, z9 = pu h21 q4 (.inl (cs 4, 6, .inr (.inr (.inr (.inr (va_up (fun _ => none) 0 (some q15))))))) := ⟨_, rfl⟩
  rw [← e28] at hP
  have hx : ext h h27 [a] := by rw [e28]; exact hx.pu (Or.inr g8)
  have f29 : h27 q4 = some (.inl (cs 4, 6, .inr (.inr (.inr (.inr (va_up (fun _ => none) 0 (some q15))))))) := by rw [e28]; exact pu_s
  refine lv_iinc (k := 0) (v := 1) F.1 F.2.1 d_T_init_43 hl rfl (by decide) (by decide) rfl (fun ls hl => ?_)
  replace hl : lv_has ls 5 [(4, .int 1), (0, .ref a), (1, .int fn), (2, .int lv), (3, .ref bo)] := hl
  refine lv_goto (tgt := 21) F.1 F.2.1 d_T_init_46 (by decide) ?_
  refine lv_iload F.1 F.2.1 d_T_init_21 (lv_at hl 0 rfl) ?_
  refine lv_bipush (v := 6) F.1 F.2.1 d_T_init_23 (by decide) ?_
  refine lv_icmp_ge (tgt := 49) F.1 F.2.1 d_T_init_25 (by decide) (fun c30 => absurd c30 (by decide)) (fun c30 => ?_)
  refine lv_aload_n F.1 F.2.1 d_T_init_28 rfl (lv_at hl 1 rfl) ?_
  have f31 : h17 a = some (.inr (5, [.ref q4, .int 0, .int lv, .int 0, .int 0, .int 0, .int 0])) := by rw [e18]; exact pu_f n16 f13
  have f32 : h21 a = some (.inr (5, [.ref q4, .int 0, .int lv, .int 0, .int 0, .int 0, .int 0])) := j23.1 _ _ f31 (nin1 (pu_t f31 f20 (show (5 : Nat) ≠ 4 by decide)))
  have f33 : h27 a = some (.inr (5, [.ref q4, .int 0, .int lv, .int 0, .int 0, .int 0, .int 0])) := by rw [e28]; exact pu_k f32 (pu_t f32 f26 (show (5 : Nat) ≠ 306 by decide))
  refine pw_get F I_T hK.1 hP f33 rfl 0 (by decide) L_T_17 (fun _ z => z) rfl d_T_init_29 ?_
  refine lv_iload F.1 F.2.1 d_T_init_32 (lv_at hl 0 rfl) ?_
  refine pw_new (ci := 4) (fs := [.int 0, .int 0, .null, .int 0, .int 0]) F I_Fr ty_Fr k_Fr C_T_15 N_Fr Z_Fr hK.1 hP hS hA rfl (fun j hj => by rcases (show j = 0 ∨ j = 1 ∨ j = 2 ∨ j = 3 ∨ j = 4 by omega) with rfl | rfl | rfl | rfl | rfl <;> rfl) (by decide) (by decide) d_T_init_34 (fun q34 H n35 hP hS => ?_)
  have f36 : h27 q15 = some (.inr (4, [.int 0, .int 0, .ref bo, .int 0, .int 0])) := by rw [e28]; exact pu_k j22 (pu_t j22 f26 (show (4 : Nat) ≠ 306 by decide))
  have k37 : q15 ≠ q34 := none_ne f36 n35
  replace hP : pw D vwCl A (pu h27 q34 (.inr (4, [.int 0, .int 0, .null, .int 0, .int 0]))) H := hP
  have g40 : h q34 = none := hx.2 _ n35
  obtain ⟨h38, e39⟩ : ∃ z9 : pw_H, z9 = pu h27 q34 (.inr (4, [.int 0, .int 0, .null, .int 0, .int 0])) := ⟨_, rfl⟩
  rw [← e39] at hP
  have hx : ext h h38 [a] := by rw [e39]; exact hx.pu (Or.inr g40)
  have f41 : h38 q34 = some (.inr (4, [.int 0, .int 0, .null, .int 0, .int 0])) := by rw [e39]; exact pu_s
  refine lv_dup F.1 F.2.1 d_T_init_37 rfl ?_
  refine lv_aload_n F.1 F.2.1 d_T_init_38 rfl (lv_at hl 4 rfl) ?_
  refine pw_cv (pr_I F (c_Fr_init l D cs A h38 q34 bo f41) X_T_21 rfl rfl ⟨by decide, by decide⟩ hP hA hK hS rfl hl.1 rfl (Nat.le_of_ble_eq_true rfl) d_T_init_39 ⟨by decide, by decide⟩) hS (fun h42 H locs hq hP hS => ?_)
  obtain ⟨j43, j44⟩ := hq
  have hx : ext h h42 [a] := hx.trans j44 (fun y hy => by
    simp only [List.mem_cons, List.not_mem_nil, or_false] at hy
    rcases hy with rfl
    · exact Or.inr g40)
  have f45 : h38 q4 = some (.inl (cs 4, 6, .inr (.inr (.inr (.inr (va_up (fun _ => none) 0 (some q15))))))) := by rw [e39]; exact pu_f n35 f29
  have f46 : h42 q4 = some (.inl (cs 4, 6, .inr (.inr (.inr (.inr (va_up (fun _ => none) 0 (some q15))))))) := j44.1 _ _ f45 (nin1 (pu_t f45 f41 (show (306 : Nat) ≠ 4 by decide)))
  refine W.eq (g2 := F0 m 42 ls [.ref q34, .int (nI 1), .ref q4]) (by rw [(show (1 : Int32) = nI 1 by decide)]) ?_
  refine pw_astqN1 F hK.1 hP hS 4 4 f46 rfl j43 rfl (k := 1) (by decide) (by decide) d_T_init_42 (fun H locs hP hS => ?_)
  replace hP : pw D vwCl A (pu h42 q4 (.inl (cs 4, 6, .inr (.inr (.inr (.inr (va_up (va_up (fun _ => none) 0 (some q15)) 1 (some q34)))))))) H := hP
  obtain ⟨h47, e48⟩ : ∃ z9 : pw_H, z9 = pu h42 q4 (.inl (cs 4, 6, .inr (.inr (.inr (.inr (va_up (va_up (fun _ => none) 0 (some q15)) 1 (some q34))))))) := ⟨_, rfl⟩
  rw [← e48] at hP
  have hx : ext h h47 [a] := by rw [e48]; exact hx.pu (Or.inr g8)
  have f49 : h47 q4 = some (.inl (cs 4, 6, .inr (.inr (.inr (.inr (va_up (va_up (fun _ => none) 0 (some q15)) 1 (some q34))))))) := by rw [e48]; exact pu_s
  refine lv_iinc (k := 0) (v := 2) F.1 F.2.1 d_T_init_43 hl rfl (by decide) (by decide) rfl (fun ls hl => ?_)
  replace hl : lv_has ls 5 [(4, .int 2), (0, .ref a), (1, .int fn), (2, .int lv), (3, .ref bo)] := hl
  refine lv_goto (tgt := 21) F.1 F.2.1 d_T_init_46 (by decide) ?_
  refine lv_iload F.1 F.2.1 d_T_init_21 (lv_at hl 0 rfl) ?_
  refine lv_bipush (v := 6) F.1 F.2.1 d_T_init_23 (by decide) ?_
  refine lv_icmp_ge (tgt := 49) F.1 F.2.1 d_T_init_25 (by decide) (fun c50 => absurd c50 (by decide)) (fun c50 => ?_)
  refine lv_aload_n F.1 F.2.1 d_T_init_28 rfl (lv_at hl 1 rfl) ?_
  have f51 : h38 a = some (.inr (5, [.ref q4, .int 0, .int lv, .int 0, .int 0, .int 0, .int 0])) := by rw [e39]; exact pu_f n35 f33
  have f52 : h42 a = some (.inr (5, [.ref q4, .int 0, .int lv, .int 0, .int 0, .int 0, .int 0])) := j44.1 _ _ f51 (nin1 (pu_t f51 f41 (show (5 : Nat) ≠ 4 by decide)))
  have f53 : h47 a = some (.inr (5, [.ref q4, .int 0, .int lv, .int 0, .int 0, .int 0, .int 0])) := by rw [e48]; exact pu_k f52 (pu_t f52 f46 (show (5 : Nat) ≠ 306 by decide))
  refine pw_get F I_T hK.1 hP f53 rfl 0 (by decide) L_T_17 (fun _ z => z) rfl d_T_init_29 ?_
  refine lv_iload F.1 F.2.1 d_T_init_32 (lv_at hl 0 rfl) ?_
  refine pw_new (ci := 4) (fs := [.int 0, .int 0, .null, .int 0, .int 0]) F I_Fr ty_Fr k_Fr C_T_15 N_Fr Z_Fr hK.1 hP hS hA rfl (fun j hj => by rcases (show j = 0 ∨ j = 1 ∨ j = 2 ∨ j = 3 ∨ j = 4 by omega) with rfl | rfl | rfl | rfl | rfl <;> rfl) (by decide) (by decide) d_T_init_34 (fun q54 H n55 hP hS => ?_)
  have f56 : h38 q15 = some (.inr (4, [.int 0, .int 0, .ref bo, .int 0, .int 0])) := by rw [e39]; exact pu_f n35 f36
  have f57 : h42 q15 = some (.inr (4, [.int 0, .int 0, .ref bo, .int 0, .int 0])) := j44.1 _ _ f56 (nin1 k37)
  have f58 : h47 q15 = some (.inr (4, [.int 0, .int 0, .ref bo, .int 0, .int 0])) := by rw [e48]; exact pu_k f57 (pu_t f57 f46 (show (4 : Nat) ≠ 306 by decide))
  have k59 : q15 ≠ q54 := none_ne f58 n55
  have f60 : h47 q34 = some (.inr (4, [.int 0, .int 0, .ref bo, .int 0, .int 0])) := by rw [e48]; exact pu_k j43 (pu_t j43 f46 (show (4 : Nat) ≠ 306 by decide))
  have k61 : q34 ≠ q54 := none_ne f60 n55
  replace hP : pw D vwCl A (pu h47 q54 (.inr (4, [.int 0, .int 0, .null, .int 0, .int 0]))) H := hP
  have g64 : h q54 = none := hx.2 _ n55
  obtain ⟨h62, e63⟩ : ∃ z9 : pw_H, z9 = pu h47 q54 (.inr (4, [.int 0, .int 0, .null, .int 0, .int 0])) := ⟨_, rfl⟩
  rw [← e63] at hP
  have hx : ext h h62 [a] := by rw [e63]; exact hx.pu (Or.inr g64)
  have f65 : h62 q54 = some (.inr (4, [.int 0, .int 0, .null, .int 0, .int 0])) := by rw [e63]; exact pu_s
  refine lv_dup F.1 F.2.1 d_T_init_37 rfl ?_
  refine lv_aload_n F.1 F.2.1 d_T_init_38 rfl (lv_at hl 4 rfl) ?_
  refine pw_cv (pr_I F (c_Fr_init l D cs A h62 q54 bo f65) X_T_21 rfl rfl ⟨by decide, by decide⟩ hP hA hK hS rfl hl.1 rfl (Nat.le_of_ble_eq_true rfl) d_T_init_39 ⟨by decide, by decide⟩) hS (fun h66 H locs hq hP hS => ?_)
  obtain ⟨j67, j68⟩ := hq
  have hx : ext h h66 [a] := hx.trans j68 (fun y hy => by
    simp only [List.mem_cons, List.not_mem_nil, or_false] at hy
    rcases hy with rfl
    · exact Or.inr g64)
  have f69 : h62 q4 = some (.inl (cs 4, 6, .inr (.inr (.inr (.inr (va_up (va_up (fun _ => none) 0 (some q15)) 1 (some q34))))))) := by rw [e63]; exact pu_f n55 f49
  have f70 : h66 q4 = some (.inl (cs 4, 6, .inr (.inr (.inr (.inr (va_up (va_up (fun _ => none) 0 (some q15)) 1 (some q34))))))) := j68.1 _ _ f69 (nin1 (pu_t f69 f65 (show (306 : Nat) ≠ 4 by decide)))
  refine W.eq (g2 := F0 m 42 ls [.ref q54, .int (nI 2), .ref q4]) (by rw [(show (2 : Int32) = nI 2 by decide)]) ?_
  refine pw_astqN1 F hK.1 hP hS 4 4 f70 rfl j67 rfl (k := 2) (by decide) (by decide) d_T_init_42 (fun H locs hP hS => ?_)
  replace hP : pw D vwCl A (pu h66 q4 (.inl (cs 4, 6, .inr (.inr (.inr (.inr (va_up (va_up (va_up (fun _ => none) 0 (some q15)) 1 (some q34)) 2 (some q54)))))))) H := hP
  obtain ⟨h71, e72⟩ : ∃ z9 : pw_H, z9 = pu h66 q4 (.inl (cs 4, 6, .inr (.inr (.inr (.inr (va_up (va_up (va_up (fun _ => none) 0 (some q15)) 1 (some q34)) 2 (some q54))))))) := ⟨_, rfl⟩
  rw [← e72] at hP
  have hx : ext h h71 [a] := by rw [e72]; exact hx.pu (Or.inr g8)
  have f73 : h71 q4 = some (.inl (cs 4, 6, .inr (.inr (.inr (.inr (va_up (va_up (va_up (fun _ => none) 0 (some q15)) 1 (some q34)) 2 (some q54))))))) := by rw [e72]; exact pu_s
  refine lv_iinc (k := 0) (v := 3) F.1 F.2.1 d_T_init_43 hl rfl (by decide) (by decide) rfl (fun ls hl => ?_)
  replace hl : lv_has ls 5 [(4, .int 3), (0, .ref a), (1, .int fn), (2, .int lv), (3, .ref bo)] := hl
  refine lv_goto (tgt := 21) F.1 F.2.1 d_T_init_46 (by decide) ?_
  refine lv_iload F.1 F.2.1 d_T_init_21 (lv_at hl 0 rfl) ?_
  refine lv_bipush (v := 6) F.1 F.2.1 d_T_init_23 (by decide) ?_
  refine lv_icmp_ge (tgt := 49) F.1 F.2.1 d_T_init_25 (by decide) (fun c74 => absurd c74 (by decide)) (fun c74 => ?_)
  refine lv_aload_n F.1 F.2.1 d_T_init_28 rfl (lv_at hl 1 rfl) ?_
  have f75 : h62 a = some (.inr (5, [.ref q4, .int 0, .int lv, .int 0, .int 0, .int 0, .int 0])) := by rw [e63]; exact pu_f n55 f53
  have f76 : h66 a = some (.inr (5, [.ref q4, .int 0, .int lv, .int 0, .int 0, .int 0, .int 0])) := j68.1 _ _ f75 (nin1 (pu_t f75 f65 (show (5 : Nat) ≠ 4 by decide)))
  have f77 : h71 a = some (.inr (5, [.ref q4, .int 0, .int lv, .int 0, .int 0, .int 0, .int 0])) := by rw [e72]; exact pu_k f76 (pu_t f76 f70 (show (5 : Nat) ≠ 306 by decide))
  refine pw_get F I_T hK.1 hP f77 rfl 0 (by decide) L_T_17 (fun _ z => z) rfl d_T_init_29 ?_
  refine lv_iload F.1 F.2.1 d_T_init_32 (lv_at hl 0 rfl) ?_
  refine pw_new (ci := 4) (fs := [.int 0, .int 0, .null, .int 0, .int 0]) F I_Fr ty_Fr k_Fr C_T_15 N_Fr Z_Fr hK.1 hP hS hA rfl (fun j hj => by rcases (show j = 0 ∨ j = 1 ∨ j = 2 ∨ j = 3 ∨ j = 4 by omega) with rfl | rfl | rfl | rfl | rfl <;> rfl) (by decide) (by decide) d_T_init_34 (fun q78 H n79 hP hS => ?_)
  have f80 : h62 q15 = some (.inr (4, [.int 0, .int 0, .ref bo, .int 0, .int 0])) := by rw [e63]; exact pu_f n55 f58
  have f81 : h66 q15 = some (.inr (4, [.int 0, .int 0, .ref bo, .int 0, .int 0])) := j68.1 _ _ f80 (nin1 k59)
  have f82 : h71 q15 = some (.inr (4, [.int 0, .int 0, .ref bo, .int 0, .int 0])) := by rw [e72]; exact pu_k f81 (pu_t f81 f70 (show (4 : Nat) ≠ 306 by decide))
  have k83 : q15 ≠ q78 := none_ne f82 n79
  have f84 : h62 q34 = some (.inr (4, [.int 0, .int 0, .ref bo, .int 0, .int 0])) := by rw [e63]; exact pu_f n55 f60
  have f85 : h66 q34 = some (.inr (4, [.int 0, .int 0, .ref bo, .int 0, .int 0])) := j68.1 _ _ f84 (nin1 k61)
  have f86 : h71 q34 = some (.inr (4, [.int 0, .int 0, .ref bo, .int 0, .int 0])) := by rw [e72]; exact pu_k f85 (pu_t f85 f70 (show (4 : Nat) ≠ 306 by decide))
  have k87 : q34 ≠ q78 := none_ne f86 n79
  have f88 : h71 q54 = some (.inr (4, [.int 0, .int 0, .ref bo, .int 0, .int 0])) := by rw [e72]; exact pu_k j67 (pu_t j67 f70 (show (4 : Nat) ≠ 306 by decide))
  have k89 : q54 ≠ q78 := none_ne f88 n79
  replace hP : pw D vwCl A (pu h71 q78 (.inr (4, [.int 0, .int 0, .null, .int 0, .int 0]))) H := hP
  have g92 : h q78 = none := hx.2 _ n79
  obtain ⟨h90, e91⟩ : ∃ z9 : pw_H, z9 = pu h71 q78 (.inr (4, [.int 0, .int 0, .null, .int 0, .int 0])) := ⟨_, rfl⟩
  rw [← e91] at hP
  have hx : ext h h90 [a] := by rw [e91]; exact hx.pu (Or.inr g92)
  have f93 : h90 q78 = some (.inr (4, [.int 0, .int 0, .null, .int 0, .int 0])) := by rw [e91]; exact pu_s
  refine lv_dup F.1 F.2.1 d_T_init_37 rfl ?_
  refine lv_aload_n F.1 F.2.1 d_T_init_38 rfl (lv_at hl 4 rfl) ?_
  refine pw_cv (pr_I F (c_Fr_init l D cs A h90 q78 bo f93) X_T_21 rfl rfl ⟨by decide, by decide⟩ hP hA hK hS rfl hl.1 rfl (Nat.le_of_ble_eq_true rfl) d_T_init_39 ⟨by decide, by decide⟩) hS (fun h94 H locs hq hP hS => ?_)
  obtain ⟨j95, j96⟩ := hq
  have hx : ext h h94 [a] := hx.trans j96 (fun y hy => by
    simp only [List.mem_cons, List.not_mem_nil, or_false] at hy
    rcases hy with rfl
    · exact Or.inr g92)
  have f97 : h90 q4 = some (.inl (cs 4, 6, .inr (.inr (.inr (.inr (va_up (va_up (va_up (fun _ => none) 0 (some q15)) 1 (some q34)) 2 (some q54))))))) := by rw [e91]; exact pu_f n79 f73
  have f98 : h94 q4 = some (.inl (cs 4, 6, .inr (.inr (.inr (.inr (va_up (va_up (va_up (fun _ => none) 0 (some q15)) 1 (some q34)) 2 (some q54))))))) := j96.1 _ _ f97 (nin1 (pu_t f97 f93 (show (306 : Nat) ≠ 4 by decide)))
  refine W.eq (g2 := F0 m 42 ls [.ref q78, .int (nI 3), .ref q4]) (by rw [(show (3 : Int32) = nI 3 by decide)]) ?_
  refine pw_astqN1 F hK.1 hP hS 4 4 f98 rfl j95 rfl (k := 3) (by decide) (by decide) d_T_init_42 (fun H locs hP hS => ?_)
  replace hP : pw D vwCl A (pu h94 q4 (.inl (cs 4, 6, .inr (.inr (.inr (.inr (va_up (va_up (va_up (va_up (fun _ => none) 0 (some q15)) 1 (some q34)) 2 (some q54)) 3 (some q78)))))))) H := hP
  obtain ⟨h99, e100⟩ : ∃ z9 : pw_H, z9 = pu h94 q4 (.inl (cs 4, 6, .inr (.inr (.inr (.inr (va_up (va_up (va_up (va_up (fun _ => none) 0 (some q15)) 1 (some q34)) 2 (some q54)) 3 (some q78))))))) := ⟨_, rfl⟩
  rw [← e100] at hP
  have hx : ext h h99 [a] := by rw [e100]; exact hx.pu (Or.inr g8)
  have f101 : h99 q4 = some (.inl (cs 4, 6, .inr (.inr (.inr (.inr (va_up (va_up (va_up (va_up (fun _ => none) 0 (some q15)) 1 (some q34)) 2 (some q54)) 3 (some q78))))))) := by rw [e100]; exact pu_s
  refine lv_iinc (k := 0) (v := 4) F.1 F.2.1 d_T_init_43 hl rfl (by decide) (by decide) rfl (fun ls hl => ?_)
  replace hl : lv_has ls 5 [(4, .int 4), (0, .ref a), (1, .int fn), (2, .int lv), (3, .ref bo)] := hl
  refine lv_goto (tgt := 21) F.1 F.2.1 d_T_init_46 (by decide) ?_
  refine lv_iload F.1 F.2.1 d_T_init_21 (lv_at hl 0 rfl) ?_
  refine lv_bipush (v := 6) F.1 F.2.1 d_T_init_23 (by decide) ?_
  refine lv_icmp_ge (tgt := 49) F.1 F.2.1 d_T_init_25 (by decide) (fun c102 => absurd c102 (by decide)) (fun c102 => ?_)
  refine lv_aload_n F.1 F.2.1 d_T_init_28 rfl (lv_at hl 1 rfl) ?_
  have f103 : h90 a = some (.inr (5, [.ref q4, .int 0, .int lv, .int 0, .int 0, .int 0, .int 0])) := by rw [e91]; exact pu_f n79 f77
  have f104 : h94 a = some (.inr (5, [.ref q4, .int 0, .int lv, .int 0, .int 0, .int 0, .int 0])) := j96.1 _ _ f103 (nin1 (pu_t f103 f93 (show (5 : Nat) ≠ 4 by decide)))
  have f105 : h99 a = some (.inr (5, [.ref q4, .int 0, .int lv, .int 0, .int 0, .int 0, .int 0])) := by rw [e100]; exact pu_k f104 (pu_t f104 f98 (show (5 : Nat) ≠ 306 by decide))
  refine pw_get F I_T hK.1 hP f105 rfl 0 (by decide) L_T_17 (fun _ z => z) rfl d_T_init_29 ?_
  refine lv_iload F.1 F.2.1 d_T_init_32 (lv_at hl 0 rfl) ?_
  refine pw_new (ci := 4) (fs := [.int 0, .int 0, .null, .int 0, .int 0]) F I_Fr ty_Fr k_Fr C_T_15 N_Fr Z_Fr hK.1 hP hS hA rfl (fun j hj => by rcases (show j = 0 ∨ j = 1 ∨ j = 2 ∨ j = 3 ∨ j = 4 by omega) with rfl | rfl | rfl | rfl | rfl <;> rfl) (by decide) (by decide) d_T_init_34 (fun q106 H n107 hP hS => ?_)
  have f108 : h90 q15 = some (.inr (4, [.int 0, .int 0, .ref bo, .int 0, .int 0])) := by rw [e91]; exact pu_f n79 f82
  have f109 : h94 q15 = some (.inr (4, [.int 0, .int 0, .ref bo, .int 0, .int 0])) := j96.1 _ _ f108 (nin1 k83)
  have f110 : h99 q15 = some (.inr (4, [.int 0, .int 0, .ref bo, .int 0, .int 0])) := by rw [e100]; exact pu_k f109 (pu_t f109 f98 (show (4 : Nat) ≠ 306 by decide))
  have k111 : q15 ≠ q106 := none_ne f110 n107
  have f112 : h90 q34 = some (.inr (4, [.int 0, .int 0, .ref bo, .int 0, .int 0])) := by rw [e91]; exact pu_f n79 f86
  have f113 : h94 q34 = some (.inr (4, [.int 0, .int 0, .ref bo, .int 0, .int 0])) := j96.1 _ _ f112 (nin1 k87)
  have f114 : h99 q34 = some (.inr (4, [.int 0, .int 0, .ref bo, .int 0, .int 0])) := by rw [e100]; exact pu_k f113 (pu_t f113 f98 (show (4 : Nat) ≠ 306 by decide))
  have k115 : q34 ≠ q106 := none_ne f114 n107
  have f116 : h90 q54 = some (.inr (4, [.int 0, .int 0, .ref bo, .int 0, .int 0])) := by rw [e91]; exact pu_f n79 f88
  have f117 : h94 q54 = some (.inr (4, [.int 0, .int 0, .ref bo, .int 0, .int 0])) := j96.1 _ _ f116 (nin1 k89)
  have f118 : h99 q54 = some (.inr (4, [.int 0, .int 0, .ref bo, .int 0, .int 0])) := by rw [e100]; exact pu_k f117 (pu_t f117 f98 (show (4 : Nat) ≠ 306 by decide))
  have k119 : q54 ≠ q106 := none_ne f118 n107
  have f120 : h99 q78 = some (.inr (4, [.int 0, .int 0, .ref bo, .int 0, .int 0])) := by rw [e100]; exact pu_k j95 (pu_t j95 f98 (show (4 : Nat) ≠ 306 by decide))
  have k121 : q78 ≠ q106 := none_ne f120 n107
  replace hP : pw D vwCl A (pu h99 q106 (.inr (4, [.int 0, .int 0, .null, .int 0, .int 0]))) H := hP
  have g124 : h q106 = none := hx.2 _ n107
  obtain ⟨h122, e123⟩ : ∃ z9 : pw_H, z9 = pu h99 q106 (.inr (4, [.int 0, .int 0, .null, .int 0, .int 0])) := ⟨_, rfl⟩
  rw [← e123] at hP
  have hx : ext h h122 [a] := by rw [e123]; exact hx.pu (Or.inr g124)
  have f125 : h122 q106 = some (.inr (4, [.int 0, .int 0, .null, .int 0, .int 0])) := by rw [e123]; exact pu_s
  refine lv_dup F.1 F.2.1 d_T_init_37 rfl ?_
  refine lv_aload_n F.1 F.2.1 d_T_init_38 rfl (lv_at hl 4 rfl) ?_
  refine pw_cv (pr_I F (c_Fr_init l D cs A h122 q106 bo f125) X_T_21 rfl rfl ⟨by decide, by decide⟩ hP hA hK hS rfl hl.1 rfl (Nat.le_of_ble_eq_true rfl) d_T_init_39 ⟨by decide, by decide⟩) hS (fun h126 H locs hq hP hS => ?_)
  obtain ⟨j127, j128⟩ := hq
  have hx : ext h h126 [a] := hx.trans j128 (fun y hy => by
    simp only [List.mem_cons, List.not_mem_nil, or_false] at hy
    rcases hy with rfl
    · exact Or.inr g124)
  have f129 : h122 q4 = some (.inl (cs 4, 6, .inr (.inr (.inr (.inr (va_up (va_up (va_up (va_up (fun _ => none) 0 (some q15)) 1 (some q34)) 2 (some q54)) 3 (some q78))))))) := by rw [e123]; exact pu_f n107 f101
  have f130 : h126 q4 = some (.inl (cs 4, 6, .inr (.inr (.inr (.inr (va_up (va_up (va_up (va_up (fun _ => none) 0 (some q15)) 1 (some q34)) 2 (some q54)) 3 (some q78))))))) := j128.1 _ _ f129 (nin1 (pu_t f129 f125 (show (306 : Nat) ≠ 4 by decide)))
  refine W.eq (g2 := F0 m 42 ls [.ref q106, .int (nI 4), .ref q4]) (by rw [(show (4 : Int32) = nI 4 by decide)]) ?_
  refine pw_astqN1 F hK.1 hP hS 4 4 f130 rfl j127 rfl (k := 4) (by decide) (by decide) d_T_init_42 (fun H locs hP hS => ?_)
  replace hP : pw D vwCl A (pu h126 q4 (.inl (cs 4, 6, .inr (.inr (.inr (.inr (va_up (va_up (va_up (va_up (va_up (fun _ => none) 0 (some q15)) 1 (some q34)) 2 (some q54)) 3 (some q78)) 4 (some q106)))))))) H := hP
  obtain ⟨h131, e132⟩ : ∃ z9 : pw_H, z9 = pu h126 q4 (.inl (cs 4, 6, .inr (.inr (.inr (.inr (va_up (va_up (va_up (va_up (va_up (fun _ => none) 0 (some q15)) 1 (some q34)) 2 (some q54)) 3 (some q78)) 4 (some q106))))))) := ⟨_, rfl⟩
  rw [← e132] at hP
  have hx : ext h h131 [a] := by rw [e132]; exact hx.pu (Or.inr g8)
  have f133 : h131 q4 = some (.inl (cs 4, 6, .inr (.inr (.inr (.inr (va_up (va_up (va_up (va_up (va_up (fun _ => none) 0 (some q15)) 1 (some q34)) 2 (some q54)) 3 (some q78)) 4 (some q106))))))) := by rw [e132]; exact pu_s
  refine lv_iinc (k := 0) (v := 5) F.1 F.2.1 d_T_init_43 hl rfl (by decide) (by decide) rfl (fun ls hl => ?_)
  replace hl : lv_has ls 5 [(4, .int 5), (0, .ref a), (1, .int fn), (2, .int lv), (3, .ref bo)] := hl
  refine lv_goto (tgt := 21) F.1 F.2.1 d_T_init_46 (by decide) ?_
  refine lv_iload F.1 F.2.1 d_T_init_21 (lv_at hl 0 rfl) ?_
  refine lv_bipush (v := 6) F.1 F.2.1 d_T_init_23 (by decide) ?_
  refine lv_icmp_ge (tgt := 49) F.1 F.2.1 d_T_init_25 (by decide) (fun c134 => absurd c134 (by decide)) (fun c134 => ?_)
  refine lv_aload_n F.1 F.2.1 d_T_init_28 rfl (lv_at hl 1 rfl) ?_
  have f135 : h122 a = some (.inr (5, [.ref q4, .int 0, .int lv, .int 0, .int 0, .int 0, .int 0])) := by rw [e123]; exact pu_f n107 f105
  have f136 : h126 a = some (.inr (5, [.ref q4, .int 0, .int lv, .int 0, .int 0, .int 0, .int 0])) := j128.1 _ _ f135 (nin1 (pu_t f135 f125 (show (5 : Nat) ≠ 4 by decide)))
  have f137 : h131 a = some (.inr (5, [.ref q4, .int 0, .int lv, .int 0, .int 0, .int 0, .int 0])) := by rw [e132]; exact pu_k f136 (pu_t f136 f130 (show (5 : Nat) ≠ 306 by decide))
  refine pw_get F I_T hK.1 hP f137 rfl 0 (by decide) L_T_17 (fun _ z => z) rfl d_T_init_29 ?_
  refine lv_iload F.1 F.2.1 d_T_init_32 (lv_at hl 0 rfl) ?_
  refine pw_new (ci := 4) (fs := [.int 0, .int 0, .null, .int 0, .int 0]) F I_Fr ty_Fr k_Fr C_T_15 N_Fr Z_Fr hK.1 hP hS hA rfl (fun j hj => by rcases (show j = 0 ∨ j = 1 ∨ j = 2 ∨ j = 3 ∨ j = 4 by omega) with rfl | rfl | rfl | rfl | rfl <;> rfl) (by decide) (by decide) d_T_init_34 (fun q138 H n139 hP hS => ?_)
  have f140 : h122 q15 = some (.inr (4, [.int 0, .int 0, .ref bo, .int 0, .int 0])) := by rw [e123]; exact pu_f n107 f110
  have f141 : h126 q15 = some (.inr (4, [.int 0, .int 0, .ref bo, .int 0, .int 0])) := j128.1 _ _ f140 (nin1 k111)
  have f142 : h131 q15 = some (.inr (4, [.int 0, .int 0, .ref bo, .int 0, .int 0])) := by rw [e132]; exact pu_k f141 (pu_t f141 f130 (show (4 : Nat) ≠ 306 by decide))
  have k143 : q15 ≠ q138 := none_ne f142 n139
  have f144 : h122 q34 = some (.inr (4, [.int 0, .int 0, .ref bo, .int 0, .int 0])) := by rw [e123]; exact pu_f n107 f114
  have f145 : h126 q34 = some (.inr (4, [.int 0, .int 0, .ref bo, .int 0, .int 0])) := j128.1 _ _ f144 (nin1 k115)
  have f146 : h131 q34 = some (.inr (4, [.int 0, .int 0, .ref bo, .int 0, .int 0])) := by rw [e132]; exact pu_k f145 (pu_t f145 f130 (show (4 : Nat) ≠ 306 by decide))
  have k147 : q34 ≠ q138 := none_ne f146 n139
  have f148 : h122 q54 = some (.inr (4, [.int 0, .int 0, .ref bo, .int 0, .int 0])) := by rw [e123]; exact pu_f n107 f118
  have f149 : h126 q54 = some (.inr (4, [.int 0, .int 0, .ref bo, .int 0, .int 0])) := j128.1 _ _ f148 (nin1 k119)
  have f150 : h131 q54 = some (.inr (4, [.int 0, .int 0, .ref bo, .int 0, .int 0])) := by rw [e132]; exact pu_k f149 (pu_t f149 f130 (show (4 : Nat) ≠ 306 by decide))
  have k151 : q54 ≠ q138 := none_ne f150 n139
  have f152 : h122 q78 = some (.inr (4, [.int 0, .int 0, .ref bo, .int 0, .int 0])) := by rw [e123]; exact pu_f n107 f120
  have f153 : h126 q78 = some (.inr (4, [.int 0, .int 0, .ref bo, .int 0, .int 0])) := j128.1 _ _ f152 (nin1 k121)
  have f154 : h131 q78 = some (.inr (4, [.int 0, .int 0, .ref bo, .int 0, .int 0])) := by rw [e132]; exact pu_k f153 (pu_t f153 f130 (show (4 : Nat) ≠ 306 by decide))
  have k155 : q78 ≠ q138 := none_ne f154 n139
  have f156 : h131 q106 = some (.inr (4, [.int 0, .int 0, .ref bo, .int 0, .int 0])) := by rw [e132]; exact pu_k j127 (pu_t j127 f130 (show (4 : Nat) ≠ 306 by decide))
  have k157 : q106 ≠ q138 := none_ne f156 n139
  replace hP : pw D vwCl A (pu h131 q138 (.inr (4, [.int 0, .int 0, .null, .int 0, .int 0]))) H := hP
  have g160 : h q138 = none := hx.2 _ n139
  obtain ⟨h158, e159⟩ : ∃ z9 : pw_H, z9 = pu h131 q138 (.inr (4, [.int 0, .int 0, .null, .int 0, .int 0])) := ⟨_, rfl⟩
  rw [← e159] at hP
  have hx : ext h h158 [a] := by rw [e159]; exact hx.pu (Or.inr g160)
  have f161 : h158 q138 = some (.inr (4, [.int 0, .int 0, .null, .int 0, .int 0])) := by rw [e159]; exact pu_s
  refine lv_dup F.1 F.2.1 d_T_init_37 rfl ?_
  refine lv_aload_n F.1 F.2.1 d_T_init_38 rfl (lv_at hl 4 rfl) ?_
  refine pw_cv (pr_I F (c_Fr_init l D cs A h158 q138 bo f161) X_T_21 rfl rfl ⟨by decide, by decide⟩ hP hA hK hS rfl hl.1 rfl (Nat.le_of_ble_eq_true rfl) d_T_init_39 ⟨by decide, by decide⟩) hS (fun h162 H locs hq hP hS => ?_)
  obtain ⟨j163, j164⟩ := hq
  have hx : ext h h162 [a] := hx.trans j164 (fun y hy => by
    simp only [List.mem_cons, List.not_mem_nil, or_false] at hy
    rcases hy with rfl
    · exact Or.inr g160)
  have f165 : h158 q4 = some (.inl (cs 4, 6, .inr (.inr (.inr (.inr (va_up (va_up (va_up (va_up (va_up (fun _ => none) 0 (some q15)) 1 (some q34)) 2 (some q54)) 3 (some q78)) 4 (some q106))))))) := by rw [e159]; exact pu_f n139 f133
  have f166 : h162 q4 = some (.inl (cs 4, 6, .inr (.inr (.inr (.inr (va_up (va_up (va_up (va_up (va_up (fun _ => none) 0 (some q15)) 1 (some q34)) 2 (some q54)) 3 (some q78)) 4 (some q106))))))) := j164.1 _ _ f165 (nin1 (pu_t f165 f161 (show (306 : Nat) ≠ 4 by decide)))
  refine W.eq (g2 := F0 m 42 ls [.ref q138, .int (nI 5), .ref q4]) (by rw [(show (5 : Int32) = nI 5 by decide)]) ?_
  refine pw_astqN1 F hK.1 hP hS 4 4 f166 rfl j163 rfl (k := 5) (by decide) (by decide) d_T_init_42 (fun H locs hP hS => ?_)
  replace hP : pw D vwCl A (pu h162 q4 (.inl (cs 4, 6, .inr (.inr (.inr (.inr (va_up (va_up (va_up (va_up (va_up (va_up (fun _ => none) 0 (some q15)) 1 (some q34)) 2 (some q54)) 3 (some q78)) 4 (some q106)) 5 (some q138)))))))) H := hP
  obtain ⟨h167, e168⟩ : ∃ z9 : pw_H, z9 = pu h162 q4 (.inl (cs 4, 6, .inr (.inr (.inr (.inr (va_up (va_up (va_up (va_up (va_up (va_up (fun _ => none) 0 (some q15)) 1 (some q34)) 2 (some q54)) 3 (some q78)) 4 (some q106)) 5 (some q138))))))) := ⟨_, rfl⟩
  rw [← e168] at hP
  have hx : ext h h167 [a] := by rw [e168]; exact hx.pu (Or.inr g8)
  have f169 : h167 q4 = some (.inl (cs 4, 6, .inr (.inr (.inr (.inr (va_up (va_up (va_up (va_up (va_up (va_up (fun _ => none) 0 (some q15)) 1 (some q34)) 2 (some q54)) 3 (some q78)) 4 (some q106)) 5 (some q138))))))) := by rw [e168]; exact pu_s
  refine lv_iinc (k := 0) (v := 6) F.1 F.2.1 d_T_init_43 hl rfl (by decide) (by decide) rfl (fun ls hl => ?_)
  replace hl : lv_has ls 5 [(4, .int 6), (0, .ref a), (1, .int fn), (2, .int lv), (3, .ref bo)] := hl
  refine lv_goto (tgt := 21) F.1 F.2.1 d_T_init_46 (by decide) ?_
  refine lv_iload F.1 F.2.1 d_T_init_21 (lv_at hl 0 rfl) ?_
  refine lv_bipush (v := 6) F.1 F.2.1 d_T_init_23 (by decide) ?_
  refine lv_icmp_ge (tgt := 49) F.1 F.2.1 d_T_init_25 (by decide) (fun c170 => ?_) (fun c170 => absurd (by decide) c170)
  refine lv_aload_n F.1 F.2.1 d_T_init_49 rfl (lv_at hl 1 rfl) ?_
  have f171 : h158 a = some (.inr (5, [.ref q4, .int 0, .int lv, .int 0, .int 0, .int 0, .int 0])) := by rw [e159]; exact pu_f n139 f137
  have f172 : h162 a = some (.inr (5, [.ref q4, .int 0, .int lv, .int 0, .int 0, .int 0, .int 0])) := j164.1 _ _ f171 (nin1 (pu_t f171 f161 (show (5 : Nat) ≠ 4 by decide)))
  have f173 : h167 a = some (.inr (5, [.ref q4, .int 0, .int lv, .int 0, .int 0, .int 0, .int 0])) := by rw [e168]; exact pu_k f172 (pu_t f172 f166 (show (5 : Nat) ≠ 306 by decide))
  refine pw_get F I_T hK.1 hP f173 rfl 0 (by decide) L_T_17 (fun _ z => z) rfl d_T_init_50 ?_
  refine lv_iconst (v := 0) F.1 F.2.1 d_T_init_53 (by decide) ?_
  refine W.eq (g2 := F0 m 54 ls [.int (nI 0), .ref q4]) (by rw [(show (0 : Int32) = nI 0 by decide)]) ?_
  refine pw_aldqN F hK.1 hP 4 f169 rfl (k := 0) (by decide) (by decide) d_T_init_54 ?_
  refine W.eq (g2 := F0 m 55 ls [.ref q15]) (by rfl) ?_
  refine lv_iload_n F.1 F.2.1 d_T_init_55 rfl (lv_at hl 2 rfl) ?_
  refine lv_iload_n F.1 F.2.1 d_T_init_56 rfl (lv_at hl 3 rfl) ?_
  refine lv_aload_n F.1 F.2.1 d_T_init_57 rfl (lv_at hl 4 rfl) ?_
  have f174 : h158 q15 = some (.inr (4, [.int 0, .int 0, .ref bo, .int 0, .int 0])) := by rw [e159]; exact pu_f n139 f142
  have f175 : h162 q15 = some (.inr (4, [.int 0, .int 0, .ref bo, .int 0, .int 0])) := j164.1 _ _ f174 (nin1 k143)
  have f176 : h167 q15 = some (.inr (4, [.int 0, .int 0, .ref bo, .int 0, .int 0])) := by rw [e168]; exact pu_k f175 (pu_t f175 f166 (show (4 : Nat) ≠ 306 by decide))
  refine pw_cv (pr_V F (c_Fr_begin l D cs A h167 q15 bo _ _ _ _ _ fn lv f176) X_T_24 rfl rfl ⟨by decide, by decide⟩ hP hA hK hS f176 rfl rfl rfl hl.1 rfl (Nat.le_of_ble_eq_true rfl) d_T_init_58 ⟨by decide, by decide⟩) hS (fun hz9 H locs hq hP hS => ?_)
  obtain ⟨jz8, jz9⟩ := hq
  have hx : ext h hz9 [a] := hx.trans jz9 (fun y hy => by
    simp only [List.mem_cons, List.not_mem_nil, or_false] at hy
    rcases hy with rfl
    · exact Or.inr g19)
  refine lv_aload_n F.1 F.2.1 d_T_init_61 rfl (lv_at hl 1 rfl) ?_
  refine lv_iconst (v := 1) F.1 F.2.1 d_T_init_62 (by decide) ?_
  have f177 : hz9 a = some (.inr (5, [.ref q4, .int 0, .int lv, .int 0, .int 0, .int 0, .int 0])) := jz9.1 _ _ f173 (nin1 (pu_t f173 f176 (show (5 : Nat) ≠ 4 by decide)))
  refine pw_put F I_T ty_T k_T n_T hK.1 hP hS f177 rfl 1 (by decide) L_T_28 (fun _ z => z) rfl rfl rfl (Nat.le_of_ble_eq_true rfl) d_T_init_63 (fun H locs hP hS => ?_)
  replace hP : pw D vwCl A (pu hz9 a (.inr (5, [.ref q4, .int 1, .int lv, .int 0, .int 0, .int 0, .int 0]))) H := hP
  obtain ⟨h178, e179⟩ : ∃ z9 : pw_H, z9 = pu hz9 a (.inr (5, [.ref q4, .int 1, .int lv, .int 0, .int 0, .int 0, .int 0])) := ⟨_, rfl⟩
  rw [← e179] at hP
  have hx : ext h h178 [a] := by rw [e179]; exact hx.pu (Or.inl (by simp))
  have f180 : h178 a = some (.inr (5, [.ref q4, .int 1, .int lv, .int 0, .int 0, .int 0, .int 0])) := by rw [e179]; exact pu_s
  have f181 : h178 q15 = some (.inr (4, [.int fn, .int lv, .ref bo, .int 0, .int 0])) := by rw [e179]; exact pu_k jz8 (pu_t jz8 f177 (show (4 : Nat) ≠ 5 by decide))
  have f182 : h158 q34 = some (.inr (4, [.int 0, .int 0, .ref bo, .int 0, .int 0])) := by rw [e159]; exact pu_f n139 f146
  have f183 : h162 q34 = some (.inr (4, [.int 0, .int 0, .ref bo, .int 0, .int 0])) := j164.1 _ _ f182 (nin1 k147)
  have f184 : h167 q34 = some (.inr (4, [.int 0, .int 0, .ref bo, .int 0, .int 0])) := by rw [e168]; exact pu_k f183 (pu_t f183 f166 (show (4 : Nat) ≠ 306 by decide))
  have f185 : hz9 q34 = some (.inr (4, [.int 0, .int 0, .ref bo, .int 0, .int 0])) := jz9.1 _ _ f184 (nin1 (Ne.symm k37))
  have f186 : h178 q34 = some (.inr (4, [.int 0, .int 0, .ref bo, .int 0, .int 0])) := by rw [e179]; exact pu_k f185 (pu_t f185 f177 (show (4 : Nat) ≠ 5 by decide))
  have f187 : h158 q54 = some (.inr (4, [.int 0, .int 0, .ref bo, .int 0, .int 0])) := by rw [e159]; exact pu_f n139 f150
  have f188 : h162 q54 = some (.inr (4, [.int 0, .int 0, .ref bo, .int 0, .int 0])) := j164.1 _ _ f187 (nin1 k151)
  have f189 : h167 q54 = some (.inr (4, [.int 0, .int 0, .ref bo, .int 0, .int 0])) := by rw [e168]; exact pu_k f188 (pu_t f188 f166 (show (4 : Nat) ≠ 306 by decide))
  have f190 : hz9 q54 = some (.inr (4, [.int 0, .int 0, .ref bo, .int 0, .int 0])) := jz9.1 _ _ f189 (nin1 (Ne.symm k59))
  have f191 : h178 q54 = some (.inr (4, [.int 0, .int 0, .ref bo, .int 0, .int 0])) := by rw [e179]; exact pu_k f190 (pu_t f190 f177 (show (4 : Nat) ≠ 5 by decide))
  have f192 : h158 q78 = some (.inr (4, [.int 0, .int 0, .ref bo, .int 0, .int 0])) := by rw [e159]; exact pu_f n139 f154
  have f193 : h162 q78 = some (.inr (4, [.int 0, .int 0, .ref bo, .int 0, .int 0])) := j164.1 _ _ f192 (nin1 k155)
  have f194 : h167 q78 = some (.inr (4, [.int 0, .int 0, .ref bo, .int 0, .int 0])) := by rw [e168]; exact pu_k f193 (pu_t f193 f166 (show (4 : Nat) ≠ 306 by decide))
  have f195 : hz9 q78 = some (.inr (4, [.int 0, .int 0, .ref bo, .int 0, .int 0])) := jz9.1 _ _ f194 (nin1 (Ne.symm k83))
  have f196 : h178 q78 = some (.inr (4, [.int 0, .int 0, .ref bo, .int 0, .int 0])) := by rw [e179]; exact pu_k f195 (pu_t f195 f177 (show (4 : Nat) ≠ 5 by decide))
  have f197 : h158 q106 = some (.inr (4, [.int 0, .int 0, .ref bo, .int 0, .int 0])) := by rw [e159]; exact pu_f n139 f156
  have f198 : h162 q106 = some (.inr (4, [.int 0, .int 0, .ref bo, .int 0, .int 0])) := j164.1 _ _ f197 (nin1 k157)
  have f199 : h167 q106 = some (.inr (4, [.int 0, .int 0, .ref bo, .int 0, .int 0])) := by rw [e168]; exact pu_k f198 (pu_t f198 f166 (show (4 : Nat) ≠ 306 by decide))
  have f200 : hz9 q106 = some (.inr (4, [.int 0, .int 0, .ref bo, .int 0, .int 0])) := jz9.1 _ _ f199 (nin1 (Ne.symm k111))
  have f201 : h178 q106 = some (.inr (4, [.int 0, .int 0, .ref bo, .int 0, .int 0])) := by rw [e179]; exact pu_k f200 (pu_t f200 f177 (show (4 : Nat) ≠ 5 by decide))
  have f202 : h167 q138 = some (.inr (4, [.int 0, .int 0, .ref bo, .int 0, .int 0])) := by rw [e168]; exact pu_k j163 (pu_t j163 f166 (show (4 : Nat) ≠ 306 by decide))
  have f203 : hz9 q138 = some (.inr (4, [.int 0, .int 0, .ref bo, .int 0, .int 0])) := jz9.1 _ _ f202 (nin1 (Ne.symm k143))
  have f204 : h178 q138 = some (.inr (4, [.int 0, .int 0, .ref bo, .int 0, .int 0])) := by rw [e179]; exact pu_k f203 (pu_t f203 f177 (show (4 : Nat) ≠ 5 by decide))
  have f205 : hz9 q4 = some (.inl (cs 4, 6, .inr (.inr (.inr (.inr (va_up (va_up (va_up (va_up (va_up (va_up (fun _ => none) 0 (some q15)) 1 (some q34)) 2 (some q54)) 3 (some q78)) 4 (some q106)) 5 (some q138))))))) := jz9.1 _ _ f169 (nin1 (pu_t f169 f176 (show (306 : Nat) ≠ 4 by decide)))
  have f206 : h178 q4 = some (.inl (cs 4, 6, .inr (.inr (.inr (.inr (va_up (va_up (va_up (va_up (va_up (va_up (fun _ => none) 0 (some q15)) 1 (some q34)) 2 (some q54)) 3 (some q78)) 4 (some q106)) 5 (some q138))))))) := by rw [e179]; exact pu_k f205 (pu_t f205 f177 (show (306 : Nat) ≠ 5 by decide))
  have hcase : ∀ k : Nat, k < 6 → k = 0 ∨ k = 1 ∨ k = 2 ∨ k = 3 ∨ k = 4 ∨ k = 5 := fun k hk => by omega
  refine pw_vret F hr hlk hP hA hK hS (by decide) (by decide) d_T_init_66 ⟨q4, (fun k => match k with | 0 => q15 | 1 => q34 | 2 => q54 | 3 => q78 | 4 => q106 | _ => q138), g8, ?_, ?_, _, f206, ?_, f181, ?_, f180, hx⟩
  · intro k hk; rcases hcase k hk with rfl | rfl | rfl | rfl | rfl | rfl
    · exact g19
    · exact g40
    · exact g64
    · exact g92
    · exact g124
    · exact g160
  · intro i j hi hj hij; rcases hcase i hi with rfl | rfl | rfl | rfl | rfl | rfl <;> rcases hcase j hj with rfl | rfl | rfl | rfl | rfl | rfl
    · rfl
    · exact absurd hij k37
    · exact absurd hij k59
    · exact absurd hij k83
    · exact absurd hij k111
    · exact absurd hij k143
    · exact absurd hij (Ne.symm k37)
    · rfl
    · exact absurd hij k61
    · exact absurd hij k87
    · exact absurd hij k115
    · exact absurd hij k147
    · exact absurd hij (Ne.symm k59)
    · exact absurd hij (Ne.symm k61)
    · rfl
    · exact absurd hij k89
    · exact absurd hij k119
    · exact absurd hij k151
    · exact absurd hij (Ne.symm k83)
    · exact absurd hij (Ne.symm k87)
    · exact absurd hij (Ne.symm k89)
    · rfl
    · exact absurd hij k121
    · exact absurd hij k155
    · exact absurd hij (Ne.symm k111)
    · exact absurd hij (Ne.symm k115)
    · exact absurd hij (Ne.symm k119)
    · exact absurd hij (Ne.symm k121)
    · rfl
    · exact absurd hij k157
    · exact absurd hij (Ne.symm k143)
    · exact absurd hij (Ne.symm k147)
    · exact absurd hij (Ne.symm k151)
    · exact absurd hij (Ne.symm k155)
    · exact absurd hij (Ne.symm k157)
    · rfl
  · intro k hk; rcases hcase k hk with rfl | rfl | rfl | rfl | rfl | rfl <;> rfl
  · intro k hk1 hk; rcases hcase k hk with rfl | rfl | rfl | rfl | rfl | rfl
    · omega
    · exact f186
    · exact f191
    · exact f196
    · exact f201
    · exact f204
abbrev rm_T_top : Room := { frames := 0, cells := 0, slots := 0, locals := 0 }
set_option maxHeartbeats 4000000 in
set_option maxRecDepth 100000 in
theorem c_T_top (l : Launch) (D : va_G) (cs : Nat → Nat) (A : Nat → Prop) (h : pw_H) (a fa k fr : Nat) (v2 v3 v4 v5 v6 : Value) (q : Nat → Option Nat) (hk : k < 6) (hq : q k = some fr) (fa1 : h a = some (.inr (5, [.ref fa, .int (nI (k + 1)), v2, v3, v4, v5, v6]))) (fa2 : h fa = some (.inl (cs 4, 6, .inr (.inr (.inr (.inr q)))))) : pm l y_T_top b_T_top 1 (some (.object "PatchDesk$Frame")) rm_T_top [.ref a] D cs A h (va_Qr (fun _ => True) (fun (h' : pw_H) (r : Nat) (t : State) => (h' = h ∧ r = fr) ∧ ww D cs A h' t) A) 0 0 := by
  refine pm_of R_T rfl (by decide) (Nat.le_of_ble_eq_true rfl) (fun p e s m below meth c ls F hr hlk hnm hP hA hK hl => ?_)
  have hS : va_S A s.heap s.heap [] := va_S.rf
  replace hl : lv_has ls 1 [(0, .ref a)] := hl
  refine lv_aload_n F.1 F.2.1 d_T_top_0 rfl (lv_at hl 0 rfl) ?_
  refine pw_get F I_T hK.1 hP fa1 rfl 0 (by decide) L_T_17 (fun _ z => z) rfl d_T_top_1 ?_
  refine lv_aload_n F.1 F.2.1 d_T_top_4 rfl (lv_at hl 0 rfl) ?_
  refine pw_get F I_T hK.1 hP fa1 rfl 1 (by decide) L_T_28 (fun _ z => z) rfl d_T_top_5 ?_
  refine lv_iconst (v := 1) F.1 F.2.1 d_T_top_8 (by decide) ?_
  refine lv_isub F.1 F.2.1 d_T_top_9 ?_
  refine W.eq (g2 := F0 m 10 ls [.int (nI k), .ref fa]) (by rw [nI_pred]) ?_
  refine pw_aldqN F hK.1 hP 4 fa2 rfl (k := k) hk (by decide) d_T_top_10 ?_
  refine W.eq (g2 := F0 m 11 ls [.ref fr]) (by rw [hq]; rfl) ?_
  exact pw_aret F hr (Or.inl ⟨_, rfl⟩) hlk hP hA hK hS (by decide) (by decide) d_T_top_11 ⟨rfl, rfl⟩
abbrev rm_T_putOut : Room := { frames := 0, cells := 0, slots := 0, locals := 0 }
set_option maxHeartbeats 4000000 in
set_option maxRecDepth 100000 in
theorem c_T_putOut (l : Launch) (D : va_G) (cs : Nat → Nat) (A : Nat → Prop) (h : pw_H) (a : Nat) (v0 v1 v2 v4 v6 : Value) (sm ou : Int32) (fa : h a = some (.inr (5, [v0, v1, v2, .int sm, v4, .int ou, v6]))) : pm l y_T_putOut b_T_putOut 1 none rm_T_putOut [.ref a] D cs A h (va_Qv (fun (h' : pw_H) => h' a = some (.inr (5, [v0, v1, v2, .int sm, v4, .int (ou + 1), .int sm])) ∧ ext h h' [a]) (ww D cs A) A) 0 0 := by
  refine pm_of R_T rfl (by decide) (Nat.le_of_ble_eq_true rfl) (fun p e s m below meth c ls F hr hlk hnm hP hA hK hl => ?_)
  have hS : va_S A s.heap s.heap [] := va_S.rf
  replace hl : lv_has ls 1 [(0, .ref a)] := hl
  have hx : ext h h [a] := ext.rf
  refine lv_aload_n F.1 F.2.1 d_T_putOut_0 rfl (lv_at hl 0 rfl) ?_
  refine lv_dup F.1 F.2.1 d_T_putOut_1 rfl ?_
  refine pw_get F I_T hK.1 hP fa rfl 5 (by decide) L_T_31 (fun _ z => z) rfl d_T_putOut_2 ?_
  refine lv_iconst (v := 1) F.1 F.2.1 d_T_putOut_5 (by decide) ?_
  refine lv_iadd F.1 F.2.1 d_T_putOut_6 ?_
  refine pw_put F I_T ty_T k_T n_T hK.1 hP hS fa rfl 5 (by decide) L_T_31 (fun _ z => z) rfl rfl rfl (Nat.le_of_ble_eq_true rfl) d_T_putOut_7 (fun H locs hP hS => ?_)
  replace hP : pw D vwCl A (pu h a (.inr (5, [v0, v1, v2, .int sm, v4, .int (ou + 1), v6]))) H := hP
  obtain ⟨h1, e2⟩ : ∃ z9 : pw_H, z9 = pu h a (.inr (5, [v0, v1, v2, .int sm, v4, .int (ou + 1), v6])) := ⟨_, rfl⟩
  rw [← e2] at hP
  have hx : ext h h1 [a] := by rw [e2]; exact hx.pu (Or.inl (by simp))
  have f3 : h1 a = some (.inr (5, [v0, v1, v2, .int sm, v4, .int (ou + 1), v6])) := by rw [e2]; exact pu_s
  refine lv_aload_n F.1 F.2.1 d_T_putOut_10 rfl (lv_at hl 0 rfl) ?_
  refine lv_aload_n F.1 F.2.1 d_T_putOut_11 rfl (lv_at hl 0 rfl) ?_
  refine pw_get F I_T hK.1 hP f3 rfl 3 (by decide) L_T_34 (fun _ z => z) rfl d_T_putOut_12 ?_
  refine pw_put F I_T ty_T k_T n_T hK.1 hP hS f3 rfl 6 (by decide) L_T_37 (fun _ z => z) rfl rfl rfl (Nat.le_of_ble_eq_true rfl) d_T_putOut_15 (fun H locs hP hS => ?_)
  replace hP : pw D vwCl A (pu h1 a (.inr (5, [v0, v1, v2, .int sm, v4, .int (ou + 1), .int sm]))) H := hP
  obtain ⟨h4, e5⟩ : ∃ z9 : pw_H, z9 = pu h1 a (.inr (5, [v0, v1, v2, .int sm, v4, .int (ou + 1), .int sm])) := ⟨_, rfl⟩
  rw [← e5] at hP
  have hx : ext h h4 [a] := by rw [e5]; exact hx.pu (Or.inl (by simp))
  have f6 : h4 a = some (.inr (5, [v0, v1, v2, .int sm, v4, .int (ou + 1), .int sm])) := by rw [e5]; exact pu_s
  exact pw_vret F hr hlk hP hA hK hS (by decide) (by decide) d_T_putOut_18 ⟨f6, hx⟩
