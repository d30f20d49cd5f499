abbrev rm_AL_size : Room := { frames := 0, cells := 0, slots := 0, locals := 0 }
set_option maxHeartbeats 4000000 in
set_option maxRecDepth 100000 in
theorem c_AL_size (l : Launch) (D : va_G) (cs : Nat → Nat) (A : Nat → Prop) (h : pw_H) (L : Nat) (E : Value) (n mc : Int32) (fL : h L = some (.inr (0, [E, .int n, .int mc]))) : pm l y_AL_size b_AL_size 1 (some .int) rm_AL_size [.ref L] D cs A h (va_Qi (fun (r : Int32) (h' : pw_H) => h' = h ∧ r = n) (ww D cs A) A) 0 0 := by
  refine pm_of R_AL rfl (by decide) (Nat.le_of_ble_eq_true rfl) (fun p e s m below meth c ls F hr hlk hnm hP hA hK hl => ?_)
  have hS : va_S A s.heap s.heap [] := va_S.rf
  have hl : lv_has ls 1 [(0, .ref L)] := hl
  refine lv_aload_n F.1 F.2.1 d_AL_size_0 rfl (lv_at hl 0 rfl) ?_
  refine pw_get F I_AL hK.1 hP fL rfl 1 (by decide) L_AL_48 (fun _ z => z) rfl d_AL_size_1 ?_
  exact pw_iret F hr hlk hP hA hK hS (by decide) (by decide) d_AL_size_4 ⟨rfl, rfl⟩
abbrev rm_AL_isEmpty : Room := { frames := 0, cells := 0, slots := 0, locals := 0 }
set_option maxHeartbeats 4000000 in
set_option maxRecDepth 100000 in
theorem c_AL_isEmpty (l : Launch) (D : va_G) (cs : Nat → Nat) (A : Nat → Prop) (h : pw_H) (L : Nat) (E : Value) (n mc : Int32) (fL : h L = some (.inr (0, [E, .int n, .int mc]))) : pm l y_AL_isEmpty b_AL_isEmpty 1 (some .boolean) rm_AL_isEmpty [.ref L] D cs A h (va_Qi (fun (r : Int32) (h' : pw_H) => h' = h ∧ r = (if n = 0 then 1 else 0)) (ww D cs A) A) 0 0 := by
  refine pm_of R_AL rfl (by decide) (Nat.le_of_ble_eq_true rfl) (fun p e s m below meth c ls F hr hlk hnm hP hA hK hl => ?_)
  have hS : va_S A s.heap s.heap [] := va_S.rf
  have hl : lv_has ls 1 [(0, .ref L)] := hl
  refine lv_aload_n F.1 F.2.1 d_AL_isEmpty_0 rfl (lv_at hl 0 rfl) ?_
  refine pw_get F I_AL hK.1 hP fL rfl 1 (by decide) L_AL_48 (fun _ z => z) rfl d_AL_isEmpty_1 ?_
  refine lv_if_ne (tgt := 11) F.1 F.2.1 d_AL_isEmpty_4 (by decide) (fun c1 => ?_) (fun c1 => ?_)
  · skip
    refine lv_iconst (v := 0) F.1 F.2.1 d_AL_isEmpty_11 (by decide) ?_
    exact pw_zret F hr rfl hlk hP hA hK hS (by decide) (by decide) d_AL_isEmpty_12 ⟨rfl, by rw [if_neg c1]⟩
  · skip
    refine lv_iconst (v := 1) F.1 F.2.1 d_AL_isEmpty_7 (by decide) ?_
    refine lv_goto (tgt := 12) F.1 F.2.1 d_AL_isEmpty_8 (by decide) ?_
    exact pw_zret F hr rfl hlk hP hA hK hS (by decide) (by decide) d_AL_isEmpty_12 ⟨rfl, by rw [if_pos c1]⟩
abbrev rm_B_init : Room := { frames := 1, cells := 2, slots := 24, locals := 16 }
set_option maxHeartbeats 4000000 in
set_option maxRecDepth 100000 in
theorem c_B_init (l : Launch) (D : va_G) (cs : Nat → Nat) (A : Nat → Prop) (h : pw_H) (b : Nat) (fb : h b = some (.inr (1, [.null, .null, .int 0]))) : pm l y_B_init b_B_init 1 none rm_B_init [.ref b] D cs A h (va_Qv (fun (h' : pw_H) => ∃ ka na : Nat, ka ≠ na ∧ h ka = none ∧ h na = none ∧ h' ka = some (.inl (cs 0, 12, .inl (fun _ => 0))) ∧ h' na = some (.inl (cs 0, 12, .inl (fun _ => 0))) ∧ h' b = some (.inr (1, [.ref ka, .ref na, .int 0])) ∧ ext h h' [b]) (ww D cs A) A) 2 24 := by
  refine pm_of R_B rfl (by decide) (Nat.le_of_ble_eq_true rfl) (fun p e s m below meth c ls F hr hlk hnm hP hA hK hl => ?_)
  have hS : va_S A s.heap s.heap [] := va_S.rf
  have hl : lv_has ls 1 [(0, .ref b)] := hl
  have hx : ext h h [b] := ext.rf
  refine lv_aload_n F.1 F.2.1 d_B_init_0 rfl (lv_at hl 0 rfl) ?_
  refine W.objInit F.1 F.2.1 F.2.2.2.1 (F.2.2.2.2 _ O_B_3) (F.2.2.2.2 _ iM_obj) (F.2.2.2.2 _ co_obj) rfl (hl.1.trans F.2.2.1.symm) rfl d_B_init_1 (by decide) (Nat.le_of_ble_eq_true rfl) ?_
  refine W.eq (g2 := F0 m 4 ls []) (by rfl) ?_
  refine lv_aload_n F.1 F.2.1 d_B_init_4 rfl (lv_at hl 0 rfl) ?_
  refine lv_bipush (v := 12) F.1 F.2.1 d_B_init_5 (by decide) ?_
  refine pw_newa (a0 := (12, .inl (fun _ => 0))) (atype := .int) F aC_int rfl hK.1 hP hS hA 0 rfl (fun _ => rfl) (by decide) (by decide) (by decide) (by decide) (by decide) d_B_init_7 (fun q1 H n2 hP hS => ?_)
  have hP : pw D vwCl A (pu h q1 (.inl (cs 0, 12, .inl (fun _ => 0)))) H := hP
  have g5 : h q1 = none := hx.2 _ n2
  obtain ⟨h3, e4⟩ : ∃ z9 : pw_H, z9 = pu h q1 (.inl (cs 0, 12, .inl (fun _ => 0))) := ⟨_, rfl⟩
  rw [← e4] at hP
  have hx : ext h h3 [b] := by rw [e4]; exact hx.pu (Or.inr g5)
  have f6 : h3 q1 = some (.inl (cs 0, 12, .inl (fun _ => 0))) := by rw [e4]; exact pu_s
  have f7 : h3 b = some (.inr (1, [.null, .null, .int 0])) := by rw [e4]; exact pu_f n2 fb
  refine pw_putF F I_B ty_B k_B n_B hK.1 hP hS f7 rfl 0 (by decide) L_B_9 (fun _ z => z) rfl hnm rfl rfl rfl (Nat.le_of_ble_eq_true rfl) d_B_init_9 (fun H locs hP hS => ?_)
  have hP : pw D vwCl A (pu h3 b (.inr (1, [.ref q1, .null, .int 0]))) H := hP
  obtain ⟨h8, e9⟩ : ∃ z9 : pw_H, z9 = pu h3 b (.inr (1, [.ref q1, .null, .int 0])) := ⟨_, rfl⟩
  rw [← e9] at hP
  have hx : ext h h8 [b] := by rw [e9]; exact hx.pu (Or.inl (by simp))
  have f10 : h8 b = some (.inr (1, [.ref q1, .null, .int 0])) := by rw [e9]; exact pu_s
  refine lv_aload_n F.1 F.2.1 d_B_init_12 rfl (lv_at hl 0 rfl) ?_
  refine lv_bipush (v := 12) F.1 F.2.1 d_B_init_13 (by decide) ?_
  refine pw_newa (a0 := (12, .inl (fun _ => 0))) (atype := .int) F aC_int rfl hK.1 hP hS hA 0 rfl (fun _ => rfl) (by decide) (by decide) (by decide) (by decide) (by decide) d_B_init_15 (fun q11 H n12 hP hS => ?_)
  have f13 : h8 q1 = some (.inl (cs 0, 12, .inl (fun _ => 0))) := by rw [e9]; exact pu_k f6 (pu_t f6 f7 (show (112 : Nat) ≠ 1 by decide))
  have k9 : q1 ≠ q11 := none_ne f13 n12
  have hP : pw D vwCl A (pu h8 q11 (.inl (cs 0, 12, .inl (fun _ => 0)))) H := hP
  have g16 : h q11 = none := hx.2 _ n12
  obtain ⟨h14, e15⟩ : ∃ z9 : pw_H, z9 = pu h8 q11 (.inl (cs 0, 12, .inl (fun _ => 0))) := ⟨_, rfl⟩
  rw [← e15] at hP
  have hx : ext h h14 [b] := by rw [e15]; exact hx.pu (Or.inr g16)
  have f17 : h14 q11 = some (.inl (cs 0, 12, .inl (fun _ => 0))) := by rw [e15]; exact pu_s
  have f18 : h14 b = some (.inr (1, [.ref q1, .null, .int 0])) := by rw [e15]; exact pu_f n12 f10
  refine pw_putF F I_B ty_B k_B n_B hK.1 hP hS f18 rfl 1 (by decide) L_B_15 (fun _ z => z) rfl hnm rfl rfl rfl (Nat.le_of_ble_eq_true rfl) d_B_init_17 (fun H locs hP hS => ?_)
  have hP : pw D vwCl A (pu h14 b (.inr (1, [.ref q1, .ref q11, .int 0]))) H := hP
  obtain ⟨h19, e20⟩ : ∃ z9 : pw_H, z9 = pu h14 b (.inr (1, [.ref q1, .ref q11, .int 0])) := ⟨_, rfl⟩
  rw [← e20] at hP
  have hx : ext h h19 [b] := by rw [e20]; exact hx.pu (Or.inl (by simp))
  have f21 : h19 b = some (.inr (1, [.ref q1, .ref q11, .int 0])) := by rw [e20]; exact pu_s
  have f22 : h14 q1 = some (.inl (cs 0, 12, .inl (fun _ => 0))) := by rw [e15]; exact pu_f n12 f13
  have f23 : h19 q1 = some (.inl (cs 0, 12, .inl (fun _ => 0))) := by rw [e20]; exact pu_k f22 (pu_t f22 f18 (show (112 : Nat) ≠ 1 by decide))
  have f24 : h19 q11 = some (.inl (cs 0, 12, .inl (fun _ => 0))) := by rw [e20]; exact pu_k f17 (pu_t f17 f18 (show (112 : Nat) ≠ 1 by decide))
  exact pw_vret F hr hlk hP hA hK hS (by decide) (by decide) d_B_init_20 ⟨q1, q11, k9, g5, g16, f23, f24, f21, hx⟩
abbrev rm_B_isFull : Room := { frames := 0, cells := 0, slots := 0, locals := 0 }
set_option maxHeartbeats 4000000 in
set_option maxRecDepth 100000 in
theorem c_B_isFull (l : Launch) (D : va_G) (cs : Nat → Nat) (A : Nat → Prop) (h : pw_H) (b : Nat) (k n : Value) (z : Int32) (fb : h b = some (.inr (1, [k, n, .int z]))) : pm l y_B_isFull b_B_isFull 1 (some .boolean) rm_B_isFull [.ref b] D cs A h (va_Qi (fun (r : Int32) (h' : pw_H) => h' = h ∧ r = (if 12 ≤ z then 1 else 0)) (ww D cs A) A) 0 0 := by
  refine pm_of R_B rfl (by decide) (Nat.le_of_ble_eq_true rfl) (fun p e s m below meth c ls F hr hlk hnm hP hA hK hl => ?_)
  have hS : va_S A s.heap s.heap [] := va_S.rf
  have hl : lv_has ls 1 [(0, .ref b)] := hl
  refine lv_aload_n F.1 F.2.1 d_B_isFull_0 rfl (lv_at hl 0 rfl) ?_
  refine pw_get F I_B hK.1 hP fb rfl 2 (by decide) L_B_18 (fun _ z => z) rfl d_B_isFull_1 ?_
  refine lv_bipush (v := 12) F.1 F.2.1 d_B_isFull_4 (by decide) ?_
  refine lv_icmp_lt (tgt := 13) F.1 F.2.1 d_B_isFull_6 (by decide) (fun c1 => ?_) (fun c1 => ?_)
  · skip
    refine lv_iconst (v := 0) F.1 F.2.1 d_B_isFull_13 (by decide) ?_
    exact pw_zret F hr rfl hlk hP hA hK hS (by decide) (by decide) d_B_isFull_14 ⟨rfl, by rw [if_neg (Int32.not_le.mpr c1)]⟩
  · skip
    refine lv_iconst (v := 1) F.1 F.2.1 d_B_isFull_9 (by decide) ?_
    refine lv_goto (tgt := 14) F.1 F.2.1 d_B_isFull_10 (by decide) ?_
    exact pw_zret F hr rfl hlk hP hA hK hS (by decide) (by decide) d_B_isFull_14 ⟨rfl, by rw [if_pos (Int32.not_lt.mp c1)]⟩
abbrev rm_B_append : Room := { frames := 0, cells := 0, slots := 0, locals := 0 }
set_option maxHeartbeats 4000000 in
set_option maxRecDepth 100000 in
theorem c_B_append (l : Launch) (D : va_G) (cs : Nat → Nat) (A : Nat → Prop) (h : pw_H) (b ka na z : Nat) (fk fn : Nat → Int32) (kd n : Int32) (hne : ka ≠ na) (hz : z < 12) (fb : h b = some (.inr (1, [.ref ka, .ref na, .int (nI z)]))) (fka : h ka = some (.inl (cs 0, 12, .inl fk))) (fna : h na = some (.inl (cs 0, 12, .inl fn))) : pm l y_B_append b_B_append 3 none rm_B_append [.ref b, .int kd, .int n] D cs A h (va_Qv (fun (h' : pw_H) => h' ka = some (.inl (cs 0, 12, .inl (upd fk z kd))) ∧ h' na = some (.inl (cs 0, 12, .inl (upd fn z n))) ∧ h' b = some (.inr (1, [.ref ka, .ref na, .int (nI z + 1)])) ∧ ext h h' [b, ka, na]) (ww D cs A) A) 0 0 := by
  refine pm_of R_B rfl (by decide) (Nat.le_of_ble_eq_true rfl) (fun p e s m below meth c ls F hr hlk hnm hP hA hK hl => ?_)
  have hS : va_S A s.heap s.heap [] := va_S.rf
  have hl : lv_has ls 3 [(0, .ref b), (1, .int kd), (2, .int n)] := hl
  have hx : ext h h [b, ka, na] := ext.rf
  refine lv_aload_n F.1 F.2.1 d_B_append_0 rfl (lv_at hl 0 rfl) ?_
  refine pw_get F I_B hK.1 hP fb rfl 0 (by decide) L_B_9 (fun _ z => z) rfl d_B_append_1 ?_
  refine lv_aload_n F.1 F.2.1 d_B_append_4 rfl (lv_at hl 0 rfl) ?_
  refine pw_get F I_B hK.1 hP fb rfl 2 (by decide) L_B_18 (fun _ z => z) rfl d_B_append_5 ?_
  refine lv_iload_n F.1 F.2.1 d_B_append_8 rfl (lv_at hl 1 rfl) ?_
  refine pw_iastN F hK.1 hP hS 0 fka rfl (k := z) hz (by decide) d_B_append_9 (fun H locs hP hS => ?_)
  have hP : pw D vwCl A (pu h ka (.inl (cs 0, 12, .inl (upd fk z kd)))) H := hP
  obtain ⟨h1, e2⟩ : ∃ z9 : pw_H, z9 = pu h ka (.inl (cs 0, 12, .inl (upd fk z kd))) := ⟨_, rfl⟩
  rw [← e2] at hP
  have hx : ext h h1 [b, ka, na] := by rw [e2]; exact hx.pu (Or.inl (by simp))
  have f3 : h1 ka = some (.inl (cs 0, 12, .inl (upd fk z kd))) := by rw [e2]; exact pu_s
  refine lv_aload_n F.1 F.2.1 d_B_append_10 rfl (lv_at hl 0 rfl) ?_
  have f4 : h1 b = some (.inr (1, [.ref ka, .ref na, .int (nI z)])) := by rw [e2]; exact pu_k fb (pu_t fb fka (show (1 : Nat) ≠ 112 by decide))
  refine pw_get F I_B hK.1 hP f4 rfl 1 (by decide) L_B_15 (fun _ z => z) rfl d_B_append_11 ?_
  refine lv_aload_n F.1 F.2.1 d_B_append_14 rfl (lv_at hl 0 rfl) ?_
  refine pw_get F I_B hK.1 hP f4 rfl 2 (by decide) L_B_18 (fun _ z => z) rfl d_B_append_15 ?_
  refine lv_iload_n F.1 F.2.1 d_B_append_18 rfl (lv_at hl 2 rfl) ?_
  have f5 : h1 na = some (.inl (cs 0, 12, .inl fn)) := by rw [e2]; exact pu_k fna (Ne.symm hne)
  refine pw_iastN F hK.1 hP hS 0 f5 rfl (k := z) hz (by decide) d_B_append_19 (fun H locs hP hS => ?_)
  have hP : pw D vwCl A (pu h1 na (.inl (cs 0, 12, .inl (upd fn z n)))) H := hP
  obtain ⟨h6, e7⟩ : ∃ z9 : pw_H, z9 = pu h1 na (.inl (cs 0, 12, .inl (upd fn z n))) := ⟨_, rfl⟩
  rw [← e7] at hP
  have hx : ext h h6 [b, ka, na] := by rw [e7]; exact hx.pu (Or.inl (by simp))
  have f8 : h6 na = some (.inl (cs 0, 12, .inl (upd fn z n))) := by rw [e7]; exact pu_s
  refine lv_aload_n F.1 F.2.1 d_B_append_20 rfl (lv_at hl 0 rfl) ?_
  refine lv_dup F.1 F.2.1 d_B_append_21 rfl ?_
  have f9 : h6 b = some (.inr (1, [.ref ka, .ref na, .int (nI z)])) := by rw [e7]; exact pu_k f4 (pu_t f4 f5 (show (1 : Nat) ≠ 112 by decide))
  refine pw_get F I_B hK.1 hP f9 rfl 2 (by decide) L_B_18 (fun _ z => z) rfl d_B_append_22 ?_
  refine lv_iconst (v := 1) F.1 F.2.1 d_B_append_25 (by decide) ?_
  refine lv_iadd F.1 F.2.1 d_B_append_26 ?_
  refine pw_put F I_B ty_B k_B n_B hK.1 hP hS f9 rfl 2 (by decide) L_B_18 (fun _ z => z) rfl rfl rfl (Nat.le_of_ble_eq_true rfl) d_B_append_27 (fun H locs hP hS => ?_)
  have hP : pw D vwCl A (pu h6 b (.inr (1, [.ref ka, .ref na, .int ((nI z) + 1)]))) H := hP
  obtain ⟨h10, e11⟩ : ∃ z9 : pw_H, z9 = pu h6 b (.inr (1, [.ref ka, .ref na, .int ((nI z) + 1)])) := ⟨_, rfl⟩
  rw [← e11] at hP
  have hx : ext h h10 [b, ka, na] := by rw [e11]; exact hx.pu (Or.inl (by simp))
  have f12 : h10 b = some (.inr (1, [.ref ka, .ref na, .int ((nI z) + 1)])) := by rw [e11]; exact pu_s
  have f13 : h6 ka = some (.inl (cs 0, 12, .inl (upd fk z kd))) := by rw [e7]; exact pu_k f3 hne
  have f14 : h10 ka = some (.inl (cs 0, 12, .inl (upd fk z kd))) := by rw [e11]; exact pu_k f13 (pu_t f13 f9 (show (112 : Nat) ≠ 1 by decide))
  have f15 : h10 na = some (.inl (cs 0, 12, .inl (upd fn z n))) := by rw [e11]; exact pu_k f8 (pu_t f8 f9 (show (112 : Nat) ≠ 1 by decide))
  exact pw_vret F hr hlk hP hA hK hS (by decide) (by decide) d_B_append_30 ⟨f14, f15, f12, hx⟩
abbrev rm_Fn_init : Room := { frames := 2, cells := 3, slots := 27, locals := 36 }
set_option maxHeartbeats 4000000 in
set_option maxRecDepth 100000 in
theorem c_Fn_init (l : Launch) (D : va_G) (cs : Nat → Nat) (A : Nat → Prop) (h : pw_H) (a : Nat) (sg : Int32) (fa : h a = some (.inr (2, [.int 0, .null]))) : pm l y_Fn_init b_Fn_init 2 none rm_Fn_init [.ref a, .int sg] D cs A h (va_Qv (fun (h' : pw_H) => ∃ b ka na : Nat, ka ≠ na ∧ h b = none ∧ h ka = none ∧ h na = none ∧ h' a = some (.inr (2, [.int sg, .ref b])) ∧ h' b = some (.inr (1, [.ref ka, .ref na, .int 0])) ∧ h' ka = some (.inl (cs 0, 12, .inl (fun _ => 0))) ∧ h' na = some (.inl (cs 0, 12, .inl (fun _ => 0))) ∧ ext h h' [a]) (ww D cs A) A) 3 27 := by
  refine pm_of R_Fn rfl (by decide) (Nat.le_of_ble_eq_true rfl) (fun p e s m below meth c ls F hr hlk hnm hP hA hK hl => ?_)
  have hS : va_S A s.heap s.heap [] := va_S.rf
  have hl : lv_has ls 2 [(0, .ref a), (1, .int sg)] := hl
  have hx : ext h h [a] := ext.rf
  refine lv_aload_n F.1 F.2.1 d_Fn_init_0 rfl (lv_at hl 0 rfl) ?_
  refine W.objInit F.1 F.2.1 F.2.2.2.1 (F.2.2.2.2 _ O_Fn_1) (F.2.2.2.2 _ iM_obj) (F.2.2.2.2 _ co_obj) rfl (hl.1.trans F.2.2.1.symm) rfl d_Fn_init_1 (by decide) (Nat.le_of_ble_eq_true rfl) ?_
  refine W.eq (g2 := F0 m 4 ls []) (by rfl) ?_
  refine lv_aload_n F.1 F.2.1 d_Fn_init_4 rfl (lv_at hl 0 rfl) ?_
  refine lv_iload_n F.1 F.2.1 d_Fn_init_5 rfl (lv_at hl 1 rfl) ?_
  refine pw_putF F I_Fn ty_Fn k_Fn n_Fn hK.1 hP hS fa rfl 0 (by decide) L_Fn_7 (fun _ z => z) rfl hnm rfl rfl rfl (Nat.le_of_ble_eq_true rfl) d_Fn_init_6 (fun H locs hP hS => ?_)
  have hP : pw D vwCl A (pu h a (.inr (2, [.int sg, .null]))) H := hP
  obtain ⟨h1, e2⟩ : ∃ z9 : pw_H, z9 = pu h a (.inr (2, [.int sg, .null])) := ⟨_, rfl⟩
  rw [← e2] at hP
  have hx : ext h h1 [a] := by rw [e2]; exact hx.pu (Or.inl (by simp))
  have f3 : h1 a = some (.inr (2, [.int sg, .null])) := by rw [e2]; exact pu_s
  refine lv_aload_n F.1 F.2.1 d_Fn_init_9 rfl (lv_at hl 0 rfl) ?_
  refine pw_new (ci := 1) (fs := [.null, .null, .int 0]) F I_B ty_B k_B C_Fn_13 N_B Z_B hK.1 hP hS hA rfl (fun j hj => by rcases (show j = 0 ∨ j = 1 ∨ j = 2 by omega) with rfl | rfl | rfl <;> rfl) (by decide) (by decide) d_Fn_init_10 (fun q4 H n5 hP hS => ?_)
  have hP : pw D vwCl A (pu h1 q4 (.inr (1, [.null, .null, .int 0]))) H := hP
  have g8 : h q4 = none := hx.2 _ n5
  obtain ⟨h6, e7⟩ : ∃ z9 : pw_H, z9 = pu h1 q4 (.inr (1, [.null, .null, .int 0])) := ⟨_, rfl⟩
  rw [← e7] at hP
  have hx : ext h h6 [a] := by rw [e7]; exact hx.pu (Or.inr g8)
  have f9 : h6 q4 = some (.inr (1, [.null, .null, .int 0])) := by rw [e7]; exact pu_s
  refine lv_dup F.1 F.2.1 d_Fn_init_13 rfl ?_
  refine pw_cv (pr_I F (c_B_init l D cs A h6 q4 f9) X_Fn_15 rfl rfl ⟨by decide, by decide⟩ hP hA hK hS rfl hl.1 rfl (Nat.le_of_ble_eq_true rfl) d_Fn_init_14 ⟨by decide, by decide⟩) hS (fun h8 H locs hq hP hS => ?_)
  obtain ⟨ka, na, k9, j1, j2, j3, j4, j5, j6⟩ := hq
  have g10 : h ka = none := hx.2 _ j1
  have g11 : h na = none := hx.2 _ j2
  have hx : ext h h8 [a] := hx.trans j6 (fun y hy => by
    simp only [List.mem_cons, List.not_mem_nil, or_false] at hy
    rcases hy with rfl
    · exact Or.inr g8)
  have f12 : h6 a = some (.inr (2, [.int sg, .null])) := by rw [e7]; exact pu_f n5 f3
  have f13 : h8 a = some (.inr (2, [.int sg, .null])) := j6.1 _ _ f12 (nin1 (pu_t f12 f9 (show (2 : Nat) ≠ 1 by decide)))
  refine pw_putF F I_Fn ty_Fn k_Fn n_Fn hK.1 hP hS f13 rfl 1 (by decide) L_Fn_16 (fun _ z => z) rfl hnm rfl rfl rfl (Nat.le_of_ble_eq_true rfl) d_Fn_init_17 (fun H locs hP hS => ?_)
  have hP : pw D vwCl A (pu h8 a (.inr (2, [.int sg, .ref q4]))) H := hP
  obtain ⟨h14, e15⟩ : ∃ z9 : pw_H, z9 = pu h8 a (.inr (2, [.int sg, .ref q4])) := ⟨_, rfl⟩
  rw [← e15] at hP
  have hx : ext h h14 [a] := by rw [e15]; exact hx.pu (Or.inl (by simp))
  have f16 : h14 a = some (.inr (2, [.int sg, .ref q4])) := by rw [e15]; exact pu_s
  have f17 : h14 q4 = some (.inr (1, [.ref ka, .ref na, .int 0])) := by rw [e15]; exact pu_k j5 (pu_t j5 f13 (show (1 : Nat) ≠ 2 by decide))
  have f18 : h14 ka = some (.inl (cs 0, 12, .inl (fun _ => 0))) := by rw [e15]; exact pu_k j3 (pu_t j3 f13 (show (112 : Nat) ≠ 2 by decide))
  have f19 : h14 na = some (.inl (cs 0, 12, .inl (fun _ => 0))) := by rw [e15]; exact pu_k j4 (pu_t j4 f13 (show (112 : Nat) ≠ 2 by decide))
  exact pw_vret F hr hlk hP hA hK hS (by decide) (by decide) d_Fn_init_20 ⟨q4, ka, na, k9, g8, g10, g11, f16, f17, f18, f19, hx⟩
