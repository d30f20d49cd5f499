/-- the reference's state at its start -/
def St0 : St := fun k j => if k = 16 ∧ j = 4 then -1 else 0
theorem inj16 {ad : Nat → Nat} (H : ∀ i, i < 16 → ∀ j, j < i → ad i ≠ ad j) : ∀ i j, i < 16 → j < 16 → ad i = ad j → i = j := fun i j hi hj hij => by
  rcases Nat.lt_trichotomy i j with h | h | h
  · exact absurd hij.symm (H j hj i h)
  · exact h
  · exact absurd hij (H i hi j h)
abbrev rm_M_init : Room := { frames := 1, cells := 16, slots := 1636, locals := 16 }
set_option maxHeartbeats 4000000 in
set_option maxRecDepth 100000 in
theorem c_M_init (l : Launch) (D : va_G) (cs : Nat → Nat) (A : Nat → Prop) (h : pw_H) (o : Nat) (fo : h o = some (.inr (7, [.int 0, .int 0, .null, .null, .null, .null, .null, .int 0, .int 0, .int 0, .int 0, .null, .null, .null, .null, .null, .null, .null, .null, .null, .null, .null]))) : pm l y_M_init b_M_init 1 none rm_M_init [.ref o] D cs A h (va_Qv (fun (h' : pw_H) => ∃ ad : Nat → Nat, RM cs h' o ad St0 ∧ ext h h' [o]) (ww D cs A) A) 16 1636 := by
  refine pm_of R_M rfl (by decide) (Nat.le_of_ble_eq_true rfl) (fun p e s m below meth c ls F hr hlk hnm hP hA hK hl => ?_)
  have hS : va_S A s.heap s.heap [] := va_S.rf
  replace hl : lv_has ls 1 [(0, .ref o)] := hl
  have hx : ext h h [o] := ext.rf
  refine lv_aload_n F.1 F.2.1 d_M_init_0 rfl (lv_at hl 0 rfl) ?_
  refine W.objInit F.1 F.2.1 F.2.2.2.1 (F.2.2.2.2 _ O_M_1) (F.2.2.2.2 _ iM_obj) (F.2.2.2.2 _ co_obj) rfl (hl.1.trans F.2.2.1.symm) rfl d_M_init_1 (by decide) (Nat.le_of_ble_eq_true rfl) ?_
  refine W.eq (g2 := F0 m 4 ls []) (by rfl) ?_
  refine lv_aload_n F.1 F.2.1 d_M_init_4 rfl (lv_at hl 0 rfl) ?_
  refine lv_bipush (v := 56) F.1 F.2.1 d_M_init_5 (by decide) ?_
  refine pw_newa (a0 := (56, .inl (fun _ => 0))) (atype := .boolean) F aC_boolean rfl hK.1 hP hS hA 1 rfl (fun _ => rfl) (by decide) (by decide) (by decide) (by decide) (by decide) d_M_init_7 (fun q1 H n2 hP hS => ?_)
  replace hP : pw D vwCl A (pu h q1 (.inl (cs 1, 56, .inl (fun _ => 0)))) H := hP
  have g5 : h q1 = none := hx.2 _ n2
  obtain ⟨h3, e4⟩ : ∃ z9 : pw_H, z9 = pu h q1 (.inl (cs 1, 56, .inl (fun _ => 0))) := ⟨_, rfl⟩
  rw [← e4] at hP
  have hx : ext h h3 [o] := by rw [e4]; exact hx.pu (Or.inr g5)
  have f6 : h3 q1 = some (.inl (cs 1, 56, .inl (fun _ => 0))) := by rw [e4]; exact pu_s
  have f7 : h3 o = some (.inr (7, [.int 0, .int 0, .null, .null, .null, .null, .null, .int 0, .int 0, .int 0, .int 0, .null, .null, .null, .null, .null, .null, .null, .null, .null, .null, .null])) := by rw [e4]; exact pu_f n2 fo
  refine pw_putF F I_M ty_M k_M n_M hK.1 hP hS f7 rfl 2 (by decide) L_M_7 (fun _ z => z) rfl hnm rfl rfl rfl (Nat.le_of_ble_eq_true rfl) d_M_init_9 (fun H locs hP hS => ?_)
  replace hP : pw D vwCl A (pu h3 o (.inr (7, [.int 0, .int 0, .ref q1, .null, .null, .null, .null, .int 0, .int 0, .int 0, .int 0, .null, .null, .null, .null, .null, .null, .null, .null, .null, .null, .null]))) H := hP
  obtain ⟨h8, e9⟩ : ∃ z9 : pw_H, z9 = pu h3 o (.inr (7, [.int 0, .int 0, .ref q1, .null, .null, .null, .null, .int 0, .int 0, .int 0, .int 0, .null, .null, .null, .null, .null, .null, .null, .null, .null, .null, .null])) := ⟨_, rfl⟩
  rw [← e9] at hP
  have hx : ext h h8 [o] := by rw [e9]; exact hx.pu (Or.inl (by simp))
  have f10 : h8 o = some (.inr (7, [.int 0, .int 0, .ref q1, .null, .null, .null, .null, .int 0, .int 0, .int 0, .int 0, .null, .null, .null, .null, .null, .null, .null, .null, .null, .null, .null])) := by rw [e9]; exact pu_s
  refine lv_aload_n F.1 F.2.1 d_M_init_12 rfl (lv_at hl 0 rfl) ?_
  refine lv_bipush (v := 56) F.1 F.2.1 d_M_init_13 (by decide) ?_
  refine pw_newa (a0 := (56, .inl (fun _ => 0))) (atype := .int) F aC_int rfl hK.1 hP hS hA 0 rfl (fun _ => rfl) (by decide) (by decide) (by decide) (by decide) (by decide) d_M_init_15 (fun q11 H n12 hP hS => ?_)
  have f13 : h8 q1 = some (.inl (cs 1, 56, .inl (fun _ => 0))) := by rw [e9]; exact pu_k f6 (pu_t f6 f7 (show (156 : Nat) ≠ 7 by decide))
  have k14 : q1 ≠ q11 := none_ne f13 n12
  replace hP : pw D vwCl A (pu h8 q11 (.inl (cs 0, 56, .inl (fun _ => 0)))) H := hP
  have g17 : h q11 = none := hx.2 _ n12
  obtain ⟨h15, e16⟩ : ∃ z9 : pw_H, z9 = pu h8 q11 (.inl (cs 0, 56, .inl (fun _ => 0))) := ⟨_, rfl⟩
  rw [← e16] at hP
  have hx : ext h h15 [o] := by rw [e16]; exact hx.pu (Or.inr g17)
  have f18 : h15 q11 = some (.inl (cs 0, 56, .inl (fun _ => 0))) := by rw [e16]; exact pu_s
  have f19 : h15 o = some (.inr (7, [.int 0, .int 0, .ref q1, .null, .null, .null, .null, .int 0, .int 0, .int 0, .int 0, .null, .null, .null, .null, .null, .null, .null, .null, .null, .null, .null])) := by rw [e16]; exact pu_f n12 f10
  refine pw_putF F I_M ty_M k_M n_M hK.1 hP hS f19 rfl 3 (by decide) L_M_13 (fun _ z => z) rfl hnm rfl rfl rfl (Nat.le_of_ble_eq_true rfl) d_M_init_17 (fun H locs hP hS => ?_)
  replace hP : pw D vwCl A (pu h15 o (.inr (7, [.int 0, .int 0, .ref q1, .ref q11, .null, .null, .null, .int 0, .int 0, .int 0, .int 0, .null, .null, .null, .null, .null, .null, .null, .null, .null, .null, .null]))) H := hP
  obtain ⟨h20, e21⟩ : ∃ z9 : pw_H, z9 = pu h15 o (.inr (7, [.int 0, .int 0, .ref q1, .ref q11, .null, .null, .null, .int 0, .int 0, .int 0, .int 0, .null, .null, .null, .null, .null, .null, .null, .null, .null, .null, .null])) := ⟨_, rfl⟩
  rw [← e21] at hP
  have hx : ext h h20 [o] := by rw [e21]; exact hx.pu (Or.inl (by simp))
  have f22 : h20 o = some (.inr (7, [.int 0, .int 0, .ref q1, .ref q11, .null, .null, .null, .int 0, .int 0, .int 0, .int 0, .null, .null, .null, .null, .null, .null, .null, .null, .null, .null, .null])) := by rw [e21]; exact pu_s
  refine lv_aload_n F.1 F.2.1 d_M_init_20 rfl (lv_at hl 0 rfl) ?_
  refine lv_bipush (v := 56) F.1 F.2.1 d_M_init_21 (by decide) ?_
  refine pw_newa (a0 := (56, .inl (fun _ => 0))) (atype := .int) F aC_int rfl hK.1 hP hS hA 0 rfl (fun _ => rfl) (by decide) (by decide) (by decide) (by decide) (by decide) d_M_init_23 (fun q23 H n24 hP hS => ?_)
  have f25 : h15 q1 = some (.inl (cs 1, 56, .inl (fun _ => 0))) := by rw [e16]; exact pu_f n12 f13
  have f26 : h20 q1 = some (.inl (cs 1, 56, .inl (fun _ => 0))) := by rw [e21]; exact pu_k f25 (pu_t f25 f19 (show (156 : Nat) ≠ 7 by decide))
  have k27 : q1 ≠ q23 := none_ne f26 n24
  have f28 : h20 q11 = some (.inl (cs 0, 56, .inl (fun _ => 0))) := by rw [e21]; exact pu_k f18 (pu_t f18 f19 (show (156 : Nat) ≠ 7 by decide))
  have k29 : q11 ≠ q23 := none_ne f28 n24
  replace hP : pw D vwCl A (pu h20 q23 (.inl (cs 0, 56, .inl (fun _ => 0)))) H := hP
  have g32 : h q23 = none := hx.2 _ n24
  obtain ⟨h30, e31⟩ : ∃ z9 : pw_H, z9 = pu h20 q23 (.inl (cs 0, 56, .inl (fun _ => 0))) := ⟨_, rfl⟩
  rw [← e31] at hP
  have hx : ext h h30 [o] := by rw [e31]; exact hx.pu (Or.inr g32)
  have f33 : h30 q23 = some (.inl (cs 0, 56, .inl (fun _ => 0))) := by rw [e31]; exact pu_s
  have f34 : h30 o = some (.inr (7, [.int 0, .int 0, .ref q1, .ref q11, .null, .null, .null, .int 0, .int 0, .int 0, .int 0, .null, .null, .null, .null, .null, .null, .null, .null, .null, .null, .null])) := by rw [e31]; exact pu_f n24 f22
  refine pw_putF F I_M ty_M k_M n_M hK.1 hP hS f34 rfl 4 (by decide) L_M_17 (fun _ z => z) rfl hnm rfl rfl rfl (Nat.le_of_ble_eq_true rfl) d_M_init_25 (fun H locs hP hS => ?_)
  replace hP : pw D vwCl A (pu h30 o (.inr (7, [.int 0, .int 0, .ref q1, .ref q11, .ref q23, .null, .null, .int 0, .int 0, .int 0, .int 0, .null, .null, .null, .null, .null, .null, .null, .null, .null, .null, .null]))) H := hP
  obtain ⟨h35, e36⟩ : ∃ z9 : pw_H, z9 = pu h30 o (.inr (7, [.int 0, .int 0, .ref q1, .ref q11, .ref q23, .null, .null, .int 0, .int 0, .int 0, .int 0, .null, .null, .null, .null, .null, .null, .null, .null, .null, .null, .null])) := ⟨_, rfl⟩
  rw [← e36] at hP
  have hx : ext h h35 [o] := by rw [e36]; exact hx.pu (Or.inl (by simp))
  have f37 : h35 o = some (.inr (7, [.int 0, .int 0, .ref q1, .ref q11, .ref q23, .null, .null, .int 0, .int 0, .int 0, .int 0, .null, .null, .null, .null, .null, .null, .null, .null, .null, .null, .null])) := by rw [e36]; exact pu_s
  refine lv_aload_n F.1 F.2.1 d_M_init_28 rfl (lv_at hl 0 rfl) ?_
  refine lv_sipush (v := 672) F.1 F.2.1 d_M_init_29 (by decide) ?_
  refine pw_newa (a0 := (672, .inl (fun _ => 0))) (atype := .int) F aC_int rfl hK.1 hP hS hA 0 rfl (fun _ => rfl) (by decide) (by decide) (by decide) (by decide) (by decide) d_M_init_32 (fun q38 H n39 hP hS => ?_)
  replace hP : pw D vwCl A (pu h35 q38 (.inl (cs 0, 672, .inl (fun _ => 0)))) H := hP
  have g42 : h q38 = none := hx.2 _ n39
  obtain ⟨h40, e41⟩ : ∃ z9 : pw_H, z9 = pu h35 q38 (.inl (cs 0, 672, .inl (fun _ => 0))) := ⟨_, rfl⟩
  rw [← e41] at hP
  have hx : ext h h40 [o] := by rw [e41]; exact hx.pu (Or.inr g42)
  have f43 : h40 q38 = some (.inl (cs 0, 672, .inl (fun _ => 0))) := by rw [e41]; exact pu_s
  have f44 : h40 o = some (.inr (7, [.int 0, .int 0, .ref q1, .ref q11, .ref q23, .null, .null, .int 0, .int 0, .int 0, .int 0, .null, .null, .null, .null, .null, .null, .null, .null, .null, .null, .null])) := by rw [e41]; exact pu_f n39 f37
  refine pw_putF F I_M ty_M k_M n_M hK.1 hP hS f44 rfl 5 (by decide) L_M_20 (fun _ z => z) rfl hnm rfl rfl rfl (Nat.le_of_ble_eq_true rfl) d_M_init_34 (fun H locs hP hS => ?_)
  replace hP : pw D vwCl A (pu h40 o (.inr (7, [.int 0, .int 0, .ref q1, .ref q11, .ref q23, .ref q38, .null, .int 0, .int 0, .int 0, .int 0, .null, .null, .null, .null, .null, .null, .null, .null, .null, .null, .null]))) H := hP
  obtain ⟨h45, e46⟩ : ∃ z9 : pw_H, z9 = pu h40 o (.inr (7, [.int 0, .int 0, .ref q1, .ref q11, .ref q23, .ref q38, .null, .int 0, .int 0, .int 0, .int 0, .null, .null, .null, .null, .null, .null, .null, .null, .null, .null, .null])) := ⟨_, rfl⟩
  rw [← e46] at hP
  have hx : ext h h45 [o] := by rw [e46]; exact hx.pu (Or.inl (by simp))
  have f47 : h45 o = some (.inr (7, [.int 0, .int 0, .ref q1, .ref q11, .ref q23, .ref q38, .null, .int 0, .int 0, .int 0, .int 0, .null, .null, .null, .null, .null, .null, .null, .null, .null, .null, .null])) := by rw [e46]; exact pu_s
  refine lv_aload_n F.1 F.2.1 d_M_init_37 rfl (lv_at hl 0 rfl) ?_
  refine lv_sipush (v := 672) F.1 F.2.1 d_M_init_38 (by decide) ?_
  refine pw_newa (a0 := (672, .inl (fun _ => 0))) (atype := .int) F aC_int rfl hK.1 hP hS hA 0 rfl (fun _ => rfl) (by decide) (by decide) (by decide) (by decide) (by decide) d_M_init_41 (fun q48 H n49 hP hS => ?_)
  have f50 : h45 q38 = some (.inl (cs 0, 672, .inl (fun _ => 0))) := by rw [e46]; exact pu_k f43 (pu_t f43 f44 (show (772 : Nat) ≠ 7 by decide))
  have k51 : q38 ≠ q48 := none_ne f50 n49
  replace hP : pw D vwCl A (pu h45 q48 (.inl (cs 0, 672, .inl (fun _ => 0)))) H := hP
  have g54 : h q48 = none := hx.2 _ n49
  obtain ⟨h52, e53⟩ : ∃ z9 : pw_H, z9 = pu h45 q48 (.inl (cs 0, 672, .inl (fun _ => 0))) := ⟨_, rfl⟩
  rw [← e53] at hP
  have hx : ext h h52 [o] := by rw [e53]; exact hx.pu (Or.inr g54)
  have f55 : h52 q48 = some (.inl (cs 0, 672, .inl (fun _ => 0))) := by rw [e53]; exact pu_s
  have f56 : h52 o = some (.inr (7, [.int 0, .int 0, .ref q1, .ref q11, .ref q23, .ref q38, .null, .int 0, .int 0, .int 0, .int 0, .null, .null, .null, .null, .null, .null, .null, .null, .null, .null, .null])) := by rw [e53]; exact pu_f n49 f47
  refine pw_putF F I_M ty_M k_M n_M hK.1 hP hS f56 rfl 6 (by decide) L_M_23 (fun _ z => z) rfl hnm rfl rfl rfl (Nat.le_of_ble_eq_true rfl) d_M_init_43 (fun H locs hP hS => ?_)
  replace hP : pw D vwCl A (pu h52 o (.inr (7, [.int 0, .int 0, .ref q1, .ref q11, .ref q23, .ref q38, .ref q48, .int 0, .int 0, .int 0, .int 0, .null, .null, .null, .null, .null, .null, .null, .null, .null, .null, .null]))) H := hP
  obtain ⟨h57, e58⟩ : ∃ z9 : pw_H, z9 = pu h52 o (.inr (7, [.int 0, .int 0, .ref q1, .ref q11, .ref q23, .ref q38, .ref q48, .int 0, .int 0, .int 0, .int 0, .null, .null, .null, .null, .null, .null, .null, .null, .null, .null, .null])) := ⟨_, rfl⟩
  rw [← e58] at hP
  have hx : ext h h57 [o] := by rw [e58]; exact hx.pu (Or.inl (by simp))
  have f59 : h57 o = some (.inr (7, [.int 0, .int 0, .ref q1, .ref q11, .ref q23, .ref q38, .ref q48, .int 0, .int 0, .int 0, .int 0, .null, .null, .null, .null, .null, .null, .null, .null, .null, .null, .null])) := by rw [e58]; exact pu_s
  refine lv_aload_n F.1 F.2.1 d_M_init_46 rfl (lv_at hl 0 rfl) ?_
  refine lv_iconst (v := (-1)) F.1 F.2.1 d_M_init_47 (by decide) ?_
  refine pw_put F I_M ty_M k_M n_M hK.1 hP hS f59 rfl 9 (by decide) L_M_26 (fun _ z => z) rfl rfl rfl (Nat.le_of_ble_eq_true rfl) d_M_init_48 (fun H locs hP hS => ?_)
  replace hP : pw D vwCl A (pu h57 o (.inr (7, [.int 0, .int 0, .ref q1, .ref q11, .ref q23, .ref q38, .ref q48, .int 0, .int 0, .int (-1), .int 0, .null, .null, .null, .null, .null, .null, .null, .null, .null, .null, .null]))) H := hP
  obtain ⟨h60, e61⟩ : ∃ z9 : pw_H, z9 = pu h57 o (.inr (7, [.int 0, .int 0, .ref q1, .ref q11, .ref q23, .ref q38, .ref q48, .int 0, .int 0, .int (-1), .int 0, .null, .null, .null, .null, .null, .null, .null, .null, .null, .null, .null])) := ⟨_, rfl⟩
  rw [← e61] at hP
  have hx : ext h h60 [o] := by rw [e61]; exact hx.pu (Or.inl (by simp))
  have f62 : h60 o = some (.inr (7, [.int 0, .int 0, .ref q1, .ref q11, .ref q23, .ref q38, .ref q48, .int 0, .int 0, .int (-1), .int 0, .null, .null, .null, .null, .null, .null, .null, .null, .null, .null, .null])) := by rw [e61]; exact pu_s
  refine lv_aload_n F.1 F.2.1 d_M_init_51 rfl (lv_at hl 0 rfl) ?_
  refine lv_iconst (v := 4) F.1 F.2.1 d_M_init_52 (by decide) ?_
  refine pw_newa (a0 := (4, .inl (fun _ => 0))) (atype := .int) F aC_int rfl hK.1 hP hS hA 0 rfl (fun _ => rfl) (by decide) (by decide) (by decide) (by decide) (by decide) d_M_init_53 (fun q63 H n64 hP hS => ?_)
  replace hP : pw D vwCl A (pu h60 q63 (.inl (cs 0, 4, .inl (fun _ => 0)))) H := hP
  have g67 : h q63 = none := hx.2 _ n64
  obtain ⟨h65, e66⟩ : ∃ z9 : pw_H, z9 = pu h60 q63 (.inl (cs 0, 4, .inl (fun _ => 0))) := ⟨_, rfl⟩
  rw [← e66] at hP
  have hx : ext h h65 [o] := by rw [e66]; exact hx.pu (Or.inr g67)
  have f68 : h65 q63 = some (.inl (cs 0, 4, .inl (fun _ => 0))) := by rw [e66]; exact pu_s
  have f69 : h65 o = some (.inr (7, [.int 0, .int 0, .ref q1, .ref q11, .ref q23, .ref q38, .ref q48, .int 0, .int 0, .int (-1), .int 0, .null, .null, .null, .null, .null, .null, .null, .null, .null, .null, .null])) := by rw [e66]; exact pu_f n64 f62
  refine pw_putF F I_M ty_M k_M n_M hK.1 hP hS f69 rfl 11 (by decide) L_M_30 (fun _ z => z) rfl hnm rfl rfl rfl (Nat.le_of_ble_eq_true rfl) d_M_init_55 (fun H locs hP hS => ?_)
  replace hP : pw D vwCl A (pu h65 o (.inr (7, [.int 0, .int 0, .ref q1, .ref q11, .ref q23, .ref q38, .ref q48, .int 0, .int 0, .int (-1), .int 0, .ref q63, .null, .null, .null, .null, .null, .null, .null, .null, .null, .null]))) H := hP
  obtain ⟨h70, e71⟩ : ∃ z9 : pw_H, z9 = pu h65 o (.inr (7, [.int 0, .int 0, .ref q1, .ref q11, .ref q23, .ref q38, .ref q48, .int 0, .int 0, .int (-1), .int 0, .ref q63, .null, .null, .null, .null, .null, .null, .null, .null, .null, .null])) := ⟨_, rfl⟩
  rw [← e71] at hP
  have hx : ext h h70 [o] := by rw [e71]; exact hx.pu (Or.inl (by simp))
  have f72 : h70 o = some (.inr (7, [.int 0, .int 0, .ref q1, .ref q11, .ref q23, .ref q38, .ref q48, .int 0, .int 0, .int (-1), .int 0, .ref q63, .null, .null, .null, .null, .null, .null, .null, .null, .null, .null])) := by rw [e71]; exact pu_s
  refine lv_aload_n F.1 F.2.1 d_M_init_58 rfl (lv_at hl 0 rfl) ?_
  refine lv_iconst (v := 4) F.1 F.2.1 d_M_init_59 (by decide) ?_
  refine pw_newa (a0 := (4, .inl (fun _ => 0))) (atype := .int) F aC_int rfl hK.1 hP hS hA 0 rfl (fun _ => rfl) (by decide) (by decide) (by decide) (by decide) (by decide) d_M_init_60 (fun q73 H n74 hP hS => ?_)
  have f75 : h70 q63 = some (.inl (cs 0, 4, .inl (fun _ => 0))) := by rw [e71]; exact pu_k f68 (pu_t f68 f69 (show (104 : Nat) ≠ 7 by decide))
  have k76 : q63 ≠ q73 := none_ne f75 n74
  replace hP : pw D vwCl A (pu h70 q73 (.inl (cs 0, 4, .inl (fun _ => 0)))) H := hP
  have g79 : h q73 = none := hx.2 _ n74
  obtain ⟨h77, e78⟩ : ∃ z9 : pw_H, z9 = pu h70 q73 (.inl (cs 0, 4, .inl (fun _ => 0))) := ⟨_, rfl⟩
  rw [← e78] at hP
  have hx : ext h h77 [o] := by rw [e78]; exact hx.pu (Or.inr g79)
  have f80 : h77 q73 = some (.inl (cs 0, 4, .inl (fun _ => 0))) := by rw [e78]; exact pu_s
  have f81 : h77 o = some (.inr (7, [.int 0, .int 0, .ref q1, .ref q11, .ref q23, .ref q38, .ref q48, .int 0, .int 0, .int (-1), .int 0, .ref q63, .null, .null, .null, .null, .null, .null, .null, .null, .null, .null])) := by rw [e78]; exact pu_f n74 f72
  refine pw_putF F I_M ty_M k_M n_M hK.1 hP hS f81 rfl 12 (by decide) L_M_33 (fun _ z => z) rfl hnm rfl rfl rfl (Nat.le_of_ble_eq_true rfl) d_M_init_62 (fun H locs hP hS => ?_)
  replace hP : pw D vwCl A (pu h77 o (.inr (7, [.int 0, .int 0, .ref q1, .ref q11, .ref q23, .ref q38, .ref q48, .int 0, .int 0, .int (-1), .int 0, .ref q63, .ref q73, .null, .null, .null, .null, .null, .null, .null, .null, .null]))) H := hP
  obtain ⟨h82, e83⟩ : ∃ z9 : pw_H, z9 = pu h77 o (.inr (7, [.int 0, .int 0, .ref q1, .ref q11, .ref q23, .ref q38, .ref q48, .int 0, .int 0, .int (-1), .int 0, .ref q63, .ref q73, .null, .null, .null, .null, .null, .null, .null, .null, .null])) := ⟨_, rfl⟩
  rw [← e83] at hP
  have hx : ext h h82 [o] := by rw [e83]; exact hx.pu (Or.inl (by simp))
  have f84 : h82 o = some (.inr (7, [.int 0, .int 0, .ref q1, .ref q11, .ref q23, .ref q38, .ref q48, .int 0, .int 0, .int (-1), .int 0, .ref q63, .ref q73, .null, .null, .null, .null, .null, .null, .null, .null, .null])) := by rw [e83]; exact pu_s
  refine lv_aload_n F.1 F.2.1 d_M_init_65 rfl (lv_at hl 0 rfl) ?_
  refine lv_iconst (v := 4) F.1 F.2.1 d_M_init_66 (by decide) ?_
  refine pw_newa (a0 := (4, .inl (fun _ => 0))) (atype := .int) F aC_int rfl hK.1 hP hS hA 0 rfl (fun _ => rfl) (by decide) (by decide) (by decide) (by decide) (by decide) d_M_init_67 (fun q85 H n86 hP hS => ?_)
  have f87 : h77 q63 = some (.inl (cs 0, 4, .inl (fun _ => 0))) := by rw [e78]; exact pu_f n74 f75
  have f88 : h82 q63 = some (.inl (cs 0, 4, .inl (fun _ => 0))) := by rw [e83]; exact pu_k f87 (pu_t f87 f81 (show (104 : Nat) ≠ 7 by decide))
  have k89 : q63 ≠ q85 := none_ne f88 n86
  have f90 : h82 q73 = some (.inl (cs 0, 4, .inl (fun _ => 0))) := by rw [e83]; exact pu_k f80 (pu_t f80 f81 (show (104 : Nat) ≠ 7 by decide))
  have k91 : q73 ≠ q85 := none_ne f90 n86
  replace hP : pw D vwCl A (pu h82 q85 (.inl (cs 0, 4, .inl (fun _ => 0)))) H := hP
  have g94 : h q85 = none := hx.2 _ n86
  obtain ⟨h92, e93⟩ : ∃ z9 : pw_H, z9 = pu h82 q85 (.inl (cs 0, 4, .inl (fun _ => 0))) := ⟨_, rfl⟩
  rw [← e93] at hP
  have hx : ext h h92 [o] := by rw [e93]; exact hx.pu (Or.inr g94)
  have f95 : h92 q85 = some (.inl (cs 0, 4, .inl (fun _ => 0))) := by rw [e93]; exact pu_s
  have f96 : h92 o = some (.inr (7, [.int 0, .int 0, .ref q1, .ref q11, .ref q23, .ref q38, .ref q48, .int 0, .int 0, .int (-1), .int 0, .ref q63, .ref q73, .null, .null, .null, .null, .null, .null, .null, .null, .null])) := by rw [e93]; exact pu_f n86 f84
  refine pw_putF F I_M ty_M k_M n_M hK.1 hP hS f96 rfl 13 (by decide) L_M_36 (fun _ z => z) rfl hnm rfl rfl rfl (Nat.le_of_ble_eq_true rfl) d_M_init_69 (fun H locs hP hS => ?_)
  replace hP : pw D vwCl A (pu h92 o (.inr (7, [.int 0, .int 0, .ref q1, .ref q11, .ref q23, .ref q38, .ref q48, .int 0, .int 0, .int (-1), .int 0, .ref q63, .ref q73, .ref q85, .null, .null, .null, .null, .null, .null, .null, .null]))) H := hP
  obtain ⟨h97, e98⟩ : ∃ z9 : pw_H, z9 = pu h92 o (.inr (7, [.int 0, .int 0, .ref q1, .ref q11, .ref q23, .ref q38, .ref q48, .int 0, .int 0, .int (-1), .int 0, .ref q63, .ref q73, .ref q85, .null, .null, .null, .null, .null, .null, .null, .null])) := ⟨_, rfl⟩
  rw [← e98] at hP
  have hx : ext h h97 [o] := by rw [e98]; exact hx.pu (Or.inl (by simp))
  have f99 : h97 o = some (.inr (7, [.int 0, .int 0, .ref q1, .ref q11, .ref q23, .ref q38, .ref q48, .int 0, .int 0, .int (-1), .int 0, .ref q63, .ref q73, .ref q85, .null, .null, .null, .null, .null, .null, .null, .null])) := by rw [e98]; exact pu_s
  refine lv_aload_n F.1 F.2.1 d_M_init_72 rfl (lv_at hl 0 rfl) ?_
  refine lv_iconst (v := 4) F.1 F.2.1 d_M_init_73 (by decide) ?_
  refine pw_newa (a0 := (4, .inl (fun _ => 0))) (atype := .int) F aC_int rfl hK.1 hP hS hA 0 rfl (fun _ => rfl) (by decide) (by decide) (by decide) (by decide) (by decide) d_M_init_74 (fun q100 H n101 hP hS => ?_)
  have f102 : h92 q63 = some (.inl (cs 0, 4, .inl (fun _ => 0))) := by rw [e93]; exact pu_f n86 f88
  have f103 : h97 q63 = some (.inl (cs 0, 4, .inl (fun _ => 0))) := by rw [e98]; exact pu_k f102 (pu_t f102 f96 (show (104 : Nat) ≠ 7 by decide))
  have k104 : q63 ≠ q100 := none_ne f103 n101
  have f105 : h92 q73 = some (.inl (cs 0, 4, .inl (fun _ => 0))) := by rw [e93]; exact pu_f n86 f90
  have f106 : h97 q73 = some (.inl (cs 0, 4, .inl (fun _ => 0))) := by rw [e98]; exact pu_k f105 (pu_t f105 f96 (show (104 : Nat) ≠ 7 by decide))
  have k107 : q73 ≠ q100 := none_ne f106 n101
  have f108 : h97 q85 = some (.inl (cs 0, 4, .inl (fun _ => 0))) := by rw [e98]; exact pu_k f95 (pu_t f95 f96 (show (104 : Nat) ≠ 7 by decide))
  have k109 : q85 ≠ q100 := none_ne f108 n101
  replace hP : pw D vwCl A (pu h97 q100 (.inl (cs 0, 4, .inl (fun _ => 0)))) H := hP
  have g112 : h q100 = none := hx.2 _ n101
  obtain ⟨h110, e111⟩ : ∃ z9 : pw_H, z9 = pu h97 q100 (.inl (cs 0, 4, .inl (fun _ => 0))) := ⟨_, rfl⟩
  rw [← e111] at hP
  have hx : ext h h110 [o] := by rw [e111]; exact hx.pu (Or.inr g112)
  have f113 : h110 q100 = some (.inl (cs 0, 4, .inl (fun _ => 0))) := by rw [e111]; exact pu_s
  have f114 : h110 o = some (.inr (7, [.int 0, .int 0, .ref q1, .ref q11, .ref q23, .ref q38, .ref q48, .int 0, .int 0, .int (-1), .int 0, .ref q63, .ref q73, .ref q85, .null, .null, .null, .null, .null, .null, .null, .null])) := by rw [e111]; exact pu_f n101 f99
  refine pw_putF F I_M ty_M k_M n_M hK.1 hP hS f114 rfl 14 (by decide) L_M_39 (fun _ z => z) rfl hnm rfl rfl rfl (Nat.le_of_ble_eq_true rfl) d_M_init_76 (fun H locs hP hS => ?_)
  replace hP : pw D vwCl A (pu h110 o (.inr (7, [.int 0, .int 0, .ref q1, .ref q11, .ref q23, .ref q38, .ref q48, .int 0, .int 0, .int (-1), .int 0, .ref q63, .ref q73, .ref q85, .ref q100, .null, .null, .null, .null, .null, .null, .null]))) H := hP
  obtain ⟨h115, e116⟩ : ∃ z9 : pw_H, z9 = pu h110 o (.inr (7, [.int 0, .int 0, .ref q1, .ref q11, .ref q23, .ref q38, .ref q48, .int 0, .int 0, .int (-1), .int 0, .ref q63, .ref q73, .ref q85, .ref q100, .null, .null, .null, .null, .null, .null, .null])) := ⟨_, rfl⟩
  rw [← e116] at hP
  have hx : ext h h115 [o] := by rw [e116]; exact hx.pu (Or.inl (by simp))
  have f117 : h115 o = some (.inr (7, [.int 0, .int 0, .ref q1, .ref q11, .ref q23, .ref q38, .ref q48, .int 0, .int 0, .int (-1), .int 0, .ref q63, .ref q73, .ref q85, .ref q100, .null, .null, .null, .null, .null, .null, .null])) := by rw [e116]; exact pu_s
  refine lv_aload_n F.1 F.2.1 d_M_init_79 rfl (lv_at hl 0 rfl) ?_
  refine lv_iconst (v := 4) F.1 F.2.1 d_M_init_80 (by decide) ?_
  refine pw_newa (a0 := (4, .inl (fun _ => 0))) (atype := .int) F aC_int rfl hK.1 hP hS hA 0 rfl (fun _ => rfl) (by decide) (by decide) (by decide) (by decide) (by decide) d_M_init_81 (fun q118 H n119 hP hS => ?_)
  have f120 : h110 q63 = some (.inl (cs 0, 4, .inl (fun _ => 0))) := by rw [e111]; exact pu_f n101 f103
  have f121 : h115 q63 = some (.inl (cs 0, 4, .inl (fun _ => 0))) := by rw [e116]; exact pu_k f120 (pu_t f120 f114 (show (104 : Nat) ≠ 7 by decide))
  have k122 : q63 ≠ q118 := none_ne f121 n119
  have f123 : h110 q73 = some (.inl (cs 0, 4, .inl (fun _ => 0))) := by rw [e111]; exact pu_f n101 f106
  have f124 : h115 q73 = some (.inl (cs 0, 4, .inl (fun _ => 0))) := by rw [e116]; exact pu_k f123 (pu_t f123 f114 (show (104 : Nat) ≠ 7 by decide))
  have k125 : q73 ≠ q118 := none_ne f124 n119
  have f126 : h110 q85 = some (.inl (cs 0, 4, .inl (fun _ => 0))) := by rw [e111]; exact pu_f n101 f108
  have f127 : h115 q85 = some (.inl (cs 0, 4, .inl (fun _ => 0))) := by rw [e116]; exact pu_k f126 (pu_t f126 f114 (show (104 : Nat) ≠ 7 by decide))
  have k128 : q85 ≠ q118 := none_ne f127 n119
  have f129 : h115 q100 = some (.inl (cs 0, 4, .inl (fun _ => 0))) := by rw [e116]; exact pu_k f113 (pu_t f113 f114 (show (104 : Nat) ≠ 7 by decide))
  have k130 : q100 ≠ q118 := none_ne f129 n119
  replace hP : pw D vwCl A (pu h115 q118 (.inl (cs 0, 4, .inl (fun _ => 0)))) H := hP
  have g133 : h q118 = none := hx.2 _ n119
  obtain ⟨h131, e132⟩ : ∃ z9 : pw_H, z9 = pu h115 q118 (.inl (cs 0, 4, .inl (fun _ => 0))) := ⟨_, rfl⟩
  rw [← e132] at hP
  have hx : ext h h131 [o] := by rw [e132]; exact hx.pu (Or.inr g133)
  have f134 : h131 q118 = some (.inl (cs 0, 4, .inl (fun _ => 0))) := by rw [e132]; exact pu_s
  have f135 : h131 o = some (.inr (7, [.int 0, .int 0, .ref q1, .ref q11, .ref q23, .ref q38, .ref q48, .int 0, .int 0, .int (-1), .int 0, .ref q63, .ref q73, .ref q85, .ref q100, .null, .null, .null, .null, .null, .null, .null])) := by rw [e132]; exact pu_f n119 f117
  refine pw_putF F I_M ty_M k_M n_M hK.1 hP hS f135 rfl 15 (by decide) L_M_42 (fun _ z => z) rfl hnm rfl rfl rfl (Nat.le_of_ble_eq_true rfl) d_M_init_83 (fun H locs hP hS => ?_)
  replace hP : pw D vwCl A (pu h131 o (.inr (7, [.int 0, .int 0, .ref q1, .ref q11, .ref q23, .ref q38, .ref q48, .int 0, .int 0, .int (-1), .int 0, .ref q63, .ref q73, .ref q85, .ref q100, .ref q118, .null, .null, .null, .null, .null, .null]))) H := hP
  obtain ⟨h136, e137⟩ : ∃ z9 : pw_H, z9 = pu h131 o (.inr (7, [.int 0, .int 0, .ref q1, .ref q11, .ref q23, .ref q38, .ref q48, .int 0, .int 0, .int (-1), .int 0, .ref q63, .ref q73, .ref q85, .ref q100, .ref q118, .null, .null, .null, .null, .null, .null])) := ⟨_, rfl⟩
  rw [← e137] at hP
  have hx : ext h h136 [o] := by rw [e137]; exact hx.pu (Or.inl (by simp))
  have f138 : h136 o = some (.inr (7, [.int 0, .int 0, .ref q1, .ref q11, .ref q23, .ref q38, .ref q48, .int 0, .int 0, .int (-1), .int 0, .ref q63, .ref q73, .ref q85, .ref q100, .ref q118, .null, .null, .null, .null, .null, .null])) := by rw [e137]; exact pu_s
  refine lv_aload_n F.1 F.2.1 d_M_init_86 rfl (lv_at hl 0 rfl) ?_
  refine lv_iconst (v := 4) F.1 F.2.1 d_M_init_87 (by decide) ?_
  refine pw_newa (a0 := (4, .inl (fun _ => 0))) (atype := .int) F aC_int rfl hK.1 hP hS hA 0 rfl (fun _ => rfl) (by decide) (by decide) (by decide) (by decide) (by decide) d_M_init_88 (fun q139 H n140 hP hS => ?_)
  have f141 : h131 q63 = some (.inl (cs 0, 4, .inl (fun _ => 0))) := by rw [e132]; exact pu_f n119 f121
  have f142 : h136 q63 = some (.inl (cs 0, 4, .inl (fun _ => 0))) := by rw [e137]; exact pu_k f141 (pu_t f141 f135 (show (104 : Nat) ≠ 7 by decide))
  have k143 : q63 ≠ q139 := none_ne f142 n140
  have f144 : h131 q73 = some (.inl (cs 0, 4, .inl (fun _ => 0))) := by rw [e132]; exact pu_f n119 f124
  have f145 : h136 q73 = some (.inl (cs 0, 4, .inl (fun _ => 0))) := by rw [e137]; exact pu_k f144 (pu_t f144 f135 (show (104 : Nat) ≠ 7 by decide))
  have k146 : q73 ≠ q139 := none_ne f145 n140
  have f147 : h131 q85 = some (.inl (cs 0, 4, .inl (fun _ => 0))) := by rw [e132]; exact pu_f n119 f127
  have f148 : h136 q85 = some (.inl (cs 0, 4, .inl (fun _ => 0))) := by rw [e137]; exact pu_k f147 (pu_t f147 f135 (show (104 : Nat) ≠ 7 by decide))
  have k149 : q85 ≠ q139 := none_ne f148 n140
  have f150 : h131 q100 = some (.inl (cs 0, 4, .inl (fun _ => 0))) := by rw [e132]; exact pu_f n119 f129
  have f151 : h136 q100 = some (.inl (cs 0, 4, .inl (fun _ => 0))) := by rw [e137]; exact pu_k f150 (pu_t f150 f135 (show (104 : Nat) ≠ 7 by decide))
  have k152 : q100 ≠ q139 := none_ne f151 n140
  have f153 : h136 q118 = some (.inl (cs 0, 4, .inl (fun _ => 0))) := by rw [e137]; exact pu_k f134 (pu_t f134 f135 (show (104 : Nat) ≠ 7 by decide))
  have k154 : q118 ≠ q139 := none_ne f153 n140
  replace hP : pw D vwCl A (pu h136 q139 (.inl (cs 0, 4, .inl (fun _ => 0)))) H := hP
  have g157 : h q139 = none := hx.2 _ n140
  obtain ⟨h155, e156⟩ : ∃ z9 : pw_H, z9 = pu h136 q139 (.inl (cs 0, 4, .inl (fun _ => 0))) := ⟨_, rfl⟩
  rw [← e156] at hP
  have hx : ext h h155 [o] := by rw [e156]; exact hx.pu (Or.inr g157)
  have f158 : h155 q139 = some (.inl (cs 0, 4, .inl (fun _ => 0))) := by rw [e156]; exact pu_s
  have f159 : h155 o = some (.inr (7, [.int 0, .int 0, .ref q1, .ref q11, .ref q23, .ref q38, .ref q48, .int 0, .int 0, .int (-1), .int 0, .ref q63, .ref q73, .ref q85, .ref q100, .ref q118, .null, .null, .null, .null, .null, .null])) := by rw [e156]; exact pu_f n140 f138
  refine pw_putF F I_M ty_M k_M n_M hK.1 hP hS f159 rfl 16 (by decide) L_M_45 (fun _ z => z) rfl hnm rfl rfl rfl (Nat.le_of_ble_eq_true rfl) d_M_init_90 (fun H locs hP hS => ?_)
  replace hP : pw D vwCl A (pu h155 o (.inr (7, [.int 0, .int 0, .ref q1, .ref q11, .ref q23, .ref q38, .ref q48, .int 0, .int 0, .int (-1), .int 0, .ref q63, .ref q73, .ref q85, .ref q100, .ref q118, .ref q139, .null, .null, .null, .null, .null]))) H := hP
  obtain ⟨h160, e161⟩ : ∃ z9 : pw_H, z9 = pu h155 o (.inr (7, [.int 0, .int 0, .ref q1, .ref q11, .ref q23, .ref q38, .ref q48, .int 0, .int 0, .int (-1), .int 0, .ref q63, .ref q73, .ref q85, .ref q100, .ref q118, .ref q139, .null, .null, .null, .null, .null])) := ⟨_, rfl⟩
  rw [← e161] at hP
  have hx : ext h h160 [o] := by rw [e161]; exact hx.pu (Or.inl (by simp))
  have f162 : h160 o = some (.inr (7, [.int 0, .int 0, .ref q1, .ref q11, .ref q23, .ref q38, .ref q48, .int 0, .int 0, .int (-1), .int 0, .ref q63, .ref q73, .ref q85, .ref q100, .ref q118, .ref q139, .null, .null, .null, .null, .null])) := by rw [e161]; exact pu_s
  refine lv_aload_n F.1 F.2.1 d_M_init_93 rfl (lv_at hl 0 rfl) ?_
  refine lv_iconst (v := 4) F.1 F.2.1 d_M_init_94 (by decide) ?_
  refine pw_newa (a0 := (4, .inl (fun _ => 0))) (atype := .int) F aC_int rfl hK.1 hP hS hA 0 rfl (fun _ => rfl) (by decide) (by decide) (by decide) (by decide) (by decide) d_M_init_95 (fun q163 H n164 hP hS => ?_)
  have f165 : h155 q63 = some (.inl (cs 0, 4, .inl (fun _ => 0))) := by rw [e156]; exact pu_f n140 f142
  have f166 : h160 q63 = some (.inl (cs 0, 4, .inl (fun _ => 0))) := by rw [e161]; exact pu_k f165 (pu_t f165 f159 (show (104 : Nat) ≠ 7 by decide))
  have k167 : q63 ≠ q163 := none_ne f166 n164
  have f168 : h155 q73 = some (.inl (cs 0, 4, .inl (fun _ => 0))) := by rw [e156]; exact pu_f n140 f145
  have f169 : h160 q73 = some (.inl (cs 0, 4, .inl (fun _ => 0))) := by rw [e161]; exact pu_k f168 (pu_t f168 f159 (show (104 : Nat) ≠ 7 by decide))
  have k170 : q73 ≠ q163 := none_ne f169 n164
  have f171 : h155 q85 = some (.inl (cs 0, 4, .inl (fun _ => 0))) := by rw [e156]; exact pu_f n140 f148
  have f172 : h160 q85 = some (.inl (cs 0, 4, .inl (fun _ => 0))) := by rw [e161]; exact pu_k f171 (pu_t f171 f159 (show (104 : Nat) ≠ 7 by decide))
  have k173 : q85 ≠ q163 := none_ne f172 n164
  have f174 : h155 q100 = some (.inl (cs 0, 4, .inl (fun _ => 0))) := by rw [e156]; exact pu_f n140 f151
  have f175 : h160 q100 = some (.inl (cs 0, 4, .inl (fun _ => 0))) := by rw [e161]; exact pu_k f174 (pu_t f174 f159 (show (104 : Nat) ≠ 7 by decide))
  have k176 : q100 ≠ q163 := none_ne f175 n164
  have f177 : h155 q118 = some (.inl (cs 0, 4, .inl (fun _ => 0))) := by rw [e156]; exact pu_f n140 f153
  have f178 : h160 q118 = some (.inl (cs 0, 4, .inl (fun _ => 0))) := by rw [e161]; exact pu_k f177 (pu_t f177 f159 (show (104 : Nat) ≠ 7 by decide))
  have k179 : q118 ≠ q163 := none_ne f178 n164
  have f180 : h160 q139 = some (.inl (cs 0, 4, .inl (fun _ => 0))) := by rw [e161]; exact pu_k f158 (pu_t f158 f159 (show (104 : Nat) ≠ 7 by decide))
  have k181 : q139 ≠ q163 := none_ne f180 n164
  replace hP : pw D vwCl A (pu h160 q163 (.inl (cs 0, 4, .inl (fun _ => 0)))) H := hP
  have g184 : h q163 = none := hx.2 _ n164
  obtain ⟨h182, e183⟩ : ∃ z9 : pw_H, z9 = pu h160 q163 (.inl (cs 0, 4, .inl (fun _ => 0))) := ⟨_, rfl⟩
  rw [← e183] at hP
  have hx : ext h h182 [o] := by rw [e183]; exact hx.pu (Or.inr g184)
  have f185 : h182 q163 = some (.inl (cs 0, 4, .inl (fun _ => 0))) := by rw [e183]; exact pu_s
  have f186 : h182 o = some (.inr (7, [.int 0, .int 0, .ref q1, .ref q11, .ref q23, .ref q38, .ref q48, .int 0, .int 0, .int (-1), .int 0, .ref q63, .ref q73, .ref q85, .ref q100, .ref q118, .ref q139, .null, .null, .null, .null, .null])) := by rw [e183]; exact pu_f n164 f162
  refine pw_putF F I_M ty_M k_M n_M hK.1 hP hS f186 rfl 17 (by decide) L_M_48 (fun _ z => z) rfl hnm rfl rfl rfl (Nat.le_of_ble_eq_true rfl) d_M_init_97 (fun H locs hP hS => ?_)
  replace hP : pw D vwCl A (pu h182 o (.inr (7, [.int 0, .int 0, .ref q1, .ref q11, .ref q23, .ref q38, .ref q48, .int 0, .int 0, .int (-1), .int 0, .ref q63, .ref q73, .ref q85, .ref q100, .ref q118, .ref q139, .ref q163, .null, .null, .null, .null]))) H := hP
  obtain ⟨h187, e188⟩ : ∃ z9 : pw_H, z9 = pu h182 o (.inr (7, [.int 0, .int 0, .ref q1, .ref q11, .ref q23, .ref q38, .ref q48, .int 0, .int 0, .int (-1), .int 0, .ref q63, .ref q73, .ref q85, .ref q100, .ref q118, .ref q139, .ref q163, .null, .null, .null, .null])) := ⟨_, rfl⟩
  rw [← e188] at hP
  have hx : ext h h187 [o] := by rw [e188]; exact hx.pu (Or.inl (by simp))
  have f189 : h187 o = some (.inr (7, [.int 0, .int 0, .ref q1, .ref q11, .ref q23, .ref q38, .ref q48, .int 0, .int 0, .int (-1), .int 0, .ref q63, .ref q73, .ref q85, .ref q100, .ref q118, .ref q139, .ref q163, .null, .null, .null, .null])) := by rw [e188]; exact pu_s
  refine lv_aload_n F.1 F.2.1 d_M_init_100 rfl (lv_at hl 0 rfl) ?_
  refine lv_bipush (v := 24) F.1 F.2.1 d_M_init_101 (by decide) ?_
  refine pw_newa (a0 := (24, .inl (fun _ => 0))) (atype := .int) F aC_int rfl hK.1 hP hS hA 0 rfl (fun _ => rfl) (by decide) (by decide) (by decide) (by decide) (by decide) d_M_init_103 (fun q190 H n191 hP hS => ?_)
  replace hP : pw D vwCl A (pu h187 q190 (.inl (cs 0, 24, .inl (fun _ => 0)))) H := hP
  have g194 : h q190 = none := hx.2 _ n191
  obtain ⟨h192, e193⟩ : ∃ z9 : pw_H, z9 = pu h187 q190 (.inl (cs 0, 24, .inl (fun _ => 0))) := ⟨_, rfl⟩
  rw [← e193] at hP
  have hx : ext h h192 [o] := by rw [e193]; exact hx.pu (Or.inr g194)
  have f195 : h192 q190 = some (.inl (cs 0, 24, .inl (fun _ => 0))) := by rw [e193]; exact pu_s
  have f196 : h192 o = some (.inr (7, [.int 0, .int 0, .ref q1, .ref q11, .ref q23, .ref q38, .ref q48, .int 0, .int 0, .int (-1), .int 0, .ref q63, .ref q73, .ref q85, .ref q100, .ref q118, .ref q139, .ref q163, .null, .null, .null, .null])) := by rw [e193]; exact pu_f n191 f189
  refine pw_putF F I_M ty_M k_M n_M hK.1 hP hS f196 rfl 18 (by decide) L_M_51 (fun _ z => z) rfl hnm rfl rfl rfl (Nat.le_of_ble_eq_true rfl) d_M_init_105 (fun H locs hP hS => ?_)
  replace hP : pw D vwCl A (pu h192 o (.inr (7, [.int 0, .int 0, .ref q1, .ref q11, .ref q23, .ref q38, .ref q48, .int 0, .int 0, .int (-1), .int 0, .ref q63, .ref q73, .ref q85, .ref q100, .ref q118, .ref q139, .ref q163, .ref q190, .null, .null, .null]))) H := hP
  obtain ⟨h197, e198⟩ : ∃ z9 : pw_H, z9 = pu h192 o (.inr (7, [.int 0, .int 0, .ref q1, .ref q11, .ref q23, .ref q38, .ref q48, .int 0, .int 0, .int (-1), .int 0, .ref q63, .ref q73, .ref q85, .ref q100, .ref q118, .ref q139, .ref q163, .ref q190, .null, .null, .null])) := ⟨_, rfl⟩
  rw [← e198] at hP
  have hx : ext h h197 [o] := by rw [e198]; exact hx.pu (Or.inl (by simp))
  have f199 : h197 o = some (.inr (7, [.int 0, .int 0, .ref q1, .ref q11, .ref q23, .ref q38, .ref q48, .int 0, .int 0, .int (-1), .int 0, .ref q63, .ref q73, .ref q85, .ref q100, .ref q118, .ref q139, .ref q163, .ref q190, .null, .null, .null])) := by rw [e198]; exact pu_s
  refine lv_aload_n F.1 F.2.1 d_M_init_108 rfl (lv_at hl 0 rfl) ?_
  refine lv_bipush (v := 24) F.1 F.2.1 d_M_init_109 (by decide) ?_
  refine pw_newa (a0 := (24, .inl (fun _ => 0))) (atype := .int) F aC_int rfl hK.1 hP hS hA 0 rfl (fun _ => rfl) (by decide) (by decide) (by decide) (by decide) (by decide) d_M_init_111 (fun q200 H n201 hP hS => ?_)
  have f202 : h197 q190 = some (.inl (cs 0, 24, .inl (fun _ => 0))) := by rw [e198]; exact pu_k f195 (pu_t f195 f196 (show (124 : Nat) ≠ 7 by decide))
  have k203 : q190 ≠ q200 := none_ne f202 n201
  replace hP : pw D vwCl A (pu h197 q200 (.inl (cs 0, 24, .inl (fun _ => 0)))) H := hP
  have g206 : h q200 = none := hx.2 _ n201
  obtain ⟨h204, e205⟩ : ∃ z9 : pw_H, z9 = pu h197 q200 (.inl (cs 0, 24, .inl (fun _ => 0))) := ⟨_, rfl⟩
  rw [← e205] at hP
  have hx : ext h h204 [o] := by rw [e205]; exact hx.pu (Or.inr g206)
  have f207 : h204 q200 = some (.inl (cs 0, 24, .inl (fun _ => 0))) := by rw [e205]; exact pu_s
  have f208 : h204 o = some (.inr (7, [.int 0, .int 0, .ref q1, .ref q11, .ref q23, .ref q38, .ref q48, .int 0, .int 0, .int (-1), .int 0, .ref q63, .ref q73, .ref q85, .ref q100, .ref q118, .ref q139, .ref q163, .ref q190, .null, .null, .null])) := by rw [e205]; exact pu_f n201 f199
  refine pw_putF F I_M ty_M k_M n_M hK.1 hP hS f208 rfl 19 (by decide) L_M_54 (fun _ z => z) rfl hnm rfl rfl rfl (Nat.le_of_ble_eq_true rfl) d_M_init_113 (fun H locs hP hS => ?_)
  replace hP : pw D vwCl A (pu h204 o (.inr (7, [.int 0, .int 0, .ref q1, .ref q11, .ref q23, .ref q38, .ref q48, .int 0, .int 0, .int (-1), .int 0, .ref q63, .ref q73, .ref q85, .ref q100, .ref q118, .ref q139, .ref q163, .ref q190, .ref q200, .null, .null]))) H := hP
  obtain ⟨h209, e210⟩ : ∃ z9 : pw_H, z9 = pu h204 o (.inr (7, [.int 0, .int 0, .ref q1, .ref q11, .ref q23, .ref q38, .ref q48, .int 0, .int 0, .int (-1), .int 0, .ref q63, .ref q73, .ref q85, .ref q100, .ref q118, .ref q139, .ref q163, .ref q190, .ref q200, .null, .null])) := ⟨_, rfl⟩
  rw [← e210] at hP
  have hx : ext h h209 [o] := by rw [e210]; exact hx.pu (Or.inl (by simp))
  have f211 : h209 o = some (.inr (7, [.int 0, .int 0, .ref q1, .ref q11, .ref q23, .ref q38, .ref q48, .int 0, .int 0, .int (-1), .int 0, .ref q63, .ref q73, .ref q85, .ref q100, .ref q118, .ref q139, .ref q163, .ref q190, .ref q200, .null, .null])) := by rw [e210]; exact pu_s
  refine lv_aload_n F.1 F.2.1 d_M_init_116 rfl (lv_at hl 0 rfl) ?_
  refine lv_bipush (v := 24) F.1 F.2.1 d_M_init_117 (by decide) ?_
  refine pw_newa (a0 := (24, .inl (fun _ => 0))) (atype := .int) F aC_int rfl hK.1 hP hS hA 0 rfl (fun _ => rfl) (by decide) (by decide) (by decide) (by decide) (by decide) d_M_init_119 (fun q212 H n213 hP hS => ?_)
  have f214 : h204 q190 = some (.inl (cs 0, 24, .inl (fun _ => 0))) := by rw [e205]; exact pu_f n201 f202
  have f215 : h209 q190 = some (.inl (cs 0, 24, .inl (fun _ => 0))) := by rw [e210]; exact pu_k f214 (pu_t f214 f208 (show (124 : Nat) ≠ 7 by decide))
  have k216 : q190 ≠ q212 := none_ne f215 n213
  have f217 : h209 q200 = some (.inl (cs 0, 24, .inl (fun _ => 0))) := by rw [e210]; exact pu_k f207 (pu_t f207 f208 (show (124 : Nat) ≠ 7 by decide))
  have k218 : q200 ≠ q212 := none_ne f217 n213
  replace hP : pw D vwCl A (pu h209 q212 (.inl (cs 0, 24, .inl (fun _ => 0)))) H := hP
  have g221 : h q212 = none := hx.2 _ n213
  obtain ⟨h219, e220⟩ : ∃ z9 : pw_H, z9 = pu h209 q212 (.inl (cs 0, 24, .inl (fun _ => 0))) := ⟨_, rfl⟩
  rw [← e220] at hP
  have hx : ext h h219 [o] := by rw [e220]; exact hx.pu (Or.inr g221)
  have f222 : h219 q212 = some (.inl (cs 0, 24, .inl (fun _ => 0))) := by rw [e220]; exact pu_s
  have f223 : h219 o = some (.inr (7, [.int 0, .int 0, .ref q1, .ref q11, .ref q23, .ref q38, .ref q48, .int 0, .int 0, .int (-1), .int 0, .ref q63, .ref q73, .ref q85, .ref q100, .ref q118, .ref q139, .ref q163, .ref q190, .ref q200, .null, .null])) := by rw [e220]; exact pu_f n213 f211
  refine pw_putF F I_M ty_M k_M n_M hK.1 hP hS f223 rfl 20 (by decide) L_M_57 (fun _ z => z) rfl hnm rfl rfl rfl (Nat.le_of_ble_eq_true rfl) d_M_init_121 (fun H locs hP hS => ?_)
  replace hP : pw D vwCl A (pu h219 o (.inr (7, [.int 0, .int 0, .ref q1, .ref q11, .ref q23, .ref q38, .ref q48, .int 0, .int 0, .int (-1), .int 0, .ref q63, .ref q73, .ref q85, .ref q100, .ref q118, .ref q139, .ref q163, .ref q190, .ref q200, .ref q212, .null]))) H := hP
  obtain ⟨h224, e225⟩ : ∃ z9 : pw_H, z9 = pu h219 o (.inr (7, [.int 0, .int 0, .ref q1, .ref q11, .ref q23, .ref q38, .ref q48, .int 0, .int 0, .int (-1), .int 0, .ref q63, .ref q73, .ref q85, .ref q100, .ref q118, .ref q139, .ref q163, .ref q190, .ref q200, .ref q212, .null])) := ⟨_, rfl⟩
  rw [← e225] at hP
  have hx : ext h h224 [o] := by rw [e225]; exact hx.pu (Or.inl (by simp))
  have f226 : h224 o = some (.inr (7, [.int 0, .int 0, .ref q1, .ref q11, .ref q23, .ref q38, .ref q48, .int 0, .int 0, .int (-1), .int 0, .ref q63, .ref q73, .ref q85, .ref q100, .ref q118, .ref q139, .ref q163, .ref q190, .ref q200, .ref q212, .null])) := by rw [e225]; exact pu_s
  refine lv_aload_n F.1 F.2.1 d_M_init_124 rfl (lv_at hl 0 rfl) ?_
  refine lv_bipush (v := 24) F.1 F.2.1 d_M_init_125 (by decide) ?_
  refine pw_newa (a0 := (24, .inl (fun _ => 0))) (atype := .int) F aC_int rfl hK.1 hP hS hA 0 rfl (fun _ => rfl) (by decide) (by decide) (by decide) (by decide) (by decide) d_M_init_127 (fun q227 H n228 hP hS => ?_)
  have f229 : h219 q190 = some (.inl (cs 0, 24, .inl (fun _ => 0))) := by rw [e220]; exact pu_f n213 f215
  have f230 : h224 q190 = some (.inl (cs 0, 24, .inl (fun _ => 0))) := by rw [e225]; exact pu_k f229 (pu_t f229 f223 (show (124 : Nat) ≠ 7 by decide))
  have k231 : q190 ≠ q227 := none_ne f230 n228
  have f232 : h219 q200 = some (.inl (cs 0, 24, .inl (fun _ => 0))) := by rw [e220]; exact pu_f n213 f217
  have f233 : h224 q200 = some (.inl (cs 0, 24, .inl (fun _ => 0))) := by rw [e225]; exact pu_k f232 (pu_t f232 f223 (show (124 : Nat) ≠ 7 by decide))
  have k234 : q200 ≠ q227 := none_ne f233 n228
  have f235 : h224 q212 = some (.inl (cs 0, 24, .inl (fun _ => 0))) := by rw [e225]; exact pu_k f222 (pu_t f222 f223 (show (124 : Nat) ≠ 7 by decide))
  have k236 : q212 ≠ q227 := none_ne f235 n228
  replace hP : pw D vwCl A (pu h224 q227 (.inl (cs 0, 24, .inl (fun _ => 0)))) H := hP
  have g239 : h q227 = none := hx.2 _ n228
  obtain ⟨h237, e238⟩ : ∃ z9 : pw_H, z9 = pu h224 q227 (.inl (cs 0, 24, .inl (fun _ => 0))) := ⟨_, rfl⟩
  rw [← e238] at hP
  have hx : ext h h237 [o] := by rw [e238]; exact hx.pu (Or.inr g239)
  have f240 : h237 q227 = some (.inl (cs 0, 24, .inl (fun _ => 0))) := by rw [e238]; exact pu_s
  have f241 : h237 o = some (.inr (7, [.int 0, .int 0, .ref q1, .ref q11, .ref q23, .ref q38, .ref q48, .int 0, .int 0, .int (-1), .int 0, .ref q63, .ref q73, .ref q85, .ref q100, .ref q118, .ref q139, .ref q163, .ref q190, .ref q200, .ref q212, .null])) := by rw [e238]; exact pu_f n228 f226
  refine pw_putF F I_M ty_M k_M n_M hK.1 hP hS f241 rfl 21 (by decide) L_M_60 (fun _ z => z) rfl hnm rfl rfl rfl (Nat.le_of_ble_eq_true rfl) d_M_init_129 (fun H locs hP hS => ?_)
  replace hP : pw D vwCl A (pu h237 o (.inr (7, [.int 0, .int 0, .ref q1, .ref q11, .ref q23, .ref q38, .ref q48, .int 0, .int 0, .int (-1), .int 0, .ref q63, .ref q73, .ref q85, .ref q100, .ref q118, .ref q139, .ref q163, .ref q190, .ref q200, .ref q212, .ref q227]))) H := hP
  obtain ⟨h242, e243⟩ : ∃ z9 : pw_H, z9 = pu h237 o (.inr (7, [.int 0, .int 0, .ref q1, .ref q11, .ref q23, .ref q38, .ref q48, .int 0, .int 0, .int (-1), .int 0, .ref q63, .ref q73, .ref q85, .ref q100, .ref q118, .ref q139, .ref q163, .ref q190, .ref q200, .ref q212, .ref q227])) := ⟨_, rfl⟩
  rw [← e243] at hP
  have hx : ext h h242 [o] := by rw [e243]; exact hx.pu (Or.inl (by simp))
  have f244 : h242 o = some (.inr (7, [.int 0, .int 0, .ref q1, .ref q11, .ref q23, .ref q38, .ref q48, .int 0, .int 0, .int (-1), .int 0, .ref q63, .ref q73, .ref q85, .ref q100, .ref q118, .ref q139, .ref q163, .ref q190, .ref q200, .ref q212, .ref q227])) := by rw [e243]; exact pu_s
  have f245 : h30 q1 = some (.inl (cs 1, 56, .inl (fun _ => 0))) := by rw [e31]; exact pu_f n24 f26
  have f246 : h35 q1 = some (.inl (cs 1, 56, .inl (fun _ => 0))) := by rw [e36]; exact pu_k f245 (pu_t f245 f34 (show (156 : Nat) ≠ 7 by decide))
  have f247 : h40 q1 = some (.inl (cs 1, 56, .inl (fun _ => 0))) := by rw [e41]; exact pu_f n39 f246
  have f248 : h45 q1 = some (.inl (cs 1, 56, .inl (fun _ => 0))) := by rw [e46]; exact pu_k f247 (pu_t f247 f44 (show (156 : Nat) ≠ 7 by decide))
  have f249 : h52 q1 = some (.inl (cs 1, 56, .inl (fun _ => 0))) := by rw [e53]; exact pu_f n49 f248
  have f250 : h57 q1 = some (.inl (cs 1, 56, .inl (fun _ => 0))) := by rw [e58]; exact pu_k f249 (pu_t f249 f56 (show (156 : Nat) ≠ 7 by decide))
  have f251 : h60 q1 = some (.inl (cs 1, 56, .inl (fun _ => 0))) := by rw [e61]; exact pu_k f250 (pu_t f250 f59 (show (156 : Nat) ≠ 7 by decide))
  have f252 : h65 q1 = some (.inl (cs 1, 56, .inl (fun _ => 0))) := by rw [e66]; exact pu_f n64 f251
  have f253 : h70 q1 = some (.inl (cs 1, 56, .inl (fun _ => 0))) := by rw [e71]; exact pu_k f252 (pu_t f252 f69 (show (156 : Nat) ≠ 7 by decide))
  have f254 : h77 q1 = some (.inl (cs 1, 56, .inl (fun _ => 0))) := by rw [e78]; exact pu_f n74 f253
  have f255 : h82 q1 = some (.inl (cs 1, 56, .inl (fun _ => 0))) := by rw [e83]; exact pu_k f254 (pu_t f254 f81 (show (156 : Nat) ≠ 7 by decide))
  have f256 : h92 q1 = some (.inl (cs 1, 56, .inl (fun _ => 0))) := by rw [e93]; exact pu_f n86 f255
  have f257 : h97 q1 = some (.inl (cs 1, 56, .inl (fun _ => 0))) := by rw [e98]; exact pu_k f256 (pu_t f256 f96 (show (156 : Nat) ≠ 7 by decide))
  have f258 : h110 q1 = some (.inl (cs 1, 56, .inl (fun _ => 0))) := by rw [e111]; exact pu_f n101 f257
  have f259 : h115 q1 = some (.inl (cs 1, 56, .inl (fun _ => 0))) := by rw [e116]; exact pu_k f258 (pu_t f258 f114 (show (156 : Nat) ≠ 7 by decide))
  have f260 : h131 q1 = some (.inl (cs 1, 56, .inl (fun _ => 0))) := by rw [e132]; exact pu_f n119 f259
  have f261 : h136 q1 = some (.inl (cs 1, 56, .inl (fun _ => 0))) := by rw [e137]; exact pu_k f260 (pu_t f260 f135 (show (156 : Nat) ≠ 7 by decide))
  have f262 : h155 q1 = some (.inl (cs 1, 56, .inl (fun _ => 0))) := by rw [e156]; exact pu_f n140 f261
  have f263 : h160 q1 = some (.inl (cs 1, 56, .inl (fun _ => 0))) := by rw [e161]; exact pu_k f262 (pu_t f262 f159 (show (156 : Nat) ≠ 7 by decide))
  have f264 : h182 q1 = some (.inl (cs 1, 56, .inl (fun _ => 0))) := by rw [e183]; exact pu_f n164 f263
  have f265 : h187 q1 = some (.inl (cs 1, 56, .inl (fun _ => 0))) := by rw [e188]; exact pu_k f264 (pu_t f264 f186 (show (156 : Nat) ≠ 7 by decide))
  have f266 : h192 q1 = some (.inl (cs 1, 56, .inl (fun _ => 0))) := by rw [e193]; exact pu_f n191 f265
  have f267 : h197 q1 = some (.inl (cs 1, 56, .inl (fun _ => 0))) := by rw [e198]; exact pu_k f266 (pu_t f266 f196 (show (156 : Nat) ≠ 7 by decide))
  have f268 : h204 q1 = some (.inl (cs 1, 56, .inl (fun _ => 0))) := by rw [e205]; exact pu_f n201 f267
  have f269 : h209 q1 = some (.inl (cs 1, 56, .inl (fun _ => 0))) := by rw [e210]; exact pu_k f268 (pu_t f268 f208 (show (156 : Nat) ≠ 7 by decide))
  have f270 : h219 q1 = some (.inl (cs 1, 56, .inl (fun _ => 0))) := by rw [e220]; exact pu_f n213 f269
  have f271 : h224 q1 = some (.inl (cs 1, 56, .inl (fun _ => 0))) := by rw [e225]; exact pu_k f270 (pu_t f270 f223 (show (156 : Nat) ≠ 7 by decide))
  have f272 : h237 q1 = some (.inl (cs 1, 56, .inl (fun _ => 0))) := by rw [e238]; exact pu_f n228 f271
  have f273 : h242 q1 = some (.inl (cs 1, 56, .inl (fun _ => 0))) := by rw [e243]; exact pu_k f272 (pu_t f272 f241 (show (156 : Nat) ≠ 7 by decide))
  have f274 : h30 q11 = some (.inl (cs 0, 56, .inl (fun _ => 0))) := by rw [e31]; exact pu_f n24 f28
  have f275 : h35 q11 = some (.inl (cs 0, 56, .inl (fun _ => 0))) := by rw [e36]; exact pu_k f274 (pu_t f274 f34 (show (156 : Nat) ≠ 7 by decide))
  have f276 : h40 q11 = some (.inl (cs 0, 56, .inl (fun _ => 0))) := by rw [e41]; exact pu_f n39 f275
  have f277 : h45 q11 = some (.inl (cs 0, 56, .inl (fun _ => 0))) := by rw [e46]; exact pu_k f276 (pu_t f276 f44 (show (156 : Nat) ≠ 7 by decide))
  have f278 : h52 q11 = some (.inl (cs 0, 56, .inl (fun _ => 0))) := by rw [e53]; exact pu_f n49 f277
  have f279 : h57 q11 = some (.inl (cs 0, 56, .inl (fun _ => 0))) := by rw [e58]; exact pu_k f278 (pu_t f278 f56 (show (156 : Nat) ≠ 7 by decide))
  have f280 : h60 q11 = some (.inl (cs 0, 56, .inl (fun _ => 0))) := by rw [e61]; exact pu_k f279 (pu_t f279 f59 (show (156 : Nat) ≠ 7 by decide))
  have f281 : h65 q11 = some (.inl (cs 0, 56, .inl (fun _ => 0))) := by rw [e66]; exact pu_f n64 f280
  have f282 : h70 q11 = some (.inl (cs 0, 56, .inl (fun _ => 0))) := by rw [e71]; exact pu_k f281 (pu_t f281 f69 (show (156 : Nat) ≠ 7 by decide))
  have f283 : h77 q11 = some (.inl (cs 0, 56, .inl (fun _ => 0))) := by rw [e78]; exact pu_f n74 f282
  have f284 : h82 q11 = some (.inl (cs 0, 56, .inl (fun _ => 0))) := by rw [e83]; exact pu_k f283 (pu_t f283 f81 (show (156 : Nat) ≠ 7 by decide))
  have f285 : h92 q11 = some (.inl (cs 0, 56, .inl (fun _ => 0))) := by rw [e93]; exact pu_f n86 f284
  have f286 : h97 q11 = some (.inl (cs 0, 56, .inl (fun _ => 0))) := by rw [e98]; exact pu_k f285 (pu_t f285 f96 (show (156 : Nat) ≠ 7 by decide))
  have f287 : h110 q11 = some (.inl (cs 0, 56, .inl (fun _ => 0))) := by rw [e111]; exact pu_f n101 f286
  have f288 : h115 q11 = some (.inl (cs 0, 56, .inl (fun _ => 0))) := by rw [e116]; exact pu_k f287 (pu_t f287 f114 (show (156 : Nat) ≠ 7 by decide))
  have f289 : h131 q11 = some (.inl (cs 0, 56, .inl (fun _ => 0))) := by rw [e132]; exact pu_f n119 f288
  have f290 : h136 q11 = some (.inl (cs 0, 56, .inl (fun _ => 0))) := by rw [e137]; exact pu_k f289 (pu_t f289 f135 (show (156 : Nat) ≠ 7 by decide))
  have f291 : h155 q11 = some (.inl (cs 0, 56, .inl (fun _ => 0))) := by rw [e156]; exact pu_f n140 f290
  have f292 : h160 q11 = some (.inl (cs 0, 56, .inl (fun _ => 0))) := by rw [e161]; exact pu_k f291 (pu_t f291 f159 (show (156 : Nat) ≠ 7 by decide))
  have f293 : h182 q11 = some (.inl (cs 0, 56, .inl (fun _ => 0))) := by rw [e183]; exact pu_f n164 f292
  have f294 : h187 q11 = some (.inl (cs 0, 56, .inl (fun _ => 0))) := by rw [e188]; exact pu_k f293 (pu_t f293 f186 (show (156 : Nat) ≠ 7 by decide))
  have f295 : h192 q11 = some (.inl (cs 0, 56, .inl (fun _ => 0))) := by rw [e193]; exact pu_f n191 f294
  have f296 : h197 q11 = some (.inl (cs 0, 56, .inl (fun _ => 0))) := by rw [e198]; exact pu_k f295 (pu_t f295 f196 (show (156 : Nat) ≠ 7 by decide))
  have f297 : h204 q11 = some (.inl (cs 0, 56, .inl (fun _ => 0))) := by rw [e205]; exact pu_f n201 f296
  have f298 : h209 q11 = some (.inl (cs 0, 56, .inl (fun _ => 0))) := by rw [e210]; exact pu_k f297 (pu_t f297 f208 (show (156 : Nat) ≠ 7 by decide))
  have f299 : h219 q11 = some (.inl (cs 0, 56, .inl (fun _ => 0))) := by rw [e220]; exact pu_f n213 f298
  have f300 : h224 q11 = some (.inl (cs 0, 56, .inl (fun _ => 0))) := by rw [e225]; exact pu_k f299 (pu_t f299 f223 (show (156 : Nat) ≠ 7 by decide))
  have f301 : h237 q11 = some (.inl (cs 0, 56, .inl (fun _ => 0))) := by rw [e238]; exact pu_f n228 f300
  have f302 : h242 q11 = some (.inl (cs 0, 56, .inl (fun _ => 0))) := by rw [e243]; exact pu_k f301 (pu_t f301 f241 (show (156 : Nat) ≠ 7 by decide))
  have f303 : h35 q23 = some (.inl (cs 0, 56, .inl (fun _ => 0))) := by rw [e36]; exact pu_k f33 (pu_t f33 f34 (show (156 : Nat) ≠ 7 by decide))
  have f304 : h40 q23 = some (.inl (cs 0, 56, .inl (fun _ => 0))) := by rw [e41]; exact pu_f n39 f303
  have f305 : h45 q23 = some (.inl (cs 0, 56, .inl (fun _ => 0))) := by rw [e46]; exact pu_k f304 (pu_t f304 f44 (show (156 : Nat) ≠ 7 by decide))
  have f306 : h52 q23 = some (.inl (cs 0, 56, .inl (fun _ => 0))) := by rw [e53]; exact pu_f n49 f305
  have f307 : h57 q23 = some (.inl (cs 0, 56, .inl (fun _ => 0))) := by rw [e58]; exact pu_k f306 (pu_t f306 f56 (show (156 : Nat) ≠ 7 by decide))
  have f308 : h60 q23 = some (.inl (cs 0, 56, .inl (fun _ => 0))) := by rw [e61]; exact pu_k f307 (pu_t f307 f59 (show (156 : Nat) ≠ 7 by decide))
  have f309 : h65 q23 = some (.inl (cs 0, 56, .inl (fun _ => 0))) := by rw [e66]; exact pu_f n64 f308
  have f310 : h70 q23 = some (.inl (cs 0, 56, .inl (fun _ => 0))) := by rw [e71]; exact pu_k f309 (pu_t f309 f69 (show (156 : Nat) ≠ 7 by decide))
  have f311 : h77 q23 = some (.inl (cs 0, 56, .inl (fun _ => 0))) := by rw [e78]; exact pu_f n74 f310
  have f312 : h82 q23 = some (.inl (cs 0, 56, .inl (fun _ => 0))) := by rw [e83]; exact pu_k f311 (pu_t f311 f81 (show (156 : Nat) ≠ 7 by decide))
  have f313 : h92 q23 = some (.inl (cs 0, 56, .inl (fun _ => 0))) := by rw [e93]; exact pu_f n86 f312
  have f314 : h97 q23 = some (.inl (cs 0, 56, .inl (fun _ => 0))) := by rw [e98]; exact pu_k f313 (pu_t f313 f96 (show (156 : Nat) ≠ 7 by decide))
  have f315 : h110 q23 = some (.inl (cs 0, 56, .inl (fun _ => 0))) := by rw [e111]; exact pu_f n101 f314
  have f316 : h115 q23 = some (.inl (cs 0, 56, .inl (fun _ => 0))) := by rw [e116]; exact pu_k f315 (pu_t f315 f114 (show (156 : Nat) ≠ 7 by decide))
  have f317 : h131 q23 = some (.inl (cs 0, 56, .inl (fun _ => 0))) := by rw [e132]; exact pu_f n119 f316
  have f318 : h136 q23 = some (.inl (cs 0, 56, .inl (fun _ => 0))) := by rw [e137]; exact pu_k f317 (pu_t f317 f135 (show (156 : Nat) ≠ 7 by decide))
  have f319 : h155 q23 = some (.inl (cs 0, 56, .inl (fun _ => 0))) := by rw [e156]; exact pu_f n140 f318
  have f320 : h160 q23 = some (.inl (cs 0, 56, .inl (fun _ => 0))) := by rw [e161]; exact pu_k f319 (pu_t f319 f159 (show (156 : Nat) ≠ 7 by decide))
  have f321 : h182 q23 = some (.inl (cs 0, 56, .inl (fun _ => 0))) := by rw [e183]; exact pu_f n164 f320
  have f322 : h187 q23 = some (.inl (cs 0, 56, .inl (fun _ => 0))) := by rw [e188]; exact pu_k f321 (pu_t f321 f186 (show (156 : Nat) ≠ 7 by decide))
  have f323 : h192 q23 = some (.inl (cs 0, 56, .inl (fun _ => 0))) := by rw [e193]; exact pu_f n191 f322
  have f324 : h197 q23 = some (.inl (cs 0, 56, .inl (fun _ => 0))) := by rw [e198]; exact pu_k f323 (pu_t f323 f196 (show (156 : Nat) ≠ 7 by decide))
  have f325 : h204 q23 = some (.inl (cs 0, 56, .inl (fun _ => 0))) := by rw [e205]; exact pu_f n201 f324
  have f326 : h209 q23 = some (.inl (cs 0, 56, .inl (fun _ => 0))) := by rw [e210]; exact pu_k f325 (pu_t f325 f208 (show (156 : Nat) ≠ 7 by decide))
  have f327 : h219 q23 = some (.inl (cs 0, 56, .inl (fun _ => 0))) := by rw [e220]; exact pu_f n213 f326
  have f328 : h224 q23 = some (.inl (cs 0, 56, .inl (fun _ => 0))) := by rw [e225]; exact pu_k f327 (pu_t f327 f223 (show (156 : Nat) ≠ 7 by decide))
  have f329 : h237 q23 = some (.inl (cs 0, 56, .inl (fun _ => 0))) := by rw [e238]; exact pu_f n228 f328
  have f330 : h242 q23 = some (.inl (cs 0, 56, .inl (fun _ => 0))) := by rw [e243]; exact pu_k f329 (pu_t f329 f241 (show (156 : Nat) ≠ 7 by decide))
  have f331 : h52 q38 = some (.inl (cs 0, 672, .inl (fun _ => 0))) := by rw [e53]; exact pu_f n49 f50
  have f332 : h57 q38 = some (.inl (cs 0, 672, .inl (fun _ => 0))) := by rw [e58]; exact pu_k f331 (pu_t f331 f56 (show (772 : Nat) ≠ 7 by decide))
  have f333 : h60 q38 = some (.inl (cs 0, 672, .inl (fun _ => 0))) := by rw [e61]; exact pu_k f332 (pu_t f332 f59 (show (772 : Nat) ≠ 7 by decide))
  have f334 : h65 q38 = some (.inl (cs 0, 672, .inl (fun _ => 0))) := by rw [e66]; exact pu_f n64 f333
  have f335 : h70 q38 = some (.inl (cs 0, 672, .inl (fun _ => 0))) := by rw [e71]; exact pu_k f334 (pu_t f334 f69 (show (772 : Nat) ≠ 7 by decide))
  have f336 : h77 q38 = some (.inl (cs 0, 672, .inl (fun _ => 0))) := by rw [e78]; exact pu_f n74 f335
  have f337 : h82 q38 = some (.inl (cs 0, 672, .inl (fun _ => 0))) := by rw [e83]; exact pu_k f336 (pu_t f336 f81 (show (772 : Nat) ≠ 7 by decide))
  have f338 : h92 q38 = some (.inl (cs 0, 672, .inl (fun _ => 0))) := by rw [e93]; exact pu_f n86 f337
  have f339 : h97 q38 = some (.inl (cs 0, 672, .inl (fun _ => 0))) := by rw [e98]; exact pu_k f338 (pu_t f338 f96 (show (772 : Nat) ≠ 7 by decide))
  have f340 : h110 q38 = some (.inl (cs 0, 672, .inl (fun _ => 0))) := by rw [e111]; exact pu_f n101 f339
  have f341 : h115 q38 = some (.inl (cs 0, 672, .inl (fun _ => 0))) := by rw [e116]; exact pu_k f340 (pu_t f340 f114 (show (772 : Nat) ≠ 7 by decide))
  have f342 : h131 q38 = some (.inl (cs 0, 672, .inl (fun _ => 0))) := by rw [e132]; exact pu_f n119 f341
  have f343 : h136 q38 = some (.inl (cs 0, 672, .inl (fun _ => 0))) := by rw [e137]; exact pu_k f342 (pu_t f342 f135 (show (772 : Nat) ≠ 7 by decide))
  have f344 : h155 q38 = some (.inl (cs 0, 672, .inl (fun _ => 0))) := by rw [e156]; exact pu_f n140 f343
  have f345 : h160 q38 = some (.inl (cs 0, 672, .inl (fun _ => 0))) := by rw [e161]; exact pu_k f344 (pu_t f344 f159 (show (772 : Nat) ≠ 7 by decide))
  have f346 : h182 q38 = some (.inl (cs 0, 672, .inl (fun _ => 0))) := by rw [e183]; exact pu_f n164 f345
  have f347 : h187 q38 = some (.inl (cs 0, 672, .inl (fun _ => 0))) := by rw [e188]; exact pu_k f346 (pu_t f346 f186 (show (772 : Nat) ≠ 7 by decide))
  have f348 : h192 q38 = some (.inl (cs 0, 672, .inl (fun _ => 0))) := by rw [e193]; exact pu_f n191 f347
  have f349 : h197 q38 = some (.inl (cs 0, 672, .inl (fun _ => 0))) := by rw [e198]; exact pu_k f348 (pu_t f348 f196 (show (772 : Nat) ≠ 7 by decide))
  have f350 : h204 q38 = some (.inl (cs 0, 672, .inl (fun _ => 0))) := by rw [e205]; exact pu_f n201 f349
  have f351 : h209 q38 = some (.inl (cs 0, 672, .inl (fun _ => 0))) := by rw [e210]; exact pu_k f350 (pu_t f350 f208 (show (772 : Nat) ≠ 7 by decide))
  have f352 : h219 q38 = some (.inl (cs 0, 672, .inl (fun _ => 0))) := by rw [e220]; exact pu_f n213 f351
  have f353 : h224 q38 = some (.inl (cs 0, 672, .inl (fun _ => 0))) := by rw [e225]; exact pu_k f352 (pu_t f352 f223 (show (772 : Nat) ≠ 7 by decide))
  have f354 : h237 q38 = some (.inl (cs 0, 672, .inl (fun _ => 0))) := by rw [e238]; exact pu_f n228 f353
  have f355 : h242 q38 = some (.inl (cs 0, 672, .inl (fun _ => 0))) := by rw [e243]; exact pu_k f354 (pu_t f354 f241 (show (772 : Nat) ≠ 7 by decide))
  have f356 : h57 q48 = some (.inl (cs 0, 672, .inl (fun _ => 0))) := by rw [e58]; exact pu_k f55 (pu_t f55 f56 (show (772 : Nat) ≠ 7 by decide))
  have f357 : h60 q48 = some (.inl (cs 0, 672, .inl (fun _ => 0))) := by rw [e61]; exact pu_k f356 (pu_t f356 f59 (show (772 : Nat) ≠ 7 by decide))
  have f358 : h65 q48 = some (.inl (cs 0, 672, .inl (fun _ => 0))) := by rw [e66]; exact pu_f n64 f357
  have f359 : h70 q48 = some (.inl (cs 0, 672, .inl (fun _ => 0))) := by rw [e71]; exact pu_k f358 (pu_t f358 f69 (show (772 : Nat) ≠ 7 by decide))
  have f360 : h77 q48 = some (.inl (cs 0, 672, .inl (fun _ => 0))) := by rw [e78]; exact pu_f n74 f359
  have f361 : h82 q48 = some (.inl (cs 0, 672, .inl (fun _ => 0))) := by rw [e83]; exact pu_k f360 (pu_t f360 f81 (show (772 : Nat) ≠ 7 by decide))
  have f362 : h92 q48 = some (.inl (cs 0, 672, .inl (fun _ => 0))) := by rw [e93]; exact pu_f n86 f361
  have f363 : h97 q48 = some (.inl (cs 0, 672, .inl (fun _ => 0))) := by rw [e98]; exact pu_k f362 (pu_t f362 f96 (show (772 : Nat) ≠ 7 by decide))
  have f364 : h110 q48 = some (.inl (cs 0, 672, .inl (fun _ => 0))) := by rw [e111]; exact pu_f n101 f363
  have f365 : h115 q48 = some (.inl (cs 0, 672, .inl (fun _ => 0))) := by rw [e116]; exact pu_k f364 (pu_t f364 f114 (show (772 : Nat) ≠ 7 by decide))
  have f366 : h131 q48 = some (.inl (cs 0, 672, .inl (fun _ => 0))) := by rw [e132]; exact pu_f n119 f365
  have f367 : h136 q48 = some (.inl (cs 0, 672, .inl (fun _ => 0))) := by rw [e137]; exact pu_k f366 (pu_t f366 f135 (show (772 : Nat) ≠ 7 by decide))
  have f368 : h155 q48 = some (.inl (cs 0, 672, .inl (fun _ => 0))) := by rw [e156]; exact pu_f n140 f367
  have f369 : h160 q48 = some (.inl (cs 0, 672, .inl (fun _ => 0))) := by rw [e161]; exact pu_k f368 (pu_t f368 f159 (show (772 : Nat) ≠ 7 by decide))
  have f370 : h182 q48 = some (.inl (cs 0, 672, .inl (fun _ => 0))) := by rw [e183]; exact pu_f n164 f369
  have f371 : h187 q48 = some (.inl (cs 0, 672, .inl (fun _ => 0))) := by rw [e188]; exact pu_k f370 (pu_t f370 f186 (show (772 : Nat) ≠ 7 by decide))
  have f372 : h192 q48 = some (.inl (cs 0, 672, .inl (fun _ => 0))) := by rw [e193]; exact pu_f n191 f371
  have f373 : h197 q48 = some (.inl (cs 0, 672, .inl (fun _ => 0))) := by rw [e198]; exact pu_k f372 (pu_t f372 f196 (show (772 : Nat) ≠ 7 by decide))
  have f374 : h204 q48 = some (.inl (cs 0, 672, .inl (fun _ => 0))) := by rw [e205]; exact pu_f n201 f373
  have f375 : h209 q48 = some (.inl (cs 0, 672, .inl (fun _ => 0))) := by rw [e210]; exact pu_k f374 (pu_t f374 f208 (show (772 : Nat) ≠ 7 by decide))
  have f376 : h219 q48 = some (.inl (cs 0, 672, .inl (fun _ => 0))) := by rw [e220]; exact pu_f n213 f375
  have f377 : h224 q48 = some (.inl (cs 0, 672, .inl (fun _ => 0))) := by rw [e225]; exact pu_k f376 (pu_t f376 f223 (show (772 : Nat) ≠ 7 by decide))
  have f378 : h237 q48 = some (.inl (cs 0, 672, .inl (fun _ => 0))) := by rw [e238]; exact pu_f n228 f377
  have f379 : h242 q48 = some (.inl (cs 0, 672, .inl (fun _ => 0))) := by rw [e243]; exact pu_k f378 (pu_t f378 f241 (show (772 : Nat) ≠ 7 by decide))
  have f380 : h182 q63 = some (.inl (cs 0, 4, .inl (fun _ => 0))) := by rw [e183]; exact pu_f n164 f166
  have f381 : h187 q63 = some (.inl (cs 0, 4, .inl (fun _ => 0))) := by rw [e188]; exact pu_k f380 (pu_t f380 f186 (show (104 : Nat) ≠ 7 by decide))
  have f382 : h192 q63 = some (.inl (cs 0, 4, .inl (fun _ => 0))) := by rw [e193]; exact pu_f n191 f381
  have f383 : h197 q63 = some (.inl (cs 0, 4, .inl (fun _ => 0))) := by rw [e198]; exact pu_k f382 (pu_t f382 f196 (show (104 : Nat) ≠ 7 by decide))
  have f384 : h204 q63 = some (.inl (cs 0, 4, .inl (fun _ => 0))) := by rw [e205]; exact pu_f n201 f383
  have f385 : h209 q63 = some (.inl (cs 0, 4, .inl (fun _ => 0))) := by rw [e210]; exact pu_k f384 (pu_t f384 f208 (show (104 : Nat) ≠ 7 by decide))
  have f386 : h219 q63 = some (.inl (cs 0, 4, .inl (fun _ => 0))) := by rw [e220]; exact pu_f n213 f385
  have f387 : h224 q63 = some (.inl (cs 0, 4, .inl (fun _ => 0))) := by rw [e225]; exact pu_k f386 (pu_t f386 f223 (show (104 : Nat) ≠ 7 by decide))
  have f388 : h237 q63 = some (.inl (cs 0, 4, .inl (fun _ => 0))) := by rw [e238]; exact pu_f n228 f387
  have f389 : h242 q63 = some (.inl (cs 0, 4, .inl (fun _ => 0))) := by rw [e243]; exact pu_k f388 (pu_t f388 f241 (show (104 : Nat) ≠ 7 by decide))
  have f390 : h182 q73 = some (.inl (cs 0, 4, .inl (fun _ => 0))) := by rw [e183]; exact pu_f n164 f169
  have f391 : h187 q73 = some (.inl (cs 0, 4, .inl (fun _ => 0))) := by rw [e188]; exact pu_k f390 (pu_t f390 f186 (show (104 : Nat) ≠ 7 by decide))
  have f392 : h192 q73 = some (.inl (cs 0, 4, .inl (fun _ => 0))) := by rw [e193]; exact pu_f n191 f391
  have f393 : h197 q73 = some (.inl (cs 0, 4, .inl (fun _ => 0))) := by rw [e198]; exact pu_k f392 (pu_t f392 f196 (show (104 : Nat) ≠ 7 by decide))
  have f394 : h204 q73 = some (.inl (cs 0, 4, .inl (fun _ => 0))) := by rw [e205]; exact pu_f n201 f393
  have f395 : h209 q73 = some (.inl (cs 0, 4, .inl (fun _ => 0))) := by rw [e210]; exact pu_k f394 (pu_t f394 f208 (show (104 : Nat) ≠ 7 by decide))
  have f396 : h219 q73 = some (.inl (cs 0, 4, .inl (fun _ => 0))) := by rw [e220]; exact pu_f n213 f395
  have f397 : h224 q73 = some (.inl (cs 0, 4, .inl (fun _ => 0))) := by rw [e225]; exact pu_k f396 (pu_t f396 f223 (show (104 : Nat) ≠ 7 by decide))
  have f398 : h237 q73 = some (.inl (cs 0, 4, .inl (fun _ => 0))) := by rw [e238]; exact pu_f n228 f397
  have f399 : h242 q73 = some (.inl (cs 0, 4, .inl (fun _ => 0))) := by rw [e243]; exact pu_k f398 (pu_t f398 f241 (show (104 : Nat) ≠ 7 by decide))
  have f400 : h182 q85 = some (.inl (cs 0, 4, .inl (fun _ => 0))) := by rw [e183]; exact pu_f n164 f172
  have f401 : h187 q85 = some (.inl (cs 0, 4, .inl (fun _ => 0))) := by rw [e188]; exact pu_k f400 (pu_t f400 f186 (show (104 : Nat) ≠ 7 by decide))
  have f402 : h192 q85 = some (.inl (cs 0, 4, .inl (fun _ => 0))) := by rw [e193]; exact pu_f n191 f401
  have f403 : h197 q85 = some (.inl (cs 0, 4, .inl (fun _ => 0))) := by rw [e198]; exact pu_k f402 (pu_t f402 f196 (show (104 : Nat) ≠ 7 by decide))
  have f404 : h204 q85 = some (.inl (cs 0, 4, .inl (fun _ => 0))) := by rw [e205]; exact pu_f n201 f403
  have f405 : h209 q85 = some (.inl (cs 0, 4, .inl (fun _ => 0))) := by rw [e210]; exact pu_k f404 (pu_t f404 f208 (show (104 : Nat) ≠ 7 by decide))
  have f406 : h219 q85 = some (.inl (cs 0, 4, .inl (fun _ => 0))) := by rw [e220]; exact pu_f n213 f405
  have f407 : h224 q85 = some (.inl (cs 0, 4, .inl (fun _ => 0))) := by rw [e225]; exact pu_k f406 (pu_t f406 f223 (show (104 : Nat) ≠ 7 by decide))
  have f408 : h237 q85 = some (.inl (cs 0, 4, .inl (fun _ => 0))) := by rw [e238]; exact pu_f n228 f407
  have f409 : h242 q85 = some (.inl (cs 0, 4, .inl (fun _ => 0))) := by rw [e243]; exact pu_k f408 (pu_t f408 f241 (show (104 : Nat) ≠ 7 by decide))
  have f410 : h182 q100 = some (.inl (cs 0, 4, .inl (fun _ => 0))) := by rw [e183]; exact pu_f n164 f175
  have f411 : h187 q100 = some (.inl (cs 0, 4, .inl (fun _ => 0))) := by rw [e188]; exact pu_k f410 (pu_t f410 f186 (show (104 : Nat) ≠ 7 by decide))
  have f412 : h192 q100 = some (.inl (cs 0, 4, .inl (fun _ => 0))) := by rw [e193]; exact pu_f n191 f411
  have f413 : h197 q100 = some (.inl (cs 0, 4, .inl (fun _ => 0))) := by rw [e198]; exact pu_k f412 (pu_t f412 f196 (show (104 : Nat) ≠ 7 by decide))
  have f414 : h204 q100 = some (.inl (cs 0, 4, .inl (fun _ => 0))) := by rw [e205]; exact pu_f n201 f413
  have f415 : h209 q100 = some (.inl (cs 0, 4, .inl (fun _ => 0))) := by rw [e210]; exact pu_k f414 (pu_t f414 f208 (show (104 : Nat) ≠ 7 by decide))
  have f416 : h219 q100 = some (.inl (cs 0, 4, .inl (fun _ => 0))) := by rw [e220]; exact pu_f n213 f415
  have f417 : h224 q100 = some (.inl (cs 0, 4, .inl (fun _ => 0))) := by rw [e225]; exact pu_k f416 (pu_t f416 f223 (show (104 : Nat) ≠ 7 by decide))
  have f418 : h237 q100 = some (.inl (cs 0, 4, .inl (fun _ => 0))) := by rw [e238]; exact pu_f n228 f417
  have f419 : h242 q100 = some (.inl (cs 0, 4, .inl (fun _ => 0))) := by rw [e243]; exact pu_k f418 (pu_t f418 f241 (show (104 : Nat) ≠ 7 by decide))
  have f420 : h182 q118 = some (.inl (cs 0, 4, .inl (fun _ => 0))) := by rw [e183]; exact pu_f n164 f178
  have f421 : h187 q118 = some (.inl (cs 0, 4, .inl (fun _ => 0))) := by rw [e188]; exact pu_k f420 (pu_t f420 f186 (show (104 : Nat) ≠ 7 by decide))
  have f422 : h192 q118 = some (.inl (cs 0, 4, .inl (fun _ => 0))) := by rw [e193]; exact pu_f n191 f421
  have f423 : h197 q118 = some (.inl (cs 0, 4, .inl (fun _ => 0))) := by rw [e198]; exact pu_k f422 (pu_t f422 f196 (show (104 : Nat) ≠ 7 by decide))
  have f424 : h204 q118 = some (.inl (cs 0, 4, .inl (fun _ => 0))) := by rw [e205]; exact pu_f n201 f423
  have f425 : h209 q118 = some (.inl (cs 0, 4, .inl (fun _ => 0))) := by rw [e210]; exact pu_k f424 (pu_t f424 f208 (show (104 : Nat) ≠ 7 by decide))
  have f426 : h219 q118 = some (.inl (cs 0, 4, .inl (fun _ => 0))) := by rw [e220]; exact pu_f n213 f425
  have f427 : h224 q118 = some (.inl (cs 0, 4, .inl (fun _ => 0))) := by rw [e225]; exact pu_k f426 (pu_t f426 f223 (show (104 : Nat) ≠ 7 by decide))
  have f428 : h237 q118 = some (.inl (cs 0, 4, .inl (fun _ => 0))) := by rw [e238]; exact pu_f n228 f427
  have f429 : h242 q118 = some (.inl (cs 0, 4, .inl (fun _ => 0))) := by rw [e243]; exact pu_k f428 (pu_t f428 f241 (show (104 : Nat) ≠ 7 by decide))
  have f430 : h182 q139 = some (.inl (cs 0, 4, .inl (fun _ => 0))) := by rw [e183]; exact pu_f n164 f180
  have f431 : h187 q139 = some (.inl (cs 0, 4, .inl (fun _ => 0))) := by rw [e188]; exact pu_k f430 (pu_t f430 f186 (show (104 : Nat) ≠ 7 by decide))
  have f432 : h192 q139 = some (.inl (cs 0, 4, .inl (fun _ => 0))) := by rw [e193]; exact pu_f n191 f431
  have f433 : h197 q139 = some (.inl (cs 0, 4, .inl (fun _ => 0))) := by rw [e198]; exact pu_k f432 (pu_t f432 f196 (show (104 : Nat) ≠ 7 by decide))
  have f434 : h204 q139 = some (.inl (cs 0, 4, .inl (fun _ => 0))) := by rw [e205]; exact pu_f n201 f433
  have f435 : h209 q139 = some (.inl (cs 0, 4, .inl (fun _ => 0))) := by rw [e210]; exact pu_k f434 (pu_t f434 f208 (show (104 : Nat) ≠ 7 by decide))
  have f436 : h219 q139 = some (.inl (cs 0, 4, .inl (fun _ => 0))) := by rw [e220]; exact pu_f n213 f435
  have f437 : h224 q139 = some (.inl (cs 0, 4, .inl (fun _ => 0))) := by rw [e225]; exact pu_k f436 (pu_t f436 f223 (show (104 : Nat) ≠ 7 by decide))
  have f438 : h237 q139 = some (.inl (cs 0, 4, .inl (fun _ => 0))) := by rw [e238]; exact pu_f n228 f437
  have f439 : h242 q139 = some (.inl (cs 0, 4, .inl (fun _ => 0))) := by rw [e243]; exact pu_k f438 (pu_t f438 f241 (show (104 : Nat) ≠ 7 by decide))
  have f440 : h187 q163 = some (.inl (cs 0, 4, .inl (fun _ => 0))) := by rw [e188]; exact pu_k f185 (pu_t f185 f186 (show (104 : Nat) ≠ 7 by decide))
  have f441 : h192 q163 = some (.inl (cs 0, 4, .inl (fun _ => 0))) := by rw [e193]; exact pu_f n191 f440
  have f442 : h197 q163 = some (.inl (cs 0, 4, .inl (fun _ => 0))) := by rw [e198]; exact pu_k f441 (pu_t f441 f196 (show (104 : Nat) ≠ 7 by decide))
  have f443 : h204 q163 = some (.inl (cs 0, 4, .inl (fun _ => 0))) := by rw [e205]; exact pu_f n201 f442
  have f444 : h209 q163 = some (.inl (cs 0, 4, .inl (fun _ => 0))) := by rw [e210]; exact pu_k f443 (pu_t f443 f208 (show (104 : Nat) ≠ 7 by decide))
  have f445 : h219 q163 = some (.inl (cs 0, 4, .inl (fun _ => 0))) := by rw [e220]; exact pu_f n213 f444
  have f446 : h224 q163 = some (.inl (cs 0, 4, .inl (fun _ => 0))) := by rw [e225]; exact pu_k f445 (pu_t f445 f223 (show (104 : Nat) ≠ 7 by decide))
  have f447 : h237 q163 = some (.inl (cs 0, 4, .inl (fun _ => 0))) := by rw [e238]; exact pu_f n228 f446
  have f448 : h242 q163 = some (.inl (cs 0, 4, .inl (fun _ => 0))) := by rw [e243]; exact pu_k f447 (pu_t f447 f241 (show (104 : Nat) ≠ 7 by decide))
  have f449 : h237 q190 = some (.inl (cs 0, 24, .inl (fun _ => 0))) := by rw [e238]; exact pu_f n228 f230
  have f450 : h242 q190 = some (.inl (cs 0, 24, .inl (fun _ => 0))) := by rw [e243]; exact pu_k f449 (pu_t f449 f241 (show (124 : Nat) ≠ 7 by decide))
  have f451 : h237 q200 = some (.inl (cs 0, 24, .inl (fun _ => 0))) := by rw [e238]; exact pu_f n228 f233
  have f452 : h242 q200 = some (.inl (cs 0, 24, .inl (fun _ => 0))) := by rw [e243]; exact pu_k f451 (pu_t f451 f241 (show (124 : Nat) ≠ 7 by decide))
  have f453 : h237 q212 = some (.inl (cs 0, 24, .inl (fun _ => 0))) := by rw [e238]; exact pu_f n228 f235
  have f454 : h242 q212 = some (.inl (cs 0, 24, .inl (fun _ => 0))) := by rw [e243]; exact pu_k f453 (pu_t f453 f241 (show (124 : Nat) ≠ 7 by decide))
  have f455 : h242 q227 = some (.inl (cs 0, 24, .inl (fun _ => 0))) := by rw [e243]; exact pu_k f240 (pu_t f240 f241 (show (124 : Nat) ≠ 7 by decide))
  have hcase : ∀ k : Nat, k < 16 → k = 0 ∨ k = 1 ∨ k = 2 ∨ k = 3 ∨ k = 4 ∨ k = 5 ∨ k = 6 ∨ k = 7 ∨ k = 8 ∨ k = 9 ∨ k = 10 ∨ k = 11 ∨ k = 12 ∨ k = 13 ∨ k = 14 ∨ k = 15 := fun k hk => by omega
  obtain ⟨ad, had⟩ : ∃ ad : Nat → Nat, ad 0 = q1 ∧ ad 1 = q11 ∧ ad 2 = q23 ∧ ad 3 = q38 ∧ ad 4 = q48 ∧ ad 5 = q63 ∧ ad 6 = q73 ∧ ad 7 = q85 ∧ ad 8 = q100 ∧ ad 9 = q118 ∧ ad 10 = q139 ∧ ad 11 = q163 ∧ ad 12 = q190 ∧ ad 13 = q200 ∧ ad 14 = q212 ∧ ad 15 = q227 := ⟨(fun k => match k with | 0 => q1 | 1 => q11 | 2 => q23 | 3 => q38 | 4 => q48 | 5 => q63 | 6 => q73 | 7 => q85 | 8 => q100 | 9 => q118 | 10 => q139 | 11 => q163 | 12 => q190 | 13 => q200 | 14 => q212 | _ => q227), rfl, rfl, rfl, rfl, rfl, rfl, rfl, rfl, rfl, rfl, rfl, rfl, rfl, rfl, rfl, rfl⟩
  obtain ⟨hd0z, hd1z, hd2z, hd3z, hd4z, hd5z, hd6z, hd7z, hd8z, hd9z, hd10z, hd11z, hd12z, hd13z, hd14z, hd15z⟩ := had
  refine pw_vret F hr hlk hP hA hK hS (by decide) (by decide) d_M_init_132 ⟨ad, ⟨?_, ?_, inj16 ?_⟩, hx⟩
  · rw [f244]; simp only [mfs, hd0z, hd1z, hd2z, hd3z, hd4z, hd5z, hd6z, hd7z, hd8z, hd9z, hd10z, hd11z, hd12z, hd13z, hd14z, hd15z]; rfl
  · intro k hk; rcases hcase k hk with rfl | rfl | rfl | rfl | rfl | rfl | rfl | rfl | rfl | rfl | rfl | rfl | rfl | rfl | rfl | rfl
    · rw [hd0z, f273]; rfl
    · rw [hd1z, f302]; rfl
    · rw [hd2z, f330]; rfl
    · rw [hd3z, f355]; rfl
    · rw [hd4z, f379]; rfl
    · rw [hd5z, f389]; rfl
    · rw [hd6z, f399]; rfl
    · rw [hd7z, f409]; rfl
    · rw [hd8z, f419]; rfl
    · rw [hd9z, f429]; rfl
    · rw [hd10z, f439]; rfl
    · rw [hd11z, f448]; rfl
    · rw [hd12z, f450]; rfl
    · rw [hd13z, f452]; rfl
    · rw [hd14z, f454]; rfl
    · rw [hd15z, f455]; rfl
  · intro i hi; rcases hcase i hi with rfl | rfl | rfl | rfl | rfl | rfl | rfl | rfl | rfl | rfl | rfl | rfl | rfl | rfl | rfl | rfl
    · intro j hj; omega
    · intro j hj; rcases (show j = 0 by omega) with rfl
      · rw [hd1z, hd0z]; exact (Ne.symm k14)
    · intro j hj; rcases (show j = 0 ∨ j = 1 by omega) with rfl | rfl
      · rw [hd2z, hd0z]; exact (Ne.symm k27)
      · rw [hd2z, hd1z]; exact (Ne.symm k29)
    · intro j hj; rcases (show j = 0 ∨ j = 1 ∨ j = 2 by omega) with rfl | rfl | rfl
      · rw [hd3z, hd0z]; exact (pu_t f355 f273 (show (772 : Nat) ≠ 156 by decide))
      · rw [hd3z, hd1z]; exact (pu_t f355 f302 (show (772 : Nat) ≠ 156 by decide))
      · rw [hd3z, hd2z]; exact (pu_t f355 f330 (show (772 : Nat) ≠ 156 by decide))
    · intro j hj; rcases (show j = 0 ∨ j = 1 ∨ j = 2 ∨ j = 3 by omega) with rfl | rfl | rfl | rfl
      · rw [hd4z, hd0z]; exact (pu_t f379 f273 (show (772 : Nat) ≠ 156 by decide))
      · rw [hd4z, hd1z]; exact (pu_t f379 f302 (show (772 : Nat) ≠ 156 by decide))
      · rw [hd4z, hd2z]; exact (pu_t f379 f330 (show (772 : Nat) ≠ 156 by decide))
      · rw [hd4z, hd3z]; exact (Ne.symm k51)
    · intro j hj; rcases (show j = 0 ∨ j = 1 ∨ j = 2 ∨ j = 3 ∨ j = 4 by omega) with rfl | rfl | rfl | rfl | rfl
      · rw [hd5z, hd0z]; exact (pu_t f389 f273 (show (104 : Nat) ≠ 156 by decide))
      · rw [hd5z, hd1z]; exact (pu_t f389 f302 (show (104 : Nat) ≠ 156 by decide))
      · rw [hd5z, hd2z]; exact (pu_t f389 f330 (show (104 : Nat) ≠ 156 by decide))
      · rw [hd5z, hd3z]; exact (pu_t f389 f355 (show (104 : Nat) ≠ 772 by decide))
      · rw [hd5z, hd4z]; exact (pu_t f389 f379 (show (104 : Nat) ≠ 772 by decide))
    · intro j hj; rcases (show j = 0 ∨ j = 1 ∨ j = 2 ∨ j = 3 ∨ j = 4 ∨ j = 5 by omega) with rfl | rfl | rfl | rfl | rfl | rfl
      · rw [hd6z, hd0z]; exact (pu_t f399 f273 (show (104 : Nat) ≠ 156 by decide))
      · rw [hd6z, hd1z]; exact (pu_t f399 f302 (show (104 : Nat) ≠ 156 by decide))
      · rw [hd6z, hd2z]; exact (pu_t f399 f330 (show (104 : Nat) ≠ 156 by decide))
      · rw [hd6z, hd3z]; exact (pu_t f399 f355 (show (104 : Nat) ≠ 772 by decide))
      · rw [hd6z, hd4z]; exact (pu_t f399 f379 (show (104 : Nat) ≠ 772 by decide))
      · rw [hd6z, hd5z]; exact (Ne.symm k76)
    · intro j hj; rcases (show j = 0 ∨ j = 1 ∨ j = 2 ∨ j = 3 ∨ j = 4 ∨ j = 5 ∨ j = 6 by omega) with rfl | rfl | rfl | rfl | rfl | rfl | rfl
      · rw [hd7z, hd0z]; exact (pu_t f409 f273 (show (104 : Nat) ≠ 156 by decide))
      · rw [hd7z, hd1z]; exact (pu_t f409 f302 (show (104 : Nat) ≠ 156 by decide))
      · rw [hd7z, hd2z]; exact (pu_t f409 f330 (show (104 : Nat) ≠ 156 by decide))
      · rw [hd7z, hd3z]; exact (pu_t f409 f355 (show (104 : Nat) ≠ 772 by decide))
      · rw [hd7z, hd4z]; exact (pu_t f409 f379 (show (104 : Nat) ≠ 772 by decide))
      · rw [hd7z, hd5z]; exact (Ne.symm k89)
      · rw [hd7z, hd6z]; exact (Ne.symm k91)
    · intro j hj; rcases (show j = 0 ∨ j = 1 ∨ j = 2 ∨ j = 3 ∨ j = 4 ∨ j = 5 ∨ j = 6 ∨ j = 7 by omega) with rfl | rfl | rfl | rfl | rfl | rfl | rfl | rfl
      · rw [hd8z, hd0z]; exact (pu_t f419 f273 (show (104 : Nat) ≠ 156 by decide))
      · rw [hd8z, hd1z]; exact (pu_t f419 f302 (show (104 : Nat) ≠ 156 by decide))
      · rw [hd8z, hd2z]; exact (pu_t f419 f330 (show (104 : Nat) ≠ 156 by decide))
      · rw [hd8z, hd3z]; exact (pu_t f419 f355 (show (104 : Nat) ≠ 772 by decide))
      · rw [hd8z, hd4z]; exact (pu_t f419 f379 (show (104 : Nat) ≠ 772 by decide))
      · rw [hd8z, hd5z]; exact (Ne.symm k104)
      · rw [hd8z, hd6z]; exact (Ne.symm k107)
      · rw [hd8z, hd7z]; exact (Ne.symm k109)
    · intro j hj; rcases (show j = 0 ∨ j = 1 ∨ j = 2 ∨ j = 3 ∨ j = 4 ∨ j = 5 ∨ j = 6 ∨ j = 7 ∨ j = 8 by omega) with rfl | rfl | rfl | rfl | rfl | rfl | rfl | rfl | rfl
      · rw [hd9z, hd0z]; exact (pu_t f429 f273 (show (104 : Nat) ≠ 156 by decide))
      · rw [hd9z, hd1z]; exact (pu_t f429 f302 (show (104 : Nat) ≠ 156 by decide))
      · rw [hd9z, hd2z]; exact (pu_t f429 f330 (show (104 : Nat) ≠ 156 by decide))
      · rw [hd9z, hd3z]; exact (pu_t f429 f355 (show (104 : Nat) ≠ 772 by decide))
      · rw [hd9z, hd4z]; exact (pu_t f429 f379 (show (104 : Nat) ≠ 772 by decide))
      · rw [hd9z, hd5z]; exact (Ne.symm k122)
      · rw [hd9z, hd6z]; exact (Ne.symm k125)
      · rw [hd9z, hd7z]; exact (Ne.symm k128)
      · rw [hd9z, hd8z]; exact (Ne.symm k130)
    · intro j hj; rcases (show j = 0 ∨ j = 1 ∨ j = 2 ∨ j = 3 ∨ j = 4 ∨ j = 5 ∨ j = 6 ∨ j = 7 ∨ j = 8 ∨ j = 9 by omega) with rfl | rfl | rfl | rfl | rfl | rfl | rfl | rfl | rfl | rfl
      · rw [hd10z, hd0z]; exact (pu_t f439 f273 (show (104 : Nat) ≠ 156 by decide))
      · rw [hd10z, hd1z]; exact (pu_t f439 f302 (show (104 : Nat) ≠ 156 by decide))
      · rw [hd10z, hd2z]; exact (pu_t f439 f330 (show (104 : Nat) ≠ 156 by decide))
      · rw [hd10z, hd3z]; exact (pu_t f439 f355 (show (104 : Nat) ≠ 772 by decide))
      · rw [hd10z, hd4z]; exact (pu_t f439 f379 (show (104 : Nat) ≠ 772 by decide))
      · rw [hd10z, hd5z]; exact (Ne.symm k143)
      · rw [hd10z, hd6z]; exact (Ne.symm k146)
      · rw [hd10z, hd7z]; exact (Ne.symm k149)
      · rw [hd10z, hd8z]; exact (Ne.symm k152)
      · rw [hd10z, hd9z]; exact (Ne.symm k154)
    · intro j hj; rcases (show j = 0 ∨ j = 1 ∨ j = 2 ∨ j = 3 ∨ j = 4 ∨ j = 5 ∨ j = 6 ∨ j = 7 ∨ j = 8 ∨ j = 9 ∨ j = 10 by omega) with rfl | rfl | rfl | rfl | rfl | rfl | rfl | rfl | rfl | rfl | rfl
      · rw [hd11z, hd0z]; exact (pu_t f448 f273 (show (104 : Nat) ≠ 156 by decide))
      · rw [hd11z, hd1z]; exact (pu_t f448 f302 (show (104 : Nat) ≠ 156 by decide))
      · rw [hd11z, hd2z]; exact (pu_t f448 f330 (show (104 : Nat) ≠ 156 by decide))
      · rw [hd11z, hd3z]; exact (pu_t f448 f355 (show (104 : Nat) ≠ 772 by decide))
      · rw [hd11z, hd4z]; exact (pu_t f448 f379 (show (104 : Nat) ≠ 772 by decide))
      · rw [hd11z, hd5z]; exact (Ne.symm k167)
      · rw [hd11z, hd6z]; exact (Ne.symm k170)
      · rw [hd11z, hd7z]; exact (Ne.symm k173)
      · rw [hd11z, hd8z]; exact (Ne.symm k176)
      · rw [hd11z, hd9z]; exact (Ne.symm k179)
      · rw [hd11z, hd10z]; exact (Ne.symm k181)
    · intro j hj; rcases (show j = 0 ∨ j = 1 ∨ j = 2 ∨ j = 3 ∨ j = 4 ∨ j = 5 ∨ j = 6 ∨ j = 7 ∨ j = 8 ∨ j = 9 ∨ j = 10 ∨ j = 11 by omega) with rfl | rfl | rfl | rfl | rfl | rfl | rfl | rfl | rfl | rfl | rfl | rfl
      · rw [hd12z, hd0z]; exact (pu_t f450 f273 (show (124 : Nat) ≠ 156 by decide))
      · rw [hd12z, hd1z]; exact (pu_t f450 f302 (show (124 : Nat) ≠ 156 by decide))
      · rw [hd12z, hd2z]; exact (pu_t f450 f330 (show (124 : Nat) ≠ 156 by decide))
      · rw [hd12z, hd3z]; exact (pu_t f450 f355 (show (124 : Nat) ≠ 772 by decide))
      · rw [hd12z, hd4z]; exact (pu_t f450 f379 (show (124 : Nat) ≠ 772 by decide))
      · rw [hd12z, hd5z]; exact (pu_t f450 f389 (show (124 : Nat) ≠ 104 by decide))
      · rw [hd12z, hd6z]; exact (pu_t f450 f399 (show (124 : Nat) ≠ 104 by decide))
      · rw [hd12z, hd7z]; exact (pu_t f450 f409 (show (124 : Nat) ≠ 104 by decide))
      · rw [hd12z, hd8z]; exact (pu_t f450 f419 (show (124 : Nat) ≠ 104 by decide))
      · rw [hd12z, hd9z]; exact (pu_t f450 f429 (show (124 : Nat) ≠ 104 by decide))
      · rw [hd12z, hd10z]; exact (pu_t f450 f439 (show (124 : Nat) ≠ 104 by decide))
      · rw [hd12z, hd11z]; exact (pu_t f450 f448 (show (124 : Nat) ≠ 104 by decide))
    · intro j hj; rcases (show j = 0 ∨ j = 1 ∨ j = 2 ∨ j = 3 ∨ j = 4 ∨ j = 5 ∨ j = 6 ∨ j = 7 ∨ j = 8 ∨ j = 9 ∨ j = 10 ∨ j = 11 ∨ j = 12 by omega) with rfl | rfl | rfl | rfl | rfl | rfl | rfl | rfl | rfl | rfl | rfl | rfl | rfl
      · rw [hd13z, hd0z]; exact (pu_t f452 f273 (show (124 : Nat) ≠ 156 by decide))
      · rw [hd13z, hd1z]; exact (pu_t f452 f302 (show (124 : Nat) ≠ 156 by decide))
      · rw [hd13z, hd2z]; exact (pu_t f452 f330 (show (124 : Nat) ≠ 156 by decide))
      · rw [hd13z, hd3z]; exact (pu_t f452 f355 (show (124 : Nat) ≠ 772 by decide))
      · rw [hd13z, hd4z]; exact (pu_t f452 f379 (show (124 : Nat) ≠ 772 by decide))
      · rw [hd13z, hd5z]; exact (pu_t f452 f389 (show (124 : Nat) ≠ 104 by decide))
      · rw [hd13z, hd6z]; exact (pu_t f452 f399 (show (124 : Nat) ≠ 104 by decide))
      · rw [hd13z, hd7z]; exact (pu_t f452 f409 (show (124 : Nat) ≠ 104 by decide))
      · rw [hd13z, hd8z]; exact (pu_t f452 f419 (show (124 : Nat) ≠ 104 by decide))
      · rw [hd13z, hd9z]; exact (pu_t f452 f429 (show (124 : Nat) ≠ 104 by decide))
      · rw [hd13z, hd10z]; exact (pu_t f452 f439 (show (124 : Nat) ≠ 104 by decide))
      · rw [hd13z, hd11z]; exact (pu_t f452 f448 (show (124 : Nat) ≠ 104 by decide))
      · rw [hd13z, hd12z]; exact (Ne.symm k203)
    · intro j hj; rcases (show j = 0 ∨ j = 1 ∨ j = 2 ∨ j = 3 ∨ j = 4 ∨ j = 5 ∨ j = 6 ∨ j = 7 ∨ j = 8 ∨ j = 9 ∨ j = 10 ∨ j = 11 ∨ j = 12 ∨ j = 13 by omega) with rfl | rfl | rfl | rfl | rfl | rfl | rfl | rfl | rfl | rfl | rfl | rfl | rfl | rfl
      · rw [hd14z, hd0z]; exact (pu_t f454 f273 (show (124 : Nat) ≠ 156 by decide))
      · rw [hd14z, hd1z]; exact (pu_t f454 f302 (show (124 : Nat) ≠ 156 by decide))
      · rw [hd14z, hd2z]; exact (pu_t f454 f330 (show (124 : Nat) ≠ 156 by decide))
      · rw [hd14z, hd3z]; exact (pu_t f454 f355 (show (124 : Nat) ≠ 772 by decide))
      · rw [hd14z, hd4z]; exact (pu_t f454 f379 (show (124 : Nat) ≠ 772 by decide))
      · rw [hd14z, hd5z]; exact (pu_t f454 f389 (show (124 : Nat) ≠ 104 by decide))
      · rw [hd14z, hd6z]; exact (pu_t f454 f399 (show (124 : Nat) ≠ 104 by decide))
      · rw [hd14z, hd7z]; exact (pu_t f454 f409 (show (124 : Nat) ≠ 104 by decide))
      · rw [hd14z, hd8z]; exact (pu_t f454 f419 (show (124 : Nat) ≠ 104 by decide))
      · rw [hd14z, hd9z]; exact (pu_t f454 f429 (show (124 : Nat) ≠ 104 by decide))
      · rw [hd14z, hd10z]; exact (pu_t f454 f439 (show (124 : Nat) ≠ 104 by decide))
      · rw [hd14z, hd11z]; exact (pu_t f454 f448 (show (124 : Nat) ≠ 104 by decide))
      · rw [hd14z, hd12z]; exact (Ne.symm k216)
      · rw [hd14z, hd13z]; exact (Ne.symm k218)
    · intro j hj; rcases (show j = 0 ∨ j = 1 ∨ j = 2 ∨ j = 3 ∨ j = 4 ∨ j = 5 ∨ j = 6 ∨ j = 7 ∨ j = 8 ∨ j = 9 ∨ j = 10 ∨ j = 11 ∨ j = 12 ∨ j = 13 ∨ j = 14 by omega) with rfl | rfl | rfl | rfl | rfl | rfl | rfl | rfl | rfl | rfl | rfl | rfl | rfl | rfl | rfl
      · rw [hd15z, hd0z]; exact (pu_t f455 f273 (show (124 : Nat) ≠ 156 by decide))
      · rw [hd15z, hd1z]; exact (pu_t f455 f302 (show (124 : Nat) ≠ 156 by decide))
      · rw [hd15z, hd2z]; exact (pu_t f455 f330 (show (124 : Nat) ≠ 156 by decide))
      · rw [hd15z, hd3z]; exact (pu_t f455 f355 (show (124 : Nat) ≠ 772 by decide))
      · rw [hd15z, hd4z]; exact (pu_t f455 f379 (show (124 : Nat) ≠ 772 by decide))
      · rw [hd15z, hd5z]; exact (pu_t f455 f389 (show (124 : Nat) ≠ 104 by decide))
      · rw [hd15z, hd6z]; exact (pu_t f455 f399 (show (124 : Nat) ≠ 104 by decide))
      · rw [hd15z, hd7z]; exact (pu_t f455 f409 (show (124 : Nat) ≠ 104 by decide))
      · rw [hd15z, hd8z]; exact (pu_t f455 f419 (show (124 : Nat) ≠ 104 by decide))
      · rw [hd15z, hd9z]; exact (pu_t f455 f429 (show (124 : Nat) ≠ 104 by decide))
      · rw [hd15z, hd10z]; exact (pu_t f455 f439 (show (124 : Nat) ≠ 104 by decide))
      · rw [hd15z, hd11z]; exact (pu_t f455 f448 (show (124 : Nat) ≠ 104 by decide))
      · rw [hd15z, hd12z]; exact (Ne.symm k231)
      · rw [hd15z, hd13z]; exact (Ne.symm k234)
      · rw [hd15z, hd14z]; exact (Ne.symm k236)
