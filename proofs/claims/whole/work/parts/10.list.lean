theorem sf_mod : Cond.sameField "java/util/ArrayList" "java/util/AbstractList" "modCount" "I" ∈ gws := gw_in 77 (by decide +kernel) (by decide +kernel)
abbrev rm_ABC_init : Room := { frames := 1, cells := 0, slots := 0, locals := 16 }
set_option maxHeartbeats 4000000 in
set_option maxRecDepth 100000 in
theorem c_ABC_init (l : Launch) (D : va_G) (cs : Nat → Nat) (A : Nat → Prop) (h : pw_H) (L : Nat) : pm l y_ABC_init b_ABC_init 1 none rm_ABC_init [.ref L] D cs A h (va_Qv (fun (h' : pw_H) => h' = h) (ww D cs A) A) 0 0 := by
  refine pm_of R_ABC rfl (by decide) (Nat.le_of_ble_eq_true rfl) (fun p e s m below meth c ls F hr hlk hnm hP hA hK hl => ?_)
  have hS : va_S A s.heap s.heap [] := va_S.rf
  replace hl : lv_has ls 1 [(0, .ref L)] := hl
  refine lv_aload_n F.1 F.2.1 d_ABC_init_0 rfl (lv_at hl 0 rfl) ?_
  refine W.objInit F.1 F.2.1 F.2.2.2.1 (F.2.2.2.2 _ O_ABC_1) (F.2.2.2.2 _ iM_obj) (F.2.2.2.2 _ co_obj) rfl (hl.1.trans F.2.2.1.symm) rfl d_ABC_init_1 (by decide) (Nat.le_of_ble_eq_true rfl) ?_
  refine W.eq (g2 := F0 m 4 ls []) (by rfl) ?_
  exact pw_vret F hr hlk hP hA hK hS (by decide) (by decide) d_ABC_init_4 rfl
abbrev rm_ABL_init : Room := { frames := 2, cells := 0, slots := 0, locals := 36 }
set_option maxHeartbeats 4000000 in
set_option maxRecDepth 100000 in
theorem c_ABL_init (l : Launch) (D : va_G) (cs : Nat → Nat) (A : Nat → Prop) (h : pw_H) (L : Nat) (E n : Value) (mc : Value) (fL : h L = some (.inr (0, [E, n, mc]))) : pm l y_ABL_init b_ABL_init 1 none rm_ABL_init [.ref L] D cs A h (va_Qv (fun (h' : pw_H) => h' L = some (.inr (0, [E, n, .int 0])) ∧ ext h h' [L]) (ww D cs A) A) 0 0 := by
  refine pm_of R_ABL rfl (by decide) (Nat.le_of_ble_eq_true rfl) (fun p e s m below meth c ls F hr hlk hnm hP hA hK hl => ?_)
  have hS : va_S A s.heap s.heap [] := va_S.rf
  replace hl : lv_has ls 1 [(0, .ref L)] := hl
  have hx : ext h h [L] := ext.rf
  refine lv_aload_n F.1 F.2.1 d_ABL_init_0 rfl (lv_at hl 0 rfl) ?_
  refine pw_cvE (pr_I F (c_ABC_init l D cs A h L) X_ABL_1 rfl rfl ⟨by decide, by decide⟩ hP hA hK hS rfl hl.1 rfl (Nat.le_of_ble_eq_true rfl) d_ABL_init_1 ⟨by decide, by decide⟩) hS (fun H locs hP hS => ?_)
  refine lv_aload_n F.1 F.2.1 d_ABL_init_4 rfl (lv_at hl 0 rfl) ?_
  refine lv_iconst (v := 0) F.1 F.2.1 d_ABL_init_5 (by decide) ?_
  refine pw_put F I_AL ty_AL k_AL n_AL hK.1 hP hS fL rfl 2 (by decide) L_ABL_7 (fun _ z => z) rfl rfl rfl (Nat.le_of_ble_eq_true rfl) d_ABL_init_6 (fun H locs hP hS => ?_)
  replace hP : pw D vwCl A (pu h L (.inr (0, [E, n, .int 0]))) H := hP
  obtain ⟨h1, e2⟩ : ∃ z9 : pw_H, z9 = pu h L (.inr (0, [E, n, .int 0])) := ⟨_, rfl⟩
  rw [← e2] at hP
  have hx : ext h h1 [L] := by rw [e2]; exact hx.pu (Or.inl (by simp))
  have f3 : h1 L = some (.inr (0, [E, n, .int 0])) := by rw [e2]; exact pu_s
  exact pw_vret F hr hlk hP hA hK hS (by decide) (by decide) d_ABL_init_9 ⟨f3, hx⟩
abbrev rm_AL_init : Room := { frames := 3, cells := 0, slots := 0, locals := 56 }
set_option maxHeartbeats 4000000 in
set_option maxRecDepth 100000 in
theorem c_AL_init (l : Launch) (D : va_G) (cs : Nat → Nat) (A : Nat → Prop) (h : pw_H) (L : Nat) (fL : h L = some (.inr (0, [.null, .int 0, .int 0]))) : pm l y_AL_init b_AL_init 1 none rm_AL_init [.ref L] D cs A h (va_Qv (fun (h' : pw_H) => h' L = some (.inr (0, [.ref (cs 9), .int 0, .int 0])) ∧ ext h h' [L]) (ww D cs A) A) 0 0 := by
  refine pm_of R_AL rfl (by decide) (Nat.le_of_ble_eq_true rfl) (fun p e s m below meth c ls F hr hlk hnm hP hA hK hl => ?_)
  have hS : va_S A s.heap s.heap [] := va_S.rf
  replace hl : lv_has ls 1 [(0, .ref L)] := hl
  have hx : ext h h [L] := ext.rf
  refine lv_aload_n F.1 F.2.1 d_AL_init_0 rfl (lv_at hl 0 rfl) ?_
  refine pw_cv (pr_I F (c_ABL_init l D cs A h L _ _ _ fL) X_AL_1 rfl rfl ⟨by decide, by decide⟩ hP hA hK hS rfl hl.1 rfl (Nat.le_of_ble_eq_true rfl) d_AL_init_1 ⟨by decide, by decide⟩) hS (fun hw1 H locs hq hP hS => ?_)
  obtain ⟨jw1, jw2⟩ := hq
  have hx : ext h hw1 [L] := hx.trans jw2 (fun y hy => by
    simp only [List.mem_cons, List.not_mem_nil, or_false] at hy
    rcases hy with rfl
    · exact Or.inl (by simp))
  refine lv_aload_n F.1 F.2.1 d_AL_init_4 rfl (lv_at hl 0 rfl) ?_
  refine va_gets F.1 F.2.1 hK.2.1 hS F.2.2.2.1 (F.2.2.2.2 _ L_AL_39) (fun _ z => z) d_AL_init_5 ?_
  refine pw_put F I_AL ty_AL k_AL n_AL hK.1 hP hS jw1 rfl 0 (by decide) L_AL_9 (fun _ z => z) rfl rfl rfl (Nat.le_of_ble_eq_true rfl) d_AL_init_8 (fun H locs hP hS => ?_)
  replace hP : pw D vwCl A (pu hw1 L (.inr (0, [.ref (cs 9), .int 0, .int 0]))) H := hP
  obtain ⟨h1, e2⟩ : ∃ z9 : pw_H, z9 = pu hw1 L (.inr (0, [.ref (cs 9), .int 0, .int 0])) := ⟨_, rfl⟩
  rw [← e2] at hP
  have hx : ext h h1 [L] := by rw [e2]; exact hx.pu (Or.inl (by simp))
  have f3 : h1 L = some (.inr (0, [.ref (cs 9), .int 0, .int 0])) := by rw [e2]; exact pu_s
  exact pw_vret F hr hlk hP hA hK hS (by decide) (by decide) d_AL_init_11 ⟨f3, hx⟩
abbrev rm_PC_checkIndex : Room := { frames := 0, cells := 0, slots := 0, locals := 0 }
set_option maxHeartbeats 4000000 in
set_option maxRecDepth 100000 in
theorem c_PC_checkIndex (l : Launch) (D : va_G) (cs : Nat → Nat) (A : Nat → Prop) (h : pw_H) (k n : Nat) (hk : k < n) (hn : n < 2 ^ 31) : pm l y_PC_checkIndex b_PC_checkIndex 3 (some .int) rm_PC_checkIndex [.int (nI k), .int (nI n), .null] D cs A h (va_Qi (fun (r : Int32) (h' : pw_H) => h' = h ∧ r = nI k) (ww D cs A) A) 0 0 := by
  refine pm_of R_PC rfl (by decide) (Nat.le_of_ble_eq_true rfl) (fun p e s m below meth c ls F hr hlk hnm hP hA hK hl => ?_)
  have hS : va_S A s.heap s.heap [] := va_S.rf
  replace hl : lv_has ls 3 [(0, .int (nI k)), (1, .int (nI n)), (2, .null)] := hl
  refine lv_iload_n F.1 F.2.1 d_PC_checkIndex_0 rfl (lv_at hl 0 rfl) ?_
  refine lv_if_lt (tgt := 9) F.1 F.2.1 d_PC_checkIndex_1 (by decide) (fun c1 => absurd c1 (nI_pos (Nat.lt_trans hk hn))) (fun c1 => ?_)
  refine lv_iload_n F.1 F.2.1 d_PC_checkIndex_4 rfl (lv_at hl 0 rfl) ?_
  refine lv_iload_n F.1 F.2.1 d_PC_checkIndex_5 rfl (lv_at hl 1 rfl) ?_
  refine lv_icmp_lt (tgt := 16) F.1 F.2.1 d_PC_checkIndex_6 (by decide) (fun c2 => ?_) (fun c2 => absurd (nI_lt hk hn) c2)
  refine lv_iload_n F.1 F.2.1 d_PC_checkIndex_16 rfl (lv_at hl 0 rfl) ?_
  exact pw_iret F hr hlk hP hA hK hS (by decide) (by decide) d_PC_checkIndex_17 ⟨rfl, rfl⟩
abbrev rm_OB_checkIndex : Room := { frames := 1, cells := 0, slots := 0, locals := 22 }
set_option maxHeartbeats 4000000 in
set_option maxRecDepth 100000 in
theorem c_OB_checkIndex (l : Launch) (D : va_G) (cs : Nat → Nat) (A : Nat → Prop) (h : pw_H) (k n : Nat) (hk : k < n) (hn : n < 2 ^ 31) : pm l y_OB_checkIndex b_OB_checkIndex 2 (some .int) rm_OB_checkIndex [.int (nI k), .int (nI n)] D cs A h (va_Qi (fun (r : Int32) (h' : pw_H) => h' = h ∧ r = nI k) (ww D cs A) A) 0 0 := by
  refine pm_of R_OB rfl (by decide) (Nat.le_of_ble_eq_true rfl) (fun p e s m below meth c ls F hr hlk hnm hP hA hK hl => ?_)
  have hS : va_S A s.heap s.heap [] := va_S.rf
  replace hl : lv_has ls 2 [(0, .int (nI k)), (1, .int (nI n))] := hl
  refine lv_iload_n F.1 F.2.1 d_OB_checkIndex_0 rfl (lv_at hl 0 rfl) ?_
  refine lv_iload_n F.1 F.2.1 d_OB_checkIndex_1 rfl (lv_at hl 1 rfl) ?_
  refine lv_null F.1 F.2.1 d_OB_checkIndex_2 ?_
  refine pw_ciE (pr_S F (c_PC_checkIndex l D cs A h k n hk hn) X_OB_105 rfl rfl ⟨by decide, by decide⟩ hP hA hK hS rfl hl.1 rfl (Nat.le_of_ble_eq_true rfl) d_OB_checkIndex_3 ⟨by decide, by decide⟩) hS (fun H locs hP hS => ?_)
  exact pw_iret F hr hlk hP hA hK hS (by decide) (by decide) d_OB_checkIndex_6 ⟨rfl, rfl⟩
abbrev rm_AL_elementData : Room := { frames := 0, cells := 0, slots := 0, locals := 0 }
set_option maxHeartbeats 4000000 in
set_option maxRecDepth 100000 in
theorem c_AL_elementData (l : Launch) (D : va_G) (cs : Nat → Nat) (A : Nat → Prop) (h : pw_H) (L E k v : Nat) (sz mc : Value) (q : Nat → Option Nat) (hk : k < 10) (hq : q k = some v) (fL : h L = some (.inr (0, [.ref E, sz, mc]))) (fE : h E = some (.inl (cs 5, 10, .inr (.inr (.inr (.inr q)))))) : pm l y_AL_elementData b_AL_elementData 2 (some (.object "java/lang/Object")) rm_AL_elementData [.ref L, .int (nI k)] D cs A h (va_Qr (fun _ => True) (fun (h' : pw_H) (r : Nat) (t : State) => (h' = h ∧ r = v) ∧ ww D cs A h' t) A) 0 0 := by
  refine pm_of R_AL rfl (by decide) (Nat.le_of_ble_eq_true rfl) (fun p e s m below meth c ls F hr hlk hnm hP hA hK hl => ?_)
  have hS : va_S A s.heap s.heap [] := va_S.rf
  replace hl : lv_has ls 2 [(0, .ref L), (1, .int (nI k))] := hl
  refine lv_aload_n F.1 F.2.1 d_AL_elementData_0 rfl (lv_at hl 0 rfl) ?_
  refine pw_get F I_AL hK.1 hP fL rfl 0 (by decide) L_AL_9 (fun _ z => z) rfl d_AL_elementData_1 ?_
  refine lv_iload_n F.1 F.2.1 d_AL_elementData_4 rfl (lv_at hl 1 rfl) ?_
  refine pw_aldqN F hK.1 hP 5 fE rfl (k := k) hk (by decide) d_AL_elementData_5 ?_
  refine W.eq (g2 := F0 m 6 ls [.ref v]) (by rw [hq]; rfl) ?_
  exact pw_aret F hr (Or.inl ⟨_, rfl⟩) hlk hP hA hK hS (by decide) (by decide) d_AL_elementData_6 ⟨rfl, rfl⟩
abbrev rm_AL_get : Room := { frames := 2, cells := 0, slots := 0, locals := 43 }
set_option maxHeartbeats 4000000 in
set_option maxRecDepth 100000 in
theorem c_AL_get (l : Launch) (D : va_G) (cs : Nat → Nat) (A : Nat → Prop) (h : pw_H) (L E n k v : Nat) (mc : Value) (q : Nat → Option Nat) (hk : k < n) (hn : n ≤ 10) (hq : q k = some v) (fL : h L = some (.inr (0, [.ref E, .int (nI n), mc]))) (fE : h E = some (.inl (cs 5, 10, .inr (.inr (.inr (.inr q)))))) : pm l y_AL_get b_AL_get 2 (some (.object "java/lang/Object")) rm_AL_get [.ref L, .int (nI k)] D cs A h (va_Qr (fun _ => True) (fun (h' : pw_H) (r : Nat) (t : State) => (h' = h ∧ r = v) ∧ ww D cs A h' t) A) 0 0 := by
  refine pm_of R_AL rfl (by decide) (Nat.le_of_ble_eq_true rfl) (fun p e s m below meth c ls F hr hlk hnm hP hA hK hl => ?_)
  have hS : va_S A s.heap s.heap [] := va_S.rf
  replace hl : lv_has ls 2 [(0, .ref L), (1, .int (nI k))] := hl
  refine lv_iload_n F.1 F.2.1 d_AL_get_0 rfl (lv_at hl 1 rfl) ?_
  refine lv_aload_n F.1 F.2.1 d_AL_get_1 rfl (lv_at hl 0 rfl) ?_
  refine pw_get F I_AL hK.1 hP fL rfl 1 (by decide) L_AL_48 (fun _ z => z) rfl d_AL_get_2 ?_
  refine pw_ciE (pr_S F (c_OB_checkIndex l D cs A h k n hk (by omega)) X_AL_118 rfl rfl ⟨by decide, by decide⟩ hP hA hK hS rfl hl.1 rfl (Nat.le_of_ble_eq_true rfl) d_AL_get_5 ⟨by decide, by decide⟩) hS (fun H locs hP hS => ?_)
  refine lv_pop F.1 F.2.1 d_AL_get_8 rfl ?_
  refine lv_aload_n F.1 F.2.1 d_AL_get_9 rfl (lv_at hl 0 rfl) ?_
  refine lv_iload_n F.1 F.2.1 d_AL_get_10 rfl (lv_at hl 1 rfl) ?_
  refine pw_crE (pr_V F (c_AL_elementData l D cs A h L E k v _ _ q (by omega) hq fL fE) X_AL_123 rfl rfl ⟨by decide, by decide⟩ hP hA hK hS fL rfl rfl rfl hl.1 rfl (Nat.le_of_ble_eq_true rfl) d_AL_get_11 ⟨by decide, by decide⟩) hS (fun H locs hP hS => ?_)
  exact pw_aret F hr (Or.inl ⟨_, rfl⟩) hlk hP hA hK hS (by decide) (by decide) d_AL_get_14 ⟨rfl, rfl⟩
abbrev rm_AL_grow1 : Room := { frames := 1, cells := 1, slots := 10, locals := 17 }
set_option maxHeartbeats 4000000 in
set_option maxRecDepth 100000 in
theorem c_AL_grow1 (l : Launch) (D : va_G) (cs : Nat → Nat) (A : Nat → Prop) (h : pw_H) (L : Nat) (mc : Value) (fL : h L = some (.inr (0, [.ref (cs 9), .int 0, mc]))) : pm l y_AL_grow1 b_AL_grow1 4 (some (.array (.object "java/lang/Object"))) rm_AL_grow1 [.ref L, .int 1] D cs A h (va_Qr (fun _ => True) (fun (h' : pw_H) (r : Nat) (t : State) => (h r = none ∧ h' r = some (.inl (cs 5, 10, .inr (.inr (.inr (.inr (fun _ => none)))))) ∧ h' L = some (.inr (0, [.ref r, .int 0, mc])) ∧ ext h h' [L]) ∧ ww D cs A h' t) A) 1 10 := by
  refine pm_of R_AL rfl (by decide) (Nat.le_of_ble_eq_true rfl) (fun p e s m below meth c ls F hr hlk hnm hP hA hK hl => ?_)
  have hS : va_S A s.heap s.heap [] := va_S.rf
  replace hl : lv_has ls 4 [(0, .ref L), (1, .int 1)] := hl
  have hx : ext h h [L] := ext.rf
  refine lv_aload_n F.1 F.2.1 d_AL_grow1_0 rfl (lv_at hl 0 rfl) ?_
  refine pw_get F I_AL hK.1 hP fL rfl 0 (by decide) L_AL_9 (fun _ z => z) rfl d_AL_grow1_1 ?_
  refine va_tlen (N := 0) F.1 F.2.1 hK.2.2.1 hS (v := 0) (by decide) d_AL_grow1_4 ?_
  refine lv_istore_n F.1 F.2.1 d_AL_grow1_5 rfl hl (by decide) rfl (fun ls hl => ?_)
  replace hl : lv_has ls 4 [(2, .int 0), (0, .ref L), (1, .int 1)] := hl
  refine lv_iload_n F.1 F.2.1 d_AL_grow1_6 rfl (lv_at hl 0 rfl) ?_
  refine lv_if_gt (tgt := 20) F.1 F.2.1 d_AL_grow1_7 (by decide) (fun c1 => absurd c1 (by decide)) (fun c1 => ?_)
  refine lv_aload_n F.1 F.2.1 d_AL_grow1_10 rfl (lv_at hl 1 rfl) ?_
  refine pw_get F I_AL hK.1 hP fL rfl 0 (by decide) L_AL_9 (fun _ z => z) rfl d_AL_grow1_11 ?_
  refine va_gets F.1 F.2.1 hK.2.1 hS F.2.2.2.1 (F.2.2.2.2 _ L_AL_39) (fun _ z => z) d_AL_grow1_14 ?_
  refine lv_acmp_eq (rx := some (cs 9)) (ry := some (cs 9)) (tgt := 45) F.1 F.2.1 d_AL_grow1_17 (by decide) (fun _ => ?_) (fun c9 => absurd rfl c9)
  refine lv_aload_n F.1 F.2.1 d_AL_grow1_45 rfl (lv_at hl 1 rfl) ?_
  refine lv_bipush (v := 10) F.1 F.2.1 d_AL_grow1_46 (by decide) ?_
  refine lv_iload_n F.1 F.2.1 d_AL_grow1_48 rfl (lv_at hl 2 rfl) ?_
  refine va_mmax F.1 F.2.1 (F.2.2.1.trans hl.1.symm) F.2.2.2.1 (F.2.2.2.2 _ X_AL_79.1.1) (F.2.2.2.2 _ sM_MA_max) (F.2.2.2.2 _ Z_MA) (F.2.2.2.2 _ co_MA_max) (by decide) (Nat.le_of_ble_eq_true rfl) (by decide) (by decide) d_AL_grow1_49 ?_
  refine W.eq (g2 := F0 m 52 ls [.int 10, .ref L]) (by rfl) ?_
  refine pw_newq (N' := 10) F C_AL_7 (hK.2.2.2.2.2.2.2.2.1 _ (by decide)) hK.1 hP hS hA 5 rfl (by decide) (by decide) (by decide) (by decide) (by decide) d_AL_grow1_52 (fun q2 H n3 hP hS => ?_)
  replace hP : pw D vwCl A (pu h q2 (.inl (cs 5, 10, .inr (.inr (.inr (.inr (fun _ => none))))))) H := hP
  have g6 : h q2 = none := hx.2 _ n3
  obtain ⟨h4, e5⟩ : ∃ z9 : pw_H, z9 = pu h q2 (.inl (cs 5, 10, .inr (.inr (.inr (.inr (fun _ => none)))))) := ⟨_, rfl⟩
  rw [← e5] at hP
  have hx : ext h h4 [L] := by rw [e5]; exact hx.pu (Or.inr g6)
  have f7 : h4 q2 = some (.inl (cs 5, 10, .inr (.inr (.inr (.inr (fun _ => none)))))) := by rw [e5]; exact pu_s
  refine lv_dup_x1 F.1 F.2.1 d_AL_grow1_55 rfl rfl ?_
  have f8 : h4 L = some (.inr (0, [.ref (cs 9), .int 0, mc])) := by rw [e5]; exact pu_f n3 fL
  refine pw_put F I_AL ty_AL k_AL n_AL hK.1 hP hS f8 rfl 0 (by decide) L_AL_9 (fun _ z => z) rfl rfl rfl (Nat.le_of_ble_eq_true rfl) d_AL_grow1_56 (fun H locs hP hS => ?_)
  replace hP : pw D vwCl A (pu h4 L (.inr (0, [.ref q2, .int 0, mc]))) H := hP
  obtain ⟨h9, e10⟩ : ∃ z9 : pw_H, z9 = pu h4 L (.inr (0, [.ref q2, .int 0, mc])) := ⟨_, rfl⟩
  rw [← e10] at hP
  have hx : ext h h9 [L] := by rw [e10]; exact hx.pu (Or.inl (by simp))
  have f11 : h9 L = some (.inr (0, [.ref q2, .int 0, mc])) := by rw [e10]; exact pu_s
  have f12 : h9 q2 = some (.inl (cs 5, 10, .inr (.inr (.inr (.inr (fun _ => none)))))) := by rw [e10]; exact pu_k f7 (pu_t f7 f8 (show (310 : Nat) ≠ 0 by decide))
  exact pw_aret F hr (Or.inr ⟨_, rfl⟩) hlk hP hA hK hS (by decide) (by decide) d_AL_grow1_59 ⟨g6, f12, f11, hx⟩
abbrev rm_AL_grow0 : Room := { frames := 2, cells := 1, slots := 10, locals := 40 }
set_option maxHeartbeats 4000000 in
set_option maxRecDepth 100000 in
theorem c_AL_grow0 (l : Launch) (D : va_G) (cs : Nat → Nat) (A : Nat → Prop) (h : pw_H) (L : Nat) (mc : Value) (fL : h L = some (.inr (0, [.ref (cs 9), .int 0, mc]))) : pm l y_AL_grow0 b_AL_grow0 1 (some (.array (.object "java/lang/Object"))) rm_AL_grow0 [.ref L] D cs A h (va_Qr (fun _ => True) (fun (h' : pw_H) (r : Nat) (t : State) => (h r = none ∧ h' r = some (.inl (cs 5, 10, .inr (.inr (.inr (.inr (fun _ => none)))))) ∧ h' L = some (.inr (0, [.ref r, .int 0, mc])) ∧ ext h h' [L]) ∧ ww D cs A h' t) A) 1 10 := by
  refine pm_of R_AL rfl (by decide) (Nat.le_of_ble_eq_true rfl) (fun p e s m below meth c ls F hr hlk hnm hP hA hK hl => ?_)
  have hS : va_S A s.heap s.heap [] := va_S.rf
  replace hl : lv_has ls 1 [(0, .ref L)] := hl
  have hx : ext h h [L] := ext.rf
  refine lv_aload_n F.1 F.2.1 d_AL_grow0_0 rfl (lv_at hl 0 rfl) ?_
  refine lv_aload_n F.1 F.2.1 d_AL_grow0_1 rfl (lv_at hl 0 rfl) ?_
  refine pw_get F I_AL hK.1 hP fL rfl 1 (by decide) L_AL_48 (fun _ z => z) rfl d_AL_grow0_2 ?_
  refine lv_iconst (v := 1) F.1 F.2.1 d_AL_grow0_5 (by decide) ?_
  refine lv_iadd F.1 F.2.1 d_AL_grow0_6 ?_
  refine W.eq (g2 := F0 m 7 ls [.int 1, .ref L]) (by rw [show (0 + 1 : Int32) = 1 from by decide]) ?_
  refine pw_cr (post := fun r h' => h r = none ∧ h' r = some (.inl (cs 5, 10, .inr (.inr (.inr (.inr (fun _ => none)))))) ∧ h' L = some (.inr (0, [.ref r, .int 0, mc])) ∧ ext h h' [L]) (pr_V F (c_AL_grow1 l D cs A h L mc fL) X_AL_69 rfl rfl ⟨by decide, by decide⟩ hP hA hK hS fL rfl rfl rfl hl.1 rfl (Nat.le_of_ble_eq_true rfl) d_AL_grow0_7 ⟨by decide, by decide⟩) hS (fun E hw1 H locs hq hP hS => ?_)
  obtain ⟨jw1, jw2, jw3, jw4⟩ := hq
  have g1 : h E = none := hx.2 _ jw1
  have hx : ext h hw1 [L] := hx.trans jw4 (fun y hy => by
    simp only [List.mem_cons, List.not_mem_nil, or_false] at hy
    rcases hy with rfl
    · exact Or.inl (by simp))
  exact pw_aret F hr (Or.inr ⟨_, rfl⟩) hlk hP hA hK hS (by decide) (by decide) d_AL_grow0_10 ⟨g1, jw2, jw3, hx⟩
abbrev rm_AL_add1f_2 : Room := { frames := 3, cells := 1, slots := 10, locals := 60 }
set_option maxHeartbeats 4000000 in
set_option maxRecDepth 100000 in
theorem c_AL_add1f_2 (l : Launch) (D : va_G) (cs : Nat → Nat) (A : Nat → Prop) (h : pw_H) (L v : Nat) (vs : List Value) (mc : Value) (fL : h L = some (.inr (0, [.ref (cs 9), .int 0, mc]))) (fv : h v = some (.inr (2, vs))) : pm l y_AL_add1 b_AL_add1 4 none rm_AL_add1f_2 [.ref L, .ref v, .ref (cs 9), .int 0] D cs A h (va_Qv (fun (h' : pw_H) => ∃ E : Nat, h E = none ∧ h' E = some (.inl (cs 5, 10, .inr (.inr (.inr (.inr (va_up (fun _ => none) 0 (some v))))))) ∧ h' L = some (.inr (0, [.ref E, .int (0 + 1), mc])) ∧ ext h h' [L]) (ww D cs A) A) 1 10 := by
  refine pm_of R_AL rfl (by decide) (Nat.le_of_ble_eq_true rfl) (fun p e s m below meth c ls F hr hlk hnm hP hA hK hl => ?_)
  have hS : va_S A s.heap s.heap [] := va_S.rf
  replace hl : lv_has ls 4 [(0, .ref L), (1, .ref v), (2, .ref (cs 9)), (3, .int 0)] := hl
  have hx : ext h h [L] := ext.rf
  refine lv_iload_n F.1 F.2.1 d_AL_add1_0 rfl (lv_at hl 3 rfl) ?_
  refine lv_aload_n F.1 F.2.1 d_AL_add1_1 rfl (lv_at hl 2 rfl) ?_
  refine va_tlen (N := 0) F.1 F.2.1 hK.2.2.1 hS (v := 0) (by decide) d_AL_add1_2 ?_
  refine lv_icmp_ne (tgt := 11) F.1 F.2.1 d_AL_add1_3 (by decide) (fun c1 => absurd (by decide) c1) (fun c1 => ?_)
  refine lv_aload_n F.1 F.2.1 d_AL_add1_6 rfl (lv_at hl 0 rfl) ?_
  refine pw_cr (post := fun r h' => h r = none ∧ h' r = some (.inl (cs 5, 10, .inr (.inr (.inr (.inr (fun _ => none)))))) ∧ h' L = some (.inr (0, [.ref r, .int 0, mc])) ∧ ext h h' [L]) (pr_V F (c_AL_grow0 l D cs A h L mc fL) X_AL_129 rfl rfl ⟨by decide, by decide⟩ hP hA hK hS fL rfl rfl rfl hl.1 rfl (Nat.le_of_ble_eq_true rfl) d_AL_add1_7 ⟨by decide, by decide⟩) hS (fun E hw1 H locs hq hP hS => ?_)
  obtain ⟨jw1, jw2, jw3, jw4⟩ := hq
  have g2 : h E = none := hx.2 _ jw1
  have hx : ext h hw1 [L] := hx.trans jw4 (fun y hy => by
    simp only [List.mem_cons, List.not_mem_nil, or_false] at hy
    rcases hy with rfl
    · exact Or.inl (by simp))
  refine lv_astore_n F.1 F.2.1 d_AL_add1_10 rfl hl (by decide) rfl (fun ls hl => ?_)
  replace hl : lv_has ls 4 [(2, .ref E), (0, .ref L), (1, .ref v), (3, .int 0)] := hl
  refine lv_aload_n F.1 F.2.1 d_AL_add1_11 rfl (lv_at hl 0 rfl) ?_
  refine lv_iload_n F.1 F.2.1 d_AL_add1_12 rfl (lv_at hl 3 rfl) ?_
  refine lv_aload_n F.1 F.2.1 d_AL_add1_13 rfl (lv_at hl 2 rfl) ?_
  refine W.eq (g2 := F0 m 14 ls [.ref v, .int (nI 0), .ref E]) (by rw [(show (0 : Int32) = nI 0 from by decide)]) ?_
  have f3 : hw1 v = some (.inr (2, vs)) := jw4.1 _ _ fv (nin1 (pu_t fv fL (show (2 : Nat) ≠ 0 by decide)))
  refine pw_astqON F hK.1 hP hS 5 2 jw2 rfl (hK.2.2.2.2.2.2.2.1 ("PatchDesk$Function", "java/lang/Object") (by decide)) f3 rfl (k := 0) (by decide) (by decide) d_AL_add1_14 (fun H locs hP hS => ?_)
  replace hP : pw D vwCl A (pu hw1 E (.inl (cs 5, 10, .inr (.inr (.inr (.inr (va_up (fun _ => none) 0 (some v)))))))) H := hP
  obtain ⟨h4, e5⟩ : ∃ z9 : pw_H, z9 = pu hw1 E (.inl (cs 5, 10, .inr (.inr (.inr (.inr (va_up (fun _ => none) 0 (some v))))))) := ⟨_, rfl⟩
  rw [← e5] at hP
  have hx : ext h h4 [L] := by rw [e5]; exact hx.pu (Or.inr g2)
  have f6 : h4 E = some (.inl (cs 5, 10, .inr (.inr (.inr (.inr (va_up (fun _ => none) 0 (some v))))))) := by rw [e5]; exact pu_s
  refine lv_aload_n F.1 F.2.1 d_AL_add1_15 rfl (lv_at hl 1 rfl) ?_
  refine lv_iload_n F.1 F.2.1 d_AL_add1_16 rfl (lv_at hl 3 rfl) ?_
  refine lv_iconst (v := 1) F.1 F.2.1 d_AL_add1_17 (by decide) ?_
  refine lv_iadd F.1 F.2.1 d_AL_add1_18 ?_
  have f7 : h4 L = some (.inr (0, [.ref E, .int 0, mc])) := by rw [e5]; exact pu_k jw3 (pu_t jw3 jw2 (show (0 : Nat) ≠ 310 by decide))
  refine pw_put F I_AL ty_AL k_AL n_AL hK.1 hP hS f7 rfl 1 (by decide) L_AL_48 (fun _ z => z) rfl rfl rfl (Nat.le_of_ble_eq_true rfl) d_AL_add1_19 (fun H locs hP hS => ?_)
  replace hP : pw D vwCl A (pu h4 L (.inr (0, [.ref E, .int (0 + 1), mc]))) H := hP
  obtain ⟨h8, e9⟩ : ∃ z9 : pw_H, z9 = pu h4 L (.inr (0, [.ref E, .int (0 + 1), mc])) := ⟨_, rfl⟩
  rw [← e9] at hP
  have hx : ext h h8 [L] := by rw [e9]; exact hx.pu (Or.inl (by simp))
  have f10 : h8 L = some (.inr (0, [.ref E, .int (0 + 1), mc])) := by rw [e9]; exact pu_s
  have f11 : h8 E = some (.inl (cs 5, 10, .inr (.inr (.inr (.inr (va_up (fun _ => none) 0 (some v))))))) := by rw [e9]; exact pu_k f6 (pu_t f6 f7 (show (310 : Nat) ≠ 0 by decide))
  exact pw_vret F hr hlk hP hA hK hS (by decide) (by decide) d_AL_add1_22 ⟨E, g2, f11, f10, hx⟩
abbrev rm_AL_add1g_2 : Room := { frames := 0, cells := 0, slots := 0, locals := 0 }
set_option maxHeartbeats 4000000 in
set_option maxRecDepth 100000 in
theorem c_AL_add1g_2 (l : Launch) (D : va_G) (cs : Nat → Nat) (A : Nat → Prop) (h : pw_H) (L E v n : Nat) (vs : List Value) (mc : Value) (q : Nat → Option Nat) (hn : n < 10) (fL : h L = some (.inr (0, [.ref E, .int (nI n), mc]))) (fE : h E = some (.inl (cs 5, 10, .inr (.inr (.inr (.inr q)))))) (fv : h v = some (.inr (2, vs))) : pm l y_AL_add1 b_AL_add1 4 none rm_AL_add1g_2 [.ref L, .ref v, .ref E, .int (nI n)] D cs A h (va_Qv (fun (h' : pw_H) => h' E = some (.inl (cs 5, 10, .inr (.inr (.inr (.inr (va_up q n (some v))))))) ∧ h' L = some (.inr (0, [.ref E, .int (nI n + 1), mc])) ∧ ext h h' [L, E]) (ww D cs A) A) 0 0 := by
  refine pm_of R_AL rfl (by decide) (Nat.le_of_ble_eq_true rfl) (fun p e s m below meth c ls F hr hlk hnm hP hA hK hl => ?_)
  have hS : va_S A s.heap s.heap [] := va_S.rf
  replace hl : lv_has ls 4 [(0, .ref L), (1, .ref v), (2, .ref E), (3, .int (nI n))] := hl
  have hx : ext h h [L, E] := ext.rf
  refine lv_iload_n F.1 F.2.1 d_AL_add1_0 rfl (lv_at hl 3 rfl) ?_
  refine lv_aload_n F.1 F.2.1 d_AL_add1_1 rfl (lv_at hl 2 rfl) ?_
  refine pw_alen F hK.1 hP 5 fE rfl (v := 10) (show Int32.ofNat 10 = 10 from by decide) d_AL_add1_2 ?_
  refine lv_icmp_ne (tgt := 11) F.1 F.2.1 d_AL_add1_3 (by decide) (fun c1 => ?_) (fun c1 => absurd c1 (fun z9 => by have := (nI_eq (a := n) (b := 10) (by omega) (by decide)).mp z9; omega))
  refine lv_aload_n F.1 F.2.1 d_AL_add1_11 rfl (lv_at hl 2 rfl) ?_
  refine lv_iload_n F.1 F.2.1 d_AL_add1_12 rfl (lv_at hl 3 rfl) ?_
  refine lv_aload_n F.1 F.2.1 d_AL_add1_13 rfl (lv_at hl 1 rfl) ?_
  refine pw_astqON F hK.1 hP hS 5 2 fE rfl (hK.2.2.2.2.2.2.2.1 ("PatchDesk$Function", "java/lang/Object") (by decide)) fv rfl (k := n) hn (by decide) d_AL_add1_14 (fun H locs hP hS => ?_)
  replace hP : pw D vwCl A (pu h E (.inl (cs 5, 10, .inr (.inr (.inr (.inr (va_up q n (some v)))))))) H := hP
  obtain ⟨h2, e3⟩ : ∃ z9 : pw_H, z9 = pu h E (.inl (cs 5, 10, .inr (.inr (.inr (.inr (va_up q n (some v))))))) := ⟨_, rfl⟩
  rw [← e3] at hP
  have hx : ext h h2 [L, E] := by rw [e3]; exact hx.pu (Or.inl (by simp))
  have f4 : h2 E = some (.inl (cs 5, 10, .inr (.inr (.inr (.inr (va_up q n (some v))))))) := by rw [e3]; exact pu_s
  refine lv_aload_n F.1 F.2.1 d_AL_add1_15 rfl (lv_at hl 0 rfl) ?_
  refine lv_iload_n F.1 F.2.1 d_AL_add1_16 rfl (lv_at hl 3 rfl) ?_
  refine lv_iconst (v := 1) F.1 F.2.1 d_AL_add1_17 (by decide) ?_
  refine lv_iadd F.1 F.2.1 d_AL_add1_18 ?_
  have f5 : h2 L = some (.inr (0, [.ref E, .int (nI n), mc])) := by rw [e3]; exact pu_k fL (pu_t fL fE (show (0 : Nat) ≠ 310 by decide))
  refine pw_put F I_AL ty_AL k_AL n_AL hK.1 hP hS f5 rfl 1 (by decide) L_AL_48 (fun _ z => z) rfl rfl rfl (Nat.le_of_ble_eq_true rfl) d_AL_add1_19 (fun H locs hP hS => ?_)
  replace hP : pw D vwCl A (pu h2 L (.inr (0, [.ref E, .int ((nI n) + 1), mc]))) H := hP
  obtain ⟨h6, e7⟩ : ∃ z9 : pw_H, z9 = pu h2 L (.inr (0, [.ref E, .int ((nI n) + 1), mc])) := ⟨_, rfl⟩
  rw [← e7] at hP
  have hx : ext h h6 [L, E] := by rw [e7]; exact hx.pu (Or.inl (by simp))
  have f8 : h6 L = some (.inr (0, [.ref E, .int ((nI n) + 1), mc])) := by rw [e7]; exact pu_s
  have f9 : h6 E = some (.inl (cs 5, 10, .inr (.inr (.inr (.inr (va_up q n (some v))))))) := by rw [e7]; exact pu_k f4 (pu_t f4 f5 (show (310 : Nat) ≠ 0 by decide))
  exact pw_vret F hr hlk hP hA hK hS (by decide) (by decide) d_AL_add1_22 ⟨f9, f8, hx⟩
abbrev rm_AL_addf_2 : Room := { frames := 4, cells := 1, slots := 10, locals := 83 }
set_option maxHeartbeats 4000000 in
set_option maxRecDepth 100000 in
theorem c_AL_addf_2 (l : Launch) (D : va_G) (cs : Nat → Nat) (A : Nat → Prop) (h : pw_H) (L v : Nat) (vs : List Value) (mc : Int32) (fL : h L = some (.inr (0, [.ref (cs 9), .int 0, .int mc]))) (fv : h v = some (.inr (2, vs))) : pm l y_AL_add0 b_AL_add0 2 (some .boolean) rm_AL_addf_2 [.ref L, .ref v] D cs A h (va_Qi (fun (r : Int32) (h' : pw_H) => r = 1 ∧ ∃ E : Nat, h E = none ∧ h' E = some (.inl (cs 5, 10, .inr (.inr (.inr (.inr (va_up (fun _ => none) 0 (some v))))))) ∧ h' L = some (.inr (0, [.ref E, .int (0 + 1), .int (mc + 1)])) ∧ ext h h' [L]) (ww D cs A) A) 1 10 := by
  refine pm_of R_AL rfl (by decide) (Nat.le_of_ble_eq_true rfl) (fun p e s m below meth c ls F hr hlk hnm hP hA hK hl => ?_)
  have hS : va_S A s.heap s.heap [] := va_S.rf
  replace hl : lv_has ls 2 [(0, .ref L), (1, .ref v)] := hl
  have hx : ext h h [L] := ext.rf
  refine lv_aload_n F.1 F.2.1 d_AL_add0_0 rfl (lv_at hl 0 rfl) ?_
  refine lv_dup F.1 F.2.1 d_AL_add0_1 rfl ?_
  refine pw_get F I_AL hK.1 hP fL rfl 2 (by decide) L_AL_63 (fun x9 h9 => u_same (F.2.2.2.2 _ sf_mod) x9 h9) rfl d_AL_add0_2 ?_
  refine lv_iconst (v := 1) F.1 F.2.1 d_AL_add0_5 (by decide) ?_
  refine lv_iadd F.1 F.2.1 d_AL_add0_6 ?_
  refine pw_put F I_AL ty_AL k_AL n_AL hK.1 hP hS fL rfl 2 (by decide) L_AL_63 (fun x9 h9 => u_same (F.2.2.2.2 _ sf_mod) x9 h9) rfl rfl rfl (Nat.le_of_ble_eq_true rfl) d_AL_add0_7 (fun H locs hP hS => ?_)
  replace hP : pw D vwCl A (pu h L (.inr (0, [.ref (cs 9), .int 0, .int (mc + 1)]))) H := hP
  obtain ⟨h1, e2⟩ : ∃ z9 : pw_H, z9 = pu h L (.inr (0, [.ref (cs 9), .int 0, .int (mc + 1)])) := ⟨_, rfl⟩
  rw [← e2] at hP
  have hx : ext h h1 [L] := by rw [e2]; exact hx.pu (Or.inl (by simp))
  have f3 : h1 L = some (.inr (0, [.ref (cs 9), .int 0, .int (mc + 1)])) := by rw [e2]; exact pu_s
  refine lv_aload_n F.1 F.2.1 d_AL_add0_10 rfl (lv_at hl 0 rfl) ?_
  refine lv_aload_n F.1 F.2.1 d_AL_add0_11 rfl (lv_at hl 1 rfl) ?_
  refine lv_aload_n F.1 F.2.1 d_AL_add0_12 rfl (lv_at hl 0 rfl) ?_
  refine pw_get F I_AL hK.1 hP f3 rfl 0 (by decide) L_AL_9 (fun _ z => z) rfl d_AL_add0_13 ?_
  refine lv_aload_n F.1 F.2.1 d_AL_add0_16 rfl (lv_at hl 0 rfl) ?_
  refine pw_get F I_AL hK.1 hP f3 rfl 1 (by decide) L_AL_48 (fun _ z => z) rfl d_AL_add0_17 ?_
  have f4 : h1 v = some (.inr (2, vs)) := by rw [e2]; exact pu_k fv (pu_t fv fL (show (2 : Nat) ≠ 0 by decide))
  refine pw_cv (pr_V F (c_AL_add1f_2 l D cs A h1 L v vs _ f3 f4) X_AL_131 rfl rfl ⟨by decide, by decide⟩ hP hA hK hS f3 rfl rfl rfl hl.1 rfl (Nat.le_of_ble_eq_true rfl) d_AL_add0_20 ⟨by decide, by decide⟩) hS (fun hw1 H locs hq hP hS => ?_)
  obtain ⟨E, jw0, jw1, jw2, jw3⟩ := hq
  have g5 : h E = none := hx.2 _ jw0
  have hx : ext h hw1 [L] := hx.trans jw3 (fun y hy => by
    simp only [List.mem_cons, List.not_mem_nil, or_false] at hy
    rcases hy with rfl
    · exact Or.inl (by simp))
  refine lv_iconst (v := 1) F.1 F.2.1 d_AL_add0_23 (by decide) ?_
  exact pw_zret F hr rfl hlk hP hA hK hS (by decide) (by decide) d_AL_add0_24 ⟨rfl, E, g5, jw1, jw2, hx⟩
abbrev rm_AL_addg_2 : Room := { frames := 1, cells := 0, slots := 0, locals := 23 }
set_option maxHeartbeats 4000000 in
set_option maxRecDepth 100000 in
theorem c_AL_addg_2 (l : Launch) (D : va_G) (cs : Nat → Nat) (A : Nat → Prop) (h : pw_H) (L E v n : Nat) (vs : List Value) (mc : Int32) (q : Nat → Option Nat) (hn : n < 10) (fL : h L = some (.inr (0, [.ref E, .int (nI n), .int mc]))) (fE : h E = some (.inl (cs 5, 10, .inr (.inr (.inr (.inr q)))))) (fv : h v = some (.inr (2, vs))) : pm l y_AL_add0 b_AL_add0 2 (some .boolean) rm_AL_addg_2 [.ref L, .ref v] D cs A h (va_Qi (fun (r : Int32) (h' : pw_H) => r = 1 ∧ h' E = some (.inl (cs 5, 10, .inr (.inr (.inr (.inr (va_up q n (some v))))))) ∧ h' L = some (.inr (0, [.ref E, .int (nI n + 1), .int (mc + 1)])) ∧ ext h h' [L, E]) (ww D cs A) A) 0 0 := by
  refine pm_of R_AL rfl (by decide) (Nat.le_of_ble_eq_true rfl) (fun p e s m below meth c ls F hr hlk hnm hP hA hK hl => ?_)
  have hS : va_S A s.heap s.heap [] := va_S.rf
  replace hl : lv_has ls 2 [(0, .ref L), (1, .ref v)] := hl
  have hx : ext h h [L, E] := ext.rf
  refine lv_aload_n F.1 F.2.1 d_AL_add0_0 rfl (lv_at hl 0 rfl) ?_
  refine lv_dup F.1 F.2.1 d_AL_add0_1 rfl ?_
  refine pw_get F I_AL hK.1 hP fL rfl 2 (by decide) L_AL_63 (fun x9 h9 => u_same (F.2.2.2.2 _ sf_mod) x9 h9) rfl d_AL_add0_2 ?_
  refine lv_iconst (v := 1) F.1 F.2.1 d_AL_add0_5 (by decide) ?_
  refine lv_iadd F.1 F.2.1 d_AL_add0_6 ?_
  refine pw_put F I_AL ty_AL k_AL n_AL hK.1 hP hS fL rfl 2 (by decide) L_AL_63 (fun x9 h9 => u_same (F.2.2.2.2 _ sf_mod) x9 h9) rfl rfl rfl (Nat.le_of_ble_eq_true rfl) d_AL_add0_7 (fun H locs hP hS => ?_)
  replace hP : pw D vwCl A (pu h L (.inr (0, [.ref E, .int (nI n), .int (mc + 1)]))) H := hP
  obtain ⟨h1, e2⟩ : ∃ z9 : pw_H, z9 = pu h L (.inr (0, [.ref E, .int (nI n), .int (mc + 1)])) := ⟨_, rfl⟩
  rw [← e2] at hP
  have hx : ext h h1 [L, E] := by rw [e2]; exact hx.pu (Or.inl (by simp))
  have f3 : h1 L = some (.inr (0, [.ref E, .int (nI n), .int (mc + 1)])) := by rw [e2]; exact pu_s
  refine lv_aload_n F.1 F.2.1 d_AL_add0_10 rfl (lv_at hl 0 rfl) ?_
  refine lv_aload_n F.1 F.2.1 d_AL_add0_11 rfl (lv_at hl 1 rfl) ?_
  refine lv_aload_n F.1 F.2.1 d_AL_add0_12 rfl (lv_at hl 0 rfl) ?_
  refine pw_get F I_AL hK.1 hP f3 rfl 0 (by decide) L_AL_9 (fun _ z => z) rfl d_AL_add0_13 ?_
  refine lv_aload_n F.1 F.2.1 d_AL_add0_16 rfl (lv_at hl 0 rfl) ?_
  refine pw_get F I_AL hK.1 hP f3 rfl 1 (by decide) L_AL_48 (fun _ z => z) rfl d_AL_add0_17 ?_
  have f4 : h1 E = some (.inl (cs 5, 10, .inr (.inr (.inr (.inr q))))) := by rw [e2]; exact pu_k fE (pu_t fE fL (show (310 : Nat) ≠ 0 by decide))
  have f5 : h1 v = some (.inr (2, vs)) := by rw [e2]; exact pu_k fv (pu_t fv fL (show (2 : Nat) ≠ 0 by decide))
  refine pw_cv (pr_V F (c_AL_add1g_2 l D cs A h1 L E v n vs _ q hn f3 f4 f5) X_AL_131 rfl rfl ⟨by decide, by decide⟩ hP hA hK hS f3 rfl rfl rfl hl.1 rfl (Nat.le_of_ble_eq_true rfl) d_AL_add0_20 ⟨by decide, by decide⟩) hS (fun hw1 H locs hq hP hS => ?_)
  obtain ⟨jw1, jw2, jw3⟩ := hq
  have hx : ext h hw1 [L, E] := hx.trans jw3 (fun y hy => by
    simp only [List.mem_cons, List.not_mem_nil, or_false] at hy
    rcases hy with rfl | rfl
    · exact Or.inl (by simp)
    · exact Or.inl (by simp))
  refine lv_iconst (v := 1) F.1 F.2.1 d_AL_add0_23 (by decide) ?_
  exact pw_zret F hr rfl hlk hP hA hK hS (by decide) (by decide) d_AL_add0_24 ⟨rfl, jw1, jw2, hx⟩
abbrev rm_AL_add1f_3 : Room := { frames := 3, cells := 1, slots := 10, locals := 60 }
set_option maxHeartbeats 4000000 in
set_option maxRecDepth 100000 in
theorem c_AL_add1f_3 (l : Launch) (D : va_G) (cs : Nat → Nat) (A : Nat → Prop) (h : pw_H) (L v : Nat) (vs : List Value) (mc : Value) (fL : h L = some (.inr (0, [.ref (cs 9), .int 0, mc]))) (fv : h v = some (.inr (3, vs))) : pm l y_AL_add1 b_AL_add1 4 none rm_AL_add1f_3 [.ref L, .ref v, .ref (cs 9), .int 0] D cs A h (va_Qv (fun (h' : pw_H) => ∃ E : Nat, h E = none ∧ h' E = some (.inl (cs 5, 10, .inr (.inr (.inr (.inr (va_up (fun _ => none) 0 (some v))))))) ∧ h' L = some (.inr (0, [.ref E, .int (0 + 1), mc])) ∧ ext h h' [L]) (ww D cs A) A) 1 10 := by
  refine pm_of R_AL rfl (by decide) (Nat.le_of_ble_eq_true rfl) (fun p e s m below meth c ls F hr hlk hnm hP hA hK hl => ?_)
  have hS : va_S A s.heap s.heap [] := va_S.rf
  replace hl : lv_has ls 4 [(0, .ref L), (1, .ref v), (2, .ref (cs 9)), (3, .int 0)] := hl
  have hx : ext h h [L] := ext.rf
  refine lv_iload_n F.1 F.2.1 d_AL_add1_0 rfl (lv_at hl 3 rfl) ?_
  refine lv_aload_n F.1 F.2.1 d_AL_add1_1 rfl (lv_at hl 2 rfl) ?_
  refine va_tlen (N := 0) F.1 F.2.1 hK.2.2.1 hS (v := 0) (by decide) d_AL_add1_2 ?_
  refine lv_icmp_ne (tgt := 11) F.1 F.2.1 d_AL_add1_3 (by decide) (fun c1 => absurd (by decide) c1) (fun c1 => ?_)
  refine lv_aload_n F.1 F.2.1 d_AL_add1_6 rfl (lv_at hl 0 rfl) ?_
  refine pw_cr (post := fun r h' => h r = none ∧ h' r = some (.inl (cs 5, 10, .inr (.inr (.inr (.inr (fun _ => none)))))) ∧ h' L = some (.inr (0, [.ref r, .int 0, mc])) ∧ ext h h' [L]) (pr_V F (c_AL_grow0 l D cs A h L mc fL) X_AL_129 rfl rfl ⟨by decide, by decide⟩ hP hA hK hS fL rfl rfl rfl hl.1 rfl (Nat.le_of_ble_eq_true rfl) d_AL_add1_7 ⟨by decide, by decide⟩) hS (fun E hw1 H locs hq hP hS => ?_)
  obtain ⟨jw1, jw2, jw3, jw4⟩ := hq
  have g2 : h E = none := hx.2 _ jw1
  have hx : ext h hw1 [L] := hx.trans jw4 (fun y hy => by
    simp only [List.mem_cons, List.not_mem_nil, or_false] at hy
    rcases hy with rfl
    · exact Or.inl (by simp))
  refine lv_astore_n F.1 F.2.1 d_AL_add1_10 rfl hl (by decide) rfl (fun ls hl => ?_)
  replace hl : lv_has ls 4 [(2, .ref E), (0, .ref L), (1, .ref v), (3, .int 0)] := hl
  refine lv_aload_n F.1 F.2.1 d_AL_add1_11 rfl (lv_at hl 0 rfl) ?_
  refine lv_iload_n F.1 F.2.1 d_AL_add1_12 rfl (lv_at hl 3 rfl) ?_
  refine lv_aload_n F.1 F.2.1 d_AL_add1_13 rfl (lv_at hl 2 rfl) ?_
  refine W.eq (g2 := F0 m 14 ls [.ref v, .int (nI 0), .ref E]) (by rw [(show (0 : Int32) = nI 0 from by decide)]) ?_
  have f3 : hw1 v = some (.inr (3, vs)) := jw4.1 _ _ fv (nin1 (pu_t fv fL (show (3 : Nat) ≠ 0 by decide)))
  refine pw_astqON F hK.1 hP hS 5 3 jw2 rfl (hK.2.2.2.2.2.2.2.1 ("PatchDesk$Patch", "java/lang/Object") (by decide)) f3 rfl (k := 0) (by decide) (by decide) d_AL_add1_14 (fun H locs hP hS => ?_)
  replace hP : pw D vwCl A (pu hw1 E (.inl (cs 5, 10, .inr (.inr (.inr (.inr (va_up (fun _ => none) 0 (some v)))))))) H := hP
  obtain ⟨h4, e5⟩ : ∃ z9 : pw_H, z9 = pu hw1 E (.inl (cs 5, 10, .inr (.inr (.inr (.inr (va_up (fun _ => none) 0 (some v))))))) := ⟨_, rfl⟩
  rw [← e5] at hP
  have hx : ext h h4 [L] := by rw [e5]; exact hx.pu (Or.inr g2)
  have f6 : h4 E = some (.inl (cs 5, 10, .inr (.inr (.inr (.inr (va_up (fun _ => none) 0 (some v))))))) := by rw [e5]; exact pu_s
  refine lv_aload_n F.1 F.2.1 d_AL_add1_15 rfl (lv_at hl 1 rfl) ?_
  refine lv_iload_n F.1 F.2.1 d_AL_add1_16 rfl (lv_at hl 3 rfl) ?_
  refine lv_iconst (v := 1) F.1 F.2.1 d_AL_add1_17 (by decide) ?_
  refine lv_iadd F.1 F.2.1 d_AL_add1_18 ?_
  have f7 : h4 L = some (.inr (0, [.ref E, .int 0, mc])) := by rw [e5]; exact pu_k jw3 (pu_t jw3 jw2 (show (0 : Nat) ≠ 310 by decide))
  refine pw_put F I_AL ty_AL k_AL n_AL hK.1 hP hS f7 rfl 1 (by decide) L_AL_48 (fun _ z => z) rfl rfl rfl (Nat.le_of_ble_eq_true rfl) d_AL_add1_19 (fun H locs hP hS => ?_)
  replace hP : pw D vwCl A (pu h4 L (.inr (0, [.ref E, .int (0 + 1), mc]))) H := hP
  obtain ⟨h8, e9⟩ : ∃ z9 : pw_H, z9 = pu h4 L (.inr (0, [.ref E, .int (0 + 1), mc])) := ⟨_, rfl⟩
  rw [← e9] at hP
  have hx : ext h h8 [L] := by rw [e9]; exact hx.pu (Or.inl (by simp))
  have f10 : h8 L = some (.inr (0, [.ref E, .int (0 + 1), mc])) := by rw [e9]; exact pu_s
  have f11 : h8 E = some (.inl (cs 5, 10, .inr (.inr (.inr (.inr (va_up (fun _ => none) 0 (some v))))))) := by rw [e9]; exact pu_k f6 (pu_t f6 f7 (show (310 : Nat) ≠ 0 by decide))
  exact pw_vret F hr hlk hP hA hK hS (by decide) (by decide) d_AL_add1_22 ⟨E, g2, f11, f10, hx⟩
abbrev rm_AL_add1g_3 : Room := { frames := 0, cells := 0, slots := 0, locals := 0 }
set_option maxHeartbeats 4000000 in
set_option maxRecDepth 100000 in
theorem c_AL_add1g_3 (l : Launch) (D : va_G) (cs : Nat → Nat) (A : Nat → Prop) (h : pw_H) (L E v n : Nat) (vs : List Value) (mc : Value) (q : Nat → Option Nat) (hn : n < 10) (fL : h L = some (.inr (0, [.ref E, .int (nI n), mc]))) (fE : h E = some (.inl (cs 5, 10, .inr (.inr (.inr (.inr q)))))) (fv : h v = some (.inr (3, vs))) : pm l y_AL_add1 b_AL_add1 4 none rm_AL_add1g_3 [.ref L, .ref v, .ref E, .int (nI n)] D cs A h (va_Qv (fun (h' : pw_H) => h' E = some (.inl (cs 5, 10, .inr (.inr (.inr (.inr (va_up q n (some v))))))) ∧ h' L = some (.inr (0, [.ref E, .int (nI n + 1), mc])) ∧ ext h h' [L, E]) (ww D cs A) A) 0 0 := by
  refine pm_of R_AL rfl (by decide) (Nat.le_of_ble_eq_true rfl) (fun p e s m below meth c ls F hr hlk hnm hP hA hK hl => ?_)
  have hS : va_S A s.heap s.heap [] := va_S.rf
  replace hl : lv_has ls 4 [(0, .ref L), (1, .ref v), (2, .ref E), (3, .int (nI n))] := hl
  have hx : ext h h [L, E] := ext.rf
  refine lv_iload_n F.1 F.2.1 d_AL_add1_0 rfl (lv_at hl 3 rfl) ?_
  refine lv_aload_n F.1 F.2.1 d_AL_add1_1 rfl (lv_at hl 2 rfl) ?_
  refine pw_alen F hK.1 hP 5 fE rfl (v := 10) (show Int32.ofNat 10 = 10 from by decide) d_AL_add1_2 ?_
  refine lv_icmp_ne (tgt := 11) F.1 F.2.1 d_AL_add1_3 (by decide) (fun c1 => ?_) (fun c1 => absurd c1 (fun z9 => by have := (nI_eq (a := n) (b := 10) (by omega) (by decide)).mp z9; omega))
  refine lv_aload_n F.1 F.2.1 d_AL_add1_11 rfl (lv_at hl 2 rfl) ?_
  refine lv_iload_n F.1 F.2.1 d_AL_add1_12 rfl (lv_at hl 3 rfl) ?_
  refine lv_aload_n F.1 F.2.1 d_AL_add1_13 rfl (lv_at hl 1 rfl) ?_
  refine pw_astqON F hK.1 hP hS 5 3 fE rfl (hK.2.2.2.2.2.2.2.1 ("PatchDesk$Patch", "java/lang/Object") (by decide)) fv rfl (k := n) hn (by decide) d_AL_add1_14 (fun H locs hP hS => ?_)
  replace hP : pw D vwCl A (pu h E (.inl (cs 5, 10, .inr (.inr (.inr (.inr (va_up q n (some v)))))))) H := hP
  obtain ⟨h2, e3⟩ : ∃ z9 : pw_H, z9 = pu h E (.inl (cs 5, 10, .inr (.inr (.inr (.inr (va_up q n (some v))))))) := ⟨_, rfl⟩
  rw [← e3] at hP
  have hx : ext h h2 [L, E] := by rw [e3]; exact hx.pu (Or.inl (by simp))
  have f4 : h2 E = some (.inl (cs 5, 10, .inr (.inr (.inr (.inr (va_up q n (some v))))))) := by rw [e3]; exact pu_s
  refine lv_aload_n F.1 F.2.1 d_AL_add1_15 rfl (lv_at hl 0 rfl) ?_
  refine lv_iload_n F.1 F.2.1 d_AL_add1_16 rfl (lv_at hl 3 rfl) ?_
  refine lv_iconst (v := 1) F.1 F.2.1 d_AL_add1_17 (by decide) ?_
  refine lv_iadd F.1 F.2.1 d_AL_add1_18 ?_
  have f5 : h2 L = some (.inr (0, [.ref E, .int (nI n), mc])) := by rw [e3]; exact pu_k fL (pu_t fL fE (show (0 : Nat) ≠ 310 by decide))
  refine pw_put F I_AL ty_AL k_AL n_AL hK.1 hP hS f5 rfl 1 (by decide) L_AL_48 (fun _ z => z) rfl rfl rfl (Nat.le_of_ble_eq_true rfl) d_AL_add1_19 (fun H locs hP hS => ?_)
  replace hP : pw D vwCl A (pu h2 L (.inr (0, [.ref E, .int ((nI n) + 1), mc]))) H := hP
  obtain ⟨h6, e7⟩ : ∃ z9 : pw_H, z9 = pu h2 L (.inr (0, [.ref E, .int ((nI n) + 1), mc])) := ⟨_, rfl⟩
  rw [← e7] at hP
  have hx : ext h h6 [L, E] := by rw [e7]; exact hx.pu (Or.inl (by simp))
  have f8 : h6 L = some (.inr (0, [.ref E, .int ((nI n) + 1), mc])) := by rw [e7]; exact pu_s
  have f9 : h6 E = some (.inl (cs 5, 10, .inr (.inr (.inr (.inr (va_up q n (some v))))))) := by rw [e7]; exact pu_k f4 (pu_t f4 f5 (show (310 : Nat) ≠ 0 by decide))
  exact pw_vret F hr hlk hP hA hK hS (by decide) (by decide) d_AL_add1_22 ⟨f9, f8, hx⟩
abbrev rm_AL_addf_3 : Room := { frames := 4, cells := 1, slots := 10, locals := 83 }
set_option maxHeartbeats 4000000 in
set_option maxRecDepth 100000 in
theorem c_AL_addf_3 (l : Launch) (D : va_G) (cs : Nat → Nat) (A : Nat → Prop) (h : pw_H) (L v : Nat) (vs : List Value) (mc : Int32) (fL : h L = some (.inr (0, [.ref (cs 9), .int 0, .int mc]))) (fv : h v = some (.inr (3, vs))) : pm l y_AL_add0 b_AL_add0 2 (some .boolean) rm_AL_addf_3 [.ref L, .ref v] D cs A h (va_Qi (fun (r : Int32) (h' : pw_H) => r = 1 ∧ ∃ E : Nat, h E = none ∧ h' E = some (.inl (cs 5, 10, .inr (.inr (.inr (.inr (va_up (fun _ => none) 0 (some v))))))) ∧ h' L = some (.inr (0, [.ref E, .int (0 + 1), .int (mc + 1)])) ∧ ext h h' [L]) (ww D cs A) A) 1 10 := by
  refine pm_of R_AL rfl (by decide) (Nat.le_of_ble_eq_true rfl) (fun p e s m below meth c ls F hr hlk hnm hP hA hK hl => ?_)
  have hS : va_S A s.heap s.heap [] := va_S.rf
  replace hl : lv_has ls 2 [(0, .ref L), (1, .ref v)] := hl
  have hx : ext h h [L] := ext.rf
  refine lv_aload_n F.1 F.2.1 d_AL_add0_0 rfl (lv_at hl 0 rfl) ?_
  refine lv_dup F.1 F.2.1 d_AL_add0_1 rfl ?_
  refine pw_get F I_AL hK.1 hP fL rfl 2 (by decide) L_AL_63 (fun x9 h9 => u_same (F.2.2.2.2 _ sf_mod) x9 h9) rfl d_AL_add0_2 ?_
  refine lv_iconst (v := 1) F.1 F.2.1 d_AL_add0_5 (by decide) ?_
  refine lv_iadd F.1 F.2.1 d_AL_add0_6 ?_
  refine pw_put F I_AL ty_AL k_AL n_AL hK.1 hP hS fL rfl 2 (by decide) L_AL_63 (fun x9 h9 => u_same (F.2.2.2.2 _ sf_mod) x9 h9) rfl rfl rfl (Nat.le_of_ble_eq_true rfl) d_AL_add0_7 (fun H locs hP hS => ?_)
  replace hP : pw D vwCl A (pu h L (.inr (0, [.ref (cs 9), .int 0, .int (mc + 1)]))) H := hP
  obtain ⟨h1, e2⟩ : ∃ z9 : pw_H, z9 = pu h L (.inr (0, [.ref (cs 9), .int 0, .int (mc + 1)])) := ⟨_, rfl⟩
  rw [← e2] at hP
  have hx : ext h h1 [L] := by rw [e2]; exact hx.pu (Or.inl (by simp))
  have f3 : h1 L = some (.inr (0, [.ref (cs 9), .int 0, .int (mc + 1)])) := by rw [e2]; exact pu_s
  refine lv_aload_n F.1 F.2.1 d_AL_add0_10 rfl (lv_at hl 0 rfl) ?_
  refine lv_aload_n F.1 F.2.1 d_AL_add0_11 rfl (lv_at hl 1 rfl) ?_
  refine lv_aload_n F.1 F.2.1 d_AL_add0_12 rfl (lv_at hl 0 rfl) ?_
  refine pw_get F I_AL hK.1 hP f3 rfl 0 (by decide) L_AL_9 (fun _ z => z) rfl d_AL_add0_13 ?_
  refine lv_aload_n F.1 F.2.1 d_AL_add0_16 rfl (lv_at hl 0 rfl) ?_
  refine pw_get F I_AL hK.1 hP f3 rfl 1 (by decide) L_AL_48 (fun _ z => z) rfl d_AL_add0_17 ?_
  have f4 : h1 v = some (.inr (3, vs)) := by rw [e2]; exact pu_k fv (pu_t fv fL (show (3 : Nat) ≠ 0 by decide))
  refine pw_cv (pr_V F (c_AL_add1f_3 l D cs A h1 L v vs _ f3 f4) X_AL_131 rfl rfl ⟨by decide, by decide⟩ hP hA hK hS f3 rfl rfl rfl hl.1 rfl (Nat.le_of_ble_eq_true rfl) d_AL_add0_20 ⟨by decide, by decide⟩) hS (fun hw1 H locs hq hP hS => ?_)
  obtain ⟨E, jw0, jw1, jw2, jw3⟩ := hq
  have g5 : h E = none := hx.2 _ jw0
  have hx : ext h hw1 [L] := hx.trans jw3 (fun y hy => by
    simp only [List.mem_cons, List.not_mem_nil, or_false] at hy
    rcases hy with rfl
    · exact Or.inl (by simp))
  refine lv_iconst (v := 1) F.1 F.2.1 d_AL_add0_23 (by decide) ?_
  exact pw_zret F hr rfl hlk hP hA hK hS (by decide) (by decide) d_AL_add0_24 ⟨rfl, E, g5, jw1, jw2, hx⟩
abbrev rm_AL_addg_3 : Room := { frames := 1, cells := 0, slots := 0, locals := 23 }
set_option maxHeartbeats 4000000 in
set_option maxRecDepth 100000 in
theorem c_AL_addg_3 (l : Launch) (D : va_G) (cs : Nat → Nat) (A : Nat → Prop) (h : pw_H) (L E v n : Nat) (vs : List Value) (mc : Int32) (q : Nat → Option Nat) (hn : n < 10) (fL : h L = some (.inr (0, [.ref E, .int (nI n), .int mc]))) (fE : h E = some (.inl (cs 5, 10, .inr (.inr (.inr (.inr q)))))) (fv : h v = some (.inr (3, vs))) : pm l y_AL_add0 b_AL_add0 2 (some .boolean) rm_AL_addg_3 [.ref L, .ref v] D cs A h (va_Qi (fun (r : Int32) (h' : pw_H) => r = 1 ∧ h' E = some (.inl (cs 5, 10, .inr (.inr (.inr (.inr (va_up q n (some v))))))) ∧ h' L = some (.inr (0, [.ref E, .int (nI n + 1), .int (mc + 1)])) ∧ ext h h' [L, E]) (ww D cs A) A) 0 0 := by
  refine pm_of R_AL rfl (by decide) (Nat.le_of_ble_eq_true rfl) (fun p e s m below meth c ls F hr hlk hnm hP hA hK hl => ?_)
  have hS : va_S A s.heap s.heap [] := va_S.rf
  replace hl : lv_has ls 2 [(0, .ref L), (1, .ref v)] := hl
  have hx : ext h h [L, E] := ext.rf
  refine lv_aload_n F.1 F.2.1 d_AL_add0_0 rfl (lv_at hl 0 rfl) ?_
  refine lv_dup F.1 F.2.1 d_AL_add0_1 rfl ?_
  refine pw_get F I_AL hK.1 hP fL rfl 2 (by decide) L_AL_63 (fun x9 h9 => u_same (F.2.2.2.2 _ sf_mod) x9 h9) rfl d_AL_add0_2 ?_
  refine lv_iconst (v := 1) F.1 F.2.1 d_AL_add0_5 (by decide) ?_
  refine lv_iadd F.1 F.2.1 d_AL_add0_6 ?_
  refine pw_put F I_AL ty_AL k_AL n_AL hK.1 hP hS fL rfl 2 (by decide) L_AL_63 (fun x9 h9 => u_same (F.2.2.2.2 _ sf_mod) x9 h9) rfl rfl rfl (Nat.le_of_ble_eq_true rfl) d_AL_add0_7 (fun H locs hP hS => ?_)
  replace hP : pw D vwCl A (pu h L (.inr (0, [.ref E, .int (nI n), .int (mc + 1)]))) H := hP
  obtain ⟨h1, e2⟩ : ∃ z9 : pw_H, z9 = pu h L (.inr (0, [.ref E, .int (nI n), .int (mc + 1)])) := ⟨_, rfl⟩
  rw [← e2] at hP
  have hx : ext h h1 [L, E] := by rw [e2]; exact hx.pu (Or.inl (by simp))
  have f3 : h1 L = some (.inr (0, [.ref E, .int (nI n), .int (mc + 1)])) := by rw [e2]; exact pu_s
  refine lv_aload_n F.1 F.2.1 d_AL_add0_10 rfl (lv_at hl 0 rfl) ?_
  refine lv_aload_n F.1 F.2.1 d_AL_add0_11 rfl (lv_at hl 1 rfl) ?_
  refine lv_aload_n F.1 F.2.1 d_AL_add0_12 rfl (lv_at hl 0 rfl) ?_
  refine pw_get F I_AL hK.1 hP f3 rfl 0 (by decide) L_AL_9 (fun _ z => z) rfl d_AL_add0_13 ?_
  refine lv_aload_n F.1 F.2.1 d_AL_add0_16 rfl (lv_at hl 0 rfl) ?_
  refine pw_get F I_AL hK.1 hP f3 rfl 1 (by decide) L_AL_48 (fun _ z => z) rfl d_AL_add0_17 ?_
  have f4 : h1 E = some (.inl (cs 5, 10, .inr (.inr (.inr (.inr q))))) := by rw [e2]; exact pu_k fE (pu_t fE fL (show (310 : Nat) ≠ 0 by decide))
  have f5 : h1 v = some (.inr (3, vs)) := by rw [e2]; exact pu_k fv (pu_t fv fL (show (3 : Nat) ≠ 0 by decide))
  refine pw_cv (pr_V F (c_AL_add1g_3 l D cs A h1 L E v n vs _ q hn f3 f4 f5) X_AL_131 rfl rfl ⟨by decide, by decide⟩ hP hA hK hS f3 rfl rfl rfl hl.1 rfl (Nat.le_of_ble_eq_true rfl) d_AL_add0_20 ⟨by decide, by decide⟩) hS (fun hw1 H locs hq hP hS => ?_)
  obtain ⟨jw1, jw2, jw3⟩ := hq
  have hx : ext h hw1 [L, E] := hx.trans jw3 (fun y hy => by
    simp only [List.mem_cons, List.not_mem_nil, or_false] at hy
    rcases hy with rfl | rfl
    · exact Or.inl (by simp)
    · exact Or.inl (by simp))
  refine lv_iconst (v := 1) F.1 F.2.1 d_AL_add0_23 (by decide) ?_
  exact pw_zret F hr rfl hlk hP hA hK hS (by decide) (by decide) d_AL_add0_24 ⟨rfl, jw1, jw2, hx⟩
abbrev rm_AL_add1f_5 : Room := { frames := 3, cells := 1, slots := 10, locals := 60 }
set_option maxHeartbeats 4000000 in
set_option maxRecDepth 100000 in
theorem c_AL_add1f_5 (l : Launch) (D : va_G) (cs : Nat → Nat) (A : Nat → Prop) (h : pw_H) (L v : Nat) (vs : List Value) (mc : Value) (fL : h L = some (.inr (0, [.ref (cs 9), .int 0, mc]))) (fv : h v = some (.inr (5, vs))) : pm l y_AL_add1 b_AL_add1 4 none rm_AL_add1f_5 [.ref L, .ref v, .ref (cs 9), .int 0] D cs A h (va_Qv (fun (h' : pw_H) => ∃ E : Nat, h E = none ∧ h' E = some (.inl (cs 5, 10, .inr (.inr (.inr (.inr (va_up (fun _ => none) 0 (some v))))))) ∧ h' L = some (.inr (0, [.ref E, .int (0 + 1), mc])) ∧ ext h h' [L]) (ww D cs A) A) 1 10 := by
  refine pm_of R_AL rfl (by decide) (Nat.le_of_ble_eq_true rfl) (fun p e s m below meth c ls F hr hlk hnm hP hA hK hl => ?_)
  have hS : va_S A s.heap s.heap [] := va_S.rf
  replace hl : lv_has ls 4 [(0, .ref L), (1, .ref v), (2, .ref (cs 9)), (3, .int 0)] := hl
  have hx : ext h h [L] := ext.rf
  refine lv_iload_n F.1 F.2.1 d_AL_add1_0 rfl (lv_at hl 3 rfl) ?_
  refine lv_aload_n F.1 F.2.1 d_AL_add1_1 rfl (lv_at hl 2 rfl) ?_
  refine va_tlen (N := 0) F.1 F.2.1 hK.2.2.1 hS (v := 0) (by decide) d_AL_add1_2 ?_
  refine lv_icmp_ne (tgt := 11) F.1 F.2.1 d_AL_add1_3 (by decide) (fun c1 => absurd (by decide) c1) (fun c1 => ?_)
  refine lv_aload_n F.1 F.2.1 d_AL_add1_6 rfl (lv_at hl 0 rfl) ?_
  refine pw_cr (post := fun r h' => h r = none ∧ h' r = some (.inl (cs 5, 10, .inr (.inr (.inr (.inr (fun _ => none)))))) ∧ h' L = some (.inr (0, [.ref r, .int 0, mc])) ∧ ext h h' [L]) (pr_V F (c_AL_grow0 l D cs A h L mc fL) X_AL_129 rfl rfl ⟨by decide, by decide⟩ hP hA hK hS fL rfl rfl rfl hl.1 rfl (Nat.le_of_ble_eq_true rfl) d_AL_add1_7 ⟨by decide, by decide⟩) hS (fun E hw1 H locs hq hP hS => ?_)
  obtain ⟨jw1, jw2, jw3, jw4⟩ := hq
  have g2 : h E = none := hx.2 _ jw1
  have hx : ext h hw1 [L] := hx.trans jw4 (fun y hy => by
    simp only [List.mem_cons, List.not_mem_nil, or_false] at hy
    rcases hy with rfl
    · exact Or.inl (by simp))
  refine lv_astore_n F.1 F.2.1 d_AL_add1_10 rfl hl (by decide) rfl (fun ls hl => ?_)
  replace hl : lv_has ls 4 [(2, .ref E), (0, .ref L), (1, .ref v), (3, .int 0)] := hl
  refine lv_aload_n F.1 F.2.1 d_AL_add1_11 rfl (lv_at hl 0 rfl) ?_
  refine lv_iload_n F.1 F.2.1 d_AL_add1_12 rfl (lv_at hl 3 rfl) ?_
  refine lv_aload_n F.1 F.2.1 d_AL_add1_13 rfl (lv_at hl 2 rfl) ?_
  refine W.eq (g2 := F0 m 14 ls [.ref v, .int (nI 0), .ref E]) (by rw [(show (0 : Int32) = nI 0 from by decide)]) ?_
  have f3 : hw1 v = some (.inr (5, vs)) := jw4.1 _ _ fv (nin1 (pu_t fv fL (show (5 : Nat) ≠ 0 by decide)))
  refine pw_astqON F hK.1 hP hS 5 5 jw2 rfl (hK.2.2.2.2.2.2.2.1 ("PatchDesk$Task", "java/lang/Object") (by decide)) f3 rfl (k := 0) (by decide) (by decide) d_AL_add1_14 (fun H locs hP hS => ?_)
  replace hP : pw D vwCl A (pu hw1 E (.inl (cs 5, 10, .inr (.inr (.inr (.inr (va_up (fun _ => none) 0 (some v)))))))) H := hP
  obtain ⟨h4, e5⟩ : ∃ z9 : pw_H, z9 = pu hw1 E (.inl (cs 5, 10, .inr (.inr (.inr (.inr (va_up (fun _ => none) 0 (some v))))))) := ⟨_, rfl⟩
  rw [← e5] at hP
  have hx : ext h h4 [L] := by rw [e5]; exact hx.pu (Or.inr g2)
  have f6 : h4 E = some (.inl (cs 5, 10, .inr (.inr (.inr (.inr (va_up (fun _ => none) 0 (some v))))))) := by rw [e5]; exact pu_s
  refine lv_aload_n F.1 F.2.1 d_AL_add1_15 rfl (lv_at hl 1 rfl) ?_
  refine lv_iload_n F.1 F.2.1 d_AL_add1_16 rfl (lv_at hl 3 rfl) ?_
  refine lv_iconst (v := 1) F.1 F.2.1 d_AL_add1_17 (by decide) ?_
  refine lv_iadd F.1 F.2.1 d_AL_add1_18 ?_
  have f7 : h4 L = some (.inr (0, [.ref E, .int 0, mc])) := by rw [e5]; exact pu_k jw3 (pu_t jw3 jw2 (show (0 : Nat) ≠ 310 by decide))
  refine pw_put F I_AL ty_AL k_AL n_AL hK.1 hP hS f7 rfl 1 (by decide) L_AL_48 (fun _ z => z) rfl rfl rfl (Nat.le_of_ble_eq_true rfl) d_AL_add1_19 (fun H locs hP hS => ?_)
  replace hP : pw D vwCl A (pu h4 L (.inr (0, [.ref E, .int (0 + 1), mc]))) H := hP
  obtain ⟨h8, e9⟩ : ∃ z9 : pw_H, z9 = pu h4 L (.inr (0, [.ref E, .int (0 + 1), mc])) := ⟨_, rfl⟩
  rw [← e9] at hP
  have hx : ext h h8 [L] := by rw [e9]; exact hx.pu (Or.inl (by simp))
  have f10 : h8 L = some (.inr (0, [.ref E, .int (0 + 1), mc])) := by rw [e9]; exact pu_s
  have f11 : h8 E = some (.inl (cs 5, 10, .inr (.inr (.inr (.inr (va_up (fun _ => none) 0 (some v))))))) := by rw [e9]; exact pu_k f6 (pu_t f6 f7 (show (310 : Nat) ≠ 0 by decide))
  exact pw_vret F hr hlk hP hA hK hS (by decide) (by decide) d_AL_add1_22 ⟨E, g2, f11, f10, hx⟩
abbrev rm_AL_add1g_5 : Room := { frames := 0, cells := 0, slots := 0, locals := 0 }
set_option maxHeartbeats 4000000 in
set_option maxRecDepth 100000 in
theorem c_AL_add1g_5 (l : Launch) (D : va_G) (cs : Nat → Nat) (A : Nat → Prop) (h : pw_H) (L E v n : Nat) (vs : List Value) (mc : Value) (q : Nat → Option Nat) (hn : n < 10) (fL : h L = some (.inr (0, [.ref E, .int (nI n), mc]))) (fE : h E = some (.inl (cs 5, 10, .inr (.inr (.inr (.inr q)))))) (fv : h v = some (.inr (5, vs))) : pm l y_AL_add1 b_AL_add1 4 none rm_AL_add1g_5 [.ref L, .ref v, .ref E, .int (nI n)] D cs A h (va_Qv (fun (h' : pw_H) => h' E = some (.inl (cs 5, 10, .inr (.inr (.inr (.inr (va_up q n (some v))))))) ∧ h' L = some (.inr (0, [.ref E, .int (nI n + 1), mc])) ∧ ext h h' [L, E]) (ww D cs A) A) 0 0 := by
  refine pm_of R_AL rfl (by decide) (Nat.le_of_ble_eq_true rfl) (fun p e s m below meth c ls F hr hlk hnm hP hA hK hl => ?_)
  have hS : va_S A s.heap s.heap [] := va_S.rf
  replace hl : lv_has ls 4 [(0, .ref L), (1, .ref v), (2, .ref E), (3, .int (nI n))] := hl
  have hx : ext h h [L, E] := ext.rf
  refine lv_iload_n F.1 F.2.1 d_AL_add1_0 rfl (lv_at hl 3 rfl) ?_
  refine lv_aload_n F.1 F.2.1 d_AL_add1_1 rfl (lv_at hl 2 rfl) ?_
  refine pw_alen F hK.1 hP 5 fE rfl (v := 10) (show Int32.ofNat 10 = 10 from by decide) d_AL_add1_2 ?_
  refine lv_icmp_ne (tgt := 11) F.1 F.2.1 d_AL_add1_3 (by decide) (fun c1 => ?_) (fun c1 => absurd c1 (fun z9 => by have := (nI_eq (a := n) (b := 10) (by omega) (by decide)).mp z9; omega))
  refine lv_aload_n F.1 F.2.1 d_AL_add1_11 rfl (lv_at hl 2 rfl) ?_
  refine lv_iload_n F.1 F.2.1 d_AL_add1_12 rfl (lv_at hl 3 rfl) ?_
  refine lv_aload_n F.1 F.2.1 d_AL_add1_13 rfl (lv_at hl 1 rfl) ?_
  refine pw_astqON F hK.1 hP hS 5 5 fE rfl (hK.2.2.2.2.2.2.2.1 ("PatchDesk$Task", "java/lang/Object") (by decide)) fv rfl (k := n) hn (by decide) d_AL_add1_14 (fun H locs hP hS => ?_)
  replace hP : pw D vwCl A (pu h E (.inl (cs 5, 10, .inr (.inr (.inr (.inr (va_up q n (some v)))))))) H := hP
  obtain ⟨h2, e3⟩ : ∃ z9 : pw_H, z9 = pu h E (.inl (cs 5, 10, .inr (.inr (.inr (.inr (va_up q n (some v))))))) := ⟨_, rfl⟩
  rw [← e3] at hP
  have hx : ext h h2 [L, E] := by rw [e3]; exact hx.pu (Or.inl (by simp))
  have f4 : h2 E = some (.inl (cs 5, 10, .inr (.inr (.inr (.inr (va_up q n (some v))))))) := by rw [e3]; exact pu_s
  refine lv_aload_n F.1 F.2.1 d_AL_add1_15 rfl (lv_at hl 0 rfl) ?_
  refine lv_iload_n F.1 F.2.1 d_AL_add1_16 rfl (lv_at hl 3 rfl) ?_
  refine lv_iconst (v := 1) F.1 F.2.1 d_AL_add1_17 (by decide) ?_
  refine lv_iadd F.1 F.2.1 d_AL_add1_18 ?_
  have f5 : h2 L = some (.inr (0, [.ref E, .int (nI n), mc])) := by rw [e3]; exact pu_k fL (pu_t fL fE (show (0 : Nat) ≠ 310 by decide))
  refine pw_put F I_AL ty_AL k_AL n_AL hK.1 hP hS f5 rfl 1 (by decide) L_AL_48 (fun _ z => z) rfl rfl rfl (Nat.le_of_ble_eq_true rfl) d_AL_add1_19 (fun H locs hP hS => ?_)
  replace hP : pw D vwCl A (pu h2 L (.inr (0, [.ref E, .int ((nI n) + 1), mc]))) H := hP
  obtain ⟨h6, e7⟩ : ∃ z9 : pw_H, z9 = pu h2 L (.inr (0, [.ref E, .int ((nI n) + 1), mc])) := ⟨_, rfl⟩
  rw [← e7] at hP
  have hx : ext h h6 [L, E] := by rw [e7]; exact hx.pu (Or.inl (by simp))
  have f8 : h6 L = some (.inr (0, [.ref E, .int ((nI n) + 1), mc])) := by rw [e7]; exact pu_s
  have f9 : h6 E = some (.inl (cs 5, 10, .inr (.inr (.inr (.inr (va_up q n (some v))))))) := by rw [e7]; exact pu_k f4 (pu_t f4 f5 (show (310 : Nat) ≠ 0 by decide))
  exact pw_vret F hr hlk hP hA hK hS (by decide) (by decide) d_AL_add1_22 ⟨f9, f8, hx⟩
abbrev rm_AL_addf_5 : Room := { frames := 4, cells := 1, slots := 10, locals := 83 }
set_option maxHeartbeats 4000000 in
set_option maxRecDepth 100000 in
theorem c_AL_addf_5 (l : Launch) (D : va_G) (cs : Nat → Nat) (A : Nat → Prop) (h : pw_H) (L v : Nat) (vs : List Value) (mc : Int32) (fL : h L = some (.inr (0, [.ref (cs 9), .int 0, .int mc]))) (fv : h v = some (.inr (5, vs))) : pm l y_AL_add0 b_AL_add0 2 (some .boolean) rm_AL_addf_5 [.ref L, .ref v] D cs A h (va_Qi (fun (r : Int32) (h' : pw_H) => r = 1 ∧ ∃ E : Nat, h E = none ∧ h' E = some (.inl (cs 5, 10, .inr (.inr (.inr (.inr (va_up (fun _ => none) 0 (some v))))))) ∧ h' L = some (.inr (0, [.ref E, .int (0 + 1), .int (mc + 1)])) ∧ ext h h' [L]) (ww D cs A) A) 1 10 := by
  refine pm_of R_AL rfl (by decide) (Nat.le_of_ble_eq_true rfl) (fun p e s m below meth c ls F hr hlk hnm hP hA hK hl => ?_)
  have hS : va_S A s.heap s.heap [] := va_S.rf
  replace hl : lv_has ls 2 [(0, .ref L), (1, .ref v)] := hl
  have hx : ext h h [L] := ext.rf
  refine lv_aload_n F.1 F.2.1 d_AL_add0_0 rfl (lv_at hl 0 rfl) ?_
  refine lv_dup F.1 F.2.1 d_AL_add0_1 rfl ?_
  refine pw_get F I_AL hK.1 hP fL rfl 2 (by decide) L_AL_63 (fun x9 h9 => u_same (F.2.2.2.2 _ sf_mod) x9 h9) rfl d_AL_add0_2 ?_
  refine lv_iconst (v := 1) F.1 F.2.1 d_AL_add0_5 (by decide) ?_
  refine lv_iadd F.1 F.2.1 d_AL_add0_6 ?_
  refine pw_put F I_AL ty_AL k_AL n_AL hK.1 hP hS fL rfl 2 (by decide) L_AL_63 (fun x9 h9 => u_same (F.2.2.2.2 _ sf_mod) x9 h9) rfl rfl rfl (Nat.le_of_ble_eq_true rfl) d_AL_add0_7 (fun H locs hP hS => ?_)
  replace hP : pw D vwCl A (pu h L (.inr (0, [.ref (cs 9), .int 0, .int (mc + 1)]))) H := hP
  obtain ⟨h1, e2⟩ : ∃ z9 : pw_H, z9 = pu h L (.inr (0, [.ref (cs 9), .int 0, .int (mc + 1)])) := ⟨_, rfl⟩
  rw [← e2] at hP
  have hx : ext h h1 [L] := by rw [e2]; exact hx.pu (Or.inl (by simp))
  have f3 : h1 L = some (.inr (0, [.ref (cs 9), .int 0, .int (mc + 1)])) := by rw [e2]; exact pu_s
  refine lv_aload_n F.1 F.2.1 d_AL_add0_10 rfl (lv_at hl 0 rfl) ?_
  refine lv_aload_n F.1 F.2.1 d_AL_add0_11 rfl (lv_at hl 1 rfl) ?_
  refine lv_aload_n F.1 F.2.1 d_AL_add0_12 rfl (lv_at hl 0 rfl) ?_
  refine pw_get F I_AL hK.1 hP f3 rfl 0 (by decide) L_AL_9 (fun _ z => z) rfl d_AL_add0_13 ?_
  refine lv_aload_n F.1 F.2.1 d_AL_add0_16 rfl (lv_at hl 0 rfl) ?_
  refine pw_get F I_AL hK.1 hP f3 rfl 1 (by decide) L_AL_48 (fun _ z => z) rfl d_AL_add0_17 ?_
  have f4 : h1 v = some (.inr (5, vs)) := by rw [e2]; exact pu_k fv (pu_t fv fL (show (5 : Nat) ≠ 0 by decide))
  refine pw_cv (pr_V F (c_AL_add1f_5 l D cs A h1 L v vs _ f3 f4) X_AL_131 rfl rfl ⟨by decide, by decide⟩ hP hA hK hS f3 rfl rfl rfl hl.1 rfl (Nat.le_of_ble_eq_true rfl) d_AL_add0_20 ⟨by decide, by decide⟩) hS (fun hw1 H locs hq hP hS => ?_)
  obtain ⟨E, jw0, jw1, jw2, jw3⟩ := hq
  have g5 : h E = none := hx.2 _ jw0
  have hx : ext h hw1 [L] := hx.trans jw3 (fun y hy => by
    simp only [List.mem_cons, List.not_mem_nil, or_false] at hy
    rcases hy with rfl
    · exact Or.inl (by simp))
  refine lv_iconst (v := 1) F.1 F.2.1 d_AL_add0_23 (by decide) ?_
  exact pw_zret F hr rfl hlk hP hA hK hS (by decide) (by decide) d_AL_add0_24 ⟨rfl, E, g5, jw1, jw2, hx⟩
abbrev rm_AL_addg_5 : Room := { frames := 1, cells := 0, slots := 0, locals := 23 }
set_option maxHeartbeats 4000000 in
set_option maxRecDepth 100000 in
theorem c_AL_addg_5 (l : Launch) (D : va_G) (cs : Nat → Nat) (A : Nat → Prop) (h : pw_H) (L E v n : Nat) (vs : List Value) (mc : Int32) (q : Nat → Option Nat) (hn : n < 10) (fL : h L = some (.inr (0, [.ref E, .int (nI n), .int mc]))) (fE : h E = some (.inl (cs 5, 10, .inr (.inr (.inr (.inr q)))))) (fv : h v = some (.inr (5, vs))) : pm l y_AL_add0 b_AL_add0 2 (some .boolean) rm_AL_addg_5 [.ref L, .ref v] D cs A h (va_Qi (fun (r : Int32) (h' : pw_H) => r = 1 ∧ h' E = some (.inl (cs 5, 10, .inr (.inr (.inr (.inr (va_up q n (some v))))))) ∧ h' L = some (.inr (0, [.ref E, .int (nI n + 1), .int (mc + 1)])) ∧ ext h h' [L, E]) (ww D cs A) A) 0 0 := by
  refine pm_of R_AL rfl (by decide) (Nat.le_of_ble_eq_true rfl) (fun p e s m below meth c ls F hr hlk hnm hP hA hK hl => ?_)
  have hS : va_S A s.heap s.heap [] := va_S.rf
  replace hl : lv_has ls 2 [(0, .ref L), (1, .ref v)] := hl
  have hx : ext h h [L, E] := ext.rf
  refine lv_aload_n F.1 F.2.1 d_AL_add0_0 rfl (lv_at hl 0 rfl) ?_
  refine lv_dup F.1 F.2.1 d_AL_add0_1 rfl ?_
  refine pw_get F I_AL hK.1 hP fL rfl 2 (by decide) L_AL_63 (fun x9 h9 => u_same (F.2.2.2.2 _ sf_mod) x9 h9) rfl d_AL_add0_2 ?_
  refine lv_iconst (v := 1) F.1 F.2.1 d_AL_add0_5 (by decide) ?_
  refine lv_iadd F.1 F.2.1 d_AL_add0_6 ?_
  refine pw_put F I_AL ty_AL k_AL n_AL hK.1 hP hS fL rfl 2 (by decide) L_AL_63 (fun x9 h9 => u_same (F.2.2.2.2 _ sf_mod) x9 h9) rfl rfl rfl (Nat.le_of_ble_eq_true rfl) d_AL_add0_7 (fun H locs hP hS => ?_)
  replace hP : pw D vwCl A (pu h L (.inr (0, [.ref E, .int (nI n), .int (mc + 1)]))) H := hP
  obtain ⟨h1, e2⟩ : ∃ z9 : pw_H, z9 = pu h L (.inr (0, [.ref E, .int (nI n), .int (mc + 1)])) := ⟨_, rfl⟩
  rw [← e2] at hP
  have hx : ext h h1 [L, E] := by rw [e2]; exact hx.pu (Or.inl (by simp))
  have f3 : h1 L = some (.inr (0, [.ref E, .int (nI n), .int (mc + 1)])) := by rw [e2]; exact pu_s
  refine lv_aload_n F.1 F.2.1 d_AL_add0_10 rfl (lv_at hl 0 rfl) ?_
  refine lv_aload_n F.1 F.2.1 d_AL_add0_11 rfl (lv_at hl 1 rfl) ?_
  refine lv_aload_n F.1 F.2.1 d_AL_add0_12 rfl (lv_at hl 0 rfl) ?_
  refine pw_get F I_AL hK.1 hP f3 rfl 0 (by decide) L_AL_9 (fun _ z => z) rfl d_AL_add0_13 ?_
  refine lv_aload_n F.1 F.2.1 d_AL_add0_16 rfl (lv_at hl 0 rfl) ?_
  refine pw_get F I_AL hK.1 hP f3 rfl 1 (by decide) L_AL_48 (fun _ z => z) rfl d_AL_add0_17 ?_
  have f4 : h1 E = some (.inl (cs 5, 10, .inr (.inr (.inr (.inr q))))) := by rw [e2]; exact pu_k fE (pu_t fE fL (show (310 : Nat) ≠ 0 by decide))
  have f5 : h1 v = some (.inr (5, vs)) := by rw [e2]; exact pu_k fv (pu_t fv fL (show (5 : Nat) ≠ 0 by decide))
  refine pw_cv (pr_V F (c_AL_add1g_5 l D cs A h1 L E v n vs _ q hn f3 f4 f5) X_AL_131 rfl rfl ⟨by decide, by decide⟩ hP hA hK hS f3 rfl rfl rfl hl.1 rfl (Nat.le_of_ble_eq_true rfl) d_AL_add0_20 ⟨by decide, by decide⟩) hS (fun hw1 H locs hq hP hS => ?_)
  obtain ⟨jw1, jw2, jw3⟩ := hq
  have hx : ext h hw1 [L, E] := hx.trans jw3 (fun y hy => by
    simp only [List.mem_cons, List.not_mem_nil, or_false] at hy
    rcases hy with rfl | rfl
    · exact Or.inl (by simp)
    · exact Or.inl (by simp))
  refine lv_iconst (v := 1) F.1 F.2.1 d_AL_add0_23 (by decide) ?_
  exact pw_zret F hr rfl hlk hP hA hK hS (by decide) (by decide) d_AL_add0_24 ⟨rfl, jw1, jw2, hx⟩
abbrev rm_AL_fastRemove : Room := { frames := 0, cells := 0, slots := 0, locals := 0 }
set_option maxHeartbeats 4000000 in
set_option maxRecDepth 100000 in
theorem c_AL_fastRemove (l : Launch) (D : va_G) (cs : Nat → Nat) (A : Nat → Prop) (h : pw_H) (L E k : Nat) (mc : Int32) (q : Nat → Option Nat) (hk : k < 10) (fL : h L = some (.inr (0, [.ref E, .int (nI (k + 1)), .int mc]))) (fE : h E = some (.inl (cs 5, 10, .inr (.inr (.inr (.inr q)))))) : pm l y_AL_fastRemove b_AL_fastRemove 4 none rm_AL_fastRemove [.ref L, .ref E, .int (nI k)] D cs A h (va_Qv (fun (h' : pw_H) => h' E = some (.inl (cs 5, 10, .inr (.inr (.inr (.inr (va_up q k none)))))) ∧ h' L = some (.inr (0, [.ref E, .int (nI k), .int (mc + 1)])) ∧ ext h h' [L, E]) (ww D cs A) A) 0 0 := by
  refine pm_of R_AL rfl (by decide) (Nat.le_of_ble_eq_true rfl) (fun p e s m below meth c ls F hr hlk hnm hP hA hK hl => ?_)
  have hS : va_S A s.heap s.heap [] := va_S.rf
  replace hl : lv_has ls 4 [(0, .ref L), (1, .ref E), (2, .int (nI k))] := hl
  have hx : ext h h [L, E] := ext.rf
  refine lv_aload_n F.1 F.2.1 d_AL_fastRemove_0 rfl (lv_at hl 0 rfl) ?_
  refine lv_dup F.1 F.2.1 d_AL_fastRemove_1 rfl ?_
  refine pw_get F I_AL hK.1 hP fL rfl 2 (by decide) L_AL_63 (fun x9 h9 => u_same (F.2.2.2.2 _ sf_mod) x9 h9) rfl d_AL_fastRemove_2 ?_
  refine lv_iconst (v := 1) F.1 F.2.1 d_AL_fastRemove_5 (by decide) ?_
  refine lv_iadd F.1 F.2.1 d_AL_fastRemove_6 ?_
  refine pw_put F I_AL ty_AL k_AL n_AL hK.1 hP hS fL rfl 2 (by decide) L_AL_63 (fun x9 h9 => u_same (F.2.2.2.2 _ sf_mod) x9 h9) rfl rfl rfl (Nat.le_of_ble_eq_true rfl) d_AL_fastRemove_7 (fun H locs hP hS => ?_)
  replace hP : pw D vwCl A (pu h L (.inr (0, [.ref E, .int (nI (k + 1)), .int (mc + 1)]))) H := hP
  obtain ⟨h1, e2⟩ : ∃ z9 : pw_H, z9 = pu h L (.inr (0, [.ref E, .int (nI (k + 1)), .int (mc + 1)])) := ⟨_, rfl⟩
  rw [← e2] at hP
  have hx : ext h h1 [L, E] := by rw [e2]; exact hx.pu (Or.inl (by simp))
  have f3 : h1 L = some (.inr (0, [.ref E, .int (nI (k + 1)), .int (mc + 1)])) := by rw [e2]; exact pu_s
  refine lv_aload_n F.1 F.2.1 d_AL_fastRemove_10 rfl (lv_at hl 0 rfl) ?_
  refine pw_get F I_AL hK.1 hP f3 rfl 1 (by decide) L_AL_48 (fun _ z => z) rfl d_AL_fastRemove_11 ?_
  refine lv_iconst (v := 1) F.1 F.2.1 d_AL_fastRemove_14 (by decide) ?_
  refine lv_isub F.1 F.2.1 d_AL_fastRemove_15 ?_
  refine W.eq (g2 := F0 m 16 ls [.int (nI k)]) (by rw [nI_pred]) ?_
  refine lv_dup F.1 F.2.1 d_AL_fastRemove_16 rfl ?_
  refine lv_istore_n F.1 F.2.1 d_AL_fastRemove_17 rfl hl (by decide) rfl (fun ls hl => ?_)
  replace hl : lv_has ls 4 [(3, .int (nI k)), (0, .ref L), (1, .ref E), (2, .int (nI k))] := hl
  refine lv_iload_n F.1 F.2.1 d_AL_fastRemove_18 rfl (lv_at hl 3 rfl) ?_
  refine lv_icmp_le (tgt := 34) F.1 F.2.1 d_AL_fastRemove_19 (by decide) (fun c4 => ?_) (fun c4 => absurd (Int32.le_refl _) c4)
  refine lv_aload_n F.1 F.2.1 d_AL_fastRemove_34 rfl (lv_at hl 2 rfl) ?_
  refine lv_aload_n F.1 F.2.1 d_AL_fastRemove_35 rfl (lv_at hl 1 rfl) ?_
  refine lv_iload_n F.1 F.2.1 d_AL_fastRemove_36 rfl (lv_at hl 0 rfl) ?_
  refine lv_dup_x1 F.1 F.2.1 d_AL_fastRemove_37 rfl rfl ?_
  refine pw_put F I_AL ty_AL k_AL n_AL hK.1 hP hS f3 rfl 1 (by decide) L_AL_48 (fun _ z => z) rfl rfl rfl (Nat.le_of_ble_eq_true rfl) d_AL_fastRemove_38 (fun H locs hP hS => ?_)
  replace hP : pw D vwCl A (pu h1 L (.inr (0, [.ref E, .int (nI k), .int (mc + 1)]))) H := hP
  obtain ⟨h5, e6⟩ : ∃ z9 : pw_H, z9 = pu h1 L (.inr (0, [.ref E, .int (nI k), .int (mc + 1)])) := ⟨_, rfl⟩
  rw [← e6] at hP
  have hx : ext h h5 [L, E] := by rw [e6]; exact hx.pu (Or.inl (by simp))
  have f7 : h5 L = some (.inr (0, [.ref E, .int (nI k), .int (mc + 1)])) := by rw [e6]; exact pu_s
  refine lv_null F.1 F.2.1 d_AL_fastRemove_41 ?_
  have f8 : h1 E = some (.inl (cs 5, 10, .inr (.inr (.inr (.inr q))))) := by rw [e2]; exact pu_k fE (pu_t fE fL (show (310 : Nat) ≠ 0 by decide))
  have f9 : h5 E = some (.inl (cs 5, 10, .inr (.inr (.inr (.inr q))))) := by rw [e6]; exact pu_k f8 (pu_t f8 f3 (show (310 : Nat) ≠ 0 by decide))
  refine pw_astqNN F hK.1 hP hS 5 f9 rfl (k := k) hk (by decide) d_AL_fastRemove_42 (fun H locs hP hS => ?_)
  replace hP : pw D vwCl A (pu h5 E (.inl (cs 5, 10, .inr (.inr (.inr (.inr (va_up q k none))))))) H := hP
  obtain ⟨h10, e11⟩ : ∃ z9 : pw_H, z9 = pu h5 E (.inl (cs 5, 10, .inr (.inr (.inr (.inr (va_up q k none)))))) := ⟨_, rfl⟩
  rw [← e11] at hP
  have hx : ext h h10 [L, E] := by rw [e11]; exact hx.pu (Or.inl (by simp))
  have f12 : h10 E = some (.inl (cs 5, 10, .inr (.inr (.inr (.inr (va_up q k none)))))) := by rw [e11]; exact pu_s
  have f13 : h10 L = some (.inr (0, [.ref E, .int (nI k), .int (mc + 1)])) := by rw [e11]; exact pu_k f7 (pu_t f7 f9 (show (0 : Nat) ≠ 310 by decide))
  exact pw_vret F hr hlk hP hA hK hS (by decide) (by decide) d_AL_fastRemove_43 ⟨f12, f13, hx⟩
abbrev rm_AL_remove : Room := { frames := 2, cells := 0, slots := 0, locals := 43 }
set_option maxHeartbeats 4000000 in
set_option maxRecDepth 100000 in
theorem c_AL_remove (l : Launch) (D : va_G) (cs : Nat → Nat) (A : Nat → Prop) (h : pw_H) (L E k v : Nat) (mc : Int32) (q : Nat → Option Nat) (hk : k < 10) (hq : q k = some v) (fL : h L = some (.inr (0, [.ref E, .int (nI (k + 1)), .int mc]))) (fE : h E = some (.inl (cs 5, 10, .inr (.inr (.inr (.inr q)))))) : pm l y_AL_remove b_AL_remove 4 (some (.object "java/lang/Object")) rm_AL_remove [.ref L, .int (nI k)] D cs A h (va_Qr (fun _ => True) (fun (h' : pw_H) (r : Nat) (t : State) => (r = v ∧ h' E = some (.inl (cs 5, 10, .inr (.inr (.inr (.inr (va_up q k none)))))) ∧ h' L = some (.inr (0, [.ref E, .int (nI k), .int (mc + 1)])) ∧ ext h h' [L, E]) ∧ ww D cs A h' t) A) 0 0 := by
  refine pm_of R_AL rfl (by decide) (Nat.le_of_ble_eq_true rfl) (fun p e s m below meth c ls F hr hlk hnm hP hA hK hl => ?_)
  have hS : va_S A s.heap s.heap [] := va_S.rf
  replace hl : lv_has ls 4 [(0, .ref L), (1, .int (nI k))] := hl
  have hx : ext h h [L, E] := ext.rf
  refine lv_iload_n F.1 F.2.1 d_AL_remove_0 rfl (lv_at hl 1 rfl) ?_
  refine lv_aload_n F.1 F.2.1 d_AL_remove_1 rfl (lv_at hl 0 rfl) ?_
  refine pw_get F I_AL hK.1 hP fL rfl 1 (by decide) L_AL_48 (fun _ z => z) rfl d_AL_remove_2 ?_
  refine pw_ciE (pr_S F (c_OB_checkIndex l D cs A h k (k + 1) (Nat.lt_succ_self k) (by omega)) X_AL_118 rfl rfl ⟨by decide, by decide⟩ hP hA hK hS rfl hl.1 rfl (Nat.le_of_ble_eq_true rfl) d_AL_remove_5 ⟨by decide, by decide⟩) hS (fun H locs hP hS => ?_)
  refine lv_pop F.1 F.2.1 d_AL_remove_8 rfl ?_
  refine lv_aload_n F.1 F.2.1 d_AL_remove_9 rfl (lv_at hl 0 rfl) ?_
  refine pw_get F I_AL hK.1 hP fL rfl 0 (by decide) L_AL_9 (fun _ z => z) rfl d_AL_remove_10 ?_
  refine lv_astore_n F.1 F.2.1 d_AL_remove_13 rfl hl (by decide) rfl (fun ls hl => ?_)
  replace hl : lv_has ls 4 [(2, .ref E), (0, .ref L), (1, .int (nI k))] := hl
  refine lv_aload_n F.1 F.2.1 d_AL_remove_14 rfl (lv_at hl 0 rfl) ?_
  refine lv_iload_n F.1 F.2.1 d_AL_remove_15 rfl (lv_at hl 2 rfl) ?_
  refine pw_aldqN F hK.1 hP 5 fE rfl (k := k) hk (by decide) d_AL_remove_16 ?_
  refine W.eq (g2 := F0 m 17 ls [.ref v]) (by rw [hq]; rfl) ?_
  refine lv_astore_n F.1 F.2.1 d_AL_remove_17 rfl hl (by decide) rfl (fun ls hl => ?_)
  replace hl : lv_has ls 4 [(3, .ref v), (2, .ref E), (0, .ref L), (1, .int (nI k))] := hl
  refine lv_aload_n F.1 F.2.1 d_AL_remove_18 rfl (lv_at hl 2 rfl) ?_
  refine lv_aload_n F.1 F.2.1 d_AL_remove_19 rfl (lv_at hl 1 rfl) ?_
  refine lv_iload_n F.1 F.2.1 d_AL_remove_20 rfl (lv_at hl 3 rfl) ?_
  refine pw_cv (pr_V F (c_AL_fastRemove l D cs A h L E k mc q hk fL fE) X_AL_144 rfl rfl ⟨by decide, by decide⟩ hP hA hK hS fL rfl rfl rfl hl.1 rfl (Nat.le_of_ble_eq_true rfl) d_AL_remove_21 ⟨by decide, by decide⟩) hS (fun hw1 H locs hq hP hS => ?_)
  obtain ⟨jw1, jw2, jw3⟩ := hq
  have hx : ext h hw1 [L, E] := hx.trans jw3 (fun y hy => by
    simp only [List.mem_cons, List.not_mem_nil, or_false] at hy
    rcases hy with rfl | rfl
    · exact Or.inl (by simp)
    · exact Or.inl (by simp))
  refine lv_aload_n F.1 F.2.1 d_AL_remove_24 rfl (lv_at hl 0 rfl) ?_
  exact pw_aret F hr (Or.inl ⟨_, rfl⟩) hlk hP hA hK hS (by decide) (by decide) d_AL_remove_25 ⟨rfl, jw1, jw2, hx⟩
