def gI (l0 l1 l2 a b c : Nat) : Gh := fun k i => if k = 10 then (if i = 0 then l0 else if i = 1 then l1 else l2) else if k = 3 then a else if k = 4 then b else c
theorem live0 {k i : Nat} (h : live St0 0 0 0 (fun _ => False) k i) : (k = 3 ∧ i = 6) ∨ (k = 4 ∧ i = 6) ∨ (k = 5 ∧ i = 6) ∨ (k = 10 ∧ i = 0) ∨ (k = 10 ∧ i = 1) ∨ (k = 10 ∧ i = 2) := by
  rcases live_case h with rfl | rfl | rfl | rfl | rfl | rfl | rfl | rfl | rfl | rfl | rfl | rfl <;> simp only [live] at h
  · rw [St0_o (by decide)] at h; exact absurd h.2 (by decide)
  · rw [St0_o (by decide)] at h; exact absurd h.2 (by decide)
  · rw [St0_o (by decide)] at h; exact absurd h.2 (by decide)
  all_goals first | omega | exact h.2.elim
theorem Sim.start {cs : Nat → Nat} {h : pw_H} {x l0 l1 l2 a b c : Nat} {m0 m1 m2 : Int32} (fx : h x = some (.inr (6, [.ref l0, .ref l1, .ref l2, .ref a, .int (-1)]))) (f0 : h l0 = some (.inr (0, [.ref (cs 9), .int 0, .int m0]))) (f1 : h l1 = some (.inr (0, [.ref (cs 9), .int 0, .int m1]))) (f2 : h l2 = some (.inr (0, [.ref (cs 9), .int 0, .int m2])))
    (fa : h a = some (.inr (3, [.ref b, .ref c, .int 0]))) (fb : h b = some (eQ (cs 3) 8 (fun _ => none))) (fc : h c = some (eI (cs 0) 8 (fun _ => 0))) (n01 : l0 ≠ l1) (n02 : l0 ≠ l2) (n12 : l1 ≠ l2) : SimE cs h x St0 := by
  have g100 : gI l0 l1 l2 a b c 10 0 = l0 := rfl
  have g101 : gI l0 l1 l2 a b c 10 1 = l1 := rfl
  have g102 : gI l0 l1 l2 a b c 10 2 = l2 := rfl
  have g36 : gI l0 l1 l2 a b c 3 6 = a := rfl
  have g46 : gI l0 l1 l2 a b c 4 6 = b := rfl
  have g56 : gI l0 l1 l2 a b c 5 6 = c := rfl
  have q1 : l0 ≠ a := pu_t f0 fa (show (0 : Nat) ≠ 3 by decide)
  have q2 : l0 ≠ b := pu_t f0 fb (show (0 : Nat) ≠ 308 by decide)
  have q3 : l0 ≠ c := pu_t f0 fc (show (0 : Nat) ≠ 108 by decide)
  have q4 : l1 ≠ a := pu_t f1 fa (show (0 : Nat) ≠ 3 by decide)
  have q5 : l1 ≠ b := pu_t f1 fb (show (0 : Nat) ≠ 308 by decide)
  have q6 : l1 ≠ c := pu_t f1 fc (show (0 : Nat) ≠ 108 by decide)
  have q7 : l2 ≠ a := pu_t f2 fa (show (0 : Nat) ≠ 3 by decide)
  have q8 : l2 ≠ b := pu_t f2 fb (show (0 : Nat) ≠ 308 by decide)
  have q9 : l2 ≠ c := pu_t f2 fc (show (0 : Nat) ≠ 108 by decide)
  have q10 : a ≠ b := pu_t fa fb (show (3 : Nat) ≠ 308 by decide)
  have q11 : a ≠ c := pu_t fa fc (show (3 : Nat) ≠ 108 by decide)
  have q12 : b ≠ c := pu_t fb fc (show (308 : Nat) ≠ 108 by decide)
  have x0 : l0 ≠ x := pu_t f0 fx (show (0 : Nat) ≠ 6 by decide)
  have x1 : l1 ≠ x := pu_t f1 fx (show (0 : Nat) ≠ 6 by decide)
  have x2 : l2 ≠ x := pu_t f2 fx (show (0 : Nat) ≠ 6 by decide)
  have x3 : a ≠ x := pu_t fa fx (show (3 : Nat) ≠ 6 by decide)
  have x4 : b ≠ x := pu_t fb fx (show (308 : Nat) ≠ 6 by decide)
  have x5 : c ≠ x := pu_t fc fx (show (108 : Nat) ≠ 6 by decide)
  refine ⟨gI l0 l1 l2 a b c, fun _ => False, 0, 0, 0, ⟨fx, fun k i hl => ?_, fun k i k' i' hl hl' heq => ?_, fun k i hl => ?_⟩, ?_⟩
  · rcases live0 hl with ⟨rfl, rfl⟩ | ⟨rfl, rfl⟩ | ⟨rfl, rfl⟩ | ⟨rfl, rfl⟩ | ⟨rfl, rfl⟩ | ⟨rfl, rfl⟩
    · exact ⟨_, fa, by simp only [ent]; exact ⟨_, rfl, fun _ => rfl⟩⟩
    · exact ⟨_, fb, by simp only [ent]; exact ⟨_, rfl, fun f _ => ⟨fun z => by rw [St0_o (by decide)] at z; exact absurd z (by decide), fun _ => rfl⟩⟩⟩
    · exact ⟨_, fc, by simp only [ent]; exact ⟨_, rfl, fun _ f _ z => by rw [St0_o (by decide)] at z; exact absurd z (by decide)⟩⟩
    · exact ⟨_, f0, by simp only [ent]; exact ⟨m0, Or.inr ⟨id, rfl, rfl⟩⟩⟩
    · exact ⟨_, f1, by simp only [ent]; exact ⟨m1, Or.inr ⟨id, rfl, rfl⟩⟩⟩
    · exact ⟨_, f2, by simp only [ent]; exact ⟨m2, Or.inr ⟨id, rfl, rfl⟩⟩⟩
  · rcases live0 hl with ⟨rfl, rfl⟩ | ⟨rfl, rfl⟩ | ⟨rfl, rfl⟩ | ⟨rfl, rfl⟩ | ⟨rfl, rfl⟩ | ⟨rfl, rfl⟩ <;> rcases live0 hl' with ⟨rfl, rfl⟩ | ⟨rfl, rfl⟩ | ⟨rfl, rfl⟩ | ⟨rfl, rfl⟩ | ⟨rfl, rfl⟩ | ⟨rfl, rfl⟩ <;> simp only [g100, g101, g102, g36, g46, g56] at heq <;> first | exact ⟨rfl, rfl⟩ | exact absurd heq q1 | exact absurd heq q2 | exact absurd heq q3 | exact absurd heq q4 | exact absurd heq q5 | exact absurd heq q6 | exact absurd heq q7 | exact absurd heq q8 | exact absurd heq q9 | exact absurd heq q10 | exact absurd heq q11 | exact absurd heq q12 | exact absurd heq n01 | exact absurd heq n02 | exact absurd heq n12 | exact absurd heq.symm q1 | exact absurd heq.symm q2 | exact absurd heq.symm q3 | exact absurd heq.symm q4 | exact absurd heq.symm q5 | exact absurd heq.symm q6 | exact absurd heq.symm q7 | exact absurd heq.symm q8 | exact absurd heq.symm q9 | exact absurd heq.symm q10 | exact absurd heq.symm q11 | exact absurd heq.symm q12 | exact absurd heq.symm n01 | exact absurd heq.symm n02 | exact absurd heq.symm n12
  · rcases live0 hl with ⟨rfl, rfl⟩ | ⟨rfl, rfl⟩ | ⟨rfl, rfl⟩ | ⟨rfl, rfl⟩ | ⟨rfl, rfl⟩ | ⟨rfl, rfl⟩
    · exact x3
    · exact x4
    · exact x5
    · exact x0
    · exact x1
    · exact x2
  · exact WFe.start.same (if_neg (by decide)) (by decide) (if_neg (by decide)) (by decide) (if_neg (by decide)) (by decide)
abbrev rm_D_init : Room := { frames := 4, cells := 6, slots := 28, locals := 76 }
set_option maxHeartbeats 4000000 in
set_option maxRecDepth 100000 in
theorem c_D_init (l : Launch) (D : va_G) (cs : Nat → Nat) (A : Nat → Prop) (h : pw_H) (x : Nat) (fx : h x = some (.inr (6, [.null, .null, .null, .null, .int 0]))) : pm l y_D_init b_D_init 1 none rm_D_init [.ref x] D cs A h (va_Qv (fun (h' : pw_H) => SimE cs h' x St0) (ww D cs A) A) 6 28 := by
  refine pm_of R_D rfl (by decide) (Nat.le_of_ble_eq_true rfl) (fun p e s m below meth c ls F hr hlk hnm hP hA hK hl => ?_)
  have hS : va_S A s.heap s.heap [] := va_S.rf
  replace hl : lv_has ls 1 [(0, .ref x)] := hl
  refine lv_aload_n F.1 F.2.1 d_D_init_0 rfl (lv_at hl 0 rfl) ?_
  refine W.objInit F.1 F.2.1 F.2.2.2.1 (F.2.2.2.2 _ O_D_1) (F.2.2.2.2 _ iM_obj) (F.2.2.2.2 _ co_obj) rfl (hl.1.trans F.2.2.1.symm) rfl d_D_init_1 (by decide) (Nat.le_of_ble_eq_true rfl) ?_
  refine W.eq (g2 := F0 m 4 ls []) (by rfl) ?_
  refine lv_aload_n F.1 F.2.1 d_D_init_4 rfl (lv_at hl 0 rfl) ?_
  refine pw_new (ci := 0) (fs := [.null, .int 0, .int 0]) F I_AL ty_AL k_AL C_D_7 N_AL Z_AL hK.1 hP hS hA rfl (fun j hj => by rcases (show j = 0 ∨ j = 1 ∨ j = 2 by omega) with rfl | rfl | rfl <;> rfl) (by decide) (by decide) d_D_init_5 (fun q1 H n2 hP hS => ?_)
  replace hP : pw D vwCl A (pu h q1 (.inr (0, [.null, .int 0, .int 0]))) H := hP
  obtain ⟨h3, e4⟩ : ∃ z9 : pw_H, z9 = pu h q1 (.inr (0, [.null, .int 0, .int 0])) := ⟨_, rfl⟩
  rw [← e4] at hP
  have f5 : h3 q1 = some (.inr (0, [.null, .int 0, .int 0])) := by rw [e4]; exact pu_s
  refine lv_dup F.1 F.2.1 d_D_init_8 rfl ?_
  refine pw_cv (pr_I F (c_AL_init l D cs A h3 _ f5) X_D_9 rfl rfl ⟨by decide, by decide⟩ hP hA hK hS rfl hl.1 rfl (Nat.le_of_ble_eq_true rfl) d_D_init_9 ⟨by decide, by decide⟩) hS (fun h6 H locs hq hP hS => ?_)
  obtain ⟨j7, j8⟩ := hq
  have f9 : h3 x = some (.inr (6, [.null, .null, .null, .null, .int 0])) := by rw [e4]; exact pu_f n2 fx
  have f10 : h6 x = some (.inr (6, [.null, .null, .null, .null, .int 0])) := j8.1 _ _ f9 (nin1 (pu_t f9 f5 (show (6 : Nat) ≠ 0 by decide)))
  refine pw_putF F I_D ty_D k_D n_D hK.1 hP hS f10 rfl 0 (by decide) L_D_10 (fun _ z => z) rfl hnm rfl rfl rfl (Nat.le_of_ble_eq_true rfl) d_D_init_12 (fun H locs hP hS => ?_)
  replace hP : pw D vwCl A (pu h6 x (.inr (6, [.ref q1, .null, .null, .null, .int 0]))) H := hP
  obtain ⟨h11, e12⟩ : ∃ z9 : pw_H, z9 = pu h6 x (.inr (6, [.ref q1, .null, .null, .null, .int 0])) := ⟨_, rfl⟩
  rw [← e12] at hP
  have f13 : h11 x = some (.inr (6, [.ref q1, .null, .null, .null, .int 0])) := by rw [e12]; exact pu_s
  refine lv_aload_n F.1 F.2.1 d_D_init_15 rfl (lv_at hl 0 rfl) ?_
  refine pw_new (ci := 0) (fs := [.null, .int 0, .int 0]) F I_AL ty_AL k_AL C_D_7 N_AL Z_AL hK.1 hP hS hA rfl (fun j hj => by rcases (show j = 0 ∨ j = 1 ∨ j = 2 by omega) with rfl | rfl | rfl <;> rfl) (by decide) (by decide) d_D_init_16 (fun q14 H n15 hP hS => ?_)
  have f16 : h11 q1 = some (.inr (0, [.ref (cs 9), .int 0, .int 0])) := by rw [e12]; exact pu_k j7 (pu_t j7 f10 (show (0 : Nat) ≠ 6 by decide))
  have k17 : q1 ≠ q14 := none_ne f16 n15
  replace hP : pw D vwCl A (pu h11 q14 (.inr (0, [.null, .int 0, .int 0]))) H := hP
  obtain ⟨h18, e19⟩ : ∃ z9 : pw_H, z9 = pu h11 q14 (.inr (0, [.null, .int 0, .int 0])) := ⟨_, rfl⟩
  rw [← e19] at hP
  have f20 : h18 q14 = some (.inr (0, [.null, .int 0, .int 0])) := by rw [e19]; exact pu_s
  refine lv_dup F.1 F.2.1 d_D_init_19 rfl ?_
  refine pw_cv (pr_I F (c_AL_init l D cs A h18 _ f20) X_D_9 rfl rfl ⟨by decide, by decide⟩ hP hA hK hS rfl hl.1 rfl (Nat.le_of_ble_eq_true rfl) d_D_init_20 ⟨by decide, by decide⟩) hS (fun h21 H locs hq hP hS => ?_)
  obtain ⟨j22, j23⟩ := hq
  have f24 : h18 x = some (.inr (6, [.ref q1, .null, .null, .null, .int 0])) := by rw [e19]; exact pu_f n15 f13
  have f25 : h21 x = some (.inr (6, [.ref q1, .null, .null, .null, .int 0])) := j23.1 _ _ f24 (nin1 (pu_t f24 f20 (show (6 : Nat) ≠ 0 by decide)))
  refine pw_putF F I_D ty_D k_D n_D hK.1 hP hS f25 rfl 1 (by decide) L_D_16 (fun _ z => z) rfl hnm rfl rfl rfl (Nat.le_of_ble_eq_true rfl) d_D_init_23 (fun H locs hP hS => ?_)
  replace hP : pw D vwCl A (pu h21 x (.inr (6, [.ref q1, .ref q14, .null, .null, .int 0]))) H := hP
  obtain ⟨h26, e27⟩ : ∃ z9 : pw_H, z9 = pu h21 x (.inr (6, [.ref q1, .ref q14, .null, .null, .int 0])) := ⟨_, rfl⟩
  rw [← e27] at hP
  have f28 : h26 x = some (.inr (6, [.ref q1, .ref q14, .null, .null, .int 0])) := by rw [e27]; exact pu_s
  refine lv_aload_n F.1 F.2.1 d_D_init_26 rfl (lv_at hl 0 rfl) ?_
  refine pw_new (ci := 0) (fs := [.null, .int 0, .int 0]) F I_AL ty_AL k_AL C_D_7 N_AL Z_AL hK.1 hP hS hA rfl (fun j hj => by rcases (show j = 0 ∨ j = 1 ∨ j = 2 by omega) with rfl | rfl | rfl <;> rfl) (by decide) (by decide) d_D_init_27 (fun q29 H n30 hP hS => ?_)
  have f31 : h18 q1 = some (.inr (0, [.ref (cs 9), .int 0, .int 0])) := by rw [e19]; exact pu_f n15 f16
  have f32 : h21 q1 = some (.inr (0, [.ref (cs 9), .int 0, .int 0])) := j23.1 _ _ f31 (nin1 k17)
  have f33 : h26 q1 = some (.inr (0, [.ref (cs 9), .int 0, .int 0])) := by rw [e27]; exact pu_k f32 (pu_t f32 f25 (show (0 : Nat) ≠ 6 by decide))
  have k34 : q1 ≠ q29 := none_ne f33 n30
  have f35 : h26 q14 = some (.inr (0, [.ref (cs 9), .int 0, .int 0])) := by rw [e27]; exact pu_k j22 (pu_t j22 f25 (show (0 : Nat) ≠ 6 by decide))
  have k36 : q14 ≠ q29 := none_ne f35 n30
  replace hP : pw D vwCl A (pu h26 q29 (.inr (0, [.null, .int 0, .int 0]))) H := hP
  obtain ⟨h37, e38⟩ : ∃ z9 : pw_H, z9 = pu h26 q29 (.inr (0, [.null, .int 0, .int 0])) := ⟨_, rfl⟩
  rw [← e38] at hP
  have f39 : h37 q29 = some (.inr (0, [.null, .int 0, .int 0])) := by rw [e38]; exact pu_s
  refine lv_dup F.1 F.2.1 d_D_init_30 rfl ?_
  refine pw_cv (pr_I F (c_AL_init l D cs A h37 _ f39) X_D_9 rfl rfl ⟨by decide, by decide⟩ hP hA hK hS rfl hl.1 rfl (Nat.le_of_ble_eq_true rfl) d_D_init_31 ⟨by decide, by decide⟩) hS (fun h40 H locs hq hP hS => ?_)
  obtain ⟨j41, j42⟩ := hq
  have f43 : h37 x = some (.inr (6, [.ref q1, .ref q14, .null, .null, .int 0])) := by rw [e38]; exact pu_f n30 f28
  have f44 : h40 x = some (.inr (6, [.ref q1, .ref q14, .null, .null, .int 0])) := j42.1 _ _ f43 (nin1 (pu_t f43 f39 (show (6 : Nat) ≠ 0 by decide)))
  refine pw_putF F I_D ty_D k_D n_D hK.1 hP hS f44 rfl 2 (by decide) L_D_19 (fun _ z => z) rfl hnm rfl rfl rfl (Nat.le_of_ble_eq_true rfl) d_D_init_34 (fun H locs hP hS => ?_)
  replace hP : pw D vwCl A (pu h40 x (.inr (6, [.ref q1, .ref q14, .ref q29, .null, .int 0]))) H := hP
  obtain ⟨h45, e46⟩ : ∃ z9 : pw_H, z9 = pu h40 x (.inr (6, [.ref q1, .ref q14, .ref q29, .null, .int 0])) := ⟨_, rfl⟩
  rw [← e46] at hP
  have f47 : h45 x = some (.inr (6, [.ref q1, .ref q14, .ref q29, .null, .int 0])) := by rw [e46]; exact pu_s
  refine lv_aload_n F.1 F.2.1 d_D_init_37 rfl (lv_at hl 0 rfl) ?_
  refine pw_new (ci := 3) (fs := [.null, .null, .int 0]) F I_P ty_P k_P C_D_22 N_P Z_P hK.1 hP hS hA rfl (fun j hj => by rcases (show j = 0 ∨ j = 1 ∨ j = 2 by omega) with rfl | rfl | rfl <;> rfl) (by decide) (by decide) d_D_init_38 (fun q48 H n49 hP hS => ?_)
  replace hP : pw D vwCl A (pu h45 q48 (.inr (3, [.null, .null, .int 0]))) H := hP
  obtain ⟨h50, e51⟩ : ∃ z9 : pw_H, z9 = pu h45 q48 (.inr (3, [.null, .null, .int 0])) := ⟨_, rfl⟩
  rw [← e51] at hP
  have f52 : h50 q48 = some (.inr (3, [.null, .null, .int 0])) := by rw [e51]; exact pu_s
  refine lv_dup F.1 F.2.1 d_D_init_41 rfl ?_
  refine pw_cv (pr_I F (c_P_init l D cs A h50 _ f52) X_D_24 rfl rfl ⟨by decide, by decide⟩ hP hA hK hS rfl hl.1 rfl (Nat.le_of_ble_eq_true rfl) d_D_init_42 ⟨by decide, by decide⟩) hS (fun hz9 H locs hq9 hP hS => ?_)
  obtain ⟨nba, nsa, hnb0, hns0, i1, i2, i0, ix⟩ := hq9
  have f53 : h50 x = some (.inr (6, [.ref q1, .ref q14, .ref q29, .null, .int 0])) := by rw [e51]; exact pu_f n49 f47
  have f54 : hz9 x = some (.inr (6, [.ref q1, .ref q14, .ref q29, .null, .int 0])) := ix.1 _ _ f53 (nin1 (pu_t f53 f52 (show (6 : Nat) ≠ 3 by decide)))
  refine pw_put F I_D ty_D k_D n_D hK.1 hP hS f54 rfl 3 (by decide) L_D_25 (fun _ z => z) rfl rfl rfl (Nat.le_of_ble_eq_true rfl) d_D_init_45 (fun H locs hP hS => ?_)
  replace hP : pw D vwCl A (pu hz9 x (.inr (6, [.ref q1, .ref q14, .ref q29, .ref q48, .int 0]))) H := hP
  obtain ⟨h55, e56⟩ : ∃ z9 : pw_H, z9 = pu hz9 x (.inr (6, [.ref q1, .ref q14, .ref q29, .ref q48, .int 0])) := ⟨_, rfl⟩
  rw [← e56] at hP
  have f57 : h55 x = some (.inr (6, [.ref q1, .ref q14, .ref q29, .ref q48, .int 0])) := by rw [e56]; exact pu_s
  refine lv_aload_n F.1 F.2.1 d_D_init_48 rfl (lv_at hl 0 rfl) ?_
  refine lv_iconst (v := (-1)) F.1 F.2.1 d_D_init_49 (by decide) ?_
  refine pw_put F I_D ty_D k_D n_D hK.1 hP hS f57 rfl 4 (by decide) L_D_29 (fun _ z => z) rfl rfl rfl (Nat.le_of_ble_eq_true rfl) d_D_init_50 (fun H locs hP hS => ?_)
  replace hP : pw D vwCl A (pu h55 x (.inr (6, [.ref q1, .ref q14, .ref q29, .ref q48, .int (-1)]))) H := hP
  obtain ⟨h58, e59⟩ : ∃ z9 : pw_H, z9 = pu h55 x (.inr (6, [.ref q1, .ref q14, .ref q29, .ref q48, .int (-1)])) := ⟨_, rfl⟩
  rw [← e59] at hP
  have f60 : h58 x = some (.inr (6, [.ref q1, .ref q14, .ref q29, .ref q48, .int (-1)])) := by rw [e59]; exact pu_s
  have f61 : h37 q1 = some (.inr (0, [.ref (cs 9), .int 0, .int 0])) := by rw [e38]; exact pu_f n30 f33
  have f62 : h40 q1 = some (.inr (0, [.ref (cs 9), .int 0, .int 0])) := j42.1 _ _ f61 (nin1 k34)
  have f63 : h45 q1 = some (.inr (0, [.ref (cs 9), .int 0, .int 0])) := by rw [e46]; exact pu_k f62 (pu_t f62 f44 (show (0 : Nat) ≠ 6 by decide))
  have f64 : h50 q1 = some (.inr (0, [.ref (cs 9), .int 0, .int 0])) := by rw [e51]; exact pu_f n49 f63
  have f65 : hz9 q1 = some (.inr (0, [.ref (cs 9), .int 0, .int 0])) := ix.1 _ _ f64 (nin1 (pu_t f64 f52 (show (0 : Nat) ≠ 3 by decide)))
  have f66 : h55 q1 = some (.inr (0, [.ref (cs 9), .int 0, .int 0])) := by rw [e56]; exact pu_k f65 (pu_t f65 f54 (show (0 : Nat) ≠ 6 by decide))
  have f67 : h58 q1 = some (.inr (0, [.ref (cs 9), .int 0, .int 0])) := by rw [e59]; exact pu_k f66 (pu_t f66 f57 (show (0 : Nat) ≠ 6 by decide))
  have f68 : h37 q14 = some (.inr (0, [.ref (cs 9), .int 0, .int 0])) := by rw [e38]; exact pu_f n30 f35
  have f69 : h40 q14 = some (.inr (0, [.ref (cs 9), .int 0, .int 0])) := j42.1 _ _ f68 (nin1 k36)
  have f70 : h45 q14 = some (.inr (0, [.ref (cs 9), .int 0, .int 0])) := by rw [e46]; exact pu_k f69 (pu_t f69 f44 (show (0 : Nat) ≠ 6 by decide))
  have f71 : h50 q14 = some (.inr (0, [.ref (cs 9), .int 0, .int 0])) := by rw [e51]; exact pu_f n49 f70
  have f72 : hz9 q14 = some (.inr (0, [.ref (cs 9), .int 0, .int 0])) := ix.1 _ _ f71 (nin1 (pu_t f71 f52 (show (0 : Nat) ≠ 3 by decide)))
  have f73 : h55 q14 = some (.inr (0, [.ref (cs 9), .int 0, .int 0])) := by rw [e56]; exact pu_k f72 (pu_t f72 f54 (show (0 : Nat) ≠ 6 by decide))
  have f74 : h58 q14 = some (.inr (0, [.ref (cs 9), .int 0, .int 0])) := by rw [e59]; exact pu_k f73 (pu_t f73 f57 (show (0 : Nat) ≠ 6 by decide))
  have f75 : h45 q29 = some (.inr (0, [.ref (cs 9), .int 0, .int 0])) := by rw [e46]; exact pu_k j41 (pu_t j41 f44 (show (0 : Nat) ≠ 6 by decide))
  have f76 : h50 q29 = some (.inr (0, [.ref (cs 9), .int 0, .int 0])) := by rw [e51]; exact pu_f n49 f75
  have f77 : hz9 q29 = some (.inr (0, [.ref (cs 9), .int 0, .int 0])) := ix.1 _ _ f76 (nin1 (pu_t f76 f52 (show (0 : Nat) ≠ 3 by decide)))
  have f78 : h55 q29 = some (.inr (0, [.ref (cs 9), .int 0, .int 0])) := by rw [e56]; exact pu_k f77 (pu_t f77 f54 (show (0 : Nat) ≠ 6 by decide))
  have f79 : h58 q29 = some (.inr (0, [.ref (cs 9), .int 0, .int 0])) := by rw [e59]; exact pu_k f78 (pu_t f78 f57 (show (0 : Nat) ≠ 6 by decide))
  have f80 : h55 q48 = some (.inr (3, [.ref nba, .ref nsa, .int 0])) := by rw [e56]; exact pu_k i0 (pu_t i0 f54 (show (3 : Nat) ≠ 6 by decide))
  have f81 : h58 q48 = some (.inr (3, [.ref nba, .ref nsa, .int 0])) := by rw [e59]; exact pu_k f80 (pu_t f80 f57 (show (3 : Nat) ≠ 6 by decide))
  have f82 : h55 nba = some (.inl (cs 3, 8, .inr (.inr (.inr (.inr (fun _ => none)))))) := by rw [e56]; exact pu_k i1 (pu_t i1 f54 (show (308 : Nat) ≠ 6 by decide))
  have f83 : h58 nba = some (.inl (cs 3, 8, .inr (.inr (.inr (.inr (fun _ => none)))))) := by rw [e59]; exact pu_k f82 (pu_t f82 f57 (show (308 : Nat) ≠ 6 by decide))
  have f84 : h55 nsa = some (.inl (cs 0, 8, .inl (fun _ => 0))) := by rw [e56]; exact pu_k i2 (pu_t i2 f54 (show (108 : Nat) ≠ 6 by decide))
  have f85 : h58 nsa = some (.inl (cs 0, 8, .inl (fun _ => 0))) := by rw [e59]; exact pu_k f84 (pu_t f84 f57 (show (108 : Nat) ≠ 6 by decide))
  exact pw_vret F hr hlk hP hA hK hS (by decide) (by decide) d_D_init_53 (Sim.start f60 f67 f74 f79 f81 f83 f85 k17 k34 k36)
