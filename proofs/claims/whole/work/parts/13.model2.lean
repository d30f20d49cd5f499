theorem mIn_nat {x : Int32} {n : Nat} (hn : n ≤ 1000) (h0 : 0 ≤ x) (h1 : x ≤ nI n - 1) : ∃ f : Nat, f < n ∧ x = nI f := by
  obtain ⟨j, hj, rfl⟩ := nI_of (x := x) (Int32.not_lt.mpr h0)
  refine ⟨j, ?_, rfl⟩
  cases n with
  | zero =>
    exfalso
    rw [show nI 0 - 1 = -1 from by decide] at h1
    have h2 := Int32.le_trans h0 h1
    exact absurd h2 (by decide)
  | succ k =>
    rw [nI_pred] at h1
    have := (nI_leI hj (by omega)).mp h1
    omega
theorem mIn_of {f n : Nat} (hn : n ≤ 1000) (hf : f < n) : (0 : Int32) ≤ nI f ∧ nI f ≤ nI n - 1 := by
  refine ⟨nI_pos' (by omega), ?_⟩
  cases n with
  | zero => omega
  | succ k => rw [nI_pred]; exact nI_le (by omega) (by omega)
theorem mTop_eq {S : St} {t d : Nat} (hd : S 11 t = nI (d + 1)) (h6 : d < 6) : mTop S t = 6 * t + d := by
  show 6 * t + (tn (S 11 t) - 1) = _
  rw [hd, tn_nI (by omega)]; omega
theorem mGoes_iff {S : St} {t d r a : Nat} (hd : S 11 t = nI (d + 1)) (h6 : d < 6) (hr : S 12 (6 * t + d) = nI r) (hr48 : r < 48) (ha : S 14 (6 * t + d) = nI a) (ha12 : a ≤ 12) :
    mGoes S t ↔ (¬ S 16 4 < 0 ∧ ¬ S 6 t = S 16 4 ∧ ((nI a = S 2 r ∧ nI (d + 1) = 1) ∨ (¬ nI a = S 2 r ∧ S 3 (12 * r + a) = 2 ∧ mClear S t))) := by
  unfold mGoes mEnd mOp
  rw [mTop_eq hd h6, hr, ha, hd, tn_nI (by omega), tn_nI (by omega)]
theorem mClear_iff {S : St} {t d p : Nat} (hd : S 11 t = nI (d + 1)) (h6 : d < 6) (hp : S 16 3 = nI p) (hp5 : p ≤ 5) : mClear S t ↔ ∀ k, k < d + 1 → S 0 (8 * p + tn (S 12 (6 * t + k)) % 8) = 0 := by
  unfold mClear
  rw [hd, hp, tn_nI (by omega), tn_nI (by omega)]
abbrev rm_M_turn : Room := { frames := 1, cells := 0, slots := 0, locals := 22 }
set_option maxHeartbeats 4000000 in
set_option maxRecDepth 100000 in
theorem c_M_turn (l : Launch) (D : va_G) (cs : Nat → Nat) (A : Nat → Prop) (h : pw_H) (o : Nat) (ad : Nat → Nat) (S : St) (hR : RM cs h o ad S) (nt : Nat) (hnt : nt ≤ 4) (hT : S 16 5 = nI nt) : pm l y_M_turn b_M_turn 2 (some .int) rm_M_turn [.ref o] D cs A h (va_Qi (fun (r : Int32) (h' : pw_H) => RM cs h' o ad (stTurn S) ∧ r = rTurn S) (ww D cs A) A) 0 0 := by
  refine pm_of R_M rfl (by decide) (Nat.le_of_ble_eq_true rfl) (fun p e s m below meth c ls F hr hlk hnm hP hA hK hl => ?_)
  have hS : va_S A s.heap s.heap [] := va_S.rf
  replace hl : lv_has ls 2 [(0, .ref o)] := hl
  refine lv_aload_n F.1 F.2.1 d_M_turn_0 rfl (lv_at hl 0 rfl) ?_
  refine lv_aload_n F.1 F.2.1 d_M_turn_1 rfl (lv_at hl 0 rfl) ?_
  have f1 : h o = some (.inr (7, [.int (S 16 0), .int (S 16 1), .ref (ad 0), .ref (ad 1), .ref (ad 2), .ref (ad 3), .ref (ad 4), .int (S 16 2), .int (S 16 3), .int (S 16 4), .int (S 16 5), .ref (ad 5), .ref (ad 6), .ref (ad 7), .ref (ad 8), .ref (ad 9), .ref (ad 10), .ref (ad 11), .ref (ad 12), .ref (ad 13), .ref (ad 14), .ref (ad 15)])) := hR.1
  refine pw_get F I_M hK.1 hP f1 rfl 9 (by decide) L_M_26 (fun _ z => z) rfl d_M_turn_2 ?_
  refine lv_if_ge (tgt := 15) F.1 F.2.1 d_M_turn_5 (by decide) (fun c2 => ?_) (fun c2 => ?_)
  · skip
    refine lv_iconst (v := 0) F.1 F.2.1 d_M_turn_15 (by decide) ?_
    refine lv_goto (tgt := 20) F.1 F.2.1 d_M_turn_16 (by decide) ?_
    refine pw_put F I_M ty_M k_M n_M hK.1 hP hS f1 rfl 0 (by decide) L_M_63 (fun _ z => z) rfl rfl rfl (Nat.le_of_ble_eq_true rfl) d_M_turn_20 (fun H locs hP hS => ?_)
    have hP : pw D vwCl A (pu h o (.inr (7, (mfs ad S).set (mpos 0) (.int 0)))) H := hP
    have hR := hR.num (show 0 < 6 by decide) 0
    obtain ⟨h3, e4⟩ : ∃ z9 : pw_H, z9 = pu h o (.inr (7, (mfs ad S).set (mpos 0) (.int 0))) := ⟨_, rfl⟩
    rw [← e4] at hP
    obtain ⟨S5, t6⟩ : ∃ z9 : St, z9 = sp S 16 0 0 := ⟨_, rfl⟩
    have hR : RM cs h3 o ad S5 := by rw [e4, t6]; exact hR
    refine lv_aload_n F.1 F.2.1 d_M_turn_23 rfl (lv_at hl 0 rfl) ?_
    have f7 : h3 o = some (.inr (7, [.int (S5 16 0), .int (S5 16 1), .ref (ad 0), .ref (ad 1), .ref (ad 2), .ref (ad 3), .ref (ad 4), .int (S5 16 2), .int (S5 16 3), .int (S5 16 4), .int (S5 16 5), .ref (ad 5), .ref (ad 6), .ref (ad 7), .ref (ad 8), .ref (ad 9), .ref (ad 10), .ref (ad 11), .ref (ad 12), .ref (ad 13), .ref (ad 14), .ref (ad 15)])) := hR.1
    refine pw_get F I_M hK.1 hP f7 rfl 0 (by decide) L_M_63 (fun _ z => z) rfl d_M_turn_24 ?_
    refine W.eq (g2 := F0 m 27 ls [.int 0]) (by rw [show S5 16 0 = 0 from by rw [t6]; exact sp_s]) ?_
    refine lv_if_le (tgt := 32) F.1 F.2.1 d_M_turn_27 (by decide) (fun c8 => ?_) (fun c8 => absurd (by decide) c8)
    refine lv_aload_n F.1 F.2.1 d_M_turn_32 rfl (lv_at hl 0 rfl) ?_
    refine lv_aload_n F.1 F.2.1 d_M_turn_33 rfl (lv_at hl 0 rfl) ?_
    refine pw_get F I_M hK.1 hP f7 rfl 9 (by decide) L_M_26 (fun _ z => z) rfl d_M_turn_34 ?_
    refine W.eq (g2 := F0 m 37 ls [.int (S 16 4), .ref o]) (by rw [show S5 16 4 = S 16 4 from by rw [t6]; exact sp_j (by decide)]) ?_
    refine lv_aload_n F.1 F.2.1 d_M_turn_37 rfl (lv_at hl 0 rfl) ?_
    refine pw_get F I_M hK.1 hP f7 rfl 8 (by decide) L_M_69 (fun _ z => z) rfl d_M_turn_38 ?_
    refine W.eq (g2 := F0 m 41 ls [.int (S 16 3), .int (S 16 4), .ref o]) (by rw [show S5 16 3 = S 16 3 from by rw [t6]; exact sp_j (by decide)]) ?_
    refine lv_iconst (v := 1) F.1 F.2.1 d_M_turn_41 (by decide) ?_
    refine lv_isub F.1 F.2.1 d_M_turn_42 ?_
    refine lv_icmp_ne (tgt := 53) F.1 F.2.1 d_M_turn_43 (by decide) (fun c9 => ?_) (fun c9 => ?_)
    · skip
      refine lv_aload_n F.1 F.2.1 d_M_turn_53 rfl (lv_at hl 0 rfl) ?_
      refine pw_get F I_M hK.1 hP f7 rfl 8 (by decide) L_M_69 (fun _ z => z) rfl d_M_turn_54 ?_
      refine W.eq (g2 := F0 m 57 ls [.int (S 16 3), .ref o]) (by rw [show S5 16 3 = S 16 3 from by rw [t6]; exact sp_j (by decide)]) ?_
      refine lv_iconst (v := 1) F.1 F.2.1 d_M_turn_57 (by decide) ?_
      refine lv_isub F.1 F.2.1 d_M_turn_58 ?_
      refine pw_put F I_M ty_M k_M n_M hK.1 hP hS f7 rfl 9 (by decide) L_M_26 (fun _ z => z) rfl rfl rfl (Nat.le_of_ble_eq_true rfl) d_M_turn_59 (fun H locs hP hS => ?_)
      have hP : pw D vwCl A (pu h3 o (.inr (7, (mfs ad S5).set (mpos 4) (.int ((S 16 3) - 1))))) H := hP
      have hR := hR.num (show 4 < 6 by decide) ((S 16 3) - 1)
      obtain ⟨h10, e11⟩ : ∃ z9 : pw_H, z9 = pu h3 o (.inr (7, (mfs ad S5).set (mpos 4) (.int ((S 16 3) - 1)))) := ⟨_, rfl⟩
      rw [← e11] at hP
      obtain ⟨S12, t13⟩ : ∃ z9 : St, z9 = sp S5 16 4 ((S 16 3) - 1) := ⟨_, rfl⟩
      have hR : RM cs h10 o ad S12 := by rw [e11, t13]; exact hR
      refine lv_aload_n F.1 F.2.1 d_M_turn_62 rfl (lv_at hl 0 rfl) ?_
      have f14 : h10 o = some (.inr (7, [.int (S12 16 0), .int (S12 16 1), .ref (ad 0), .ref (ad 1), .ref (ad 2), .ref (ad 3), .ref (ad 4), .int (S12 16 2), .int (S12 16 3), .int (S12 16 4), .int (S12 16 5), .ref (ad 5), .ref (ad 6), .ref (ad 7), .ref (ad 8), .ref (ad 9), .ref (ad 10), .ref (ad 11), .ref (ad 12), .ref (ad 13), .ref (ad 14), .ref (ad 15)])) := hR.1
      refine pw_get F I_M hK.1 hP f14 rfl 9 (by decide) L_M_26 (fun _ z => z) rfl d_M_turn_63 ?_
      refine W.eq (g2 := F0 m 66 ls [.int ((S 16 3) - 1)]) (by rw [show S12 16 4 = (S 16 3) - 1 from by rw [t13]; exact sp_s]) ?_
      refine lv_istore_n F.1 F.2.1 d_M_turn_66 rfl hl (by decide) rfl (fun ls hl => ?_)
      replace hl : lv_has ls 2 [(1, .int ((S 16 3) - 1)), (0, .ref o)] := hl
      refine lv_aload_n F.1 F.2.1 d_M_turn_67 rfl (lv_at hl 1 rfl) ?_
      refine pw_cv (pr_V F (c_M_settle l D cs A h10 o ad S12 hR nt hnt (by rw [t13, sp_j (by decide), t6, sp_j (by decide)]; exact hT)) X_M_90 rfl rfl ⟨by decide, by decide⟩ hP hA hK hS f14 rfl rfl rfl hl.1 rfl (Nat.le_of_ble_eq_true rfl) d_M_turn_68 ⟨by decide, by decide⟩) hS (fun h15 H locs hq hP hS => ?_)
      obtain ⟨S16, t17⟩ : ∃ z9 : St, z9 = mSettle S12 := ⟨_, rfl⟩
      have hR : RM cs h15 o ad S16 := by rw [t17]; exact hq
      refine lv_iload_n F.1 F.2.1 d_M_turn_71 rfl (lv_at hl 0 rfl) ?_
      exact pw_iret F hr hlk hP hA hK hS (by decide) (by decide) d_M_turn_72 (by have hth : thTurn S = 0 := (by unfold thTurn; rw [if_pos (Or.inl (Int32.not_lt.mpr c2))]); unfold stTurn rTurn toTurn; rw [hth, if_pos rfl, if_pos rfl, if_neg c9]; rw [t17, t13, t6] at hR; exact ⟨hR, rfl⟩)
    · skip
      refine lv_aload_n F.1 F.2.1 d_M_turn_46 rfl (lv_at hl 0 rfl) ?_
      refine pw_get F I_M hK.1 hP f7 rfl 8 (by decide) L_M_69 (fun _ z => z) rfl d_M_turn_47 ?_
      refine W.eq (g2 := F0 m 50 ls [.int (S 16 3), .ref o]) (by rw [show S5 16 3 = S 16 3 from by rw [t6]; exact sp_j (by decide)]) ?_
      refine lv_goto (tgt := 59) F.1 F.2.1 d_M_turn_50 (by decide) ?_
      refine pw_put F I_M ty_M k_M n_M hK.1 hP hS f7 rfl 9 (by decide) L_M_26 (fun _ z => z) rfl rfl rfl (Nat.le_of_ble_eq_true rfl) d_M_turn_59 (fun H locs hP hS => ?_)
      have hP : pw D vwCl A (pu h3 o (.inr (7, (mfs ad S5).set (mpos 4) (.int (S 16 3))))) H := hP
      have hR := hR.num (show 4 < 6 by decide) (S 16 3)
      obtain ⟨h18, e19⟩ : ∃ z9 : pw_H, z9 = pu h3 o (.inr (7, (mfs ad S5).set (mpos 4) (.int (S 16 3)))) := ⟨_, rfl⟩
      rw [← e19] at hP
      obtain ⟨S20, t21⟩ : ∃ z9 : St, z9 = sp S5 16 4 (S 16 3) := ⟨_, rfl⟩
      have hR : RM cs h18 o ad S20 := by rw [e19, t21]; exact hR
      refine lv_aload_n F.1 F.2.1 d_M_turn_62 rfl (lv_at hl 0 rfl) ?_
      have f22 : h18 o = some (.inr (7, [.int (S20 16 0), .int (S20 16 1), .ref (ad 0), .ref (ad 1), .ref (ad 2), .ref (ad 3), .ref (ad 4), .int (S20 16 2), .int (S20 16 3), .int (S20 16 4), .int (S20 16 5), .ref (ad 5), .ref (ad 6), .ref (ad 7), .ref (ad 8), .ref (ad 9), .ref (ad 10), .ref (ad 11), .ref (ad 12), .ref (ad 13), .ref (ad 14), .ref (ad 15)])) := hR.1
      refine pw_get F I_M hK.1 hP f22 rfl 9 (by decide) L_M_26 (fun _ z => z) rfl d_M_turn_63 ?_
      refine W.eq (g2 := F0 m 66 ls [.int (S 16 3)]) (by rw [show S20 16 4 = S 16 3 from by rw [t21]; exact sp_s]) ?_
      refine lv_istore_n F.1 F.2.1 d_M_turn_66 rfl hl (by decide) rfl (fun ls hl => ?_)
      replace hl : lv_has ls 2 [(1, .int (S 16 3)), (0, .ref o)] := hl
      refine lv_aload_n F.1 F.2.1 d_M_turn_67 rfl (lv_at hl 1 rfl) ?_
      refine pw_cv (pr_V F (c_M_settle l D cs A h18 o ad S20 hR nt hnt (by rw [t21, sp_j (by decide), t6, sp_j (by decide)]; exact hT)) X_M_90 rfl rfl ⟨by decide, by decide⟩ hP hA hK hS f22 rfl rfl rfl hl.1 rfl (Nat.le_of_ble_eq_true rfl) d_M_turn_68 ⟨by decide, by decide⟩) hS (fun h23 H locs hq hP hS => ?_)
      obtain ⟨S24, t25⟩ : ∃ z9 : St, z9 = mSettle S20 := ⟨_, rfl⟩
      have hR : RM cs h23 o ad S24 := by rw [t25]; exact hq
      refine lv_iload_n F.1 F.2.1 d_M_turn_71 rfl (lv_at hl 0 rfl) ?_
      exact pw_iret F hr hlk hP hA hK hS (by decide) (by decide) d_M_turn_72 (by have hth : thTurn S = 0 := (by unfold thTurn; rw [if_pos (Or.inl (Int32.not_lt.mpr c2))]); unfold stTurn rTurn toTurn; rw [hth, if_pos rfl, if_pos rfl, if_pos c9]; rw [t25, t21, t6] at hR; exact ⟨hR, rfl⟩)
  · skip
    refine lv_aload_n F.1 F.2.1 d_M_turn_8 rfl (lv_at hl 0 rfl) ?_
    refine pw_get F I_M hK.1 hP f1 rfl 8 (by decide) L_M_69 (fun _ z => z) rfl d_M_turn_9 ?_
    refine lv_if_le (tgt := 19) F.1 F.2.1 d_M_turn_12 (by decide) (fun c26 => ?_) (fun c26 => ?_)
    · skip
      refine lv_iconst (v := 1) F.1 F.2.1 d_M_turn_19 (by decide) ?_
      refine pw_put F I_M ty_M k_M n_M hK.1 hP hS f1 rfl 0 (by decide) L_M_63 (fun _ z => z) rfl rfl rfl (Nat.le_of_ble_eq_true rfl) d_M_turn_20 (fun H locs hP hS => ?_)
      have hP : pw D vwCl A (pu h o (.inr (7, (mfs ad S).set (mpos 0) (.int 1)))) H := hP
      have hR := hR.num (show 0 < 6 by decide) 1
      obtain ⟨h27, e28⟩ : ∃ z9 : pw_H, z9 = pu h o (.inr (7, (mfs ad S).set (mpos 0) (.int 1))) := ⟨_, rfl⟩
      rw [← e28] at hP
      obtain ⟨S29, t30⟩ : ∃ z9 : St, z9 = sp S 16 0 1 := ⟨_, rfl⟩
      have hR : RM cs h27 o ad S29 := by rw [e28, t30]; exact hR
      refine lv_aload_n F.1 F.2.1 d_M_turn_23 rfl (lv_at hl 0 rfl) ?_
      have f31 : h27 o = some (.inr (7, [.int (S29 16 0), .int (S29 16 1), .ref (ad 0), .ref (ad 1), .ref (ad 2), .ref (ad 3), .ref (ad 4), .int (S29 16 2), .int (S29 16 3), .int (S29 16 4), .int (S29 16 5), .ref (ad 5), .ref (ad 6), .ref (ad 7), .ref (ad 8), .ref (ad 9), .ref (ad 10), .ref (ad 11), .ref (ad 12), .ref (ad 13), .ref (ad 14), .ref (ad 15)])) := hR.1
      refine pw_get F I_M hK.1 hP f31 rfl 0 (by decide) L_M_63 (fun _ z => z) rfl d_M_turn_24 ?_
      refine W.eq (g2 := F0 m 27 ls [.int 1]) (by rw [show S29 16 0 = 1 from by rw [t30]; exact sp_s]) ?_
      refine lv_if_le (tgt := 32) F.1 F.2.1 d_M_turn_27 (by decide) (fun c32 => absurd c32 (by decide)) (fun c32 => ?_)
      refine lv_iconst (v := 0) F.1 F.2.1 d_M_turn_30 (by decide) ?_
      exact pw_iret F hr hlk hP hA hK hS (by decide) (by decide) d_M_turn_31 (by have hth : thTurn S = 1 := (by unfold thTurn; rw [if_neg (fun z9 => z9.elim (fun z8 => z8 (Int32.not_le.mp c2)) (fun z8 => absurd z8 (Int32.not_lt.mpr c26)))]); unfold stTurn rTurn; rw [hth, if_neg (by decide), if_neg (by decide)]; rw [t30] at hR; exact ⟨hR, rfl⟩)
    · skip
      refine lv_iconst (v := 0) F.1 F.2.1 d_M_turn_15 (by decide) ?_
      refine lv_goto (tgt := 20) F.1 F.2.1 d_M_turn_16 (by decide) ?_
      refine pw_put F I_M ty_M k_M n_M hK.1 hP hS f1 rfl 0 (by decide) L_M_63 (fun _ z => z) rfl rfl rfl (Nat.le_of_ble_eq_true rfl) d_M_turn_20 (fun H locs hP hS => ?_)
      have hP : pw D vwCl A (pu h o (.inr (7, (mfs ad S).set (mpos 0) (.int 0)))) H := hP
      have hR := hR.num (show 0 < 6 by decide) 0
      obtain ⟨h33, e34⟩ : ∃ z9 : pw_H, z9 = pu h o (.inr (7, (mfs ad S).set (mpos 0) (.int 0))) := ⟨_, rfl⟩
      rw [← e34] at hP
      obtain ⟨S35, t36⟩ : ∃ z9 : St, z9 = sp S 16 0 0 := ⟨_, rfl⟩
      have hR : RM cs h33 o ad S35 := by rw [e34, t36]; exact hR
      refine lv_aload_n F.1 F.2.1 d_M_turn_23 rfl (lv_at hl 0 rfl) ?_
      have f37 : h33 o = some (.inr (7, [.int (S35 16 0), .int (S35 16 1), .ref (ad 0), .ref (ad 1), .ref (ad 2), .ref (ad 3), .ref (ad 4), .int (S35 16 2), .int (S35 16 3), .int (S35 16 4), .int (S35 16 5), .ref (ad 5), .ref (ad 6), .ref (ad 7), .ref (ad 8), .ref (ad 9), .ref (ad 10), .ref (ad 11), .ref (ad 12), .ref (ad 13), .ref (ad 14), .ref (ad 15)])) := hR.1
      refine pw_get F I_M hK.1 hP f37 rfl 0 (by decide) L_M_63 (fun _ z => z) rfl d_M_turn_24 ?_
      refine W.eq (g2 := F0 m 27 ls [.int 0]) (by rw [show S35 16 0 = 0 from by rw [t36]; exact sp_s]) ?_
      refine lv_if_le (tgt := 32) F.1 F.2.1 d_M_turn_27 (by decide) (fun c38 => ?_) (fun c38 => absurd (by decide) c38)
      refine lv_aload_n F.1 F.2.1 d_M_turn_32 rfl (lv_at hl 0 rfl) ?_
      refine lv_aload_n F.1 F.2.1 d_M_turn_33 rfl (lv_at hl 0 rfl) ?_
      refine pw_get F I_M hK.1 hP f37 rfl 9 (by decide) L_M_26 (fun _ z => z) rfl d_M_turn_34 ?_
      refine W.eq (g2 := F0 m 37 ls [.int (S 16 4), .ref o]) (by rw [show S35 16 4 = S 16 4 from by rw [t36]; exact sp_j (by decide)]) ?_
      refine lv_aload_n F.1 F.2.1 d_M_turn_37 rfl (lv_at hl 0 rfl) ?_
      refine pw_get F I_M hK.1 hP f37 rfl 8 (by decide) L_M_69 (fun _ z => z) rfl d_M_turn_38 ?_
      refine W.eq (g2 := F0 m 41 ls [.int (S 16 3), .int (S 16 4), .ref o]) (by rw [show S35 16 3 = S 16 3 from by rw [t36]; exact sp_j (by decide)]) ?_
      refine lv_iconst (v := 1) F.1 F.2.1 d_M_turn_41 (by decide) ?_
      refine lv_isub F.1 F.2.1 d_M_turn_42 ?_
      refine lv_icmp_ne (tgt := 53) F.1 F.2.1 d_M_turn_43 (by decide) (fun c39 => ?_) (fun c39 => ?_)
      · skip
        refine lv_aload_n F.1 F.2.1 d_M_turn_53 rfl (lv_at hl 0 rfl) ?_
        refine pw_get F I_M hK.1 hP f37 rfl 8 (by decide) L_M_69 (fun _ z => z) rfl d_M_turn_54 ?_
        refine W.eq (g2 := F0 m 57 ls [.int (S 16 3), .ref o]) (by rw [show S35 16 3 = S 16 3 from by rw [t36]; exact sp_j (by decide)]) ?_
        refine lv_iconst (v := 1) F.1 F.2.1 d_M_turn_57 (by decide) ?_
        refine lv_isub F.1 F.2.1 d_M_turn_58 ?_
        refine pw_put F I_M ty_M k_M n_M hK.1 hP hS f37 rfl 9 (by decide) L_M_26 (fun _ z => z) rfl rfl rfl (Nat.le_of_ble_eq_true rfl) d_M_turn_59 (fun H locs hP hS => ?_)
        have hP : pw D vwCl A (pu h33 o (.inr (7, (mfs ad S35).set (mpos 4) (.int ((S 16 3) - 1))))) H := hP
        have hR := hR.num (show 4 < 6 by decide) ((S 16 3) - 1)
        obtain ⟨h40, e41⟩ : ∃ z9 : pw_H, z9 = pu h33 o (.inr (7, (mfs ad S35).set (mpos 4) (.int ((S 16 3) - 1)))) := ⟨_, rfl⟩
        rw [← e41] at hP
        obtain ⟨S42, t43⟩ : ∃ z9 : St, z9 = sp S35 16 4 ((S 16 3) - 1) := ⟨_, rfl⟩
        have hR : RM cs h40 o ad S42 := by rw [e41, t43]; exact hR
        refine lv_aload_n F.1 F.2.1 d_M_turn_62 rfl (lv_at hl 0 rfl) ?_
        have f44 : h40 o = some (.inr (7, [.int (S42 16 0), .int (S42 16 1), .ref (ad 0), .ref (ad 1), .ref (ad 2), .ref (ad 3), .ref (ad 4), .int (S42 16 2), .int (S42 16 3), .int (S42 16 4), .int (S42 16 5), .ref (ad 5), .ref (ad 6), .ref (ad 7), .ref (ad 8), .ref (ad 9), .ref (ad 10), .ref (ad 11), .ref (ad 12), .ref (ad 13), .ref (ad 14), .ref (ad 15)])) := hR.1
        refine pw_get F I_M hK.1 hP f44 rfl 9 (by decide) L_M_26 (fun _ z => z) rfl d_M_turn_63 ?_
        refine W.eq (g2 := F0 m 66 ls [.int ((S 16 3) - 1)]) (by rw [show S42 16 4 = (S 16 3) - 1 from by rw [t43]; exact sp_s]) ?_
        refine lv_istore_n F.1 F.2.1 d_M_turn_66 rfl hl (by decide) rfl (fun ls hl => ?_)
        replace hl : lv_has ls 2 [(1, .int ((S 16 3) - 1)), (0, .ref o)] := hl
        refine lv_aload_n F.1 F.2.1 d_M_turn_67 rfl (lv_at hl 1 rfl) ?_
        refine pw_cv (pr_V F (c_M_settle l D cs A h40 o ad S42 hR nt hnt (by rw [t43, sp_j (by decide), t36, sp_j (by decide)]; exact hT)) X_M_90 rfl rfl ⟨by decide, by decide⟩ hP hA hK hS f44 rfl rfl rfl hl.1 rfl (Nat.le_of_ble_eq_true rfl) d_M_turn_68 ⟨by decide, by decide⟩) hS (fun h45 H locs hq hP hS => ?_)
        obtain ⟨S46, t47⟩ : ∃ z9 : St, z9 = mSettle S42 := ⟨_, rfl⟩
        have hR : RM cs h45 o ad S46 := by rw [t47]; exact hq
        refine lv_iload_n F.1 F.2.1 d_M_turn_71 rfl (lv_at hl 0 rfl) ?_
        exact pw_iret F hr hlk hP hA hK hS (by decide) (by decide) d_M_turn_72 (by have hth : thTurn S = 0 := (by unfold thTurn; rw [if_pos (Or.inr (Int32.not_le.mp c26))]); unfold stTurn rTurn toTurn; rw [hth, if_pos rfl, if_pos rfl, if_neg c39]; rw [t47, t43, t36] at hR; exact ⟨hR, rfl⟩)
      · skip
        refine lv_aload_n F.1 F.2.1 d_M_turn_46 rfl (lv_at hl 0 rfl) ?_
        refine pw_get F I_M hK.1 hP f37 rfl 8 (by decide) L_M_69 (fun _ z => z) rfl d_M_turn_47 ?_
        refine W.eq (g2 := F0 m 50 ls [.int (S 16 3), .ref o]) (by rw [show S35 16 3 = S 16 3 from by rw [t36]; exact sp_j (by decide)]) ?_
        refine lv_goto (tgt := 59) F.1 F.2.1 d_M_turn_50 (by decide) ?_
        refine pw_put F I_M ty_M k_M n_M hK.1 hP hS f37 rfl 9 (by decide) L_M_26 (fun _ z => z) rfl rfl rfl (Nat.le_of_ble_eq_true rfl) d_M_turn_59 (fun H locs hP hS => ?_)
        have hP : pw D vwCl A (pu h33 o (.inr (7, (mfs ad S35).set (mpos 4) (.int (S 16 3))))) H := hP
        have hR := hR.num (show 4 < 6 by decide) (S 16 3)
        obtain ⟨h48, e49⟩ : ∃ z9 : pw_H, z9 = pu h33 o (.inr (7, (mfs ad S35).set (mpos 4) (.int (S 16 3)))) := ⟨_, rfl⟩
        rw [← e49] at hP
        obtain ⟨S50, t51⟩ : ∃ z9 : St, z9 = sp S35 16 4 (S 16 3) := ⟨_, rfl⟩
        have hR : RM cs h48 o ad S50 := by rw [e49, t51]; exact hR
        refine lv_aload_n F.1 F.2.1 d_M_turn_62 rfl (lv_at hl 0 rfl) ?_
        have f52 : h48 o = some (.inr (7, [.int (S50 16 0), .int (S50 16 1), .ref (ad 0), .ref (ad 1), .ref (ad 2), .ref (ad 3), .ref (ad 4), .int (S50 16 2), .int (S50 16 3), .int (S50 16 4), .int (S50 16 5), .ref (ad 5), .ref (ad 6), .ref (ad 7), .ref (ad 8), .ref (ad 9), .ref (ad 10), .ref (ad 11), .ref (ad 12), .ref (ad 13), .ref (ad 14), .ref (ad 15)])) := hR.1
        refine pw_get F I_M hK.1 hP f52 rfl 9 (by decide) L_M_26 (fun _ z => z) rfl d_M_turn_63 ?_
        refine W.eq (g2 := F0 m 66 ls [.int (S 16 3)]) (by rw [show S50 16 4 = S 16 3 from by rw [t51]; exact sp_s]) ?_
        refine lv_istore_n F.1 F.2.1 d_M_turn_66 rfl hl (by decide) rfl (fun ls hl => ?_)
        replace hl : lv_has ls 2 [(1, .int (S 16 3)), (0, .ref o)] := hl
        refine lv_aload_n F.1 F.2.1 d_M_turn_67 rfl (lv_at hl 1 rfl) ?_
        refine pw_cv (pr_V F (c_M_settle l D cs A h48 o ad S50 hR nt hnt (by rw [t51, sp_j (by decide), t36, sp_j (by decide)]; exact hT)) X_M_90 rfl rfl ⟨by decide, by decide⟩ hP hA hK hS f52 rfl rfl rfl hl.1 rfl (Nat.le_of_ble_eq_true rfl) d_M_turn_68 ⟨by decide, by decide⟩) hS (fun h53 H locs hq hP hS => ?_)
        obtain ⟨S54, t55⟩ : ∃ z9 : St, z9 = mSettle S50 := ⟨_, rfl⟩
        have hR : RM cs h53 o ad S54 := by rw [t55]; exact hq
        refine lv_iload_n F.1 F.2.1 d_M_turn_71 rfl (lv_at hl 0 rfl) ?_
        exact pw_iret F hr hlk hP hA hK hS (by decide) (by decide) d_M_turn_72 (by have hth : thTurn S = 0 := (by unfold thTurn; rw [if_pos (Or.inr (Int32.not_le.mp c26))]); unfold stTurn rTurn toTurn; rw [hth, if_pos rfl, if_pos rfl, if_pos c39]; rw [t55, t51, t36] at hR; exact ⟨hR, rfl⟩)
abbrev rm_M_goes : Room := { frames := 0, cells := 0, slots := 0, locals := 0 }
set_option maxHeartbeats 4000000 in
set_option maxRecDepth 100000 in
theorem c_M_goes (l : Launch) (D : va_G) (cs : Nat → Nat) (A : Nat → Prop) (h : pw_H) (o : Nat) (ad : Nat → Nat) (S : St) (hR : RM cs h o ad S) (t d r a z pT : Nat) (ht : t < 4) (h6 : d < 6) (hd : S 11 t = nI (d + 1)) (hr48 : r < 48) (hrw : S 12 (6 * t + d) = nI r) (hz12 : z ≤ 12) (hz : S 2 r = nI z) (haz : a ≤ z) (ha : S 14 (6 * t + d) = nI a) (hp5 : pT ≤ 5) (hp : S 16 3 = nI pT) (rows : ∀ k, k ≤ d → ∃ rk, rk < 48 ∧ S 12 (6 * t + k) = nI rk) : pm l y_M_goes b_M_goes 5 (some .boolean) rm_M_goes [.ref o, .int (nI t)] D cs A h (va_Qi (fun (r : Int32) (h' : pw_H) => h' = h ∧ (mGoes S t → r = 1) ∧ (¬ mGoes S t → r = 0)) (ww D cs A) A) 0 0 := by
  refine pm_of R_M rfl (by decide) (Nat.le_of_ble_eq_true rfl) (fun p e s m below meth c ls F hr hlk hnm hP hA hK hl => ?_)
  have hS : va_S A s.heap s.heap [] := va_S.rf
  replace hl : lv_has ls 5 [(0, .ref o), (1, .int (nI t))] := hl
  refine lv_aload_n F.1 F.2.1 d_M_goes_0 rfl (lv_at hl 0 rfl) ?_
  have f1 : h o = some (.inr (7, [.int (S 16 0), .int (S 16 1), .ref (ad 0), .ref (ad 1), .ref (ad 2), .ref (ad 3), .ref (ad 4), .int (S 16 2), .int (S 16 3), .int (S 16 4), .int (S 16 5), .ref (ad 5), .ref (ad 6), .ref (ad 7), .ref (ad 8), .ref (ad 9), .ref (ad 10), .ref (ad 11), .ref (ad 12), .ref (ad 13), .ref (ad 14), .ref (ad 15)])) := hR.1
  refine pw_get F I_M hK.1 hP f1 rfl 9 (by decide) L_M_26 (fun _ z => z) rfl d_M_goes_1 ?_
  refine lv_if_lt (tgt := 20) F.1 F.2.1 d_M_goes_4 (by decide) (fun c2 => ?_) (fun c2 => ?_)
  · skip
    refine lv_iconst (v := 0) F.1 F.2.1 d_M_goes_20 (by decide) ?_
    exact pw_zret F hr rfl hlk hP hA hK hS (by decide) (by decide) d_M_goes_21 (by exact ⟨rfl, fun z9 => absurd ((mGoes_iff hd h6 hrw hr48 ha (by omega)).mp z9) (fun z => z.1 c2), fun _ => rfl⟩)
  · skip
    refine lv_aload_n F.1 F.2.1 d_M_goes_7 rfl (lv_at hl 0 rfl) ?_
    refine pw_get F I_M hK.1 hP f1 rfl 12 (by decide) L_M_33 (fun _ z => z) rfl d_M_goes_8 ?_
    refine lv_iload_n F.1 F.2.1 d_M_goes_11 rfl (lv_at hl 1 rfl) ?_
    have f3 : h (ad 6) = some (.inl (cs 0, 4, .inl (S 6))) := hR.2.1 6 (by decide)
    refine pw_ialdN F hK.1 hP 0 f3 rfl (k := t) (by omega) (by decide) d_M_goes_12 ?_
    refine lv_aload_n F.1 F.2.1 d_M_goes_13 rfl (lv_at hl 0 rfl) ?_
    refine pw_get F I_M hK.1 hP f1 rfl 9 (by decide) L_M_26 (fun _ z => z) rfl d_M_goes_14 ?_
    refine lv_icmp_ne (tgt := 22) F.1 F.2.1 d_M_goes_17 (by decide) (fun c4 => ?_) (fun c4 => ?_)
    · skip
      refine lv_bipush (v := 6) F.1 F.2.1 d_M_goes_22 (by decide) ?_
      refine lv_iload_n F.1 F.2.1 d_M_goes_24 rfl (lv_at hl 1 rfl) ?_
      refine lv_imul F.1 F.2.1 d_M_goes_25 ?_
      refine W.eq (g2 := F0 m 26 ls [.int (nI (6 * t))]) (by rw [show (6 : Int32) = nI 6 from rfl, pk_mul]) ?_
      refine lv_aload_n F.1 F.2.1 d_M_goes_26 rfl (lv_at hl 0 rfl) ?_
      refine pw_get F I_M hK.1 hP f1 rfl 17 (by decide) L_M_48 (fun _ z => z) rfl d_M_goes_27 ?_
      refine lv_iload_n F.1 F.2.1 d_M_goes_30 rfl (lv_at hl 1 rfl) ?_
      have f5 : h (ad 11) = some (.inl (cs 0, 4, .inl (S 11))) := hR.2.1 11 (by decide)
      refine pw_ialdN F hK.1 hP 0 f5 rfl (k := t) (by omega) (by decide) d_M_goes_31 ?_
      refine W.eq (g2 := F0 m 32 ls [.int (nI (d + 1)), .int (nI (6 * t))]) (by rw [hd]) ?_
      refine lv_iadd F.1 F.2.1 d_M_goes_32 ?_
      refine W.eq (g2 := F0 m 33 ls [.int (nI (6 * t + (d + 1)))]) (by rw [nI_add]) ?_
      refine lv_iconst (v := 1) F.1 F.2.1 d_M_goes_33 (by decide) ?_
      refine lv_isub F.1 F.2.1 d_M_goes_34 ?_
      refine W.eq (g2 := F0 m 35 ls [.int (nI (6 * t + d))]) (by rw [show (1 : Int32) = nI 1 from rfl, show nI (6 * t + (d + 1)) - nI 1 = nI (6 * t + d) from by rw [pk_sub (by omega), show 6 * t + (d + 1) - 1 = 6 * t + d by omega]]) ?_
      refine lv_istore_n F.1 F.2.1 d_M_goes_35 rfl hl (by decide) rfl (fun ls hl => ?_)
      replace hl : lv_has ls 5 [(2, .int (nI (6 * t + d))), (0, .ref o), (1, .int (nI t))] := hl
      refine lv_aload_n F.1 F.2.1 d_M_goes_36 rfl (lv_at hl 1 rfl) ?_
      refine pw_get F I_M hK.1 hP f1 rfl 20 (by decide) L_M_57 (fun _ z => z) rfl d_M_goes_37 ?_
      refine lv_iload_n F.1 F.2.1 d_M_goes_40 rfl (lv_at hl 0 rfl) ?_
      have f6 : h (ad 14) = some (.inl (cs 0, 24, .inl (S 14))) := hR.2.1 14 (by decide)
      refine pw_ialdN F hK.1 hP 0 f6 rfl (k := 6 * t + d) (by omega) (by decide) d_M_goes_41 ?_
      refine W.eq (g2 := F0 m 42 ls [.int (nI a)]) (by rw [ha]) ?_
      refine lv_aload_n F.1 F.2.1 d_M_goes_42 rfl (lv_at hl 1 rfl) ?_
      refine pw_get F I_M hK.1 hP f1 rfl 4 (by decide) L_M_17 (fun _ z => z) rfl d_M_goes_43 ?_
      refine lv_aload_n F.1 F.2.1 d_M_goes_46 rfl (lv_at hl 1 rfl) ?_
      refine pw_get F I_M hK.1 hP f1 rfl 18 (by decide) L_M_51 (fun _ z => z) rfl d_M_goes_47 ?_
      refine lv_iload_n F.1 F.2.1 d_M_goes_50 rfl (lv_at hl 0 rfl) ?_
      have f7 : h (ad 12) = some (.inl (cs 0, 24, .inl (S 12))) := hR.2.1 12 (by decide)
      refine pw_ialdN F hK.1 hP 0 f7 rfl (k := 6 * t + d) (by omega) (by decide) d_M_goes_51 ?_
      refine W.eq (g2 := F0 m 52 ls [.int (nI r), .ref (ad 2), .int (nI a)]) (by rw [hrw]) ?_
      have f8 : h (ad 2) = some (.inl (cs 0, 56, .inl (S 2))) := hR.2.1 2 (by decide)
      refine pw_ialdN F hK.1 hP 0 f8 rfl (k := r) (by omega) (by decide) d_M_goes_52 ?_
      refine W.eq (g2 := F0 m 53 ls [.int (nI z), .int (nI a)]) (by rw [hz]) ?_
      refine lv_icmp_ne (tgt := 72) F.1 F.2.1 d_M_goes_53 (by decide) (fun c9 => ?_) (fun c9 => ?_)
      · skip
        refine lv_aload_n F.1 F.2.1 d_M_goes_72 rfl (lv_at hl 1 rfl) ?_
        refine pw_get F I_M hK.1 hP f1 rfl 5 (by decide) L_M_20 (fun _ z => z) rfl d_M_goes_73 ?_
        refine lv_bipush (v := 12) F.1 F.2.1 d_M_goes_76 (by decide) ?_
        refine lv_aload_n F.1 F.2.1 d_M_goes_78 rfl (lv_at hl 1 rfl) ?_
        refine pw_get F I_M hK.1 hP f1 rfl 18 (by decide) L_M_51 (fun _ z => z) rfl d_M_goes_79 ?_
        refine lv_iload_n F.1 F.2.1 d_M_goes_82 rfl (lv_at hl 0 rfl) ?_
        refine pw_ialdN F hK.1 hP 0 f7 rfl (k := 6 * t + d) (by omega) (by decide) d_M_goes_83 ?_
        refine W.eq (g2 := F0 m 84 ls [.int (nI r), .int 12, .ref (ad 3)]) (by rw [hrw]) ?_
        refine lv_imul F.1 F.2.1 d_M_goes_84 ?_
        refine W.eq (g2 := F0 m 85 ls [.int (nI (12 * r)), .ref (ad 3)]) (by rw [show (12 : Int32) = nI 12 from rfl, pk_mul]) ?_
        refine lv_aload_n F.1 F.2.1 d_M_goes_85 rfl (lv_at hl 1 rfl) ?_
        refine pw_get F I_M hK.1 hP f1 rfl 20 (by decide) L_M_57 (fun _ z => z) rfl d_M_goes_86 ?_
        refine lv_iload_n F.1 F.2.1 d_M_goes_89 rfl (lv_at hl 0 rfl) ?_
        refine pw_ialdN F hK.1 hP 0 f6 rfl (k := 6 * t + d) (by omega) (by decide) d_M_goes_90 ?_
        refine W.eq (g2 := F0 m 91 ls [.int (nI a), .int (nI (12 * r)), .ref (ad 3)]) (by rw [ha]) ?_
        refine lv_iadd F.1 F.2.1 d_M_goes_91 ?_
        refine W.eq (g2 := F0 m 92 ls [.int (nI (12 * r + a)), .ref (ad 3)]) (by rw [nI_add]) ?_
        have f10 : h (ad 3) = some (.inl (cs 0, 672, .inl (S 3))) := hR.2.1 3 (by decide)
        refine pw_ialdN F hK.1 hP 0 f10 rfl (k := 12 * r + a) (by omega) (by decide) d_M_goes_92 ?_
        refine lv_iconst (v := 2) F.1 F.2.1 d_M_goes_93 (by decide) ?_
        refine lv_icmp_eq (tgt := 99) F.1 F.2.1 d_M_goes_94 (by decide) (fun c11 => ?_) (fun c11 => ?_)
        · skip
          refine lv_iconst (v := 0) F.1 F.2.1 d_M_goes_99 (by decide) ?_
          refine lv_istore_n F.1 F.2.1 d_M_goes_100 rfl hl (by decide) rfl (fun ls hl => ?_)
          replace hl : lv_has ls 5 [(3, .int 0), (2, .int (nI (6 * t + d))), (0, .ref o), (1, .int (nI t))] := hl
          refine lv_bipush (v := 6) F.1 F.2.1 d_M_goes_101 (by decide) ?_
          refine lv_iload_n F.1 F.2.1 d_M_goes_103 rfl (lv_at hl 3 rfl) ?_
          refine lv_imul F.1 F.2.1 d_M_goes_104 ?_
          refine W.eq (g2 := F0 m 105 ls [.int (nI (6 * t))]) (by rw [show (6 : Int32) = nI 6 from rfl, pk_mul]) ?_
          refine lv_istore F.1 F.2.1 d_M_goes_105 hl (by decide) rfl (fun ls hl => ?_)
          replace hl : lv_has ls 5 [(4, .int (nI (6 * t))), (3, .int 0), (2, .int (nI (6 * t + d))), (0, .ref o), (1, .int (nI t))] := hl
          obtain ⟨k, hk0⟩ : ∃ k : Nat, k = 0 := ⟨0, rfl⟩
          obtain ⟨b, hb0⟩ : ∃ b : Int32, b = 0 := ⟨0, rfl⟩
          have hb : (b = 0 ∧ ∀ j, j < k → S 0 (8 * pT + tn (S 12 (6 * t + j)) % 8) = 0) ∨ (b = 1 ∧ ∃ j, j < k ∧ ¬ S 0 (8 * pT + tn (S 12 (6 * t + j)) % 8) = 0) := Or.inl ⟨hb0, fun j hj => by omega⟩
          have hle : k ≤ d + 1 := by omega
          obtain ⟨n, hn⟩ : ∃ n : Nat, d + 1 - k = n := ⟨_, rfl⟩
          replace hl : lv_has ls 5 [(4, .int (nI (6 * t + k))), (3, .int b), (2, .int (nI (6 * t + d))), (0, .ref o), (1, .int (nI t))] := by rw [hk0, hb0]; exact hl
          clear hk0 hb0
          induction n generalizing ls k b with
          | zero =>
            refine lv_iload F.1 F.2.1 d_M_goes_107 (lv_at hl 0 rfl) ?_
            refine lv_iload_n F.1 F.2.1 d_M_goes_109 rfl (lv_at hl 2 rfl) ?_
            refine lv_icmp_gt (tgt := 155) F.1 F.2.1 d_M_goes_110 (by decide) (fun c12 => ?_) (fun c12 => absurd (nI_lt (show 6 * t + d < 6 * t + k by omega) (by omega)) c12)
            refine lv_iload_n F.1 F.2.1 d_M_goes_155 rfl (lv_at hl 1 rfl) ?_
            refine lv_if_ne (tgt := 163) F.1 F.2.1 d_M_goes_156 (by decide) (fun c13 => ?_) (fun c13 => ?_)
            · skip
              refine lv_iconst (v := 0) F.1 F.2.1 d_M_goes_163 (by decide) ?_
              exact pw_zret F hr rfl hlk hP hA hK hS (by decide) (by decide) d_M_goes_164 (by exact ⟨rfl, fun z9 => absurd ((mGoes_iff hd h6 hrw hr48 ha (by omega)).mp z9) (fun z => z.2.2.elim (fun z => c9 (z.1.trans hz)) (fun z => hb.elim (fun hb => absurd hb.1 c13) (fun hb => hb.2.elim (fun j h9 => h9.2 ((mClear_iff hd h6 hp hp5).mp z.2.2 j (by have := h9.1; omega)))))), fun _ => rfl⟩)
            · skip
              refine lv_iconst (v := 1) F.1 F.2.1 d_M_goes_159 (by decide) ?_
              refine lv_goto (tgt := 164) F.1 F.2.1 d_M_goes_160 (by decide) ?_
              exact pw_zret F hr rfl hlk hP hA hK hS (by decide) (by decide) d_M_goes_164 (by exact ⟨rfl, fun _ => rfl, fun z9 => absurd ((mGoes_iff hd h6 hrw hr48 ha (by omega)).mpr ⟨c2, c4, Or.inr ⟨fun z => c9 (z.trans hz), c11, (mClear_iff hd h6 hp hp5).mpr (hb.elim (fun hb j hj => hb.2 j (by omega)) (fun hb => absurd (hb.1.symm.trans c13) (by decide)))⟩⟩) z9⟩)
          | succ n ih =>
            obtain ⟨rk, hrk, hrow⟩ := rows k (by omega)
            refine lv_iload F.1 F.2.1 d_M_goes_107 (lv_at hl 0 rfl) ?_
            refine lv_iload_n F.1 F.2.1 d_M_goes_109 rfl (lv_at hl 2 rfl) ?_
            refine lv_icmp_gt (tgt := 155) F.1 F.2.1 d_M_goes_110 (by decide) (fun c14 => absurd c14 (nI_nlt (show 6 * t + k ≤ 6 * t + d by omega) (by omega))) (fun c14 => ?_)
            refine lv_iload_n F.1 F.2.1 d_M_goes_113 rfl (lv_at hl 1 rfl) ?_
            refine lv_if_ne (tgt := 143) F.1 F.2.1 d_M_goes_114 (by decide) (fun c15 => ?_) (fun c15 => ?_)
            · skip
              refine lv_iconst (v := 1) F.1 F.2.1 d_M_goes_143 (by decide) ?_
              refine lv_goto (tgt := 148) F.1 F.2.1 d_M_goes_144 (by decide) ?_
              refine lv_istore_n F.1 F.2.1 d_M_goes_148 rfl hl (by decide) rfl (fun ls hl => ?_)
              replace hl : lv_has ls 5 [(3, .int 1), (4, .int (nI (6 * t + k))), (2, .int (nI (6 * t + d))), (0, .ref o), (1, .int (nI t))] := hl
              refine lv_iinc (k := 1) (v := nI (6 * t + (k + 1))) F.1 F.2.1 d_M_goes_149 hl rfl (by rw [show Int32.ofInt 1 = nI 1 from rfl, nI_add]; rfl) (by decide) rfl (fun ls hl => ?_)
              replace hl : lv_has ls 5 [(4, .int (nI (6 * t + (k + 1)))), (3, .int 1), (2, .int (nI (6 * t + d))), (0, .ref o), (1, .int (nI t))] := hl
              refine lv_goto (tgt := 107) F.1 F.2.1 d_M_goes_152 (by decide) ?_
              have hb9 : ((1 : Int32) = 0 ∧ ∀ j, j < k + 1 → S 0 (8 * pT + tn (S 12 (6 * t + j)) % 8) = 0) ∨ ((1 : Int32) = 1 ∧ ∃ j, j < k + 1 ∧ ¬ S 0 (8 * pT + tn (S 12 (6 * t + j)) % 8) = 0) := Or.inr ⟨rfl, hb.elim (fun hb => absurd hb.1 c15) (fun hb => hb.2.elim (fun j h9 => ⟨j, by have := h9.1; omega, h9.2⟩))⟩
              exact ih (ls := ls) (k := k + 1) (b := 1) (by first | exact hl | exact hb9 | omega) (by first | exact hl | exact hb9 | omega) (by first | exact hl | exact hb9 | omega) (by first | exact hl | exact hb9 | omega)
            · skip
              refine lv_aload_n F.1 F.2.1 d_M_goes_117 rfl (lv_at hl 3 rfl) ?_
              refine pw_get F I_M hK.1 hP f1 rfl 2 (by decide) L_M_7 (fun _ z => z) rfl d_M_goes_118 ?_
              refine lv_bipush (v := 8) F.1 F.2.1 d_M_goes_121 (by decide) ?_
              refine lv_aload_n F.1 F.2.1 d_M_goes_123 rfl (lv_at hl 3 rfl) ?_
              refine pw_get F I_M hK.1 hP f1 rfl 8 (by decide) L_M_69 (fun _ z => z) rfl d_M_goes_124 ?_
              refine W.eq (g2 := F0 m 127 ls [.int (nI pT), .int 8, .ref (ad 0)]) (by rw [hp]) ?_
              refine lv_imul F.1 F.2.1 d_M_goes_127 ?_
              refine W.eq (g2 := F0 m 128 ls [.int (nI (8 * pT)), .ref (ad 0)]) (by rw [show (8 : Int32) = nI 8 from rfl, pk_mul]) ?_
              refine lv_aload_n F.1 F.2.1 d_M_goes_128 rfl (lv_at hl 3 rfl) ?_
              refine pw_get F I_M hK.1 hP f1 rfl 18 (by decide) L_M_51 (fun _ z => z) rfl d_M_goes_129 ?_
              refine lv_iload F.1 F.2.1 d_M_goes_132 (lv_at hl 0 rfl) ?_
              refine pw_ialdN F hK.1 hP 0 f7 rfl (k := 6 * t + k) (by omega) (by decide) d_M_goes_134 ?_
              refine W.eq (g2 := F0 m 135 ls [.int (nI rk), .int (nI (8 * pT)), .ref (ad 0)]) (by rw [hrow]) ?_
              refine lv_bipush (v := 8) F.1 F.2.1 d_M_goes_135 (by decide) ?_
              refine lv_irem F.1 F.2.1 d_M_goes_137 (by decide) ?_
              refine W.eq (g2 := F0 m 138 ls [.int (nI (rk % 8)), .int (nI (8 * pT)), .ref (ad 0)]) (by rw [show (8 : Int32) = nI 8 from rfl, pk_rem (by omega) (by decide) (by decide)]) ?_
              refine lv_iadd F.1 F.2.1 d_M_goes_138 ?_
              refine W.eq (g2 := F0 m 139 ls [.int (nI (8 * pT + (rk % 8))), .ref (ad 0)]) (by rw [nI_add]) ?_
              have f16 : h (ad 0) = some (.inl (cs 1, 56, .inl (S 0))) := hR.2.1 0 (by decide)
              refine pw_zaldN F hK.1 hP 1 f16 rfl (k := 8 * pT + (rk % 8)) (by omega) (by decide) d_M_goes_139 ?_
              refine lv_if_eq (tgt := 147) F.1 F.2.1 d_M_goes_140 (by decide) (fun c17 => ?_) (fun c17 => ?_)
              · skip
                refine lv_iconst (v := 0) F.1 F.2.1 d_M_goes_147 (by decide) ?_
                refine lv_istore_n F.1 F.2.1 d_M_goes_148 rfl hl (by decide) rfl (fun ls hl => ?_)
                replace hl : lv_has ls 5 [(3, .int 0), (4, .int (nI (6 * t + k))), (2, .int (nI (6 * t + d))), (0, .ref o), (1, .int (nI t))] := hl
                refine lv_iinc (k := 1) (v := nI (6 * t + (k + 1))) F.1 F.2.1 d_M_goes_149 hl rfl (by rw [show Int32.ofInt 1 = nI 1 from rfl, nI_add]; rfl) (by decide) rfl (fun ls hl => ?_)
                replace hl : lv_has ls 5 [(4, .int (nI (6 * t + (k + 1)))), (3, .int 0), (2, .int (nI (6 * t + d))), (0, .ref o), (1, .int (nI t))] := hl
                refine lv_goto (tgt := 107) F.1 F.2.1 d_M_goes_152 (by decide) ?_
                have hb9 : ((0 : Int32) = 0 ∧ ∀ j, j < k + 1 → S 0 (8 * pT + tn (S 12 (6 * t + j)) % 8) = 0) ∨ ((0 : Int32) = 1 ∧ ∃ j, j < k + 1 ∧ ¬ S 0 (8 * pT + tn (S 12 (6 * t + j)) % 8) = 0) := Or.inl ⟨rfl, fun j hj => hb.elim (fun hb => (Nat.lt_or_ge j k).elim (fun h9 => hb.2 j h9) (fun h9 => by rw [show j = k by omega, hrow, tn_nI (by omega)]; exact c17)) (fun hb => absurd (hb.1.symm.trans c15) (by decide))⟩
                exact ih (ls := ls) (k := k + 1) (b := 0) (by first | exact hl | exact hb9 | omega) (by first | exact hl | exact hb9 | omega) (by first | exact hl | exact hb9 | omega) (by first | exact hl | exact hb9 | omega)
              · skip
                refine lv_iconst (v := 1) F.1 F.2.1 d_M_goes_143 (by decide) ?_
                refine lv_goto (tgt := 148) F.1 F.2.1 d_M_goes_144 (by decide) ?_
                refine lv_istore_n F.1 F.2.1 d_M_goes_148 rfl hl (by decide) rfl (fun ls hl => ?_)
                replace hl : lv_has ls 5 [(3, .int 1), (4, .int (nI (6 * t + k))), (2, .int (nI (6 * t + d))), (0, .ref o), (1, .int (nI t))] := hl
                refine lv_iinc (k := 1) (v := nI (6 * t + (k + 1))) F.1 F.2.1 d_M_goes_149 hl rfl (by rw [show Int32.ofInt 1 = nI 1 from rfl, nI_add]; rfl) (by decide) rfl (fun ls hl => ?_)
                replace hl : lv_has ls 5 [(4, .int (nI (6 * t + (k + 1)))), (3, .int 1), (2, .int (nI (6 * t + d))), (0, .ref o), (1, .int (nI t))] := hl
                refine lv_goto (tgt := 107) F.1 F.2.1 d_M_goes_152 (by decide) ?_
                have hb9 : ((1 : Int32) = 0 ∧ ∀ j, j < k + 1 → S 0 (8 * pT + tn (S 12 (6 * t + j)) % 8) = 0) ∨ ((1 : Int32) = 1 ∧ ∃ j, j < k + 1 ∧ ¬ S 0 (8 * pT + tn (S 12 (6 * t + j)) % 8) = 0) := Or.inr ⟨rfl, k, by omega, by rw [hrow, tn_nI (by omega)]; exact c17⟩
                exact ih (ls := ls) (k := k + 1) (b := 1) (by first | exact hl | exact hb9 | omega) (by first | exact hl | exact hb9 | omega) (by first | exact hl | exact hb9 | omega) (by first | exact hl | exact hb9 | omega)
        · skip
          refine lv_iconst (v := 0) F.1 F.2.1 d_M_goes_97 (by decide) ?_
          exact pw_zret F hr rfl hlk hP hA hK hS (by decide) (by decide) d_M_goes_98 (by exact ⟨rfl, fun z9 => absurd ((mGoes_iff hd h6 hrw hr48 ha (by omega)).mp z9) (fun z => z.2.2.elim (fun z => c9 (z.1.trans hz)) (fun z => c11 z.2.1)), fun _ => rfl⟩)
      · skip
        refine lv_aload_n F.1 F.2.1 d_M_goes_56 rfl (lv_at hl 1 rfl) ?_
        refine pw_get F I_M hK.1 hP f1 rfl 17 (by decide) L_M_48 (fun _ z => z) rfl d_M_goes_57 ?_
        refine lv_iload_n F.1 F.2.1 d_M_goes_60 rfl (lv_at hl 2 rfl) ?_
        refine pw_ialdN F hK.1 hP 0 f5 rfl (k := t) (by omega) (by decide) d_M_goes_61 ?_
        refine W.eq (g2 := F0 m 62 ls [.int (nI (d + 1))]) (by rw [hd]) ?_
        refine lv_iconst (v := 1) F.1 F.2.1 d_M_goes_62 (by decide) ?_
        refine lv_icmp_ne (tgt := 70) F.1 F.2.1 d_M_goes_63 (by decide) (fun c18 => ?_) (fun c18 => ?_)
        · skip
          refine lv_iconst (v := 0) F.1 F.2.1 d_M_goes_70 (by decide) ?_
          exact pw_zret F hr rfl hlk hP hA hK hS (by decide) (by decide) d_M_goes_71 (by exact ⟨rfl, fun z9 => absurd ((mGoes_iff hd h6 hrw hr48 ha (by omega)).mp z9) (fun z => z.2.2.elim (fun z => c18 z.2) (fun z => z.1 (c9.trans hz.symm))), fun _ => rfl⟩)
        · skip
          refine lv_iconst (v := 1) F.1 F.2.1 d_M_goes_66 (by decide) ?_
          refine lv_goto (tgt := 71) F.1 F.2.1 d_M_goes_67 (by decide) ?_
          exact pw_zret F hr rfl hlk hP hA hK hS (by decide) (by decide) d_M_goes_71 (by exact ⟨rfl, fun _ => rfl, fun z9 => absurd ((mGoes_iff hd h6 hrw hr48 ha (by omega)).mpr ⟨c2, c4, Or.inl ⟨c9.trans hz.symm, c18⟩⟩) z9⟩)
    · skip
      refine lv_iconst (v := 0) F.1 F.2.1 d_M_goes_20 (by decide) ?_
      exact pw_zret F hr rfl hlk hP hA hK hS (by decide) (by decide) d_M_goes_21 (by exact ⟨rfl, fun z9 => absurd ((mGoes_iff hd h6 hrw hr48 ha (by omega)).mp z9) (fun z => z.2.1 c4), fun _ => rfl⟩)
