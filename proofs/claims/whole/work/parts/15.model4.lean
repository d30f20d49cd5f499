theorem i32_or (x : Int32) : x < 0 ∨ 0 ≤ x := by
  rcases Decidable.em (x < 0) with h | h
  · exact Or.inl h
  · exact Or.inr (Int32.not_lt.mp h)
theorem nI_sp1 {n : Nat} : nI n + 1 - 1 = nI n := by rw [nI_1, nI_pred]
abbrev rm_M_function : Room := { frames := 1, cells := 0, slots := 0, locals := 22 }
set_option maxHeartbeats 4000000 in
set_option maxRecDepth 100000 in
theorem c_M_function (l : Launch) (D : va_G) (cs : Nat → Nat) (A : Nat → Prop) (h : pw_H) (o : Nat) (ad : Nat → Nat) (S : St) (hR : RM cs h o ad S) (nf : Nat) (hnf8 : nf ≤ 8) (hnf : S 16 1 = nI nf) (sg : Int32) : pm l y_M_function b_M_function 2 (some .int) rm_M_function [.ref o, .int sg] D cs A h (va_Qi (fun (r : Int32) (h' : pw_H) => RM cs h' o ad (stFunction S sg) ∧ r = rFunction S sg) (ww D cs A) A) 0 0 := by
  refine pm_of R_M rfl (by decide) (Nat.le_of_ble_eq_true rfl) (fun p e s m below meth c ls F hr hlk hnm hP hA hK hl => ?_)
  have hS : va_S A s.heap s.heap [] := va_S.rf
  replace hl : lv_has ls 2 [(0, .ref o), (1, .int sg)] := hl
  refine lv_aload_n F.1 F.2.1 d_M_function_0 rfl (lv_at hl 0 rfl) ?_
  refine lv_iload_n F.1 F.2.1 d_M_function_1 rfl (lv_at hl 1 rfl) ?_
  refine lv_iconst (v := 0) F.1 F.2.1 d_M_function_2 (by decide) ?_
  refine lv_bipush (v := 9) F.1 F.2.1 d_M_function_3 (by decide) ?_
  refine pw_ciE (pr_S F (c_M_inn l D cs A h sg 0 9) X_M_72 rfl rfl ⟨by decide, by decide⟩ hP hA hK hS rfl hl.1 rfl (Nat.le_of_ble_eq_true rfl) d_M_function_5 ⟨by decide, by decide⟩) hS (fun H locs hP hS => ?_)
  by_cases b1 : 0 ≤ sg ∧ sg ≤ 9
  · skip
    refine W.eq (g2 := F0 m 8 ls [.int 1, .ref o]) (by rw [if_pos b1]) ?_
    refine lv_if_ne (tgt := 15) F.1 F.2.1 d_M_function_8 (by decide) (fun c2 => ?_) (fun c2 => absurd c2 (by decide))
    refine lv_aload_n F.1 F.2.1 d_M_function_15 rfl (lv_at hl 0 rfl) ?_
    have f3 : h o = some (.inr (7, [.int (S 16 0), .int (S 16 1), .ref (ad 0), .ref (ad 1), .ref (ad 2), .ref (ad 3), .ref (ad 4), .int (S 16 2), .int (S 16 3), .int (S 16 4), .int (S 16 5), .ref (ad 5), .ref (ad 6), .ref (ad 7), .ref (ad 8), .ref (ad 9), .ref (ad 10), .ref (ad 11), .ref (ad 12), .ref (ad 13), .ref (ad 14), .ref (ad 15)])) := hR.1
    refine pw_get F I_M hK.1 hP f3 rfl 1 (by decide) L_M_76 (fun _ z => z) rfl d_M_function_16 ?_
    refine W.eq (g2 := F0 m 19 ls [.int (nI nf), .ref o]) (by rw [hnf]) ?_
    refine lv_bipush (v := 8) F.1 F.2.1 d_M_function_19 (by decide) ?_
    refine lv_icmp_eq (tgt := 31) F.1 F.2.1 d_M_function_21 (by decide) (fun c4 => ?_) (fun c4 => ?_)
    · skip
      refine lv_iconst (v := 2) F.1 F.2.1 d_M_function_31 (by decide) ?_
      refine lv_goto (tgt := 36) F.1 F.2.1 d_M_function_32 (by decide) ?_
      refine pw_put F I_M ty_M k_M n_M hK.1 hP hS f3 rfl 0 (by decide) L_M_63 (fun _ z => z) rfl rfl rfl (Nat.le_of_ble_eq_true rfl) d_M_function_36 (fun H locs hP hS => ?_)
      have hP : pw D vwCl A (pu h o (.inr (7, (mfs ad S).set (mpos 0) (.int 2)))) H := hP
      have hR := hR.num (show 0 < 6 by decide) 2
      obtain ⟨h5, e6⟩ : ∃ z9 : pw_H, z9 = pu h o (.inr (7, (mfs ad S).set (mpos 0) (.int 2))) := ⟨_, rfl⟩
      rw [← e6] at hP
      obtain ⟨S7, t8⟩ : ∃ z9 : St, z9 = sp S 16 0 2 := ⟨_, rfl⟩
      have hR : RM cs h5 o ad S7 := by rw [e6, t8]; exact hR
      refine lv_aload_n F.1 F.2.1 d_M_function_39 rfl (lv_at hl 0 rfl) ?_
      have f9 : h5 o = some (.inr (7, [.int (S7 16 0), .int (S7 16 1), .ref (ad 0), .ref (ad 1), .ref (ad 2), .ref (ad 3), .ref (ad 4), .int (S7 16 2), .int (S7 16 3), .int (S7 16 4), .int (S7 16 5), .ref (ad 5), .ref (ad 6), .ref (ad 7), .ref (ad 8), .ref (ad 9), .ref (ad 10), .ref (ad 11), .ref (ad 12), .ref (ad 13), .ref (ad 14), .ref (ad 15)])) := hR.1
      refine pw_get F I_M hK.1 hP f9 rfl 0 (by decide) L_M_63 (fun _ z => z) rfl d_M_function_40 ?_
      refine W.eq (g2 := F0 m 43 ls [.int 2]) (by rw [show S7 16 0 = 2 from by rw [t8]; exact sp_s]) ?_
      refine lv_if_le (tgt := 48) F.1 F.2.1 d_M_function_43 (by decide) (fun c10 => absurd c10 (by decide)) (fun c10 => ?_)
      refine lv_iconst (v := 0) F.1 F.2.1 d_M_function_46 (by decide) ?_
      exact pw_iret F hr hlk hP hA hK hS (by decide) (by decide) d_M_function_47 (by have hth : thFunction S sg = 2 := (by unfold thFunction; rw [if_neg (fun z9 => z9 b1), if_pos (Or.inl (hnf.trans c4))]); unfold stFunction rFunction; rw [hth, if_neg (by decide), if_neg (by decide)]; rw [t8] at hR; exact ⟨hR, rfl⟩)
    · skip
      refine lv_aload_n F.1 F.2.1 d_M_function_24 rfl (lv_at hl 0 rfl) ?_
      refine pw_ciE (pr_V F (c_M_fresh l D cs A h o ad S hR) X_M_79 rfl rfl ⟨by decide, by decide⟩ hP hA hK hS f3 rfl rfl rfl hl.1 rfl (Nat.le_of_ble_eq_true rfl) d_M_function_25 ⟨by decide, by decide⟩) hS (fun H locs hP hS => ?_)
      by_cases b11 : mFresh S
      · skip
        refine W.eq (g2 := F0 m 28 ls [.int 1, .ref o]) (by rw [if_pos b11]) ?_
        refine lv_if_ne (tgt := 35) F.1 F.2.1 d_M_function_28 (by decide) (fun c12 => ?_) (fun c12 => absurd c12 (by decide))
        refine lv_iconst (v := 0) F.1 F.2.1 d_M_function_35 (by decide) ?_
        refine pw_put F I_M ty_M k_M n_M hK.1 hP hS f3 rfl 0 (by decide) L_M_63 (fun _ z => z) rfl rfl rfl (Nat.le_of_ble_eq_true rfl) d_M_function_36 (fun H locs hP hS => ?_)
        have hP : pw D vwCl A (pu h o (.inr (7, (mfs ad S).set (mpos 0) (.int 0)))) H := hP
        have hR := hR.num (show 0 < 6 by decide) 0
        obtain ⟨h13, e14⟩ : ∃ z9 : pw_H, z9 = pu h o (.inr (7, (mfs ad S).set (mpos 0) (.int 0))) := ⟨_, rfl⟩
        rw [← e14] at hP
        obtain ⟨S15, t16⟩ : ∃ z9 : St, z9 = sp S 16 0 0 := ⟨_, rfl⟩
        have hR : RM cs h13 o ad S15 := by rw [e14, t16]; exact hR
        refine lv_aload_n F.1 F.2.1 d_M_function_39 rfl (lv_at hl 0 rfl) ?_
        have f17 : h13 o = some (.inr (7, [.int (S15 16 0), .int (S15 16 1), .ref (ad 0), .ref (ad 1), .ref (ad 2), .ref (ad 3), .ref (ad 4), .int (S15 16 2), .int (S15 16 3), .int (S15 16 4), .int (S15 16 5), .ref (ad 5), .ref (ad 6), .ref (ad 7), .ref (ad 8), .ref (ad 9), .ref (ad 10), .ref (ad 11), .ref (ad 12), .ref (ad 13), .ref (ad 14), .ref (ad 15)])) := hR.1
        refine pw_get F I_M hK.1 hP f17 rfl 0 (by decide) L_M_63 (fun _ z => z) rfl d_M_function_40 ?_
        refine W.eq (g2 := F0 m 43 ls [.int 0]) (by rw [show S15 16 0 = 0 from by rw [t16]; exact sp_s]) ?_
        refine lv_if_le (tgt := 48) F.1 F.2.1 d_M_function_43 (by decide) (fun c18 => ?_) (fun c18 => absurd (by decide) c18)
        have hlt : nf < 8 := by
          rcases Nat.lt_or_ge nf 8 with h9 | h9
          · exact h9
          · exact absurd (show nI nf = 8 by rw [show nf = 8 by omega]; rfl) c4
        refine lv_aload_n F.1 F.2.1 d_M_function_48 rfl (lv_at hl 0 rfl) ?_
        refine pw_get F I_M hK.1 hP f17 rfl 2 (by decide) L_M_7 (fun _ z => z) rfl d_M_function_49 ?_
        refine lv_aload_n F.1 F.2.1 d_M_function_52 rfl (lv_at hl 0 rfl) ?_
        refine pw_get F I_M hK.1 hP f17 rfl 1 (by decide) L_M_76 (fun _ z => z) rfl d_M_function_53 ?_
        refine W.eq (g2 := F0 m 56 ls [.int (nI nf), .ref (ad 0)]) (by rw [show S15 16 1 = S 16 1 from by rw [t16]; exact sp_j (by decide), hnf]) ?_
        refine lv_iconst (v := 1) F.1 F.2.1 d_M_function_56 (by decide) ?_
        have f19 : h13 (ad 0) = some (.inl (cs 1, 56, .inl (S15 0))) := hR.2.1 0 (by decide)
        refine pw_zastN F hK.1 hP hS 1 f19 rfl (k := nf) (by omega) (by decide) rfl d_M_function_57 (fun H locs hP hS => ?_)
        have hP : pw D vwCl A (pu h13 (ad 0) (.inl (cs 1, 56, .inl (upd (S15 0) nf 1)))) H := hP
        have hR := hR.arr (show 0 < 16 by decide) nf 1
        obtain ⟨h20, e21⟩ : ∃ z9 : pw_H, z9 = pu h13 (ad 0) (.inl (cs 1, 56, .inl (upd (S15 0) nf 1))) := ⟨_, rfl⟩
        rw [← e21] at hP
        obtain ⟨S22, t23⟩ : ∃ z9 : St, z9 = sp S15 0 nf 1 := ⟨_, rfl⟩
        have hR : RM cs h20 o ad S22 := by rw [e21, t23]; exact hR
        refine lv_aload_n F.1 F.2.1 d_M_function_58 rfl (lv_at hl 0 rfl) ?_
        have f24 : h20 o = some (.inr (7, [.int (S22 16 0), .int (S22 16 1), .ref (ad 0), .ref (ad 1), .ref (ad 2), .ref (ad 3), .ref (ad 4), .int (S22 16 2), .int (S22 16 3), .int (S22 16 4), .int (S22 16 5), .ref (ad 5), .ref (ad 6), .ref (ad 7), .ref (ad 8), .ref (ad 9), .ref (ad 10), .ref (ad 11), .ref (ad 12), .ref (ad 13), .ref (ad 14), .ref (ad 15)])) := hR.1
        refine pw_get F I_M hK.1 hP f24 rfl 3 (by decide) L_M_13 (fun _ z => z) rfl d_M_function_59 ?_
        refine lv_aload_n F.1 F.2.1 d_M_function_62 rfl (lv_at hl 0 rfl) ?_
        refine pw_get F I_M hK.1 hP f24 rfl 1 (by decide) L_M_76 (fun _ z => z) rfl d_M_function_63 ?_
        refine W.eq (g2 := F0 m 66 ls [.int (nI nf), .ref (ad 1)]) (by rw [show S22 16 1 = S15 16 1 from by rw [t23]; exact sp_k (by decide), show S15 16 1 = S 16 1 from by rw [t16]; exact sp_j (by decide), hnf]) ?_
        refine lv_iload_n F.1 F.2.1 d_M_function_66 rfl (lv_at hl 1 rfl) ?_
        have f25 : h20 (ad 1) = some (.inl (cs 0, 56, .inl (S22 1))) := hR.2.1 1 (by decide)
        refine pw_iastN F hK.1 hP hS 0 f25 rfl (k := nf) (by omega) (by decide) d_M_function_67 (fun H locs hP hS => ?_)
        have hP : pw D vwCl A (pu h20 (ad 1) (.inl (cs 0, 56, .inl (upd (S22 1) nf sg)))) H := hP
        have hR := hR.arr (show 1 < 16 by decide) nf sg
        obtain ⟨h26, e27⟩ : ∃ z9 : pw_H, z9 = pu h20 (ad 1) (.inl (cs 0, 56, .inl (upd (S22 1) nf sg))) := ⟨_, rfl⟩
        rw [← e27] at hP
        obtain ⟨S28, t29⟩ : ∃ z9 : St, z9 = sp S22 1 nf sg := ⟨_, rfl⟩
        have hR : RM cs h26 o ad S28 := by rw [e27, t29]; exact hR
        refine lv_aload_n F.1 F.2.1 d_M_function_68 rfl (lv_at hl 0 rfl) ?_
        have f30 : h26 o = some (.inr (7, [.int (S28 16 0), .int (S28 16 1), .ref (ad 0), .ref (ad 1), .ref (ad 2), .ref (ad 3), .ref (ad 4), .int (S28 16 2), .int (S28 16 3), .int (S28 16 4), .int (S28 16 5), .ref (ad 5), .ref (ad 6), .ref (ad 7), .ref (ad 8), .ref (ad 9), .ref (ad 10), .ref (ad 11), .ref (ad 12), .ref (ad 13), .ref (ad 14), .ref (ad 15)])) := hR.1
        refine pw_get F I_M hK.1 hP f30 rfl 4 (by decide) L_M_17 (fun _ z => z) rfl d_M_function_69 ?_
        refine lv_aload_n F.1 F.2.1 d_M_function_72 rfl (lv_at hl 0 rfl) ?_
        refine pw_get F I_M hK.1 hP f30 rfl 1 (by decide) L_M_76 (fun _ z => z) rfl d_M_function_73 ?_
        refine W.eq (g2 := F0 m 76 ls [.int (nI nf), .ref (ad 2)]) (by rw [show S28 16 1 = S22 16 1 from by rw [t29]; exact sp_k (by decide), show S22 16 1 = S15 16 1 from by rw [t23]; exact sp_k (by decide), show S15 16 1 = S 16 1 from by rw [t16]; exact sp_j (by decide), hnf]) ?_
        refine lv_iconst (v := 0) F.1 F.2.1 d_M_function_76 (by decide) ?_
        have f31 : h26 (ad 2) = some (.inl (cs 0, 56, .inl (S28 2))) := hR.2.1 2 (by decide)
        refine pw_iastN F hK.1 hP hS 0 f31 rfl (k := nf) (by omega) (by decide) d_M_function_77 (fun H locs hP hS => ?_)
        have hP : pw D vwCl A (pu h26 (ad 2) (.inl (cs 0, 56, .inl (upd (S28 2) nf 0)))) H := hP
        have hR := hR.arr (show 2 < 16 by decide) nf 0
        obtain ⟨h32, e33⟩ : ∃ z9 : pw_H, z9 = pu h26 (ad 2) (.inl (cs 0, 56, .inl (upd (S28 2) nf 0))) := ⟨_, rfl⟩
        rw [← e33] at hP
        obtain ⟨S34, t35⟩ : ∃ z9 : St, z9 = sp S28 2 nf 0 := ⟨_, rfl⟩
        have hR : RM cs h32 o ad S34 := by rw [e33, t35]; exact hR
        refine lv_aload_n F.1 F.2.1 d_M_function_78 rfl (lv_at hl 0 rfl) ?_
        refine lv_dup F.1 F.2.1 d_M_function_79 rfl ?_
        have f36 : h32 o = some (.inr (7, [.int (S34 16 0), .int (S34 16 1), .ref (ad 0), .ref (ad 1), .ref (ad 2), .ref (ad 3), .ref (ad 4), .int (S34 16 2), .int (S34 16 3), .int (S34 16 4), .int (S34 16 5), .ref (ad 5), .ref (ad 6), .ref (ad 7), .ref (ad 8), .ref (ad 9), .ref (ad 10), .ref (ad 11), .ref (ad 12), .ref (ad 13), .ref (ad 14), .ref (ad 15)])) := hR.1
        refine pw_get F I_M hK.1 hP f36 rfl 1 (by decide) L_M_76 (fun _ z => z) rfl d_M_function_80 ?_
        refine W.eq (g2 := F0 m 83 ls [.int (nI nf), .ref o]) (by rw [show S34 16 1 = S28 16 1 from by rw [t35]; exact sp_k (by decide), show S28 16 1 = S22 16 1 from by rw [t29]; exact sp_k (by decide), show S22 16 1 = S15 16 1 from by rw [t23]; exact sp_k (by decide), show S15 16 1 = S 16 1 from by rw [t16]; exact sp_j (by decide), hnf]) ?_
        refine lv_iconst (v := 1) F.1 F.2.1 d_M_function_83 (by decide) ?_
        refine lv_iadd F.1 F.2.1 d_M_function_84 ?_
        refine W.eq (g2 := F0 m 85 ls [.int (nI (nf + 1)), .ref o]) (by rw [show (1 : Int32) = nI 1 from rfl, nI_add]) ?_
        refine pw_put F I_M ty_M k_M n_M hK.1 hP hS f36 rfl 1 (by decide) L_M_76 (fun _ z => z) rfl rfl rfl (Nat.le_of_ble_eq_true rfl) d_M_function_85 (fun H locs hP hS => ?_)
        have hP : pw D vwCl A (pu h32 o (.inr (7, (mfs ad S34).set (mpos 1) (.int (nI (nf + 1)))))) H := hP
        have hR := hR.num (show 1 < 6 by decide) (nI (nf + 1))
        obtain ⟨h37, e38⟩ : ∃ z9 : pw_H, z9 = pu h32 o (.inr (7, (mfs ad S34).set (mpos 1) (.int (nI (nf + 1))))) := ⟨_, rfl⟩
        rw [← e38] at hP
        obtain ⟨S39, t40⟩ : ∃ z9 : St, z9 = sp S34 16 1 (nI (nf + 1)) := ⟨_, rfl⟩
        have hR : RM cs h37 o ad S39 := by rw [e38, t40]; exact hR
        refine lv_aload_n F.1 F.2.1 d_M_function_88 rfl (lv_at hl 0 rfl) ?_
        have f41 : h37 o = some (.inr (7, [.int (S39 16 0), .int (S39 16 1), .ref (ad 0), .ref (ad 1), .ref (ad 2), .ref (ad 3), .ref (ad 4), .int (S39 16 2), .int (S39 16 3), .int (S39 16 4), .int (S39 16 5), .ref (ad 5), .ref (ad 6), .ref (ad 7), .ref (ad 8), .ref (ad 9), .ref (ad 10), .ref (ad 11), .ref (ad 12), .ref (ad 13), .ref (ad 14), .ref (ad 15)])) := hR.1
        refine pw_get F I_M hK.1 hP f41 rfl 1 (by decide) L_M_76 (fun _ z => z) rfl d_M_function_89 ?_
        refine W.eq (g2 := F0 m 92 ls [.int (nI (nf + 1))]) (by rw [show S39 16 1 = nI (nf + 1) from by rw [t40]; exact sp_s]) ?_
        refine lv_iconst (v := 1) F.1 F.2.1 d_M_function_92 (by decide) ?_
        refine lv_isub F.1 F.2.1 d_M_function_93 ?_
        exact pw_iret F hr hlk hP hA hK hS (by decide) (by decide) d_M_function_94 (by have hth : thFunction S sg = 0 := (by unfold thFunction; rw [if_neg (fun z9 => z9 b1), if_neg (fun z9 => z9.elim (fun z8 => c4 (hnf.symm.trans z8)) (fun z8 => z8 b11))]); unfold stFunction rFunction; rw [if_pos hth, if_pos hth, hnf, tn_nI (by omega), nI_1]; rw [t40, t35, t29, t23, t16] at hR; exact ⟨hR, nI_pred _⟩)
      · skip
        refine W.eq (g2 := F0 m 28 ls [.int 0, .ref o]) (by rw [if_neg b11]) ?_
        refine lv_if_ne (tgt := 35) F.1 F.2.1 d_M_function_28 (by decide) (fun c42 => absurd (by decide) c42) (fun c42 => ?_)
        refine lv_iconst (v := 2) F.1 F.2.1 d_M_function_31 (by decide) ?_
        refine lv_goto (tgt := 36) F.1 F.2.1 d_M_function_32 (by decide) ?_
        refine pw_put F I_M ty_M k_M n_M hK.1 hP hS f3 rfl 0 (by decide) L_M_63 (fun _ z => z) rfl rfl rfl (Nat.le_of_ble_eq_true rfl) d_M_function_36 (fun H locs hP hS => ?_)
        have hP : pw D vwCl A (pu h o (.inr (7, (mfs ad S).set (mpos 0) (.int 2)))) H := hP
        have hR := hR.num (show 0 < 6 by decide) 2
        obtain ⟨h43, e44⟩ : ∃ z9 : pw_H, z9 = pu h o (.inr (7, (mfs ad S).set (mpos 0) (.int 2))) := ⟨_, rfl⟩
        rw [← e44] at hP
        obtain ⟨S45, t46⟩ : ∃ z9 : St, z9 = sp S 16 0 2 := ⟨_, rfl⟩
        have hR : RM cs h43 o ad S45 := by rw [e44, t46]; exact hR
        refine lv_aload_n F.1 F.2.1 d_M_function_39 rfl (lv_at hl 0 rfl) ?_
        have f47 : h43 o = some (.inr (7, [.int (S45 16 0), .int (S45 16 1), .ref (ad 0), .ref (ad 1), .ref (ad 2), .ref (ad 3), .ref (ad 4), .int (S45 16 2), .int (S45 16 3), .int (S45 16 4), .int (S45 16 5), .ref (ad 5), .ref (ad 6), .ref (ad 7), .ref (ad 8), .ref (ad 9), .ref (ad 10), .ref (ad 11), .ref (ad 12), .ref (ad 13), .ref (ad 14), .ref (ad 15)])) := hR.1
        refine pw_get F I_M hK.1 hP f47 rfl 0 (by decide) L_M_63 (fun _ z => z) rfl d_M_function_40 ?_
        refine W.eq (g2 := F0 m 43 ls [.int 2]) (by rw [show S45 16 0 = 2 from by rw [t46]; exact sp_s]) ?_
        refine lv_if_le (tgt := 48) F.1 F.2.1 d_M_function_43 (by decide) (fun c48 => absurd c48 (by decide)) (fun c48 => ?_)
        refine lv_iconst (v := 0) F.1 F.2.1 d_M_function_46 (by decide) ?_
        exact pw_iret F hr hlk hP hA hK hS (by decide) (by decide) d_M_function_47 (by have hth : thFunction S sg = 2 := (by unfold thFunction; rw [if_neg (fun z9 => z9 b1), if_pos (Or.inr b11)]); unfold stFunction rFunction; rw [hth, if_neg (by decide), if_neg (by decide)]; rw [t46] at hR; exact ⟨hR, rfl⟩)
  · skip
    refine W.eq (g2 := F0 m 8 ls [.int 0, .ref o]) (by rw [if_neg b1]) ?_
    refine lv_if_ne (tgt := 15) F.1 F.2.1 d_M_function_8 (by decide) (fun c49 => absurd (by decide) c49) (fun c49 => ?_)
    refine lv_iconst (v := 1) F.1 F.2.1 d_M_function_11 (by decide) ?_
    refine lv_goto (tgt := 36) F.1 F.2.1 d_M_function_12 (by decide) ?_
    have f50 : h o = some (.inr (7, [.int (S 16 0), .int (S 16 1), .ref (ad 0), .ref (ad 1), .ref (ad 2), .ref (ad 3), .ref (ad 4), .int (S 16 2), .int (S 16 3), .int (S 16 4), .int (S 16 5), .ref (ad 5), .ref (ad 6), .ref (ad 7), .ref (ad 8), .ref (ad 9), .ref (ad 10), .ref (ad 11), .ref (ad 12), .ref (ad 13), .ref (ad 14), .ref (ad 15)])) := hR.1
    refine pw_put F I_M ty_M k_M n_M hK.1 hP hS f50 rfl 0 (by decide) L_M_63 (fun _ z => z) rfl rfl rfl (Nat.le_of_ble_eq_true rfl) d_M_function_36 (fun H locs hP hS => ?_)
    have hP : pw D vwCl A (pu h o (.inr (7, (mfs ad S).set (mpos 0) (.int 1)))) H := hP
    have hR := hR.num (show 0 < 6 by decide) 1
    obtain ⟨h51, e52⟩ : ∃ z9 : pw_H, z9 = pu h o (.inr (7, (mfs ad S).set (mpos 0) (.int 1))) := ⟨_, rfl⟩
    rw [← e52] at hP
    obtain ⟨S53, t54⟩ : ∃ z9 : St, z9 = sp S 16 0 1 := ⟨_, rfl⟩
    have hR : RM cs h51 o ad S53 := by rw [e52, t54]; exact hR
    refine lv_aload_n F.1 F.2.1 d_M_function_39 rfl (lv_at hl 0 rfl) ?_
    have f55 : h51 o = some (.inr (7, [.int (S53 16 0), .int (S53 16 1), .ref (ad 0), .ref (ad 1), .ref (ad 2), .ref (ad 3), .ref (ad 4), .int (S53 16 2), .int (S53 16 3), .int (S53 16 4), .int (S53 16 5), .ref (ad 5), .ref (ad 6), .ref (ad 7), .ref (ad 8), .ref (ad 9), .ref (ad 10), .ref (ad 11), .ref (ad 12), .ref (ad 13), .ref (ad 14), .ref (ad 15)])) := hR.1
    refine pw_get F I_M hK.1 hP f55 rfl 0 (by decide) L_M_63 (fun _ z => z) rfl d_M_function_40 ?_
    refine W.eq (g2 := F0 m 43 ls [.int 1]) (by rw [show S53 16 0 = 1 from by rw [t54]; exact sp_s]) ?_
    refine lv_if_le (tgt := 48) F.1 F.2.1 d_M_function_43 (by decide) (fun c56 => absurd c56 (by decide)) (fun c56 => ?_)
    refine lv_iconst (v := 0) F.1 F.2.1 d_M_function_46 (by decide) ?_
    exact pw_iret F hr hlk hP hA hK hS (by decide) (by decide) d_M_function_47 (by have hth : thFunction S sg = 1 := (by unfold thFunction; rw [if_pos b1]); unfold stFunction rFunction; rw [hth, if_neg (by decide), if_neg (by decide)]; rw [t54] at hR; exact ⟨hR, rfl⟩)
abbrev rm_M_name : Room := { frames := 1, cells := 0, slots := 0, locals := 22 }
set_option maxHeartbeats 4000000 in
set_option maxRecDepth 100000 in
theorem c_M_name (l : Launch) (D : va_G) (cs : Nat → Nat) (A : Nat → Prop) (h : pw_H) (o : Nat) (ad : Nat → Nat) (S : St) (hR : RM cs h o ad S) (nf : Nat) (hnf8 : nf ≤ 8) (hnf : S 16 1 = nI nf) (fn sg : Int32) : pm l y_M_name b_M_name 4 (some .int) rm_M_name [.ref o, .int fn, .int sg] D cs A h (va_Qi (fun (r : Int32) (h' : pw_H) => RM cs h' o ad (stName S fn sg) ∧ r = rName S fn sg) (ww D cs A) A) 0 0 := by
  refine pm_of R_M rfl (by decide) (Nat.le_of_ble_eq_true rfl) (fun p e s m below meth c ls F hr hlk hnm hP hA hK hl => ?_)
  have hS : va_S A s.heap s.heap [] := va_S.rf
  replace hl : lv_has ls 4 [(0, .ref o), (1, .int fn), (2, .int sg)] := hl
  refine lv_iload_n F.1 F.2.1 d_M_name_0 rfl (lv_at hl 1 rfl) ?_
  refine lv_iconst (v := 0) F.1 F.2.1 d_M_name_1 (by decide) ?_
  refine lv_aload_n F.1 F.2.1 d_M_name_2 rfl (lv_at hl 0 rfl) ?_
  have f1 : h o = some (.inr (7, [.int (S 16 0), .int (S 16 1), .ref (ad 0), .ref (ad 1), .ref (ad 2), .ref (ad 3), .ref (ad 4), .int (S 16 2), .int (S 16 3), .int (S 16 4), .int (S 16 5), .ref (ad 5), .ref (ad 6), .ref (ad 7), .ref (ad 8), .ref (ad 9), .ref (ad 10), .ref (ad 11), .ref (ad 12), .ref (ad 13), .ref (ad 14), .ref (ad 15)])) := hR.1
  refine pw_get F I_M hK.1 hP f1 rfl 1 (by decide) L_M_76 (fun _ z => z) rfl d_M_name_3 ?_
  refine W.eq (g2 := F0 m 6 ls [.int (nI nf), .int 0, .int fn]) (by rw [hnf]) ?_
  refine lv_iconst (v := 1) F.1 F.2.1 d_M_name_6 (by decide) ?_
  refine lv_isub F.1 F.2.1 d_M_name_7 ?_
  refine pw_ciE (pr_S F (c_M_inn l D cs A h fn 0 ((nI nf) - 1)) X_M_72 rfl rfl ⟨by decide, by decide⟩ hP hA hK hS rfl hl.1 rfl (Nat.le_of_ble_eq_true rfl) d_M_name_8 ⟨by decide, by decide⟩) hS (fun H locs hP hS => ?_)
  by_cases b2 : 0 ≤ fn ∧ fn ≤ ((nI nf) - 1)
  · skip
    refine W.eq (g2 := F0 m 11 ls [.int 1]) (by rw [if_pos b2]) ?_
    obtain ⟨f, hf, rfl⟩ := mIn_nat (by omega) b2.1 b2.2
    refine lv_if_eq (tgt := 28) F.1 F.2.1 d_M_name_11 (by decide) (fun c3 => absurd c3 (by decide)) (fun c3 => ?_)
    refine lv_iload_n F.1 F.2.1 d_M_name_14 rfl (lv_at hl 2 rfl) ?_
    refine lv_iconst (v := 0) F.1 F.2.1 d_M_name_15 (by decide) ?_
    refine lv_bipush (v := 9) F.1 F.2.1 d_M_name_16 (by decide) ?_
    refine pw_ciE (pr_S F (c_M_inn l D cs A h sg 0 9) X_M_72 rfl rfl ⟨by decide, by decide⟩ hP hA hK hS rfl hl.1 rfl (Nat.le_of_ble_eq_true rfl) d_M_name_18 ⟨by decide, by decide⟩) hS (fun H locs hP hS => ?_)
    by_cases b4 : 0 ≤ sg ∧ sg ≤ 9
    · skip
      refine W.eq (g2 := F0 m 21 ls [.int 1]) (by rw [if_pos b4]) ?_
      refine lv_if_eq (tgt := 28) F.1 F.2.1 d_M_name_21 (by decide) (fun c5 => absurd c5 (by decide)) (fun c5 => ?_)
      refine lv_iconst (v := 1) F.1 F.2.1 d_M_name_24 (by decide) ?_
      refine lv_goto (tgt := 29) F.1 F.2.1 d_M_name_25 (by decide) ?_
      refine lv_istore_n F.1 F.2.1 d_M_name_29 rfl hl (by decide) rfl (fun ls hl => ?_)
      replace hl : lv_has ls 4 [(3, .int 1), (0, .ref o), (1, .int (nI f)), (2, .int sg)] := hl
      refine lv_aload_n F.1 F.2.1 d_M_name_30 rfl (lv_at hl 1 rfl) ?_
      refine lv_iload_n F.1 F.2.1 d_M_name_31 rfl (lv_at hl 0 rfl) ?_
      refine lv_if_eq (tgt := 51) F.1 F.2.1 d_M_name_32 (by decide) (fun c6 => absurd c6 (by decide)) (fun c6 => ?_)
      refine lv_aload_n F.1 F.2.1 d_M_name_35 rfl (lv_at hl 1 rfl) ?_
      refine pw_get F I_M hK.1 hP f1 rfl 2 (by decide) L_M_7 (fun _ z => z) rfl d_M_name_36 ?_
      refine lv_bipush (v := 48) F.1 F.2.1 d_M_name_39 (by decide) ?_
      refine lv_iload_n F.1 F.2.1 d_M_name_41 rfl (lv_at hl 2 rfl) ?_
      refine lv_iadd F.1 F.2.1 d_M_name_42 ?_
      refine W.eq (g2 := F0 m 43 ls [.int (nI (48 + f)), .ref (ad 0), .ref o]) (by rw [show (48 : Int32) = nI 48 from rfl, nI_add]) ?_
      have f7 : h (ad 0) = some (.inl (cs 1, 56, .inl (S 0))) := hR.2.1 0 (by decide)
      refine pw_zaldN F hK.1 hP 1 f7 rfl (k := 48 + f) (by omega) (by decide) d_M_name_43 ?_
      refine lv_if_ne (tgt := 51) F.1 F.2.1 d_M_name_44 (by decide) (fun c8 => ?_) (fun c8 => ?_)
      · skip
        refine lv_iconst (v := 1) F.1 F.2.1 d_M_name_51 (by decide) ?_
        refine pw_put F I_M ty_M k_M n_M hK.1 hP hS f1 rfl 0 (by decide) L_M_63 (fun _ z => z) rfl rfl rfl (Nat.le_of_ble_eq_true rfl) d_M_name_52 (fun H locs hP hS => ?_)
        have hP : pw D vwCl A (pu h o (.inr (7, (mfs ad S).set (mpos 0) (.int 1)))) H := hP
        have hR := hR.num (show 0 < 6 by decide) 1
        obtain ⟨h9, e10⟩ : ∃ z9 : pw_H, z9 = pu h o (.inr (7, (mfs ad S).set (mpos 0) (.int 1))) := ⟨_, rfl⟩
        rw [← e10] at hP
        obtain ⟨S11, t12⟩ : ∃ z9 : St, z9 = sp S 16 0 1 := ⟨_, rfl⟩
        have hR : RM cs h9 o ad S11 := by rw [e10, t12]; exact hR
        refine lv_aload_n F.1 F.2.1 d_M_name_55 rfl (lv_at hl 1 rfl) ?_
        have f13 : h9 o = some (.inr (7, [.int (S11 16 0), .int (S11 16 1), .ref (ad 0), .ref (ad 1), .ref (ad 2), .ref (ad 3), .ref (ad 4), .int (S11 16 2), .int (S11 16 3), .int (S11 16 4), .int (S11 16 5), .ref (ad 5), .ref (ad 6), .ref (ad 7), .ref (ad 8), .ref (ad 9), .ref (ad 10), .ref (ad 11), .ref (ad 12), .ref (ad 13), .ref (ad 14), .ref (ad 15)])) := hR.1
        refine pw_get F I_M hK.1 hP f13 rfl 0 (by decide) L_M_63 (fun _ z => z) rfl d_M_name_56 ?_
        refine W.eq (g2 := F0 m 59 ls [.int 1]) (by rw [show S11 16 0 = 1 from by rw [t12]; exact sp_s]) ?_
        refine lv_if_le (tgt := 64) F.1 F.2.1 d_M_name_59 (by decide) (fun c14 => absurd c14 (by decide)) (fun c14 => ?_)
        refine lv_iconst (v := 0) F.1 F.2.1 d_M_name_62 (by decide) ?_
        exact pw_iret F hr hlk hP hA hK hS (by decide) (by decide) d_M_name_63 (by have hth : thName S (nI f) sg = 1 := (by unfold thName; rw [if_neg (fun z9 => c8 (by have h9 := z9.2.2; rw [tn_nI (by omega)] at h9; exact h9))]); unfold stName rName; rw [hth, if_neg (by decide), if_neg (by decide)]; rw [t12] at hR; exact ⟨hR, rfl⟩)
      · skip
        refine lv_iconst (v := 0) F.1 F.2.1 d_M_name_47 (by decide) ?_
        refine lv_goto (tgt := 52) F.1 F.2.1 d_M_name_48 (by decide) ?_
        refine pw_put F I_M ty_M k_M n_M hK.1 hP hS f1 rfl 0 (by decide) L_M_63 (fun _ z => z) rfl rfl rfl (Nat.le_of_ble_eq_true rfl) d_M_name_52 (fun H locs hP hS => ?_)
        have hP : pw D vwCl A (pu h o (.inr (7, (mfs ad S).set (mpos 0) (.int 0)))) H := hP
        have hR := hR.num (show 0 < 6 by decide) 0
        obtain ⟨h15, e16⟩ : ∃ z9 : pw_H, z9 = pu h o (.inr (7, (mfs ad S).set (mpos 0) (.int 0))) := ⟨_, rfl⟩
        rw [← e16] at hP
        obtain ⟨S17, t18⟩ : ∃ z9 : St, z9 = sp S 16 0 0 := ⟨_, rfl⟩
        have hR : RM cs h15 o ad S17 := by rw [e16, t18]; exact hR
        refine lv_aload_n F.1 F.2.1 d_M_name_55 rfl (lv_at hl 1 rfl) ?_
        have f19 : h15 o = some (.inr (7, [.int (S17 16 0), .int (S17 16 1), .ref (ad 0), .ref (ad 1), .ref (ad 2), .ref (ad 3), .ref (ad 4), .int (S17 16 2), .int (S17 16 3), .int (S17 16 4), .int (S17 16 5), .ref (ad 5), .ref (ad 6), .ref (ad 7), .ref (ad 8), .ref (ad 9), .ref (ad 10), .ref (ad 11), .ref (ad 12), .ref (ad 13), .ref (ad 14), .ref (ad 15)])) := hR.1
        refine pw_get F I_M hK.1 hP f19 rfl 0 (by decide) L_M_63 (fun _ z => z) rfl d_M_name_56 ?_
        refine W.eq (g2 := F0 m 59 ls [.int 0]) (by rw [show S17 16 0 = 0 from by rw [t18]; exact sp_s]) ?_
        refine lv_if_le (tgt := 64) F.1 F.2.1 d_M_name_59 (by decide) (fun c20 => ?_) (fun c20 => absurd (by decide) c20)
        refine lv_aload_n F.1 F.2.1 d_M_name_64 rfl (lv_at hl 1 rfl) ?_
        refine pw_get F I_M hK.1 hP f19 rfl 2 (by decide) L_M_7 (fun _ z => z) rfl d_M_name_65 ?_
        refine lv_bipush (v := 48) F.1 F.2.1 d_M_name_68 (by decide) ?_
        refine lv_iload_n F.1 F.2.1 d_M_name_70 rfl (lv_at hl 2 rfl) ?_
        refine lv_iadd F.1 F.2.1 d_M_name_71 ?_
        refine W.eq (g2 := F0 m 72 ls [.int (nI (48 + f)), .ref (ad 0)]) (by rw [show (48 : Int32) = nI 48 from rfl, nI_add]) ?_
        refine lv_iconst (v := 1) F.1 F.2.1 d_M_name_72 (by decide) ?_
        have f21 : h15 (ad 0) = some (.inl (cs 1, 56, .inl (S17 0))) := hR.2.1 0 (by decide)
        refine pw_zastN F hK.1 hP hS 1 f21 rfl (k := 48 + f) (by omega) (by decide) rfl d_M_name_73 (fun H locs hP hS => ?_)
        have hP : pw D vwCl A (pu h15 (ad 0) (.inl (cs 1, 56, .inl (upd (S17 0) (48 + f) 1)))) H := hP
        have hR := hR.arr (show 0 < 16 by decide) (48 + f) 1
        obtain ⟨h22, e23⟩ : ∃ z9 : pw_H, z9 = pu h15 (ad 0) (.inl (cs 1, 56, .inl (upd (S17 0) (48 + f) 1))) := ⟨_, rfl⟩
        rw [← e23] at hP
        obtain ⟨S24, t25⟩ : ∃ z9 : St, z9 = sp S17 0 (48 + f) 1 := ⟨_, rfl⟩
        have hR : RM cs h22 o ad S24 := by rw [e23, t25]; exact hR
        refine lv_aload_n F.1 F.2.1 d_M_name_74 rfl (lv_at hl 1 rfl) ?_
        have f26 : h22 o = some (.inr (7, [.int (S24 16 0), .int (S24 16 1), .ref (ad 0), .ref (ad 1), .ref (ad 2), .ref (ad 3), .ref (ad 4), .int (S24 16 2), .int (S24 16 3), .int (S24 16 4), .int (S24 16 5), .ref (ad 5), .ref (ad 6), .ref (ad 7), .ref (ad 8), .ref (ad 9), .ref (ad 10), .ref (ad 11), .ref (ad 12), .ref (ad 13), .ref (ad 14), .ref (ad 15)])) := hR.1
        refine pw_get F I_M hK.1 hP f26 rfl 3 (by decide) L_M_13 (fun _ z => z) rfl d_M_name_75 ?_
        refine lv_bipush (v := 48) F.1 F.2.1 d_M_name_78 (by decide) ?_
        refine lv_iload_n F.1 F.2.1 d_M_name_80 rfl (lv_at hl 2 rfl) ?_
        refine lv_iadd F.1 F.2.1 d_M_name_81 ?_
        refine W.eq (g2 := F0 m 82 ls [.int (nI (48 + f)), .ref (ad 1)]) (by rw [show (48 : Int32) = nI 48 from rfl, nI_add]) ?_
        refine lv_iload_n F.1 F.2.1 d_M_name_82 rfl (lv_at hl 3 rfl) ?_
        have f27 : h22 (ad 1) = some (.inl (cs 0, 56, .inl (S24 1))) := hR.2.1 1 (by decide)
        refine pw_iastN F hK.1 hP hS 0 f27 rfl (k := 48 + f) (by omega) (by decide) d_M_name_83 (fun H locs hP hS => ?_)
        have hP : pw D vwCl A (pu h22 (ad 1) (.inl (cs 0, 56, .inl (upd (S24 1) (48 + f) sg)))) H := hP
        have hR := hR.arr (show 1 < 16 by decide) (48 + f) sg
        obtain ⟨h28, e29⟩ : ∃ z9 : pw_H, z9 = pu h22 (ad 1) (.inl (cs 0, 56, .inl (upd (S24 1) (48 + f) sg))) := ⟨_, rfl⟩
        rw [← e29] at hP
        obtain ⟨S30, t31⟩ : ∃ z9 : St, z9 = sp S24 1 (48 + f) sg := ⟨_, rfl⟩
        have hR : RM cs h28 o ad S30 := by rw [e29, t31]; exact hR
        refine lv_aload_n F.1 F.2.1 d_M_name_84 rfl (lv_at hl 1 rfl) ?_
        have f32 : h28 o = some (.inr (7, [.int (S30 16 0), .int (S30 16 1), .ref (ad 0), .ref (ad 1), .ref (ad 2), .ref (ad 3), .ref (ad 4), .int (S30 16 2), .int (S30 16 3), .int (S30 16 4), .int (S30 16 5), .ref (ad 5), .ref (ad 6), .ref (ad 7), .ref (ad 8), .ref (ad 9), .ref (ad 10), .ref (ad 11), .ref (ad 12), .ref (ad 13), .ref (ad 14), .ref (ad 15)])) := hR.1
        refine pw_get F I_M hK.1 hP f32 rfl 4 (by decide) L_M_17 (fun _ z => z) rfl d_M_name_85 ?_
        refine lv_bipush (v := 48) F.1 F.2.1 d_M_name_88 (by decide) ?_
        refine lv_iload_n F.1 F.2.1 d_M_name_90 rfl (lv_at hl 2 rfl) ?_
        refine lv_iadd F.1 F.2.1 d_M_name_91 ?_
        refine W.eq (g2 := F0 m 92 ls [.int (nI (48 + f)), .ref (ad 2)]) (by rw [show (48 : Int32) = nI 48 from rfl, nI_add]) ?_
        refine lv_iconst (v := 0) F.1 F.2.1 d_M_name_92 (by decide) ?_
        have f33 : h28 (ad 2) = some (.inl (cs 0, 56, .inl (S30 2))) := hR.2.1 2 (by decide)
        refine pw_iastN F hK.1 hP hS 0 f33 rfl (k := 48 + f) (by omega) (by decide) d_M_name_93 (fun H locs hP hS => ?_)
        have hP : pw D vwCl A (pu h28 (ad 2) (.inl (cs 0, 56, .inl (upd (S30 2) (48 + f) 0)))) H := hP
        have hR := hR.arr (show 2 < 16 by decide) (48 + f) 0
        obtain ⟨h34, e35⟩ : ∃ z9 : pw_H, z9 = pu h28 (ad 2) (.inl (cs 0, 56, .inl (upd (S30 2) (48 + f) 0))) := ⟨_, rfl⟩
        rw [← e35] at hP
        obtain ⟨S36, t37⟩ : ∃ z9 : St, z9 = sp S30 2 (48 + f) 0 := ⟨_, rfl⟩
        have hR : RM cs h34 o ad S36 := by rw [e35, t37]; exact hR
        refine lv_aload_n F.1 F.2.1 d_M_name_94 rfl (lv_at hl 1 rfl) ?_
        refine lv_dup F.1 F.2.1 d_M_name_95 rfl ?_
        have f38 : h34 o = some (.inr (7, [.int (S36 16 0), .int (S36 16 1), .ref (ad 0), .ref (ad 1), .ref (ad 2), .ref (ad 3), .ref (ad 4), .int (S36 16 2), .int (S36 16 3), .int (S36 16 4), .int (S36 16 5), .ref (ad 5), .ref (ad 6), .ref (ad 7), .ref (ad 8), .ref (ad 9), .ref (ad 10), .ref (ad 11), .ref (ad 12), .ref (ad 13), .ref (ad 14), .ref (ad 15)])) := hR.1
        refine pw_get F I_M hK.1 hP f38 rfl 7 (by decide) L_M_83 (fun _ z => z) rfl d_M_name_96 ?_
        refine W.eq (g2 := F0 m 99 ls [.int (S 16 2), .ref o]) (by rw [show S36 16 2 = S30 16 2 from by rw [t37]; exact sp_k (by decide), show S30 16 2 = S24 16 2 from by rw [t31]; exact sp_k (by decide), show S24 16 2 = S17 16 2 from by rw [t25]; exact sp_k (by decide), show S17 16 2 = S 16 2 from by rw [t18]; exact sp_j (by decide)]) ?_
        refine lv_iconst (v := 1) F.1 F.2.1 d_M_name_99 (by decide) ?_
        refine lv_iadd F.1 F.2.1 d_M_name_100 ?_
        refine pw_put F I_M ty_M k_M n_M hK.1 hP hS f38 rfl 7 (by decide) L_M_83 (fun _ z => z) rfl rfl rfl (Nat.le_of_ble_eq_true rfl) d_M_name_101 (fun H locs hP hS => ?_)
        have hP : pw D vwCl A (pu h34 o (.inr (7, (mfs ad S36).set (mpos 2) (.int ((S 16 2) + 1))))) H := hP
        have hR := hR.num (show 2 < 6 by decide) ((S 16 2) + 1)
        obtain ⟨h39, e40⟩ : ∃ z9 : pw_H, z9 = pu h34 o (.inr (7, (mfs ad S36).set (mpos 2) (.int ((S 16 2) + 1)))) := ⟨_, rfl⟩
        rw [← e40] at hP
        obtain ⟨S41, t42⟩ : ∃ z9 : St, z9 = sp S36 16 2 ((S 16 2) + 1) := ⟨_, rfl⟩
        have hR : RM cs h39 o ad S41 := by rw [e40, t42]; exact hR
        refine lv_aload_n F.1 F.2.1 d_M_name_104 rfl (lv_at hl 1 rfl) ?_
        have f43 : h39 o = some (.inr (7, [.int (S41 16 0), .int (S41 16 1), .ref (ad 0), .ref (ad 1), .ref (ad 2), .ref (ad 3), .ref (ad 4), .int (S41 16 2), .int (S41 16 3), .int (S41 16 4), .int (S41 16 5), .ref (ad 5), .ref (ad 6), .ref (ad 7), .ref (ad 8), .ref (ad 9), .ref (ad 10), .ref (ad 11), .ref (ad 12), .ref (ad 13), .ref (ad 14), .ref (ad 15)])) := hR.1
        refine pw_get F I_M hK.1 hP f43 rfl 7 (by decide) L_M_83 (fun _ z => z) rfl d_M_name_105 ?_
        refine W.eq (g2 := F0 m 108 ls [.int ((S 16 2) + 1)]) (by rw [show S41 16 2 = (S 16 2) + 1 from by rw [t42]; exact sp_s]) ?_
        exact pw_iret F hr hlk hP hA hK hS (by decide) (by decide) d_M_name_108 (by have hth : thName S (nI f) sg = 0 := (by unfold thName; rw [if_pos ⟨hnf ▸ b2, b4, by rw [tn_nI (by omega)]; exact c8⟩]); unfold stName rName; rw [if_pos hth, if_pos hth, tn_nI (by omega)]; rw [t42, t37, t31, t25, t18] at hR; exact ⟨hR, rfl⟩)
    · skip
      refine W.eq (g2 := F0 m 21 ls [.int 0]) (by rw [if_neg b4]) ?_
      refine lv_if_eq (tgt := 28) F.1 F.2.1 d_M_name_21 (by decide) (fun c44 => ?_) (fun c44 => absurd (by decide) c44)
      refine lv_iconst (v := 0) F.1 F.2.1 d_M_name_28 (by decide) ?_
      refine lv_istore_n F.1 F.2.1 d_M_name_29 rfl hl (by decide) rfl (fun ls hl => ?_)
      replace hl : lv_has ls 4 [(3, .int 0), (0, .ref o), (1, .int (nI f)), (2, .int sg)] := hl
      refine lv_aload_n F.1 F.2.1 d_M_name_30 rfl (lv_at hl 1 rfl) ?_
      refine lv_iload_n F.1 F.2.1 d_M_name_31 rfl (lv_at hl 0 rfl) ?_
      refine lv_if_eq (tgt := 51) F.1 F.2.1 d_M_name_32 (by decide) (fun c45 => ?_) (fun c45 => absurd (by decide) c45)
      refine lv_iconst (v := 1) F.1 F.2.1 d_M_name_51 (by decide) ?_
      refine pw_put F I_M ty_M k_M n_M hK.1 hP hS f1 rfl 0 (by decide) L_M_63 (fun _ z => z) rfl rfl rfl (Nat.le_of_ble_eq_true rfl) d_M_name_52 (fun H locs hP hS => ?_)
      have hP : pw D vwCl A (pu h o (.inr (7, (mfs ad S).set (mpos 0) (.int 1)))) H := hP
      have hR := hR.num (show 0 < 6 by decide) 1
      obtain ⟨h46, e47⟩ : ∃ z9 : pw_H, z9 = pu h o (.inr (7, (mfs ad S).set (mpos 0) (.int 1))) := ⟨_, rfl⟩
      rw [← e47] at hP
      obtain ⟨S48, t49⟩ : ∃ z9 : St, z9 = sp S 16 0 1 := ⟨_, rfl⟩
      have hR : RM cs h46 o ad S48 := by rw [e47, t49]; exact hR
      refine lv_aload_n F.1 F.2.1 d_M_name_55 rfl (lv_at hl 1 rfl) ?_
      have f50 : h46 o = some (.inr (7, [.int (S48 16 0), .int (S48 16 1), .ref (ad 0), .ref (ad 1), .ref (ad 2), .ref (ad 3), .ref (ad 4), .int (S48 16 2), .int (S48 16 3), .int (S48 16 4), .int (S48 16 5), .ref (ad 5), .ref (ad 6), .ref (ad 7), .ref (ad 8), .ref (ad 9), .ref (ad 10), .ref (ad 11), .ref (ad 12), .ref (ad 13), .ref (ad 14), .ref (ad 15)])) := hR.1
      refine pw_get F I_M hK.1 hP f50 rfl 0 (by decide) L_M_63 (fun _ z => z) rfl d_M_name_56 ?_
      refine W.eq (g2 := F0 m 59 ls [.int 1]) (by rw [show S48 16 0 = 1 from by rw [t49]; exact sp_s]) ?_
      refine lv_if_le (tgt := 64) F.1 F.2.1 d_M_name_59 (by decide) (fun c51 => absurd c51 (by decide)) (fun c51 => ?_)
      refine lv_iconst (v := 0) F.1 F.2.1 d_M_name_62 (by decide) ?_
      exact pw_iret F hr hlk hP hA hK hS (by decide) (by decide) d_M_name_63 (by have hth : thName S (nI f) sg = 1 := (by unfold thName; rw [if_neg (fun z9 => b4 z9.2.1)]); unfold stName rName; rw [hth, if_neg (by decide), if_neg (by decide)]; rw [t49] at hR; exact ⟨hR, rfl⟩)
  · skip
    refine W.eq (g2 := F0 m 11 ls [.int 0]) (by rw [if_neg b2]) ?_
    refine lv_if_eq (tgt := 28) F.1 F.2.1 d_M_name_11 (by decide) (fun c52 => ?_) (fun c52 => absurd (by decide) c52)
    refine lv_iconst (v := 0) F.1 F.2.1 d_M_name_28 (by decide) ?_
    refine lv_istore_n F.1 F.2.1 d_M_name_29 rfl hl (by decide) rfl (fun ls hl => ?_)
    replace hl : lv_has ls 4 [(3, .int 0), (0, .ref o), (1, .int fn), (2, .int sg)] := hl
    refine lv_aload_n F.1 F.2.1 d_M_name_30 rfl (lv_at hl 1 rfl) ?_
    refine lv_iload_n F.1 F.2.1 d_M_name_31 rfl (lv_at hl 0 rfl) ?_
    refine lv_if_eq (tgt := 51) F.1 F.2.1 d_M_name_32 (by decide) (fun c53 => ?_) (fun c53 => absurd (by decide) c53)
    refine lv_iconst (v := 1) F.1 F.2.1 d_M_name_51 (by decide) ?_
    refine pw_put F I_M ty_M k_M n_M hK.1 hP hS f1 rfl 0 (by decide) L_M_63 (fun _ z => z) rfl rfl rfl (Nat.le_of_ble_eq_true rfl) d_M_name_52 (fun H locs hP hS => ?_)
    have hP : pw D vwCl A (pu h o (.inr (7, (mfs ad S).set (mpos 0) (.int 1)))) H := hP
    have hR := hR.num (show 0 < 6 by decide) 1
    obtain ⟨h54, e55⟩ : ∃ z9 : pw_H, z9 = pu h o (.inr (7, (mfs ad S).set (mpos 0) (.int 1))) := ⟨_, rfl⟩
    rw [← e55] at hP
    obtain ⟨S56, t57⟩ : ∃ z9 : St, z9 = sp S 16 0 1 := ⟨_, rfl⟩
    have hR : RM cs h54 o ad S56 := by rw [e55, t57]; exact hR
    refine lv_aload_n F.1 F.2.1 d_M_name_55 rfl (lv_at hl 1 rfl) ?_
    have f58 : h54 o = some (.inr (7, [.int (S56 16 0), .int (S56 16 1), .ref (ad 0), .ref (ad 1), .ref (ad 2), .ref (ad 3), .ref (ad 4), .int (S56 16 2), .int (S56 16 3), .int (S56 16 4), .int (S56 16 5), .ref (ad 5), .ref (ad 6), .ref (ad 7), .ref (ad 8), .ref (ad 9), .ref (ad 10), .ref (ad 11), .ref (ad 12), .ref (ad 13), .ref (ad 14), .ref (ad 15)])) := hR.1
    refine pw_get F I_M hK.1 hP f58 rfl 0 (by decide) L_M_63 (fun _ z => z) rfl d_M_name_56 ?_
    refine W.eq (g2 := F0 m 59 ls [.int 1]) (by rw [show S56 16 0 = 1 from by rw [t57]; exact sp_s]) ?_
    refine lv_if_le (tgt := 64) F.1 F.2.1 d_M_name_59 (by decide) (fun c59 => absurd c59 (by decide)) (fun c59 => ?_)
    refine lv_iconst (v := 0) F.1 F.2.1 d_M_name_62 (by decide) ?_
    exact pw_iret F hr hlk hP hA hK hS (by decide) (by decide) d_M_name_63 (by have hth : thName S fn sg = 1 := (by unfold thName; rw [if_neg (fun z9 => b2 (hnf ▸ ⟨z9.1.1, z9.1.2⟩))]); unfold stName rName; rw [hth, if_neg (by decide), if_neg (by decide)]; rw [t57] at hR; exact ⟨hR, rfl⟩)
