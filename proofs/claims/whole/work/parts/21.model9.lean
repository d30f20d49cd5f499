theorem mDo_o {S : St} {t i j : Nat} {k n : Int32} : mDo S t i k n 16 j = S 16 j := by
  unfold mDo
  repeat' split
  all_goals first | rfl | exact mEnter_o | exact sp_k (by decide) | exact (sp_k (by decide)).trans (sp_k (by decide))
theorem mOnce_o {S : St} {t j : Nat} : mOnce S t 16 j = S 16 j := by
  unfold mOnce
  repeat' split
  · exact mEnter_o.trans ((sp_k (by decide)).trans (sp_k (by decide)))
  · exact (sp_k (by decide)).trans (sp_k (by decide))
  · exact mDo_o.trans ((sp_k (by decide)).trans (sp_k (by decide)))
theorem mSettle_o {S : St} {j : Nat} (h3 : j ≠ 3) (h4 : j ≠ 4) : mSettle S 16 j = S 16 j := by
  unfold mSettle
  split
  · exact (sp_j h4).trans (sp_j h3)
  · rfl
theorem mSettle_k {S : St} {k j : Nat} (h : k ≠ 16) : mSettle S k j = S k j := by
  unfold mSettle
  split
  · exact (sp_k h).trans (sp_k h)
  · rfl
theorem mRun_t {t n k : Nat} {S : St} {w : Int32} (hg : mGoes S t) : mRun t (n + 1) k S w = mRun t n (k + 1) (mOnce (mSettle (sp S 6 t (S 16 4))) t) (nI k) := by
  simp only [mRun]
  rw [if_pos hg]
theorem mRun_f {t n k : Nat} {S : St} {w : Int32} (hg : ¬ mGoes S t) : mRun t (n + 1) k S w = mRun t n (k + 1) (mOnce S t) w := by
  simp only [mRun]
  rw [if_neg hg]
/-- what a step wants of its task -/
theorem WF.at {S : St} {nf p nt t : Nat} {X : Nat → Prop} (hw : WF S nf p nt X) (ht : t < nt) : ∃ d r a z L mf, t < 4 ∧ d < 6 ∧ S 11 t = nI (d + 1) ∧ r < 48 ∧ S 12 (6 * t + d) = nI r ∧ z ≤ 12 ∧ S 2 r = nI z ∧ a ≤ z ∧ S 14 (6 * t + d) = nI a ∧ L ≤ 5 ∧ S 6 t = nI L ∧ mf < nf ∧ S 5 t = nI mf ∧ S 0 r = 1 ∧ (∀ b, b < z → okOp S nf r b) ∧ ∀ k, k ≤ d → ∃ rk, rk < 48 ∧ S 12 (6 * t + k) = nI rk := by
  obtain ⟨d, L, mf, a1, a2, a3, a4, a5, a6, a7, a8⟩ := hw.2.1 t ht
  obtain ⟨r, a, z, b1, b2, b3, b4, b5, b6, b7, b8⟩ := a7 d (by omega)
  have hp := hw.1.2.1
  have h4 := hw.1.2.2.1
  exact ⟨d, r, a, z, L, mf, by omega, by omega, a2, b1, b2, b4, b5, b7, b6, by omega, a4, a5, a6, b3, (hw.1.2.2.2.2.2.2.2.2.2 r (by omega) b3).2.z b5 b4, fun k hk => (a7 k (by omega)).elim (fun rk h9 => h9.elim (fun _ h8 => h8.elim (fun _ h7 => ⟨rk, h7.1, h7.2.1⟩)))⟩
theorem c_M_goesW (l : Launch) (D : va_G) (cs : Nat → Nat) (A : Nat → Prop) (h : pw_H) (o : Nat) (ad : Nat → Nat) (S : St) (hR : RM cs h o ad S) (nf pT nt : Nat) (X : Nat → Prop) (hw : WF S nf pT nt X) (t : Nat) (htn : t < nt) : pm l y_M_goes b_M_goes 5 (some .boolean) rm_M_goes [.ref o, .int (nI t)] D cs A h (va_Qi (fun (r : Int32) (h' : pw_H) => h' = h ∧ (mGoes S t → r = 1) ∧ (¬ mGoes S t → r = 0)) (ww D cs A) A) 0 0 := by
  obtain ⟨d, r, a, z, L, mf, ht, h6, hd, hr48, hrw, hz12, hz, haz, ha, hL5, hL, hmf, hm, hh1, hop, rows⟩ := hw.at htn
  exact c_M_goes l D cs A h o ad S hR t d r a z pT ht h6 hd hr48 hrw hz12 hz haz ha hw.1.2.1 hw.1.2.2.2.2.1 rows
theorem c_M_onceW (l : Launch) (D : va_G) (cs : Nat → Nat) (A : Nat → Prop) (h : pw_H) (o : Nat) (ad : Nat → Nat) (S : St) (hR : RM cs h o ad S) (nf pT nt : Nat) (X : Nat → Prop) (hw : WF S nf pT nt X) (t : Nat) (htn : t < nt) : pm l y_M_stepOnce b_M_stepOnce 5 none rm_M_stepOnce [.ref o, .int (nI t)] D cs A h (va_Qv (fun (h' : pw_H) => RM cs h' o ad (mOnce S t)) (ww D cs A) A) 0 0 := by
  obtain ⟨d, r, a, z, L, mf, ht, h6, hd, hr48, hrw, hz12, hz, haz, ha, hL5, hL, hmf, hm, hh1, hop, rows⟩ := hw.at htn
  have hn8 := hw.1.1
  exact c_M_stepOnce l D cs A h o ad S hR t d r a z L mf ht h6 hd hr48 hrw hz12 hz haz ha hL5 hL (by omega) hm (fun hh => (hop a hh).1) (fun hh h9 => ((hop a hh).2.1 h9).elim (fun j h8 => ⟨j, by omega, h8.2⟩))
abbrev rm_M_step : Room := { frames := 3, cells := 0, slots := 0, locals := 71 }
set_option maxHeartbeats 4000000 in
set_option maxRecDepth 100000 in
theorem c_M_step (l : Launch) (D : va_G) (cs : Nat → Nat) (A : Nat → Prop) (h : pw_H) (o : Nat) (ad : Nat → Nat) (S : St) (hR : RM cs h o ad S) (nf pT nt : Nat) (hw : WF S nf pT nt noX) (tk mn : Int32) : pm l y_M_step b_M_step 5 (some .int) rm_M_step [.ref o, .int tk, .int mn] D cs A h (va_Qi (fun (r : Int32) (h' : pw_H) => RM cs h' o ad (stStep S tk mn) ∧ r = rStep S tk mn) (ww D cs A) A) 0 0 := by
  refine pm_of R_M rfl (by decide) (Nat.le_of_ble_eq_true rfl) (fun p e s m below meth c ls F hr hlk hnm hP hA hK hl => ?_)
  have hS : va_S A s.heap s.heap [] := va_S.rf
  replace hl : lv_has ls 5 [(0, .ref o), (1, .int tk), (2, .int mn)] := hl
  have hT := hw.1.2.2.2.2.2.1
  refine lv_aload_n F.1 F.2.1 d_M_step_0 rfl (lv_at hl 0 rfl) ?_
  refine lv_iload_n F.1 F.2.1 d_M_step_1 rfl (lv_at hl 1 rfl) ?_
  refine lv_iconst (v := 0) F.1 F.2.1 d_M_step_2 (by decide) ?_
  refine lv_aload_n F.1 F.2.1 d_M_step_3 rfl (lv_at hl 0 rfl) ?_
  have f1 : h o = some (.inr (7, [.int (S 16 0), .int (S 16 1), .ref (ad 0), .ref (ad 1), .ref (ad 2), .ref (ad 3), .ref (ad 4), .int (S 16 2), .int (S 16 3), .int (S 16 4), .int (S 16 5), .ref (ad 5), .ref (ad 6), .ref (ad 7), .ref (ad 8), .ref (ad 9), .ref (ad 10), .ref (ad 11), .ref (ad 12), .ref (ad 13), .ref (ad 14), .ref (ad 15)])) := hR.1
  refine pw_get F I_M hK.1 hP f1 rfl 10 (by decide) L_M_66 (fun _ z => z) rfl d_M_step_4 ?_
  refine W.eq (g2 := F0 m 7 ls [.int (nI nt), .int 0, .int tk, .ref o]) (by rw [hT]) ?_
  refine lv_iconst (v := 1) F.1 F.2.1 d_M_step_7 (by decide) ?_
  refine lv_isub F.1 F.2.1 d_M_step_8 ?_
  refine pw_ciE (pr_S F (c_M_inn l D cs A h tk 0 ((nI nt) - 1)) X_M_72 rfl rfl ⟨by decide, by decide⟩ hP hA hK hS rfl hl.1 rfl (Nat.le_of_ble_eq_true rfl) d_M_step_9 ⟨by decide, by decide⟩) hS (fun H locs hP hS => ?_)
  by_cases b2 : 0 ≤ tk ∧ tk ≤ ((nI nt) - 1)
  · skip
    refine W.eq (g2 := F0 m 12 ls [.int 1, .ref o]) (by rw [if_pos b2]) ?_
    refine lv_if_eq (tgt := 29) F.1 F.2.1 d_M_step_12 (by decide) (fun c3 => absurd c3 (by decide)) (fun c3 => ?_)
    refine lv_iload_n F.1 F.2.1 d_M_step_15 rfl (lv_at hl 2 rfl) ?_
    refine lv_iconst (v := 1) F.1 F.2.1 d_M_step_16 (by decide) ?_
    refine lv_bipush (v := 100) F.1 F.2.1 d_M_step_17 (by decide) ?_
    refine pw_ciE (pr_S F (c_M_inn l D cs A h mn 1 100) X_M_72 rfl rfl ⟨by decide, by decide⟩ hP hA hK hS rfl hl.1 rfl (Nat.le_of_ble_eq_true rfl) d_M_step_19 ⟨by decide, by decide⟩) hS (fun H locs hP hS => ?_)
    by_cases b4 : 1 ≤ mn ∧ mn ≤ 100
    · skip
      refine W.eq (g2 := F0 m 22 ls [.int 1, .ref o]) (by rw [if_pos b4]) ?_
      refine lv_if_eq (tgt := 29) F.1 F.2.1 d_M_step_22 (by decide) (fun c5 => absurd c5 (by decide)) (fun c5 => ?_)
      obtain ⟨f, hltf, rfl⟩ := mIn_nat (by have := hw.1.2.2.1; omega) b2.1 b2.2
      obtain ⟨M, hM, rfl⟩ := mIn_nat (n := 101) (by decide) (Int32.le_trans (show (0 : Int32) ≤ 1 by decide) b4.1) b4.2
      have hM1 : 1 ≤ M := Nat.pos_of_ne_zero (fun z9 => by subst z9; exact absurd b4.1 (by decide))
      refine lv_iconst (v := 0) F.1 F.2.1 d_M_step_25 (by decide) ?_
      refine lv_goto (tgt := 30) F.1 F.2.1 d_M_step_26 (by decide) ?_
      refine pw_put F I_M ty_M k_M n_M hK.1 hP hS f1 rfl 0 (by decide) L_M_63 (fun _ z => z) rfl rfl rfl (Nat.le_of_ble_eq_true rfl) d_M_step_30 (fun H locs hP hS => ?_)
      replace hP : pw D vwCl A (pu h o (.inr (7, (mfs ad S).set (mpos 0) (.int 0)))) H := hP
      replace hR := hR.num (show 0 < 6 by decide) 0
      obtain ⟨h6, e7⟩ : ∃ z9 : pw_H, z9 = pu h o (.inr (7, (mfs ad S).set (mpos 0) (.int 0))) := ⟨_, rfl⟩
      rw [← e7] at hP
      obtain ⟨S8, t9⟩ : ∃ z9 : St, z9 = sp S 16 0 0 := ⟨_, rfl⟩
      replace hR : RM cs h6 o ad S8 := by rw [e7, t9]; exact hR
      refine lv_iconst (v := 0) F.1 F.2.1 d_M_step_33 (by decide) ?_
      refine lv_istore_n F.1 F.2.1 d_M_step_34 rfl hl (by decide) rfl (fun ls hl => ?_)
      replace hl : lv_has ls 5 [(3, .int 0), (0, .ref o), (1, .int (nI f)), (2, .int (nI M))] := hl
      refine lv_iconst (v := 1) F.1 F.2.1 d_M_step_35 (by decide) ?_
      refine lv_istore F.1 F.2.1 d_M_step_36 hl (by decide) rfl (fun ls hl => ?_)
      replace hl : lv_has ls 5 [(4, .int 1), (3, .int 0), (0, .ref o), (1, .int (nI f)), (2, .int (nI M))] := hl
      obtain ⟨k, hk0⟩ : ∃ k : Nat, k = 1 := ⟨1, rfl⟩
      obtain ⟨u, hu0⟩ : ∃ u : Int32, u = 0 := ⟨0, rfl⟩
      have hle : 1 ≤ k ∧ k ≤ M + 1 := by omega
      obtain ⟨n, hn⟩ : ∃ n : Nat, M + 1 - k = n := ⟨_, rfl⟩
      replace hl : lv_has ls 5 [(4, .int (nI k)), (3, .int u), (0, .ref o), (1, .int (nI f)), (2, .int (nI M))] := by rw [hk0, hu0]; exact hl
      obtain ⟨X, hX⟩ : ∃ z9 : St, z9 = S8 := ⟨_, rfl⟩
      replace hR : RM cs h6 o ad X := by rw [hX]; exact hR
      have hrun : mRun f n k X u = mRun f M 1 S8 0 := by rw [hX, hk0, hu0, show n = M by omega]
      have hX0 : X 16 0 = 0 := by rw [hX, t9]; exact sp_s
      obtain ⟨q, hwX⟩ : ∃ q, WF X nf q nt noX := ⟨pT, by rw [hX, t9]; exact hw.num (Or.inl rfl) 0⟩
      clear hX hk0 hu0
      obtain ⟨hh, hhe⟩ : ∃ z9 : pw_H, z9 = h6 := ⟨_, rfl⟩
      rw [← hhe] at hP
      rw [← hhe] at hR
      clear hhe
      induction n generalizing ls k u X q hh H locs with
      | zero =>
        refine lv_iload F.1 F.2.1 d_M_step_38 (lv_at hl 0 rfl) ?_
        refine lv_iload_n F.1 F.2.1 d_M_step_40 rfl (lv_at hl 4 rfl) ?_
        refine lv_icmp_gt (tgt := 87) F.1 F.2.1 d_M_step_41 (by decide) (fun c10 => ?_) (fun c10 => absurd (nI_lt (show M < k by omega) (by omega)) c10)
        refine lv_iload_n F.1 F.2.1 d_M_step_87 rfl (lv_at hl 1 rfl) ?_
        exact pw_iret F hr hlk hP hA hK hS (by decide) (by decide) d_M_step_88 (by have hth : thStep S (nI f) (nI M) = 0 := (by unfold thStep; rw [if_pos ⟨hT ▸ b2, b4⟩]); unfold stStep rStep; rw [if_pos hth, if_pos hth, tn_nI (by have := hw.1.2.2.1; omega), tn_nI (by omega), ← t9, ← hrun]; exact ⟨hR, rfl⟩)
      | succ n ih =>
        refine lv_iload F.1 F.2.1 d_M_step_38 (lv_at hl 0 rfl) ?_
        refine lv_iload_n F.1 F.2.1 d_M_step_40 rfl (lv_at hl 4 rfl) ?_
        refine lv_icmp_gt (tgt := 87) F.1 F.2.1 d_M_step_41 (by decide) (fun c11 => absurd c11 (nI_nlt (show k ≤ M by omega) (by omega))) (fun c11 => ?_)
        refine lv_aload_n F.1 F.2.1 d_M_step_44 rfl (lv_at hl 2 rfl) ?_
        have f12 : hh o = some (.inr (7, [.int (X 16 0), .int (X 16 1), .ref (ad 0), .ref (ad 1), .ref (ad 2), .ref (ad 3), .ref (ad 4), .int (X 16 2), .int (X 16 3), .int (X 16 4), .int (X 16 5), .ref (ad 5), .ref (ad 6), .ref (ad 7), .ref (ad 8), .ref (ad 9), .ref (ad 10), .ref (ad 11), .ref (ad 12), .ref (ad 13), .ref (ad 14), .ref (ad 15)])) := hR.1
        refine pw_get F I_M hK.1 hP f12 rfl 0 (by decide) L_M_63 (fun _ z => z) rfl d_M_step_45 ?_
        refine W.eq (g2 := F0 m 48 ls [.int 0]) (by rw [hX0]) ?_
        refine lv_if_ne (tgt := 87) F.1 F.2.1 d_M_step_48 (by decide) (fun c13 => absurd (by decide) c13) (fun c13 => ?_)
        refine lv_aload_n F.1 F.2.1 d_M_step_51 rfl (lv_at hl 2 rfl) ?_
        refine lv_iload_n F.1 F.2.1 d_M_step_52 rfl (lv_at hl 3 rfl) ?_
        refine pw_ci (pr_V F (c_M_goesW l D cs A hh o ad X hR nf q nt _ hwX f hltf) X_M_100 rfl rfl ⟨by decide, by decide⟩ hP hA hK hS f12 rfl rfl rfl hl.1 rfl (Nat.le_of_ble_eq_true rfl) d_M_step_53 ⟨by decide, by decide⟩) hS (fun r9 hn9 H locs hq hP hS => ?_)
        obtain ⟨he9, hq1, hq2⟩ := hq
        rw [he9] at hP
        clear he9
        by_cases b14 : mGoes X f
        · skip
          refine W.eq (g2 := F0 m 56 ls [.int 1]) (by rw [hq1 b14]) ?_
          refine lv_if_eq (tgt := 76) F.1 F.2.1 d_M_step_56 (by decide) (fun c15 => absurd c15 (by decide)) (fun c15 => ?_)
          refine lv_aload_n F.1 F.2.1 d_M_step_59 rfl (lv_at hl 2 rfl) ?_
          refine pw_get F I_M hK.1 hP f12 rfl 12 (by decide) L_M_33 (fun _ z => z) rfl d_M_step_60 ?_
          refine lv_iload_n F.1 F.2.1 d_M_step_63 rfl (lv_at hl 3 rfl) ?_
          refine lv_aload_n F.1 F.2.1 d_M_step_64 rfl (lv_at hl 2 rfl) ?_
          refine pw_get F I_M hK.1 hP f12 rfl 9 (by decide) L_M_26 (fun _ z => z) rfl d_M_step_65 ?_
          have f16 : hh (ad 6) = some (.inl (cs 0, 4, .inl (X 6))) := hR.2.1 6 (by decide)
          refine pw_iastN F hK.1 hP hS 0 f16 rfl (k := f) (by have := hw.1.2.2.1; omega) (by decide) d_M_step_68 (fun H locs hP hS => ?_)
          replace hP : pw D vwCl A (pu hh (ad 6) (.inl (cs 0, 4, .inl (upd (X 6) f (X 16 4))))) H := hP
          replace hR := hR.arr (show 6 < 16 by decide) f (X 16 4)
          obtain ⟨h17, e18⟩ : ∃ z9 : pw_H, z9 = pu hh (ad 6) (.inl (cs 0, 4, .inl (upd (X 6) f (X 16 4)))) := ⟨_, rfl⟩
          rw [← e18] at hP
          obtain ⟨S19, t20⟩ : ∃ z9 : St, z9 = sp X 6 f (X 16 4) := ⟨_, rfl⟩
          replace hR : RM cs h17 o ad S19 := by rw [e18, t20]; exact hR
          refine lv_aload_n F.1 F.2.1 d_M_step_69 rfl (lv_at hl 2 rfl) ?_
          have f21 : h17 o = some (.inr (7, [.int (S19 16 0), .int (S19 16 1), .ref (ad 0), .ref (ad 1), .ref (ad 2), .ref (ad 3), .ref (ad 4), .int (S19 16 2), .int (S19 16 3), .int (S19 16 4), .int (S19 16 5), .ref (ad 5), .ref (ad 6), .ref (ad 7), .ref (ad 8), .ref (ad 9), .ref (ad 10), .ref (ad 11), .ref (ad 12), .ref (ad 13), .ref (ad 14), .ref (ad 15)])) := hR.1
          refine pw_cv (pr_V F (c_M_settle l D cs A h17 o ad S19 hR nt hw.1.2.2.1 (by rw [t20, sp_k (by decide)]; exact hwX.1.2.2.2.2.2.1)) X_M_90 rfl rfl ⟨by decide, by decide⟩ hP hA hK hS f21 rfl rfl rfl hl.1 rfl (Nat.le_of_ble_eq_true rfl) d_M_step_70 ⟨by decide, by decide⟩) hS (fun h22 H locs hq hP hS => ?_)
          obtain ⟨S23, t24⟩ : ∃ z9 : St, z9 = mSettle S19 := ⟨_, rfl⟩
          have hR : RM cs h22 o ad S23 := by rw [t24]; exact hq
          refine lv_iload F.1 F.2.1 d_M_step_73 (lv_at hl 0 rfl) ?_
          refine lv_istore_n F.1 F.2.1 d_M_step_75 rfl hl (by decide) rfl (fun ls hl => ?_)
          replace hl : lv_has ls 5 [(3, .int (nI k)), (4, .int (nI k)), (0, .ref o), (1, .int (nI f)), (2, .int (nI M))] := hl
          refine lv_aload_n F.1 F.2.1 d_M_step_76 rfl (lv_at hl 2 rfl) ?_
          refine lv_iload_n F.1 F.2.1 d_M_step_77 rfl (lv_at hl 3 rfl) ?_
          obtain ⟨q8, hw8⟩ : ∃ q8, WF S23 nf q8 nt (fun z9 => z9 = f) := (by rw [t24, t20]; exact mGoes_ok hwX hltf b14)
          have f25 : h22 o = some (.inr (7, [.int (S23 16 0), .int (S23 16 1), .ref (ad 0), .ref (ad 1), .ref (ad 2), .ref (ad 3), .ref (ad 4), .int (S23 16 2), .int (S23 16 3), .int (S23 16 4), .int (S23 16 5), .ref (ad 5), .ref (ad 6), .ref (ad 7), .ref (ad 8), .ref (ad 9), .ref (ad 10), .ref (ad 11), .ref (ad 12), .ref (ad 13), .ref (ad 14), .ref (ad 15)])) := hR.1
          refine pw_cv (pr_V F (c_M_onceW l D cs A h22 o ad S23 hR nf q8 nt _ hw8 f hltf) X_M_104 rfl rfl ⟨by decide, by decide⟩ hP hA hK hS f25 rfl rfl rfl hl.1 rfl (Nat.le_of_ble_eq_true rfl) d_M_step_78 ⟨by decide, by decide⟩) hS (fun h26 H locs hq hP hS => ?_)
          obtain ⟨S27, t28⟩ : ∃ z9 : St, z9 = mOnce S23 f := ⟨_, rfl⟩
          have hR : RM cs h26 o ad S27 := by rw [t28]; exact hq
          refine lv_iinc (k := 1) (v := nI (k + 1)) F.1 F.2.1 d_M_step_81 hl rfl (by rw [show Int32.ofInt 1 = nI 1 from rfl, nI_add]) (by decide) rfl (fun ls hl => ?_)
          replace hl : lv_has ls 5 [(4, .int (nI (k + 1))), (3, .int (nI k)), (0, .ref o), (1, .int (nI f)), (2, .int (nI M))] := hl
          refine lv_goto (tgt := 38) F.1 F.2.1 d_M_step_84 (by decide) ?_
          have hr9 : mRun f n (k + 1) S27 (nI k) = mRun f M 1 S8 0 := by rw [← hrun, mRun_t b14, t28, t24, t20]
          have h09 : S27 16 0 = 0 := by rw [t28]; exact mOnce_o.trans (by rw [t24, t20, mSettle_o (by decide) (by decide), sp_k (by decide)]; exact hX0)
          obtain ⟨q9, hw9⟩ : ∃ q9, WF S27 nf q9 nt noX := (by rw [t28, t24, t20]; exact mStep1_ok hwX hltf b14)
          exact ih (ls := ls) (k := k + 1) (u := nI k) (X := S27) (q := q9) (hh := h26) (H := H) (locs := locs) (by first | exact hl | exact hP | exact hS | exact hR | exact hr9 | exact h09 | exact hw9 | omega) (by first | exact hl | exact hP | exact hS | exact hR | exact hr9 | exact h09 | exact hw9 | omega) (by first | exact hl | exact hP | exact hS | exact hR | exact hr9 | exact h09 | exact hw9 | omega) (by first | exact hl | exact hP | exact hS | exact hR | exact hr9 | exact h09 | exact hw9 | omega) (by first | exact hl | exact hP | exact hS | exact hR | exact hr9 | exact h09 | exact hw9 | omega) (by first | exact hl | exact hP | exact hS | exact hR | exact hr9 | exact h09 | exact hw9 | omega) (by first | exact hl | exact hP | exact hS | exact hR | exact hr9 | exact h09 | exact hw9 | omega) (by first | exact hl | exact hP | exact hS | exact hR | exact hr9 | exact h09 | exact hw9 | omega) (by first | exact hl | exact hP | exact hS | exact hR | exact hr9 | exact h09 | exact hw9 | omega)
        · skip
          refine W.eq (g2 := F0 m 56 ls [.int 0]) (by rw [hq2 b14]) ?_
          refine lv_if_eq (tgt := 76) F.1 F.2.1 d_M_step_56 (by decide) (fun c29 => ?_) (fun c29 => absurd (by decide) c29)
          refine lv_aload_n F.1 F.2.1 d_M_step_76 rfl (lv_at hl 2 rfl) ?_
          refine lv_iload_n F.1 F.2.1 d_M_step_77 rfl (lv_at hl 3 rfl) ?_
          refine pw_cv (pr_V F (c_M_onceW l D cs A hh o ad X hR nf q nt _ hwX f hltf) X_M_104 rfl rfl ⟨by decide, by decide⟩ hP hA hK hS f12 rfl rfl rfl hl.1 rfl (Nat.le_of_ble_eq_true rfl) d_M_step_78 ⟨by decide, by decide⟩) hS (fun h30 H locs hq hP hS => ?_)
          obtain ⟨S31, t32⟩ : ∃ z9 : St, z9 = mOnce X f := ⟨_, rfl⟩
          have hR : RM cs h30 o ad S31 := by rw [t32]; exact hq
          refine lv_iinc (k := 0) (v := nI (k + 1)) F.1 F.2.1 d_M_step_81 hl rfl (by rw [show Int32.ofInt 1 = nI 1 from rfl, nI_add]) (by decide) rfl (fun ls hl => ?_)
          replace hl : lv_has ls 5 [(4, .int (nI (k + 1))), (3, .int u), (0, .ref o), (1, .int (nI f)), (2, .int (nI M))] := hl
          refine lv_goto (tgt := 38) F.1 F.2.1 d_M_step_84 (by decide) ?_
          have hr9 : mRun f n (k + 1) S31 u = mRun f M 1 S8 0 := by rw [← hrun, mRun_f b14, t32]
          have h09 : S31 16 0 = 0 := by rw [t32]; exact mOnce_o.trans hX0
          obtain ⟨q9, hw9⟩ : ∃ q9, WF S31 nf q9 nt noX := ⟨q, by rw [t32]; exact mOnce_ok hwX hltf (fun _ _ z9 => z9)⟩
          exact ih (ls := ls) (k := k + 1) (u := u) (X := S31) (q := q9) (hh := h30) (H := H) (locs := locs) (by first | exact hl | exact hP | exact hS | exact hR | exact hr9 | exact h09 | exact hw9 | omega) (by first | exact hl | exact hP | exact hS | exact hR | exact hr9 | exact h09 | exact hw9 | omega) (by first | exact hl | exact hP | exact hS | exact hR | exact hr9 | exact h09 | exact hw9 | omega) (by first | exact hl | exact hP | exact hS | exact hR | exact hr9 | exact h09 | exact hw9 | omega) (by first | exact hl | exact hP | exact hS | exact hR | exact hr9 | exact h09 | exact hw9 | omega) (by first | exact hl | exact hP | exact hS | exact hR | exact hr9 | exact h09 | exact hw9 | omega) (by first | exact hl | exact hP | exact hS | exact hR | exact hr9 | exact h09 | exact hw9 | omega) (by first | exact hl | exact hP | exact hS | exact hR | exact hr9 | exact h09 | exact hw9 | omega) (by first | exact hl | exact hP | exact hS | exact hR | exact hr9 | exact h09 | exact hw9 | omega)
    · skip
      refine W.eq (g2 := F0 m 22 ls [.int 0, .ref o]) (by rw [if_neg b4]) ?_
      refine lv_if_eq (tgt := 29) F.1 F.2.1 d_M_step_22 (by decide) (fun c33 => ?_) (fun c33 => absurd (by decide) c33)
      refine lv_iconst (v := 1) F.1 F.2.1 d_M_step_29 (by decide) ?_
      refine pw_put F I_M ty_M k_M n_M hK.1 hP hS f1 rfl 0 (by decide) L_M_63 (fun _ z => z) rfl rfl rfl (Nat.le_of_ble_eq_true rfl) d_M_step_30 (fun H locs hP hS => ?_)
      replace hP : pw D vwCl A (pu h o (.inr (7, (mfs ad S).set (mpos 0) (.int 1)))) H := hP
      replace hR := hR.num (show 0 < 6 by decide) 1
      obtain ⟨h34, e35⟩ : ∃ z9 : pw_H, z9 = pu h o (.inr (7, (mfs ad S).set (mpos 0) (.int 1))) := ⟨_, rfl⟩
      rw [← e35] at hP
      obtain ⟨S36, t37⟩ : ∃ z9 : St, z9 = sp S 16 0 1 := ⟨_, rfl⟩
      replace hR : RM cs h34 o ad S36 := by rw [e35, t37]; exact hR
      refine lv_iconst (v := 0) F.1 F.2.1 d_M_step_33 (by decide) ?_
      refine lv_istore_n F.1 F.2.1 d_M_step_34 rfl hl (by decide) rfl (fun ls hl => ?_)
      replace hl : lv_has ls 5 [(3, .int 0), (0, .ref o), (1, .int tk), (2, .int mn)] := hl
      refine lv_iconst (v := 1) F.1 F.2.1 d_M_step_35 (by decide) ?_
      refine lv_istore F.1 F.2.1 d_M_step_36 hl (by decide) rfl (fun ls hl => ?_)
      replace hl : lv_has ls 5 [(4, .int 1), (3, .int 0), (0, .ref o), (1, .int tk), (2, .int mn)] := hl
      refine lv_iload F.1 F.2.1 d_M_step_38 (lv_at hl 0 rfl) ?_
      refine lv_iload_n F.1 F.2.1 d_M_step_40 rfl (lv_at hl 4 rfl) ?_
      refine lv_icmp_gt (tgt := 87) F.1 F.2.1 d_M_step_41 (by decide) (fun c38 => ?_) (fun c38 => ?_)
      · skip
        refine lv_iload_n F.1 F.2.1 d_M_step_87 rfl (lv_at hl 1 rfl) ?_
        exact pw_iret F hr hlk hP hA hK hS (by decide) (by decide) d_M_step_88 (by have hth : thStep S tk mn = 1 := (by unfold thStep; rw [if_neg (fun z9 => b4 z9.2)]); unfold stStep rStep; rw [hth, if_neg (by decide), if_neg (by decide)]; rw [t37] at hR; exact ⟨hR, rfl⟩)
      · skip
        refine lv_aload_n F.1 F.2.1 d_M_step_44 rfl (lv_at hl 2 rfl) ?_
        have f39 : h34 o = some (.inr (7, [.int (S36 16 0), .int (S36 16 1), .ref (ad 0), .ref (ad 1), .ref (ad 2), .ref (ad 3), .ref (ad 4), .int (S36 16 2), .int (S36 16 3), .int (S36 16 4), .int (S36 16 5), .ref (ad 5), .ref (ad 6), .ref (ad 7), .ref (ad 8), .ref (ad 9), .ref (ad 10), .ref (ad 11), .ref (ad 12), .ref (ad 13), .ref (ad 14), .ref (ad 15)])) := hR.1
        refine pw_get F I_M hK.1 hP f39 rfl 0 (by decide) L_M_63 (fun _ z => z) rfl d_M_step_45 ?_
        refine W.eq (g2 := F0 m 48 ls [.int 1]) (by rw [show S36 16 0 = 1 from by rw [t37]; exact sp_s]) ?_
        refine lv_if_ne (tgt := 87) F.1 F.2.1 d_M_step_48 (by decide) (fun c40 => ?_) (fun c40 => absurd c40 (by decide))
        refine lv_iload_n F.1 F.2.1 d_M_step_87 rfl (lv_at hl 1 rfl) ?_
        exact pw_iret F hr hlk hP hA hK hS (by decide) (by decide) d_M_step_88 (by have hth : thStep S tk mn = 1 := (by unfold thStep; rw [if_neg (fun z9 => b4 z9.2)]); unfold stStep rStep; rw [hth, if_neg (by decide), if_neg (by decide)]; rw [t37] at hR; exact ⟨hR, rfl⟩)
  · skip
    refine W.eq (g2 := F0 m 12 ls [.int 0, .ref o]) (by rw [if_neg b2]) ?_
    refine lv_if_eq (tgt := 29) F.1 F.2.1 d_M_step_12 (by decide) (fun c41 => ?_) (fun c41 => absurd (by decide) c41)
    refine lv_iconst (v := 1) F.1 F.2.1 d_M_step_29 (by decide) ?_
    refine pw_put F I_M ty_M k_M n_M hK.1 hP hS f1 rfl 0 (by decide) L_M_63 (fun _ z => z) rfl rfl rfl (Nat.le_of_ble_eq_true rfl) d_M_step_30 (fun H locs hP hS => ?_)
    replace hP : pw D vwCl A (pu h o (.inr (7, (mfs ad S).set (mpos 0) (.int 1)))) H := hP
    replace hR := hR.num (show 0 < 6 by decide) 1
    obtain ⟨h42, e43⟩ : ∃ z9 : pw_H, z9 = pu h o (.inr (7, (mfs ad S).set (mpos 0) (.int 1))) := ⟨_, rfl⟩
    rw [← e43] at hP
    obtain ⟨S44, t45⟩ : ∃ z9 : St, z9 = sp S 16 0 1 := ⟨_, rfl⟩
    replace hR : RM cs h42 o ad S44 := by rw [e43, t45]; exact hR
    refine lv_iconst (v := 0) F.1 F.2.1 d_M_step_33 (by decide) ?_
    refine lv_istore_n F.1 F.2.1 d_M_step_34 rfl hl (by decide) rfl (fun ls hl => ?_)
    replace hl : lv_has ls 5 [(3, .int 0), (0, .ref o), (1, .int tk), (2, .int mn)] := hl
    refine lv_iconst (v := 1) F.1 F.2.1 d_M_step_35 (by decide) ?_
    refine lv_istore F.1 F.2.1 d_M_step_36 hl (by decide) rfl (fun ls hl => ?_)
    replace hl : lv_has ls 5 [(4, .int 1), (3, .int 0), (0, .ref o), (1, .int tk), (2, .int mn)] := hl
    refine lv_iload F.1 F.2.1 d_M_step_38 (lv_at hl 0 rfl) ?_
    refine lv_iload_n F.1 F.2.1 d_M_step_40 rfl (lv_at hl 4 rfl) ?_
    refine lv_icmp_gt (tgt := 87) F.1 F.2.1 d_M_step_41 (by decide) (fun c46 => ?_) (fun c46 => ?_)
    · skip
      refine lv_iload_n F.1 F.2.1 d_M_step_87 rfl (lv_at hl 1 rfl) ?_
      exact pw_iret F hr hlk hP hA hK hS (by decide) (by decide) d_M_step_88 (by have hth : thStep S tk mn = 1 := (by unfold thStep; rw [if_neg (fun z9 => b2 (hT ▸ z9.1))]); unfold stStep rStep; rw [hth, if_neg (by decide), if_neg (by decide)]; rw [t45] at hR; exact ⟨hR, rfl⟩)
    · skip
      refine lv_aload_n F.1 F.2.1 d_M_step_44 rfl (lv_at hl 2 rfl) ?_
      have f47 : h42 o = some (.inr (7, [.int (S44 16 0), .int (S44 16 1), .ref (ad 0), .ref (ad 1), .ref (ad 2), .ref (ad 3), .ref (ad 4), .int (S44 16 2), .int (S44 16 3), .int (S44 16 4), .int (S44 16 5), .ref (ad 5), .ref (ad 6), .ref (ad 7), .ref (ad 8), .ref (ad 9), .ref (ad 10), .ref (ad 11), .ref (ad 12), .ref (ad 13), .ref (ad 14), .ref (ad 15)])) := hR.1
      refine pw_get F I_M hK.1 hP f47 rfl 0 (by decide) L_M_63 (fun _ z => z) rfl d_M_step_45 ?_
      refine W.eq (g2 := F0 m 48 ls [.int 1]) (by rw [show S44 16 0 = 1 from by rw [t45]; exact sp_s]) ?_
      refine lv_if_ne (tgt := 87) F.1 F.2.1 d_M_step_48 (by decide) (fun c48 => ?_) (fun c48 => absurd c48 (by decide))
      refine lv_iload_n F.1 F.2.1 d_M_step_87 rfl (lv_at hl 1 rfl) ?_
      exact pw_iret F hr hlk hP hA hK hS (by decide) (by decide) d_M_step_88 (by have hth : thStep S tk mn = 1 := (by unfold thStep; rw [if_neg (fun z9 => b2 (hT ▸ z9.1))]); unfold stStep rStep; rw [hth, if_neg (by decide), if_neg (by decide)]; rw [t45] at hR; exact ⟨hR, rfl⟩)
