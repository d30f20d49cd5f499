theorem ap_k {U : St} {L κ j : Nat} {v : Int32} (h : ¬ ((κ = 0 ∧ 48 ≤ j ∧ j < 56) ∨ ((κ = 0 ∨ κ = 2) ∧ 8 * L ≤ j ∧ j < 8 * L + 8) ∨ ((κ = 3 ∨ κ = 4) ∧ 96 * L ≤ j ∧ j < 96 * L + 96) ∨ (κ = 16 ∧ (j = 2 ∨ j = 3)))) : sp (sp (mClr (mMove U L)) 16 2 0) 16 3 v κ j = U κ j := by
  unfold sp
  rw [if_neg (by omega), if_neg (by omega)]
  unfold mClr mMove
  rw [if_neg (by omega), if_neg (by omega), if_neg (by omega)]
theorem ap_0 {U : St} {L j : Nat} {v : Int32} (h1 : 48 ≤ j) (h2 : j < 56) : sp (sp (mClr (mMove U L)) 16 2 0) 16 3 v 0 j = 0 := by
  rw [sp_k (by decide), sp_k (by decide)]
  unfold mClr
  rw [if_pos ⟨rfl, h1, h2⟩]
theorem ap_m {U : St} {L κ i : Nat} {v : Int32} (hL : L ≤ 5) (hκ : κ = 0 ∨ κ = 2) (hi : i < 8) : sp (sp (mClr (mMove U L)) 16 2 0) 16 3 v κ (8 * L + i) = U κ (48 + i) := by
  rw [sp_k (by omega), sp_k (by omega)]
  unfold mClr mMove
  rw [if_neg (by omega), if_pos (by omega)]
  congr 1
  omega
theorem ap_s {U : St} {L κ i a : Nat} {v : Int32} (hκ : κ = 3 ∨ κ = 4) (hi : i < 8) (ha : a < 12) : sp (sp (mClr (mMove U L)) 16 2 0) 16 3 v κ (12 * (8 * L + i) + a) = U κ (12 * (48 + i) + a) := by
  rw [sp_k (by omega), sp_k (by omega)]
  unfold mClr mMove
  rw [if_neg (by omega), if_neg (by omega), if_pos (by omega)]
  congr 1
  omega
theorem WF.applied {S : St} {nf p nt : Nat} (h : WF S nf p nt noX) (hlt : p < 5) : WF (sp (sp (sp (mClr (mMove (sp S 16 0 0) (p + 1))) 16 2 0) 16 3 (nI (p + 1))) 16 4 (nI (p + 1))) nf (p + 1) nt noX := by
  have h1 := ((h.num (Or.inl rfl) 0).move hlt).clr
  rw [mClr_sp, mClr_sp] at h1
  have h2 := h1.num (Or.inr rfl) 0
  rw [sp_swap (by decide), sp_swap (S := mClr (mMove (sp S 16 0 0) (p + 1))) (by decide)] at h2
  exact h2
theorem same_iff {S U : St} {nf p nt : Nat} {g : Gh} {qb : Nat → Option Nat} {Vs : Nat → Int32} (hw : WF S nf p nt noX) (hq : ∀ f, f < 8 → (S 0 (8 * 6 + f) = 1 → qb f = some (g 0 (8 * 6 + f))) ∧ (S 0 (8 * 6 + f) = 0 → qb f = none)) (hV : ∀ f, f < 8 → S 0 (48 + f) = 1 → Vs f = S 1 (48 + f)) (hU : ∀ f, U 1 f = S 1 f) : (∀ f, f < nf → qb f = none ∨ Vs f = U 1 f) ↔ mSame S := by
  have h8 := hw.1.1
  unfold mSame
  rw [hw.1.2.2.2.1, tn_nI (by omega)]
  constructor
  · intro h f hf
    rcases h f hf with h9 | h9
    · refine Or.inl ((hw.1.2.2.2.2.2.2.2.1 (48 + f) (by omega)).elim id (fun z => ?_))
      have := (hq f (by omega)).1 z
      rw [h9] at this
      cases this
    · rcases hw.1.2.2.2.2.2.2.2.1 (48 + f) (by omega) with z | z
      · exact Or.inl z
      · exact Or.inr (by rw [← hV f (by omega) z, h9, hU])
  · intro h f hf
    rcases h f hf with h9 | h9
    · exact Or.inl ((hq f (by omega)).2 h9)
    · rcases hw.1.2.2.2.2.2.2.2.1 (48 + f) (by omega) with z | z
      · exact Or.inl ((hq f (by omega)).2 z)
      · exact Or.inr (by rw [hV f (by omega) z, h9, hU])
theorem mClr_k {S : St} {k j : Nat} (h : k ≠ 0) : mClr S k j = S k j := if_neg (fun z => h z.1)
theorem cl_k {U : St} {κ j : Nat} (h : ¬ ((κ = 0 ∧ 48 ≤ j ∧ j < 56) ∨ (κ = 16 ∧ j = 2))) : sp (mClr U) 16 2 0 κ j = U κ j := by
  unfold sp
  rw [if_neg (by omega)]
  unfold mClr
  rw [if_neg (by omega)]
theorem cl_0 {U : St} {j : Nat} (h1 : 48 ≤ j) (h2 : j < 56) : sp (mClr U) 16 2 0 0 j = 0 := by
  rw [sp_k (by decide)]
  exact if_pos ⟨rfl, h1, h2⟩
abbrev rm_D_apply : Room := { frames := 6, cells := 4, slots := 29, locals := 108 }
set_option maxHeartbeats 4000000 in
set_option maxRecDepth 100000 in
theorem c_D_apply (l : Launch) (D : va_G) (cs : Nat → Nat) (A : Nat → Prop) (h : pw_H) (hst : l.stackTraces = false) (x : Nat) (S : St) (hE : SimE cs h x S) : pmx l y_D_apply b_D_apply 3 (some .int) rm_D_apply [.ref x] D cs A h (va_Qi (fun (r : Int32) (h' : pw_H) => thApply S = 0 ∧ SimE cs h' x (stApply S) ∧ r = rApply S) (ww D cs A) A) (fun (E : String) (h' : pw_H) => (E = sIAE ∧ thApply S = 1 ∧ SimE cs h' x (stApply S)) ∨ (E = sUOE ∧ thApply S = 2 ∧ SimE cs h' x (stApply S)) ∨ (E = sISE ∧ thApply S = 3 ∧ SimE cs h' x (stApply S))) 4 29 := by
  refine pmx_of R_D rfl (by decide) (Nat.le_of_ble_eq_true rfl) (fun p e s m below meth c ls F hr hlk hnm htb hP hA hK hl => ?_)
  have hS : va_S A s.heap s.heap [] := va_S.rf
  replace hl : lv_has ls 3 [(0, .ref x)] := hl
  obtain ⟨g, gr, nf, pT, nt, hs, hw⟩ := hE
  obtain ⟨dp, hdpS⟩ : ∃ dp, dp = dpS S := ⟨_, rfl⟩
  rw [← hdpS] at hs
  have hnf8 := hw.1.1
  have hp5 := hw.1.2.1
  have hnt4 := hw.1.2.2.1
  have hn1 := hw.1.2.2.2.1
  have hn3 := hw.1.2.2.2.2.1
  have hn5 := hw.1.2.2.2.2.2.1
  have hx : ext h h [x] := ext.rf
  refine lv_aload_n F.1 F.2.1 d_D_apply_0 rfl (lv_at hl 0 rfl) ?_
  have f1 : h x = some (.inr (6, [.ref (g 10 0), .ref (g 10 1), .ref (g 10 2), .ref (g 3 6), .int (S 16 4)])) := hs.1
  obtain ⟨q2, n3, f4, _, _⟩ := hs.ls (show 1 < 3 by decide)
  have f5 : h (g 10 1) = some (.inr (0, [.ref q2, .int (nI pT), .int n3])) := f4
  obtain ⟨v6, f7, k8⟩ := hs.pt (l := 6) (by omega)
  have f9 : h (g 3 6) = some (.inr (3, [.ref (g 4 6), .ref (g 5 6), .int v6])) := f7
  obtain ⟨v10, f11, k12⟩ := hs.bs (l := 6) (by omega)
  have f13 : h (g 4 6) = some (.inl (cs 3, 8, .inr (.inr (.inr (.inr v10))))) := f11
  obtain ⟨v14, f15, k16⟩ := hs.sg (l := 6) (by omega)
  have f17 : h (g 5 6) = some (.inl (cs 0, 8, .inl v14)) := f15
  refine pw_get F I_D hK.1 hP f1 rfl 3 (by decide) L_D_25 (fun _ z => z) rfl d_D_apply_1 ?_
  refine lv_astore_n F.1 F.2.1 d_D_apply_4 rfl hl (by decide) rfl (fun ls hl => ?_)
  replace hl : lv_has ls 3 [(1, .ref (g 3 6)), (0, .ref x)] := hl
  refine lv_aload_n F.1 F.2.1 d_D_apply_5 rfl (lv_at hl 1 rfl) ?_
  refine pw_new (ci := 3) (fs := [.null, .null, .int 0]) F I_P ty_P k_P C_D_22 N_P Z_P hK.1 hP hS hA rfl (fun j hj => by rcases (show j = 0 ∨ j = 1 ∨ j = 2 by omega) with rfl | rfl | rfl <;> rfl) (by decide) (by decide) d_D_apply_6 (fun q18 H n19 hP hS => ?_)
  have k20 : (g 3 6) ≠ q18 := none_ne f9 n19
  replace hP : pw D vwCl A (pu h q18 (.inr (3, [.null, .null, .int 0]))) H := hP
  have g23 : h q18 = none := hx.2 _ n19
  obtain ⟨h21, e22⟩ : ∃ z9 : pw_H, z9 = pu h q18 (.inr (3, [.null, .null, .int 0])) := ⟨_, rfl⟩
  rw [← e22] at hP
  have hx : ext h h21 [x] := by rw [e22]; exact hx.pu (Or.inr g23)
  have f24 : h21 q18 = some (.inr (3, [.null, .null, .int 0])) := by rw [e22]; exact pu_s
  refine lv_dup F.1 F.2.1 d_D_apply_9 rfl ?_
  refine pw_cv (pr_I F (c_P_init l D cs A h21 _ f24) X_D_24 rfl rfl ⟨by decide, by decide⟩ hP hA hK hS rfl hl.1 rfl (Nat.le_of_ble_eq_true rfl) d_D_apply_10 ⟨by decide, by decide⟩) hS (fun hz9 H locs hq9 hP hS => ?_)
  obtain ⟨nba, nsa, hnb0, hns0, i1, i2, i0, ix⟩ := hq9
  have f25 : h21 (g 4 6) = some (.inl (cs 3, 8, .inr (.inr (.inr (.inr v10))))) := by rw [e22]; exact pu_f n19 f13
  have k26 : (g 4 6) ≠ nba := none_ne f25 hnb0
  have f27 : h21 (g 5 6) = some (.inl (cs 0, 8, .inl v14)) := by rw [e22]; exact pu_f n19 f17
  have k28 : (g 5 6) ≠ nsa := none_ne f27 hns0
  have g29 : h nba = none := hx.2 _ hnb0
  have g30 : h nsa = none := hx.2 _ hns0
  have hx : ext h hz9 [x] := hx.trans ix (fun y hy => by
    simp only [List.mem_cons, List.not_mem_nil, or_false] at hy
    rcases hy with rfl
    · exact Or.inr g23)
  have f31 : h21 x = some (.inr (6, [.ref (g 10 0), .ref (g 10 1), .ref (g 10 2), .ref (g 3 6), .int (S 16 4)])) := by rw [e22]; exact pu_f n19 f1
  have f32 : hz9 x = some (.inr (6, [.ref (g 10 0), .ref (g 10 1), .ref (g 10 2), .ref (g 3 6), .int (S 16 4)])) := ix.1 _ _ f31 (nin1 (pu_t f31 f24 (show (6 : Nat) ≠ 3 by decide)))
  refine pw_put F I_D ty_D k_D n_D hK.1 hP hS f32 rfl 3 (by decide) L_D_25 (fun _ z => z) rfl rfl rfl (Nat.le_of_ble_eq_true rfl) d_D_apply_13 (fun H locs hP hS => ?_)
  replace hP : pw D vwCl A (pu hz9 x (.inr (6, [.ref (g 10 0), .ref (g 10 1), .ref (g 10 2), .ref q18, .int (S 16 4)]))) H := hP
  obtain ⟨h33, e34⟩ : ∃ z9 : pw_H, z9 = pu hz9 x (.inr (6, [.ref (g 10 0), .ref (g 10 1), .ref (g 10 2), .ref q18, .int (S 16 4)])) := ⟨_, rfl⟩
  rw [← e34] at hP
  have hx : ext h h33 [x] := by rw [e34]; exact hx.pu (Or.inl (by simp))
  have f35 : h33 x = some (.inr (6, [.ref (g 10 0), .ref (g 10 1), .ref (g 10 2), .ref q18, .int (S 16 4)])) := by rw [e34]; exact pu_s
  have f36 : h33 q18 = some (.inr (3, [.ref nba, .ref nsa, .int 0])) := by rw [e34]; exact pu_k i0 (pu_t i0 f32 (show (3 : Nat) ≠ 6 by decide))
  have f37 : h33 nba = some (.inl (cs 3, 8, .inr (.inr (.inr (.inr (fun _ => none)))))) := by rw [e34]; exact pu_k i1 (pu_t i1 f32 (show (308 : Nat) ≠ 6 by decide))
  have f38 : h33 nsa = some (.inl (cs 0, 8, .inl (fun _ => 0))) := by rw [e34]; exact pu_k i2 (pu_t i2 f32 (show (108 : Nat) ≠ 6 by decide))
  have hclr : ∀ v : Int32, Sim cs h33 x (gC g q18 nba nsa) gr (dpS (sp S 16 0 v)) (sp (mClr (sp S 16 0 v)) 16 2 0) nf pT nt := fun v => Sim.cleared (X := []) (S := sp S 16 0 v) ((hs.num v).dpm (dp' := dpS (sp S 16 0 v)) (fun u _ => by show tn (sp S 16 0 v 11 u) ≤ _; rw [sp_k (by decide), hdpS]; exact Nat.le_refl _)) (hw.num (Or.inl rfl) v) g23 g29 g30 f36 f37 f38 (by rw [sp_j (by decide)]; exact f35) hx (fun κ j hj => cl_k hj) (fun j a b => cl_0 a b) sp_s
  have hnv : v6 = S 16 2 := k8 rfl
  refine lv_aload_n F.1 F.2.1 d_D_apply_16 rfl (lv_at hl 0 rfl) ?_
  have f39 : h21 (g 3 6) = some (.inr (3, [.ref (g 4 6), .ref (g 5 6), .int v6])) := by rw [e22]; exact pu_f n19 f9
  have f40 : hz9 (g 3 6) = some (.inr (3, [.ref (g 4 6), .ref (g 5 6), .int v6])) := ix.1 _ _ f39 (nin1 k20)
  have f41 : h33 (g 3 6) = some (.inr (3, [.ref (g 4 6), .ref (g 5 6), .int v6])) := by rw [e34]; exact pu_k f40 (pu_t f40 f32 (show (3 : Nat) ≠ 6 by decide))
  refine pw_get F I_P hK.1 hP f41 rfl 2 (by decide) L_D_110 (fun _ z => z) rfl d_D_apply_17 ?_
  refine lv_if_ne (tgt := 33) F.1 F.2.1 d_D_apply_20 (by decide) (fun c42 => ?_) (fun c42 => ?_)
  · skip
    refine lv_aload_n F.1 F.2.1 d_D_apply_33 rfl (lv_at hl 1 rfl) ?_
    refine lv_aload_n F.1 F.2.1 d_D_apply_34 rfl (lv_at hl 0 rfl) ?_
    have f43 : hz9 (g 4 6) = some (.inl (cs 3, 8, .inr (.inr (.inr (.inr v10))))) := ix.1 _ _ f25 (nin1 (pu_t f25 f24 (show (308 : Nat) ≠ 3 by decide)))
    have f44 : h33 (g 4 6) = some (.inl (cs 3, 8, .inr (.inr (.inr (.inr v10))))) := by rw [e34]; exact pu_k f43 (pu_t f43 f32 (show (308 : Nat) ≠ 6 by decide))
    have f45 : hz9 (g 5 6) = some (.inl (cs 0, 8, .inl v14)) := ix.1 _ _ f27 (nin1 (pu_t f27 f24 (show (108 : Nat) ≠ 3 by decide)))
    have f46 : h33 (g 5 6) = some (.inl (cs 0, 8, .inl v14)) := by rw [e34]; exact pu_k f45 (pu_t f45 f32 (show (108 : Nat) ≠ 6 by decide))
    refine pw_ci (pr_V F (c_D_keepsSignatures l D cs A h33 x (gC g q18 nba nsa) gr (dpS (sp S 16 0 0)) (sp (mClr (sp S 16 0 0)) 16 2 0) nf pT nt (hclr 0) hnf8 (g 3 6) (g 4 6) (g 5 6) _ v10 v14 f41 f44 f46) X_D_115 rfl rfl ⟨by decide, by decide⟩ hP hA hK hS f35 rfl rfl rfl hl.1 rfl (Nat.le_of_ble_eq_true rfl) d_D_apply_35 ⟨by decide, by decide⟩) hS (fun r9 hn9 H locs hq hP hS => ?_)
    obtain ⟨he9, hq1, hq2⟩ := hq
    rw [he9] at hP
    clear he9
    have hsi := same_iff (U := sp (mClr (sp S 16 0 0)) 16 2 0) hw k12 (k16 rfl) (fun f => by rw [sp_k (by decide), mClr_k (by decide), sp_k (by decide)])
    by_cases b47 : mSame S
    · skip
      refine W.eq (g2 := F0 m 38 ls [.int 1]) (by rw [hq1 (hsi.mpr b47)]) ?_
      refine lv_if_ne (tgt := 51) F.1 F.2.1 d_D_apply_38 (by decide) (fun c48 => ?_) (fun c48 => absurd c48 (by decide))
      refine lv_aload_n F.1 F.2.1 d_D_apply_51 rfl (lv_at hl 1 rfl) ?_
      refine pw_get F I_D hK.1 hP f35 rfl 4 (by decide) L_D_29 (fun _ z => z) rfl d_D_apply_52 ?_
      refine lv_iconst (v := (-1)) F.1 F.2.1 d_D_apply_55 (by decide) ?_
      refine lv_icmp_ne (tgt := 70) F.1 F.2.1 d_D_apply_56 (by decide) (fun c49 => ?_) (fun c49 => ?_)
      · skip
        exact pw_throw (is := 124) (text := "a transition goes on, or there are 5 patches") hst xw_2 (by decide) F hlk htb hP hK hS hl d_D_apply_70 d_D_apply_73 d_D_apply_74 d_D_apply_76 d_D_apply_79 (by decide) (by decide) (by decide) (by decide) (by decide) (by decide) ((by have hth : thApply S = 3 := (by unfold thApply; rw [if_neg (fun z9 => c42 (hnv.trans z9)), if_neg (fun z9 => z9 b47), if_pos (Or.inl (fun z9 => c49 (hw.tgt.1.mp z9)))]); exact Or.inr (Or.inr ⟨rfl, hth, (by have hst9 : stApply S = sp (mClr (sp S 16 0 3)) 16 2 0 := (by unfold stApply; rw [if_neg (by rw [hth]; decide), hth]); have hw9 : WF (stApply S) nf pT nt noX := (WFe.apply ⟨nf, pT, nt, hw⟩).same (by rw [hst9, sp_j (by decide), mClr_k (by decide), sp_j (by decide)]; exact hn1) hnf8 (by rw [hst9, sp_j (by decide), mClr_k (by decide), sp_j (by decide)]; exact hn3) hp5 (by rw [hst9, sp_j (by decide), mClr_k (by decide), sp_j (by decide)]; exact hn5) hnt4; exact SimE.mk (by rw [hst9]; exact hclr 3) (fun u _ => by rw [hst9, sp_k (by decide), mClr_k (by decide)]; exact Nat.le_refl _) hw9)⟩)))
      · skip
        refine lv_aload_n F.1 F.2.1 d_D_apply_59 rfl (lv_at hl 1 rfl) ?_
        refine pw_get F I_D hK.1 hP f35 rfl 1 (by decide) L_D_16 (fun _ z => z) rfl d_D_apply_60 ?_
        have f50 : h21 (g 10 1) = some (.inr (0, [.ref q2, .int (nI pT), .int n3])) := by rw [e22]; exact pu_f n19 f5
        have f51 : hz9 (g 10 1) = some (.inr (0, [.ref q2, .int (nI pT), .int n3])) := ix.1 _ _ f50 (nin1 (pu_t f50 f24 (show (0 : Nat) ≠ 3 by decide)))
        have f52 : h33 (g 10 1) = some (.inr (0, [.ref q2, .int (nI pT), .int n3])) := by rw [e34]; exact pu_k f51 (pu_t f51 f32 (show (0 : Nat) ≠ 6 by decide))
        refine pw_ciE (pr_V F (c_AL_size l D cs A h33 _ _ _ _ f52) X_D_44 rfl rfl ⟨by decide, by decide⟩ hP hA hK hS f52 rfl rfl rfl hl.1 rfl (Nat.le_of_ble_eq_true rfl) d_D_apply_63 ⟨by decide, by decide⟩) hS (fun H locs hP hS => ?_)
        refine lv_iconst (v := 5) F.1 F.2.1 d_D_apply_66 (by decide) ?_
        refine lv_icmp_lt (tgt := 80) F.1 F.2.1 d_D_apply_67 (by decide) (fun c53 => ?_) (fun c53 => ?_)
        · skip
          have hlt5 : pT < 5 := (nI_ltI (a := pT) (b := 5) (by omega) (by decide)).mp c53
          have hth : thApply S = 0 := (by unfold thApply; rw [if_neg (fun z9 => c42 (hnv.trans z9)), if_neg (fun z9 => z9 b47), if_neg (fun z9 => z9.elim (fun z8 => z8 (hw.tgt.1.mpr c49)) (fun z8 => absurd ((nI_eq (a := pT) (b := 5) (by omega) (by decide)).mp (hn3.symm.trans z8)) (by omega)))])
          by_cases hgr : gr 1
          · skip
            obtain ⟨n54, lq, fl1, fl2, hlq⟩ := hs.lg (show 1 < 3 by decide) hgr
            replace fl1 : h (g 10 1) = some (.inr (0, [.ref (g 11 1), .int (nI pT), .int n54])) := fl1
            refine lv_aload_n F.1 F.2.1 d_D_apply_80 rfl (lv_at hl 1 rfl) ?_
            refine pw_get F I_D hK.1 hP f35 rfl 1 (by decide) L_D_16 (fun _ z => z) rfl d_D_apply_81 ?_
            refine lv_aload_n F.1 F.2.1 d_D_apply_84 rfl (lv_at hl 0 rfl) ?_
            have f55 : h21 (g 10 1) = some (.inr (0, [.ref (g 11 1), .int (nI pT), .int n54])) := by rw [e22]; exact pu_f n19 fl1
            have f56 : hz9 (g 10 1) = some (.inr (0, [.ref (g 11 1), .int (nI pT), .int n54])) := ix.1 _ _ f55 (nin1 (pu_t f55 f24 (show (0 : Nat) ≠ 3 by decide)))
            have f57 : h33 (g 10 1) = some (.inr (0, [.ref (g 11 1), .int (nI pT), .int n54])) := by rw [e34]; exact pu_k f56 (pu_t f56 f32 (show (0 : Nat) ≠ 6 by decide))
            have f58 : h21 (g 11 1) = some (.inl (cs 5, 10, .inr (.inr (.inr (.inr lq))))) := by rw [e22]; exact pu_f n19 fl2
            have f59 : hz9 (g 11 1) = some (.inl (cs 5, 10, .inr (.inr (.inr (.inr lq))))) := ix.1 _ _ f58 (nin1 (pu_t f58 f24 (show (310 : Nat) ≠ 3 by decide)))
            have f60 : h33 (g 11 1) = some (.inl (cs 5, 10, .inr (.inr (.inr (.inr lq))))) := by rw [e34]; exact pu_k f59 (pu_t f59 f32 (show (310 : Nat) ≠ 6 by decide))
            refine pw_ci (pr_V F (c_AL_addg_3 l D cs A h33 _ _ _ pT _ _ lq (by omega) f57 f60 f41) X_D_62 rfl rfl ⟨by decide, by decide⟩ hP hA hK hS f57 rfl rfl rfl hl.1 rfl (Nat.le_of_ble_eq_true rfl) d_D_apply_85 ⟨by decide, by decide⟩) hS (fun r9 hy9 H locs hqa hP hS => ?_)
            obtain ⟨hr9, a1, a2, ax⟩ := hqa
            have hE0 : True := trivial
            have hxa : ext h hy9 [x, (g 10 1), (g 11 1)] := (hx.more (fun z9 h9 => List.mem_cons.mpr (Or.inl (List.mem_singleton.mp h9)))).trans ax (fun z9 h9 => Or.inl (List.mem_cons_of_mem _ h9))
            have f61 : hy9 x = some (.inr (6, [.ref (g 10 0), .ref (g 10 1), .ref (g 10 2), .ref q18, .int (S 16 4)])) := ax.1 _ _ f35 (nin2 (pu_t f35 f57 (show (6 : Nat) ≠ 0 by decide)) (pu_t f35 f60 (show (6 : Nat) ≠ 310 by decide)))
            have f62 : hy9 (g 4 6) = some (.inl (cs 3, 8, .inr (.inr (.inr (.inr v10))))) := ax.1 _ _ f44 (nin2 (pu_t f44 f57 (show (308 : Nat) ≠ 0 by decide)) (pu_t f44 f60 (show (308 : Nat) ≠ 310 by decide)))
            have f63 : hy9 (g 5 6) = some (.inl (cs 0, 8, .inl v14)) := ax.1 _ _ f46 (nin2 (pu_t f46 f57 (show (108 : Nat) ≠ 0 by decide)) (pu_t f46 f60 (show (108 : Nat) ≠ 310 by decide)))
            have f64 : hy9 q18 = some (.inr (3, [.ref nba, .ref nsa, .int 0])) := ax.1 _ _ f36 (nin2 (pu_t f36 f57 (show (3 : Nat) ≠ 0 by decide)) (pu_t f36 f60 (show (3 : Nat) ≠ 310 by decide)))
            have f65 : hy9 nba = some (.inl (cs 3, 8, .inr (.inr (.inr (.inr (fun _ => none)))))) := ax.1 _ _ f37 (nin2 (pu_t f37 f57 (show (308 : Nat) ≠ 0 by decide)) (pu_t f37 f60 (show (308 : Nat) ≠ 310 by decide)))
            have f66 : hy9 nsa = some (.inl (cs 0, 8, .inl (fun _ => 0))) := ax.1 _ _ f38 (nin2 (pu_t f38 f57 (show (108 : Nat) ≠ 0 by decide)) (pu_t f38 f60 (show (108 : Nat) ≠ 310 by decide)))
            have f67 : hy9 (g 3 6) = some (.inr (3, [.ref (g 4 6), .ref (g 5 6), .int v6])) := ax.1 _ _ f41 (nin2 (pu_t f41 f57 (show (3 : Nat) ≠ 0 by decide)) (pu_t f41 f60 (show (3 : Nat) ≠ 310 by decide)))
            refine lv_pop F.1 F.2.1 d_D_apply_88 rfl ?_
            refine lv_aload_n F.1 F.2.1 d_D_apply_89 rfl (lv_at hl 1 rfl) ?_
            refine pw_get F I_D hK.1 hP f61 rfl 1 (by decide) L_D_16 (fun _ z => z) rfl d_D_apply_90 ?_
            refine pw_ciE (pr_V F (c_AL_size l D cs A hy9 _ _ _ _ a2) X_D_44 rfl rfl ⟨by decide, by decide⟩ hP hA hK hS a2 rfl rfl rfl hl.1 rfl (Nat.le_of_ble_eq_true rfl) d_D_apply_93 ⟨by decide, by decide⟩) hS (fun H locs hP hS => ?_)
            refine W.eq (g2 := F0 m 96 ls [.int (nI (pT + 1))]) (by rw [nI_1]) ?_
            refine lv_istore_n F.1 F.2.1 d_D_apply_96 rfl hl (by decide) rfl (fun ls hl => ?_)
            replace hl : lv_has ls 3 [(2, .int (nI (pT + 1))), (1, .ref (g 3 6)), (0, .ref x)] := hl
            refine lv_aload_n F.1 F.2.1 d_D_apply_97 rfl (lv_at hl 2 rfl) ?_
            refine lv_iload_n F.1 F.2.1 d_D_apply_98 rfl (lv_at hl 0 rfl) ?_
            obtain ⟨S0, hS0⟩ : ∃ z9 : St, z9 = sp (sp (mClr (mMove (sp S 16 0 0) (pT + 1))) 16 2 0) 16 3 (nI (pT + 1)) := ⟨_, rfl⟩
            have hsA := Sim.applied (S := sp S 16 0 0) (T := S0) ((hs.num 0).dpm (dp' := dpS (sp S 16 0 0)) (fun u _ => by show tn (sp S 16 0 0 11 u) ≤ _; rw [sp_k (by decide), hdpS]; exact Nat.le_refl _)) (hw.num (Or.inl rfl) 0) hlt5 g23 g29 g30 (Or.inl ⟨hgr, rfl⟩) f64 f65 f66 (by rw [sp_j (by decide)]; exact f61) a1 (fun i hi => by rw [va_up_ne _ _ (by omega)]; exact hlq i hi) (va_up_self _ _ _) (by rw [← nI_1]; exact a2) hxa (fun k i hl h1 h2 => by have hl : live S nf pT nt gr k i := (by unfold live at hl ⊢; rw [sp_off (show (0 : Nat) ≠ 16 by decide)] at hl; exact hl); exact nin3 (hs.2.2.2 k i hl) (hs.ne hl (show live S nf pT nt gr 10 1 from (by show 1 < 3; decide)) h1) (hs.ne hl (show live S nf pT nt gr 11 1 from ⟨by decide, hgr⟩) h2)) (fun κ j hj => by rw [hS0]; exact ap_k hj) (fun j a b => by rw [hS0]; exact ap_0 a b) (fun κ i a b => by rw [hS0]; exact ap_m (by omega) a b) (fun κ i a b c d => by rw [hS0]; exact ap_s b c d) (by rw [hS0, sp_j (by decide), sp_s])
            have hwq : WF (sp S0 16 4 (nI (pT + 1))) nf (pT + 1) nt noX := (by rw [hS0]; exact hw.applied hlt5)
            refine pw_cv (pr_V F (c_D_headFor l D cs A hy9 x (gA g (pT + 1) q18 nba nsa (g 11 1)) (fun j => j = 1 ∨ gr j) (dpS (sp S 16 0 0)) S0 nf (pT + 1) nt hsA _ (pT + 1) hwq (Or.inl rfl) (by omega)) X_D_126 rfl rfl ⟨by decide, by decide⟩ hP hA hK hS f61 rfl rfl rfl hl.1 rfl (Nat.le_of_ble_eq_true rfl) d_D_apply_99 ⟨by decide, by decide⟩) hS (fun hv9 H locs hq hP hS => ?_)
            obtain ⟨pN, hs9, hN, hN5⟩ := hq
            have hst9 : stApply S = mSettle (sp S0 16 4 (nI (pT + 1))) := (by unfold stApply; rw [if_pos hth, hn3, nI_1, tn_nI (by omega), hS0])
            have hw9 : WF (stApply S) nf pN nt noX := (WFe.apply ⟨nf, pT, nt, hw⟩).same (by rw [hst9, mSettle_o (by decide) (by decide), sp_j (by decide), hS0, ap_k (by omega), sp_j (by decide)]; exact hn1) hnf8 (by rw [hst9]; exact hN) hN5 (by rw [hst9, mSettle_o (by decide) (by decide), sp_j (by decide), hS0, ap_k (by omega), sp_j (by decide)]; exact hn5) hnt4
            have hE9 : SimE cs hv9 x (stApply S) := SimE.mk (by rw [hst9]; exact hs9) (fun u _ => by rw [hst9, mSettle_k (by decide), sp_k (by decide), hS0, ap_k (by omega)]; exact Nat.le_refl _) hw9
            refine lv_iload_n F.1 F.2.1 d_D_apply_102 rfl (lv_at hl 0 rfl) ?_
            exact vx_ret (pw_iret F hr hlk hP hA hK hS (by decide) (by decide) d_D_apply_103 (⟨hth, hE9, by unfold rApply; rw [if_pos hth, hn3, nI_1]⟩))
          · skip
            obtain ⟨n68, fl1, hl0⟩ := hs.ln (show 1 < 3 by decide) hgr
            replace hl0 : pT = 0 := hl0
            refine lv_aload_n F.1 F.2.1 d_D_apply_80 rfl (lv_at hl 1 rfl) ?_
            refine pw_get F I_D hK.1 hP f35 rfl 1 (by decide) L_D_16 (fun _ z => z) rfl d_D_apply_81 ?_
            refine lv_aload_n F.1 F.2.1 d_D_apply_84 rfl (lv_at hl 0 rfl) ?_
            have f69 : h21 (g 10 1) = some (.inr (0, [.ref (cs 9), .int 0, .int n68])) := by rw [e22]; exact pu_f n19 fl1
            have f70 : hz9 (g 10 1) = some (.inr (0, [.ref (cs 9), .int 0, .int n68])) := ix.1 _ _ f69 (nin1 (pu_t f69 f24 (show (0 : Nat) ≠ 3 by decide)))
            have f71 : h33 (g 10 1) = some (.inr (0, [.ref (cs 9), .int 0, .int n68])) := by rw [e34]; exact pu_k f70 (pu_t f70 f32 (show (0 : Nat) ≠ 6 by decide))
            refine pw_ci (pr_V F (c_AL_addf_3 l D cs A h33 _ _ _ _ f71 f41) X_D_62 rfl rfl ⟨by decide, by decide⟩ hP hA hK hS f71 rfl rfl rfl hl.1 rfl (Nat.le_of_ble_eq_true rfl) d_D_apply_85 ⟨by decide, by decide⟩) hS (fun r9 hy9 H locs hqa hP hS => ?_)
            obtain ⟨hr9, E9, aE, a1, a2, ax⟩ := hqa
            have hE0 : h E9 = none := hx.2 _ aE
            have hxa : ext h hy9 [x, (g 10 1)] := (hx.more (fun z9 h9 => List.mem_cons.mpr (Or.inl (List.mem_singleton.mp h9)))).trans ax (fun z9 h9 => Or.inl (List.mem_cons_of_mem _ h9))
            have f72 : hy9 x = some (.inr (6, [.ref (g 10 0), .ref (g 10 1), .ref (g 10 2), .ref q18, .int (S 16 4)])) := ax.1 _ _ f35 (nin1 (pu_t f35 f71 (show (6 : Nat) ≠ 0 by decide)))
            have f73 : hy9 (g 4 6) = some (.inl (cs 3, 8, .inr (.inr (.inr (.inr v10))))) := ax.1 _ _ f44 (nin1 (pu_t f44 f71 (show (308 : Nat) ≠ 0 by decide)))
            have f74 : hy9 (g 5 6) = some (.inl (cs 0, 8, .inl v14)) := ax.1 _ _ f46 (nin1 (pu_t f46 f71 (show (108 : Nat) ≠ 0 by decide)))
            have f75 : hy9 q18 = some (.inr (3, [.ref nba, .ref nsa, .int 0])) := ax.1 _ _ f36 (nin1 (pu_t f36 f71 (show (3 : Nat) ≠ 0 by decide)))
            have f76 : hy9 nba = some (.inl (cs 3, 8, .inr (.inr (.inr (.inr (fun _ => none)))))) := ax.1 _ _ f37 (nin1 (pu_t f37 f71 (show (308 : Nat) ≠ 0 by decide)))
            have f77 : hy9 nsa = some (.inl (cs 0, 8, .inl (fun _ => 0))) := ax.1 _ _ f38 (nin1 (pu_t f38 f71 (show (108 : Nat) ≠ 0 by decide)))
            have f78 : hy9 (g 3 6) = some (.inr (3, [.ref (g 4 6), .ref (g 5 6), .int v6])) := ax.1 _ _ f41 (nin1 (pu_t f41 f71 (show (3 : Nat) ≠ 0 by decide)))
            refine lv_pop F.1 F.2.1 d_D_apply_88 rfl ?_
            refine lv_aload_n F.1 F.2.1 d_D_apply_89 rfl (lv_at hl 1 rfl) ?_
            refine pw_get F I_D hK.1 hP f72 rfl 1 (by decide) L_D_16 (fun _ z => z) rfl d_D_apply_90 ?_
            refine pw_ciE (pr_V F (c_AL_size l D cs A hy9 _ _ _ _ a2) X_D_44 rfl rfl ⟨by decide, by decide⟩ hP hA hK hS a2 rfl rfl rfl hl.1 rfl (Nat.le_of_ble_eq_true rfl) d_D_apply_93 ⟨by decide, by decide⟩) hS (fun H locs hP hS => ?_)
            refine W.eq (g2 := F0 m 96 ls [.int (nI (pT + 1))]) (by rw [hl0]; rfl) ?_
            refine lv_istore_n F.1 F.2.1 d_D_apply_96 rfl hl (by decide) rfl (fun ls hl => ?_)
            replace hl : lv_has ls 3 [(2, .int (nI (pT + 1))), (1, .ref (g 3 6)), (0, .ref x)] := hl
            refine lv_aload_n F.1 F.2.1 d_D_apply_97 rfl (lv_at hl 2 rfl) ?_
            refine lv_iload_n F.1 F.2.1 d_D_apply_98 rfl (lv_at hl 0 rfl) ?_
            obtain ⟨S0, hS0⟩ : ∃ z9 : St, z9 = sp (sp (mClr (mMove (sp S 16 0 0) (pT + 1))) 16 2 0) 16 3 (nI (pT + 1)) := ⟨_, rfl⟩
            have hsA := Sim.applied (S := sp S 16 0 0) (T := S0) ((hs.num 0).dpm (dp' := dpS (sp S 16 0 0)) (fun u _ => by show tn (sp S 16 0 0 11 u) ≤ _; rw [sp_k (by decide), hdpS]; exact Nat.le_refl _)) (hw.num (Or.inl rfl) 0) hlt5 g23 g29 g30 (Or.inr ⟨hgr, hE0⟩) f75 f76 f77 (by rw [sp_j (by decide)]; exact f72) a1 (fun i hi => absurd hi (by omega)) (by rw [hl0]; exact va_up_self _ _ _) (by rw [hl0]; exact a2) hxa (fun k i hl h1 h2 => by have hl : live S nf pT nt gr k i := (by unfold live at hl ⊢; rw [sp_off (show (0 : Nat) ≠ 16 by decide)] at hl; exact hl); exact nin2 (hs.2.2.2 k i hl) (hs.ne hl (show live S nf pT nt gr 10 1 from (by show 1 < 3; decide)) h1)) (fun κ j hj => by rw [hS0]; exact ap_k hj) (fun j a b => by rw [hS0]; exact ap_0 a b) (fun κ i a b => by rw [hS0]; exact ap_m (by omega) a b) (fun κ i a b c d => by rw [hS0]; exact ap_s b c d) (by rw [hS0, sp_j (by decide), sp_s])
            have hwq : WF (sp S0 16 4 (nI (pT + 1))) nf (pT + 1) nt noX := (by rw [hS0]; exact hw.applied hlt5)
            refine pw_cv (pr_V F (c_D_headFor l D cs A hy9 x (gA g (pT + 1) q18 nba nsa E9) (fun j => j = 1 ∨ gr j) (dpS (sp S 16 0 0)) S0 nf (pT + 1) nt hsA _ (pT + 1) hwq (Or.inl rfl) (by omega)) X_D_126 rfl rfl ⟨by decide, by decide⟩ hP hA hK hS f72 rfl rfl rfl hl.1 rfl (Nat.le_of_ble_eq_true rfl) d_D_apply_99 ⟨by decide, by decide⟩) hS (fun hv9 H locs hq hP hS => ?_)
            obtain ⟨pN, hs9, hN, hN5⟩ := hq
            have hst9 : stApply S = mSettle (sp S0 16 4 (nI (pT + 1))) := (by unfold stApply; rw [if_pos hth, hn3, nI_1, tn_nI (by omega), hS0])
            have hw9 : WF (stApply S) nf pN nt noX := (WFe.apply ⟨nf, pT, nt, hw⟩).same (by rw [hst9, mSettle_o (by decide) (by decide), sp_j (by decide), hS0, ap_k (by omega), sp_j (by decide)]; exact hn1) hnf8 (by rw [hst9]; exact hN) hN5 (by rw [hst9, mSettle_o (by decide) (by decide), sp_j (by decide), hS0, ap_k (by omega), sp_j (by decide)]; exact hn5) hnt4
            have hE9 : SimE cs hv9 x (stApply S) := SimE.mk (by rw [hst9]; exact hs9) (fun u _ => by rw [hst9, mSettle_k (by decide), sp_k (by decide), hS0, ap_k (by omega)]; exact Nat.le_refl _) hw9
            refine lv_iload_n F.1 F.2.1 d_D_apply_102 rfl (lv_at hl 0 rfl) ?_
            exact vx_ret (pw_iret F hr hlk hP hA hK hS (by decide) (by decide) d_D_apply_103 (⟨hth, hE9, by unfold rApply; rw [if_pos hth, hn3, nI_1]⟩))
        · skip
          exact pw_throw (is := 124) (text := "a transition goes on, or there are 5 patches") hst xw_2 (by decide) F hlk htb hP hK hS hl d_D_apply_70 d_D_apply_73 d_D_apply_74 d_D_apply_76 d_D_apply_79 (by decide) (by decide) (by decide) (by decide) (by decide) (by decide) ((by have hth : thApply S = 3 := (by unfold thApply; rw [if_neg (fun z9 => c42 (hnv.trans z9)), if_neg (fun z9 => z9 b47), if_pos (Or.inr (by have h9 := (Nat.lt_or_ge pT 5).elim (fun h9 => absurd (nI_lt (a := pT) (b := 5) h9 (by decide)) c53) id; rw [hn3, show pT = 5 by omega]; rfl))]); exact Or.inr (Or.inr ⟨rfl, hth, (by have hst9 : stApply S = sp (mClr (sp S 16 0 3)) 16 2 0 := (by unfold stApply; rw [if_neg (by rw [hth]; decide), hth]); have hw9 : WF (stApply S) nf pT nt noX := (WFe.apply ⟨nf, pT, nt, hw⟩).same (by rw [hst9, sp_j (by decide), mClr_k (by decide), sp_j (by decide)]; exact hn1) hnf8 (by rw [hst9, sp_j (by decide), mClr_k (by decide), sp_j (by decide)]; exact hn3) hp5 (by rw [hst9, sp_j (by decide), mClr_k (by decide), sp_j (by decide)]; exact hn5) hnt4; exact SimE.mk (by rw [hst9]; exact hclr 3) (fun u _ => by rw [hst9, sp_k (by decide), mClr_k (by decide)]; exact Nat.le_refl _) hw9)⟩)))
    · skip
      refine W.eq (g2 := F0 m 38 ls [.int 0]) (by rw [hq2 (fun z9 => b47 (hsi.mp z9))]) ?_
      refine lv_if_ne (tgt := 51) F.1 F.2.1 d_D_apply_38 (by decide) (fun c79 => absurd (by decide) c79) (fun c79 => ?_)
      exact pw_throw (is := 121) (text := "a signature is another one than the function's") hst xw_3 (by decide) F hlk htb hP hK hS hl d_D_apply_41 d_D_apply_44 d_D_apply_45 d_D_apply_47 d_D_apply_50 (by decide) (by decide) (by decide) (by decide) (by decide) (by decide) ((by have hth : thApply S = 2 := (by unfold thApply; rw [if_neg (fun z9 => c42 (hnv.trans z9)), if_pos b47]); exact Or.inr (Or.inl ⟨rfl, hth, (by have hst9 : stApply S = sp (mClr (sp S 16 0 2)) 16 2 0 := (by unfold stApply; rw [if_neg (by rw [hth]; decide), hth]); have hw9 : WF (stApply S) nf pT nt noX := (WFe.apply ⟨nf, pT, nt, hw⟩).same (by rw [hst9, sp_j (by decide), mClr_k (by decide), sp_j (by decide)]; exact hn1) hnf8 (by rw [hst9, sp_j (by decide), mClr_k (by decide), sp_j (by decide)]; exact hn3) hp5 (by rw [hst9, sp_j (by decide), mClr_k (by decide), sp_j (by decide)]; exact hn5) hnt4; exact SimE.mk (by rw [hst9]; exact hclr 2) (fun u _ => by rw [hst9, sp_k (by decide), mClr_k (by decide)]; exact Nat.le_refl _) hw9)⟩)))
  · skip
    exact pw_throw (is := 113) (text := "the draft names no function") hst xw_1 (by decide) F hlk htb hP hK hS hl d_D_apply_23 d_D_apply_26 d_D_apply_27 d_D_apply_29 d_D_apply_32 (by decide) (by decide) (by decide) (by decide) (by decide) (by decide) ((by have hth : thApply S = 1 := (by unfold thApply; rw [if_pos (hnv ▸ c42)]); exact Or.inl ⟨rfl, hth, (by have hst9 : stApply S = sp (mClr (sp S 16 0 1)) 16 2 0 := (by unfold stApply; rw [if_neg (by rw [hth]; decide), hth]); have hw9 : WF (stApply S) nf pT nt noX := (WFe.apply ⟨nf, pT, nt, hw⟩).same (by rw [hst9, sp_j (by decide), mClr_k (by decide), sp_j (by decide)]; exact hn1) hnf8 (by rw [hst9, sp_j (by decide), mClr_k (by decide), sp_j (by decide)]; exact hn3) hp5 (by rw [hst9, sp_j (by decide), mClr_k (by decide), sp_j (by decide)]; exact hn5) hnt4; exact SimE.mk (by rw [hst9]; exact hclr 1) (fun u _ => by rw [hst9, sp_k (by decide), mClr_k (by decide)]; exact Nat.le_refl _) hw9)⟩))
