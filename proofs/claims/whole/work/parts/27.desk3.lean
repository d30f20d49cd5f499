theorem WF.tgt {S : St} {nf p nt : Nat} {X : Nat → Prop} (h : WF S nf p nt X) : (S 16 4 < 0 ↔ S 16 4 = -1) ∧ (¬ S 16 4 = -1 → 1 ≤ p) := by
  have h2 := h.1.2.1
  rcases h.1.2.2.2.2.2.2.1 with h7 | ⟨h7, h8⟩
  · exact ⟨⟨fun _ => h7, fun _ => by rw [h7]; decide⟩, fun z => absurd h7 z⟩
  · have h9 : (0 : Int32) ≤ S 16 4 := by
      rcases h8 with h8 | h8 <;> rw [h8] <;> exact nI_pos' (by omega)
    exact ⟨⟨fun z => absurd z (Int32.not_lt.mpr h9), fun z => by rw [z] at h9; exact absurd h9 (by decide)⟩, fun _ => h7⟩
abbrev rm_D_isInLatestPatch : Room := { frames := 3, cells := 0, slots := 0, locals := 64 }
set_option maxHeartbeats 4000000 in
set_option maxRecDepth 100000 in
theorem c_D_isInLatestPatch (l : Launch) (D : va_G) (cs : Nat → Nat) (A : Nat → Prop) (h : pw_H) (x : Nat) (g : Gh) (gr : Nat → Prop) (dp : Nat → Nat) (S : St) (nf pT nt : Nat) (hs : Sim cs h x g gr dp S nf pT nt) (X : Nat → Prop) (hw : WF S nf pT nt X) (hp1 : 1 ≤ pT) (f : Nat) (hf : f < 8) : pm l y_D_isInLatestPatch b_D_isInLatestPatch 2 (some .boolean) rm_D_isInLatestPatch [.ref x, .int (nI f)] D cs A h (va_Qi (fun (r : Int32) (h' : pw_H) => h' = h ∧ (S 0 (8 * pT + f) = 0 → r = 0) ∧ (¬ S 0 (8 * pT + f) = 0 → r = 1)) (ww D cs A) A) 0 0 := by
  refine pm_of R_D rfl (by decide) (Nat.le_of_ble_eq_true rfl) (fun p e s m below meth c ls F hr hlk hnm hP hA hK hl => ?_)
  have hS : va_S A s.heap s.heap [] := va_S.rf
  replace hl : lv_has ls 2 [(0, .ref x), (1, .int (nI f))] := hl
  have hp5 := hw.1.2.1
  refine lv_aload_n F.1 F.2.1 d_D_isInLatestPatch_0 rfl (lv_at hl 0 rfl) ?_
  have f1 : h x = some (.inr (6, [.ref (g 10 0), .ref (g 10 1), .ref (g 10 2), .ref (g 3 6), .int (S 16 4)])) := hs.1
  refine pw_get F I_D hK.1 hP f1 rfl 1 (by decide) L_D_16 (fun _ z => z) rfl d_D_isInLatestPatch_1 ?_
  obtain ⟨q2, n3, f4, _, _⟩ := hs.ls (show 1 < 3 by decide)
  have f5 : h (g 10 1) = some (.inr (0, [.ref q2, .int (nI pT), .int n3])) := f4
  refine pw_ciE (pr_V F (c_AL_isEmpty l D cs A h _ _ _ _ f5) X_D_200 rfl rfl ⟨by decide, by decide⟩ hP hA hK hS f5 rfl rfl rfl hl.1 rfl (Nat.le_of_ble_eq_true rfl) d_D_isInLatestPatch_4 ⟨by decide, by decide⟩) hS (fun H locs hP hS => ?_)
  refine W.eq (g2 := F0 m 7 ls [.int 0]) (by rw [if_neg (show ¬ nI pT = (0 : Int32) from fun z9 => by have := (nI_eq (a := pT) (b := 0) (by omega) (by decide)).mp z9; omega)]) ?_
  refine lv_if_ne (tgt := 40) F.1 F.2.1 d_D_isInLatestPatch_7 (by decide) (fun c6 => absurd (by decide) c6) (fun c6 => ?_)
  refine lv_aload_n F.1 F.2.1 d_D_isInLatestPatch_10 rfl (lv_at hl 0 rfl) ?_
  refine pw_get F I_D hK.1 hP f1 rfl 1 (by decide) L_D_16 (fun _ z => z) rfl d_D_isInLatestPatch_11 ?_
  refine lv_aload_n F.1 F.2.1 d_D_isInLatestPatch_14 rfl (lv_at hl 0 rfl) ?_
  refine pw_get F I_D hK.1 hP f1 rfl 1 (by decide) L_D_16 (fun _ z => z) rfl d_D_isInLatestPatch_15 ?_
  refine pw_ciE (pr_V F (c_AL_size l D cs A h _ _ _ _ f5) X_D_44 rfl rfl ⟨by decide, by decide⟩ hP hA hK hS f5 rfl rfl rfl hl.1 rfl (Nat.le_of_ble_eq_true rfl) d_D_isInLatestPatch_18 ⟨by decide, by decide⟩) hS (fun H locs hP hS => ?_)
  refine lv_iconst (v := 1) F.1 F.2.1 d_D_isInLatestPatch_21 (by decide) ?_
  refine lv_isub F.1 F.2.1 d_D_isInLatestPatch_22 ?_
  refine W.eq (g2 := F0 m 23 ls [.int (nI (pT - 1)), .ref (g 10 1)]) (by rw [show (1 : Int32) = nI 1 from rfl, show nI pT - nI 1 = nI (pT - 1) from pk_sub (by omega)]) ?_
  obtain ⟨_, n7, v8, f9, f10, k11⟩ := hs.le (show 1 < 3 by decide) (show 0 < pT by omega)
  refine pw_crE (pr_V F (c_AL_get l D cs A h _ _ pT (pT - 1) _ _ v8 (by omega) (by omega) (k11 (pT - 1) (show pT - 1 < pT by omega)) f9 f10) X_D_78 rfl rfl ⟨by decide, by decide⟩ hP hA hK hS f5 rfl rfl rfl hl.1 rfl (Nat.le_of_ble_eq_true rfl) d_D_isInLatestPatch_23 ⟨by decide, by decide⟩) hS (fun H locs hP hS => ?_)
  refine W.eq (g2 := F0 m 26 ls [.ref (g 3 pT)]) (by rw [show elL g 1 (pT - 1) = g 3 pT from by show g 3 (pT - 1 + 1) = _; rw [Nat.sub_add_cancel hp1]]) ?_
  obtain ⟨v12, f13, k14⟩ := hs.pt (l := pT) (by omega)
  have f15 : h (g 3 pT) = some (.inr (3, [.ref (g 4 pT), .ref (g 5 pT), .int v12])) := f13
  refine va_castY (C := R_P) F.1 F.2.1 F.2.2.2.1 (F.2.2.2.2 _ C_D_22) (hK.2.2.2.2.2.2.2.1 ("PatchDesk$Patch", "PatchDesk$Patch") (by decide)) (pw_recv hK.1 hP f15 rfl) d_D_isInLatestPatch_26 ?_
  refine lv_iload_n F.1 F.2.1 d_D_isInLatestPatch_29 rfl (lv_at hl 1 rfl) ?_
  obtain ⟨v16, f17, k18⟩ := hs.bs (l := pT) (by omega)
  have f19 : h (g 4 pT) = some (.inl (cs 3, 8, .inr (.inr (.inr (.inr v16))))) := f17
  refine pw_ciE (pr_V F (c_P_hasNamed l D cs A h _ _ f _ _ _ (by omega) f15 f19) X_D_69 rfl rfl ⟨by decide, by decide⟩ hP hA hK hS f15 rfl rfl rfl hl.1 rfl (Nat.le_of_ble_eq_true rfl) d_D_isInLatestPatch_30 ⟨by decide, by decide⟩) hS (fun H locs hP hS => ?_)
  by_cases b20 : v16 f = none
  · skip
    refine W.eq (g2 := F0 m 33 ls [.int 0]) (by rw [if_pos b20]) ?_
    refine lv_if_eq (tgt := 40) F.1 F.2.1 d_D_isInLatestPatch_33 (by decide) (fun c21 => ?_) (fun c21 => absurd (by decide) c21)
    refine lv_iconst (v := 0) F.1 F.2.1 d_D_isInLatestPatch_40 (by decide) ?_
    exact pw_zret F hr rfl hlk hP hA hK hS (by decide) (by decide) d_D_isInLatestPatch_41 ⟨rfl, fun _ => rfl, fun z9 => (hw.1.2.2.2.2.2.2.2.1 (8 * pT + f) (by omega)).elim (fun z8 => absurd z8 z9) (fun z8 => by have h9 := (k18 f (by omega)).1 z8; rw [h9] at b20; exact absurd b20 (by simp))⟩
  · skip
    refine W.eq (g2 := F0 m 33 ls [.int 1]) (by rw [if_neg b20]) ?_
    refine lv_if_eq (tgt := 40) F.1 F.2.1 d_D_isInLatestPatch_33 (by decide) (fun c22 => absurd c22 (by decide)) (fun c22 => ?_)
    refine lv_iconst (v := 1) F.1 F.2.1 d_D_isInLatestPatch_36 (by decide) ?_
    refine lv_goto (tgt := 41) F.1 F.2.1 d_D_isInLatestPatch_37 (by decide) ?_
    exact pw_zret F hr rfl hlk hP hA hK hS (by decide) (by decide) d_D_isInLatestPatch_41 ⟨rfl, fun z9 => absurd ((k18 f (by omega)).2 z9) b20, fun _ => rfl⟩
abbrev rm_D_hasPatchedFrame : Room := { frames := 4, cells := 0, slots := 0, locals := 85 }
set_option maxHeartbeats 4000000 in
set_option maxRecDepth 100000 in
theorem c_D_hasPatchedFrame (l : Launch) (D : va_G) (cs : Nat → Nat) (A : Nat → Prop) (h : pw_H) (x : Nat) (g : Gh) (gr : Nat → Prop) (dp : Nat → Nat) (S : St) (nf pT nt : Nat) (hs : Sim cs h x g gr dp S nf pT nt) (X : Nat → Prop) (hw : WF S nf pT nt X) (t : Nat) (htn : t < nt) (hdp : dp t = tn (S 11 t)) (hp1 : 1 ≤ pT) : pm l y_D_hasPatchedFrame b_D_hasPatchedFrame 3 (some .boolean) rm_D_hasPatchedFrame [.ref x, .ref (g 6 t)] D cs A h (va_Qi (fun (r : Int32) (h' : pw_H) => h' = h ∧ (mClear S t → r = 0) ∧ (¬ mClear S t → r = 1)) (ww D cs A) A) 0 0 := by
  refine pm_of R_D rfl (by decide) (Nat.le_of_ble_eq_true rfl) (fun p e s m below meth c ls F hr hlk hnm hP hA hK hl => ?_)
  have hS : va_S A s.heap s.heap [] := va_S.rf
  replace hl : lv_has ls 3 [(0, .ref x), (1, .ref (g 6 t))] := hl
  obtain ⟨d, r, a, z, L, mf, ht4, h6, hd, hr48, hrw, hz12, hz, haz, ha, hL5, hL, hmf, hm, hh1, hop, rows⟩ := hw.at htn
  have hdp1 : dp t = d + 1 := by rw [hdp, hd, tn_nI (by omega)]
  have hnf8 := hw.1.1
  have hp5 := hw.1.2.1
  have hnt4 := hw.1.2.2.1
  refine lv_iconst (v := 0) F.1 F.2.1 d_D_hasPatchedFrame_0 (by decide) ?_
  refine lv_istore_n F.1 F.2.1 d_D_hasPatchedFrame_1 rfl hl (by decide) rfl (fun ls hl => ?_)
  replace hl : lv_has ls 3 [(2, .int 0), (0, .ref x), (1, .ref (g 6 t))] := hl
  obtain ⟨H, hH0⟩ : ∃ H : Heap, H = s.heap := ⟨_, rfl⟩
  obtain ⟨locs, hlo0⟩ : ∃ locs : List Loc, locs = [] := ⟨_, rfl⟩
  replace hP : pw D vwCl A h H := by rw [hH0]; exact hP
  replace hS : va_S A s.heap H locs := by rw [hH0, hlo0]; exact hS
  rw [← hH0, ← hlo0]
  clear hH0 hlo0
  obtain ⟨i, hi0⟩ : ∃ i : Nat, i = 0 := ⟨0, rfl⟩
  have hiL : i ≤ d + 1 := by omega
  obtain ⟨n, hn⟩ : ∃ n : Nat, d + 1 - i = n := ⟨_, rfl⟩
  have hc : ∀ j, j < i → S 0 (8 * pT + tn (S 12 (6 * t + j)) % 8) = 0 := fun j hj => by omega
  replace hl : lv_has ls 3 [(2, .int (nI i)), (0, .ref x), (1, .ref (g 6 t))] := by rw [hi0]; exact hl
  clear hi0
  induction n generalizing ls i H locs with
  | zero =>
    refine lv_iload_n F.1 F.2.1 d_D_hasPatchedFrame_2 rfl (lv_at hl 0 rfl) ?_
    refine lv_aload_n F.1 F.2.1 d_D_hasPatchedFrame_3 rfl (lv_at hl 2 rfl) ?_
    have f1 : h (g 6 t) = some (.inr (5, [.ref (g 7 t), .int (S 11 t), .int (S 6 t), .int (S 7 t), .int (S 8 t), .int (S 9 t), .int (S 10 t)])) := hs.tk (by omega)
    refine pw_get F I_T hK.1 hP f1 rfl 1 (by decide) L_D_168 (fun _ z => z) rfl d_D_hasPatchedFrame_4 ?_
    refine W.eq (g2 := F0 m 7 ls [.int (nI (d + 1)), .int (nI i)]) (by rw [hd]) ?_
    refine lv_icmp_ge (tgt := 34) F.1 F.2.1 d_D_hasPatchedFrame_7 (by decide) (fun c2 => ?_) (fun c2 => absurd (nI_le (show d + 1 ≤ i by omega) (by omega)) c2)
    refine lv_iconst (v := 0) F.1 F.2.1 d_D_hasPatchedFrame_34 (by decide) ?_
    exact pw_zret F hr rfl hlk hP hA hK hS (by decide) (by decide) d_D_hasPatchedFrame_35 ⟨rfl, fun _ => rfl, fun z9 => absurd ((mClear_iff hd h6 hw.1.2.2.2.2.1 hp5).mpr (fun j hj => hc j (by omega))) z9⟩
  | succ n ih =>
    obtain ⟨rk, hrk, hrow⟩ := rows i (by omega)
    refine lv_iload_n F.1 F.2.1 d_D_hasPatchedFrame_2 rfl (lv_at hl 0 rfl) ?_
    refine lv_aload_n F.1 F.2.1 d_D_hasPatchedFrame_3 rfl (lv_at hl 2 rfl) ?_
    have f3 : h (g 6 t) = some (.inr (5, [.ref (g 7 t), .int (S 11 t), .int (S 6 t), .int (S 7 t), .int (S 8 t), .int (S 9 t), .int (S 10 t)])) := hs.tk (by omega)
    refine pw_get F I_T hK.1 hP f3 rfl 1 (by decide) L_D_168 (fun _ z => z) rfl d_D_hasPatchedFrame_4 ?_
    refine W.eq (g2 := F0 m 7 ls [.int (nI (d + 1)), .int (nI i)]) (by rw [hd]) ?_
    refine lv_icmp_ge (tgt := 34) F.1 F.2.1 d_D_hasPatchedFrame_7 (by decide) (fun c4 => absurd c4 (nI_ge (show i < d + 1 by omega) (by omega))) (fun c4 => ?_)
    refine lv_aload_n F.1 F.2.1 d_D_hasPatchedFrame_10 rfl (lv_at hl 1 rfl) ?_
    refine lv_aload_n F.1 F.2.1 d_D_hasPatchedFrame_11 rfl (lv_at hl 2 rfl) ?_
    refine pw_get F I_T hK.1 hP f3 rfl 0 (by decide) L_D_185 (fun _ z => z) rfl d_D_hasPatchedFrame_12 ?_
    refine lv_iload_n F.1 F.2.1 d_D_hasPatchedFrame_15 rfl (lv_at hl 0 rfl) ?_
    obtain ⟨v5, f6, k7⟩ := hs.fs (t := t) (by omega)
    have f8 : h (g 7 t) = some (.inl (cs 4, 6, .inr (.inr (.inr (.inr v5))))) := f6
    refine pw_aldqN F hK.1 hP 4 f8 rfl (k := i) (by omega) (by decide) d_D_hasPatchedFrame_16 ?_
    refine W.eq (g2 := F0 m 17 ls [.ref ((g 8 (6 * t + i))), .ref x]) (by rw [k7 i (by omega)]; rfl) ?_
    have f9 := hs.fo (t := t) (k := i) htn (by omega) (by omega)
    rw [hrow, tn_nI (by omega)] at f9
    refine pw_get F I_Fr hK.1 hP f9 rfl 0 (by decide) L_D_189 (fun _ z => z) rfl d_D_hasPatchedFrame_17 ?_
    have f10 : h x = some (.inr (6, [.ref (g 10 0), .ref (g 10 1), .ref (g 10 2), .ref (g 3 6), .int (S 16 4)])) := hs.1
    refine pw_ci (pr_V F (c_D_isInLatestPatch l D cs A h x g gr dp S nf pT nt hs X hw hp1 (rk % 8) (by omega)) X_D_223 rfl rfl ⟨by decide, by decide⟩ hP hA hK hS f10 rfl rfl rfl hl.1 rfl (Nat.le_of_ble_eq_true rfl) d_D_hasPatchedFrame_20 ⟨by decide, by decide⟩) hS (fun r9 hn9 H locs hq hP hS => ?_)
    obtain ⟨he9, hq1, hq2⟩ := hq
    rw [he9] at hP
    clear he9
    by_cases b11 : S 0 (8 * pT + rk % 8) = 0
    · skip
      refine W.eq (g2 := F0 m 23 ls [.int 0]) (by rw [hq1 b11]) ?_
      refine lv_if_eq (tgt := 28) F.1 F.2.1 d_D_hasPatchedFrame_23 (by decide) (fun c12 => ?_) (fun c12 => absurd (by decide) c12)
      refine lv_iinc (k := 0) (v := nI (i + 1)) F.1 F.2.1 d_D_hasPatchedFrame_28 hl rfl (by rw [show Int32.ofInt 1 = nI 1 from rfl, nI_add]) (by decide) rfl (fun ls hl => ?_)
      replace hl : lv_has ls 3 [(2, .int (nI (i + 1))), (0, .ref x), (1, .ref (g 6 t))] := hl
      refine lv_goto (tgt := 2) F.1 F.2.1 d_D_hasPatchedFrame_31 (by decide) ?_
      have hc9 : ∀ j, j < i + 1 → S 0 (8 * pT + tn (S 12 (6 * t + j)) % 8) = 0 := fun j hj => (Nat.lt_or_ge j i).elim (fun h9 => hc j h9) (fun h9 => by rw [show j = i by omega, hrow, tn_nI (by omega)]; exact b11)
      exact ih (ls := ls) (i := i + 1) (H := H) (locs := locs) (by first | exact hl | exact hP | exact hS | exact hc9 | omega) (by first | exact hl | exact hP | exact hS | exact hc9 | omega) (by first | exact hl | exact hP | exact hS | exact hc9 | omega) (by first | exact hl | exact hP | exact hS | exact hc9 | omega) (by first | exact hl | exact hP | exact hS | exact hc9 | omega) (by first | exact hl | exact hP | exact hS | exact hc9 | omega)
    · skip
      refine W.eq (g2 := F0 m 23 ls [.int 1]) (by rw [hq2 b11]) ?_
      refine lv_if_eq (tgt := 28) F.1 F.2.1 d_D_hasPatchedFrame_23 (by decide) (fun c13 => absurd c13 (by decide)) (fun c13 => ?_)
      refine lv_iconst (v := 1) F.1 F.2.1 d_D_hasPatchedFrame_26 (by decide) ?_
      exact pw_zret F hr rfl hlk hP hA hK hS (by decide) (by decide) d_D_hasPatchedFrame_27 ⟨rfl, fun z9 => absurd ((mClear_iff hd h6 hw.1.2.2.2.2.1 hp5).mp z9 i (by omega)) (by rw [hrow, tn_nI (by omega)]; exact b11), fun _ => rfl⟩
abbrev rm_D_canGoOver : Room := { frames := 5, cells := 0, slots := 0, locals := 107 }
set_option maxHeartbeats 4000000 in
set_option maxRecDepth 100000 in
theorem c_D_canGoOver (l : Launch) (D : va_G) (cs : Nat → Nat) (A : Nat → Prop) (h : pw_H) (x : Nat) (g : Gh) (gr : Nat → Prop) (dp : Nat → Nat) (S : St) (nf pT nt : Nat) (hs : Sim cs h x g gr dp S nf pT nt) (X : Nat → Prop) (hw : WF S nf pT nt X) (t : Nat) (htn : t < nt) (hdp : dp t = tn (S 11 t)) : pm l y_D_canGoOver b_D_canGoOver 3 (some .boolean) rm_D_canGoOver [.ref x, .ref (g 6 t)] D cs A h (va_Qi (fun (r : Int32) (h' : pw_H) => h' = h ∧ (mGoes S t → r = 1) ∧ (¬ mGoes S t → r = 0)) (ww D cs A) A) 0 0 := by
  refine pm_of R_D rfl (by decide) (Nat.le_of_ble_eq_true rfl) (fun p e s m below meth c ls F hr hlk hnm hP hA hK hl => ?_)
  have hS : va_S A s.heap s.heap [] := va_S.rf
  replace hl : lv_has ls 3 [(0, .ref x), (1, .ref (g 6 t))] := hl
  obtain ⟨d, r, a, z, L, mf, ht4, h6, hd, hr48, hrw, hz12, hz, haz, ha, hL5, hL, hmf, hm, hh1, hop, rows⟩ := hw.at htn
  have hdp1 : dp t = d + 1 := by rw [hdp, hd, tn_nI (by omega)]
  have hnf8 := hw.1.1
  have hp5 := hw.1.2.1
  have hnt4 := hw.1.2.2.1
  refine lv_aload_n F.1 F.2.1 d_D_canGoOver_0 rfl (lv_at hl 0 rfl) ?_
  have f1 : h x = some (.inr (6, [.ref (g 10 0), .ref (g 10 1), .ref (g 10 2), .ref (g 3 6), .int (S 16 4)])) := hs.1
  refine pw_get F I_D hK.1 hP f1 rfl 4 (by decide) L_D_29 (fun _ z => z) rfl d_D_canGoOver_1 ?_
  refine lv_iconst (v := (-1)) F.1 F.2.1 d_D_canGoOver_4 (by decide) ?_
  refine lv_icmp_eq (tgt := 19) F.1 F.2.1 d_D_canGoOver_5 (by decide) (fun c2 => ?_) (fun c2 => ?_)
  · skip
    refine lv_iconst (v := 0) F.1 F.2.1 d_D_canGoOver_19 (by decide) ?_
    exact pw_zret F hr rfl hlk hP hA hK hS (by decide) (by decide) d_D_canGoOver_20 ⟨rfl, fun z9 => absurd ((mGoes_iff hd h6 hrw hr48 ha (by omega)).mp z9) (fun z8 => z8.1 (hw.tgt.1.mpr c2)), fun _ => rfl⟩
  · skip
    refine lv_aload_n F.1 F.2.1 d_D_canGoOver_8 rfl (lv_at hl 1 rfl) ?_
    have f3 : h (g 6 t) = some (.inr (5, [.ref (g 7 t), .int (S 11 t), .int (S 6 t), .int (S 7 t), .int (S 8 t), .int (S 9 t), .int (S 10 t)])) := hs.tk (by omega)
    refine pw_get F I_T hK.1 hP f3 rfl 2 (by decide) L_D_153 (fun _ z => z) rfl d_D_canGoOver_9 ?_
    refine W.eq (g2 := F0 m 12 ls [.int (nI L)]) (by rw [hL]) ?_
    refine lv_aload_n F.1 F.2.1 d_D_canGoOver_12 rfl (lv_at hl 0 rfl) ?_
    refine pw_get F I_D hK.1 hP f1 rfl 4 (by decide) L_D_29 (fun _ z => z) rfl d_D_canGoOver_13 ?_
    refine lv_icmp_ne (tgt := 21) F.1 F.2.1 d_D_canGoOver_16 (by decide) (fun c4 => ?_) (fun c4 => ?_)
    · skip
      refine lv_aload_n F.1 F.2.1 d_D_canGoOver_21 rfl (lv_at hl 1 rfl) ?_
      obtain ⟨v5, f6, k7⟩ := hs.fs (t := t) (by omega)
      have f8 : h (g 7 t) = some (.inl (cs 4, 6, .inr (.inr (.inr (.inr v5))))) := f6
      refine pw_crE (pr_V F (c_T_top l D cs A h _ _ d (g 8 (6 * t + d)) _ _ _ _ _ v5 (by omega) (k7 d (by omega)) (by have h9 := f3; rw [hd] at h9; exact h9) f8) X_D_213 rfl rfl ⟨by decide, by decide⟩ hP hA hK hS f3 rfl rfl rfl hl.1 rfl (Nat.le_of_ble_eq_true rfl) d_D_canGoOver_22 ⟨by decide, by decide⟩) hS (fun H locs hP hS => ?_)
      have f9 := hs.fo (t := t) (k := d) htn (by omega) (by omega)
      rw [hrw, tn_nI (by omega), ha] at f9
      have f10 : h (g 0 r) = some (.inr (1, [.ref (g 1 r), .ref (g 2 r), .int (S 2 r)])) := hs.b (by omega) hh1
      obtain ⟨v11, f12, k13⟩ := hs.kd (r := r) (by omega) hh1
      have f14 : h (g 1 r) = some (.inl (cs 0, 12, .inl v11)) := f12
      refine pw_ciE (pr_V F (c_Fr_nextKind l D cs A h _ _ _ a z _ _ _ _ v11 haz hz12 f9 (by have h9 := f10; rw [hz] at h9; exact h9) f14) X_D_217 rfl rfl ⟨by decide, by decide⟩ hP hA hK hS f9 rfl rfl rfl hl.1 rfl (Nat.le_of_ble_eq_true rfl) d_D_canGoOver_25 ⟨by decide, by decide⟩) hS (fun H locs hP hS => ?_)
      by_cases b15 : a = z
      · skip
        refine W.eq (g2 := F0 m 28 ls [.int (-1)]) (by rw [if_pos b15]) ?_
        refine lv_istore_n F.1 F.2.1 d_D_canGoOver_28 rfl hl (by decide) rfl (fun ls hl => ?_)
        replace hl : lv_has ls 3 [(2, .int (-1)), (0, .ref x), (1, .ref (g 6 t))] := hl
        refine lv_iload_n F.1 F.2.1 d_D_canGoOver_29 rfl (lv_at hl 0 rfl) ?_
        refine lv_iconst (v := (-1)) F.1 F.2.1 d_D_canGoOver_30 (by decide) ?_
        refine lv_icmp_ne (tgt := 48) F.1 F.2.1 d_D_canGoOver_31 (by decide) (fun c16 => absurd (by decide) c16) (fun c16 => ?_)
        refine lv_aload_n F.1 F.2.1 d_D_canGoOver_34 rfl (lv_at hl 2 rfl) ?_
        refine pw_get F I_T hK.1 hP f3 rfl 1 (by decide) L_D_168 (fun _ z => z) rfl d_D_canGoOver_35 ?_
        refine W.eq (g2 := F0 m 38 ls [.int (nI (d + 1))]) (by rw [hd]) ?_
        refine lv_iconst (v := 1) F.1 F.2.1 d_D_canGoOver_38 (by decide) ?_
        refine lv_icmp_ne (tgt := 46) F.1 F.2.1 d_D_canGoOver_39 (by decide) (fun c17 => ?_) (fun c17 => ?_)
        · skip
          refine lv_iconst (v := 0) F.1 F.2.1 d_D_canGoOver_46 (by decide) ?_
          exact pw_zret F hr rfl hlk hP hA hK hS (by decide) (by decide) d_D_canGoOver_47 ⟨rfl, fun z9 => absurd ((mGoes_iff hd h6 hrw hr48 ha (by omega)).mp z9) (fun z8 => z8.2.2.elim (fun z7 => c17 z7.2) (fun z7 => z7.1 (by rw [hz, b15]))), fun _ => rfl⟩
        · skip
          refine lv_iconst (v := 1) F.1 F.2.1 d_D_canGoOver_42 (by decide) ?_
          refine lv_goto (tgt := 47) F.1 F.2.1 d_D_canGoOver_43 (by decide) ?_
          exact pw_zret F hr rfl hlk hP hA hK hS (by decide) (by decide) d_D_canGoOver_47 ⟨rfl, fun _ => rfl, fun z9 => absurd ((mGoes_iff hd h6 hrw hr48 ha (by omega)).mpr ⟨fun z8 => c2 (hw.tgt.1.mp z8), fun z8 => c4 (hL.symm.trans z8), Or.inl ⟨by rw [hz, b15], c17⟩⟩) z9⟩
      · skip
        refine W.eq (g2 := F0 m 28 ls [.int (S 3 (12 * r + a))]) (by rw [if_neg b15, k13 a (by omega) (by rw [hz, tn_nI (by omega)]; omega)]) ?_
        refine lv_istore_n F.1 F.2.1 d_D_canGoOver_28 rfl hl (by decide) rfl (fun ls hl => ?_)
        replace hl : lv_has ls 3 [(2, .int (S 3 (12 * r + a))), (0, .ref x), (1, .ref (g 6 t))] := hl
        refine lv_iload_n F.1 F.2.1 d_D_canGoOver_29 rfl (lv_at hl 0 rfl) ?_
        refine lv_iconst (v := (-1)) F.1 F.2.1 d_D_canGoOver_30 (by decide) ?_
        refine lv_icmp_ne (tgt := 48) F.1 F.2.1 d_D_canGoOver_31 (by decide) (fun c18 => ?_) (fun c18 => absurd c18 (fun z9 => by have h9 := (hop a (by omega)).1; rw [z9] at h9; exact absurd h9 (by decide)))
        refine lv_iload_n F.1 F.2.1 d_D_canGoOver_48 rfl (lv_at hl 0 rfl) ?_
        refine lv_iconst (v := 2) F.1 F.2.1 d_D_canGoOver_49 (by decide) ?_
        refine lv_icmp_ne (tgt := 65) F.1 F.2.1 d_D_canGoOver_50 (by decide) (fun c19 => ?_) (fun c19 => ?_)
        · skip
          refine lv_iconst (v := 0) F.1 F.2.1 d_D_canGoOver_65 (by decide) ?_
          exact pw_zret F hr rfl hlk hP hA hK hS (by decide) (by decide) d_D_canGoOver_66 ⟨rfl, fun z9 => absurd ((mGoes_iff hd h6 hrw hr48 ha (by omega)).mp z9) (fun z8 => z8.2.2.elim (fun z7 => (fun z6 => b15 ((nI_eq (by omega) (by omega)).mp (z6.trans hz))) z7.1) (fun z7 => c19 z7.2.1)), fun _ => rfl⟩
        · skip
          refine lv_aload_n F.1 F.2.1 d_D_canGoOver_53 rfl (lv_at hl 1 rfl) ?_
          refine lv_aload_n F.1 F.2.1 d_D_canGoOver_54 rfl (lv_at hl 2 rfl) ?_
          refine pw_ci (pr_V F (c_D_hasPatchedFrame l D cs A h x g gr dp S nf pT nt hs X hw t htn hdp (hw.tgt.2 c2)) X_D_220 rfl rfl ⟨by decide, by decide⟩ hP hA hK hS f1 rfl rfl rfl hl.1 rfl (Nat.le_of_ble_eq_true rfl) d_D_canGoOver_55 ⟨by decide, by decide⟩) hS (fun r9 hn9 H locs hq hP hS => ?_)
          obtain ⟨he9, hq1, hq2⟩ := hq
          rw [he9] at hP
          clear he9
          by_cases b20 : mClear S t
          · skip
            refine W.eq (g2 := F0 m 58 ls [.int 0]) (by rw [hq1 b20]) ?_
            refine lv_if_ne (tgt := 65) F.1 F.2.1 d_D_canGoOver_58 (by decide) (fun c21 => absurd (by decide) c21) (fun c21 => ?_)
            refine lv_iconst (v := 1) F.1 F.2.1 d_D_canGoOver_61 (by decide) ?_
            refine lv_goto (tgt := 66) F.1 F.2.1 d_D_canGoOver_62 (by decide) ?_
            exact pw_zret F hr rfl hlk hP hA hK hS (by decide) (by decide) d_D_canGoOver_66 ⟨rfl, fun _ => rfl, fun z9 => absurd ((mGoes_iff hd h6 hrw hr48 ha (by omega)).mpr ⟨fun z8 => c2 (hw.tgt.1.mp z8), fun z8 => c4 (hL.symm.trans z8), Or.inr ⟨fun z6 => b15 ((nI_eq (by omega) (by omega)).mp (z6.trans hz)), c19, b20⟩⟩) z9⟩
          · skip
            refine W.eq (g2 := F0 m 58 ls [.int 1]) (by rw [hq2 b20]) ?_
            refine lv_if_ne (tgt := 65) F.1 F.2.1 d_D_canGoOver_58 (by decide) (fun c22 => ?_) (fun c22 => absurd c22 (by decide))
            refine lv_iconst (v := 0) F.1 F.2.1 d_D_canGoOver_65 (by decide) ?_
            exact pw_zret F hr rfl hlk hP hA hK hS (by decide) (by decide) d_D_canGoOver_66 ⟨rfl, fun z9 => absurd ((mGoes_iff hd h6 hrw hr48 ha (by omega)).mp z9) (fun z8 => z8.2.2.elim (fun z7 => (fun z6 => b15 ((nI_eq (by omega) (by omega)).mp (z6.trans hz))) z7.1) (fun z7 => b20 z7.2.2)), fun _ => rfl⟩
    · skip
      refine lv_iconst (v := 0) F.1 F.2.1 d_D_canGoOver_19 (by decide) ?_
      exact pw_zret F hr rfl hlk hP hA hK hS (by decide) (by decide) d_D_canGoOver_20 ⟨rfl, fun z9 => absurd ((mGoes_iff hd h6 hrw hr48 ha (by omega)).mp z9) (fun z8 => z8.2.1 (hL.trans c4)), fun _ => rfl⟩
