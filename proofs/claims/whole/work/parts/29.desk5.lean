theorem dpT_dp {dp : Nat → Nat} {T : St} {t v : Nat} : dpT (fun u => if u = t then v else dp u) T t = dpT dp T t := by
  funext u
  unfold dpT
  split
  · rfl
  · rename_i hu
    exact if_neg hu
section
variable {cs : Nat → Nat} {h h' : pw_H} {x : Nat} {g : Gh} {gr : Nat → Prop} {dp dp' : Nat → Nat} {S S' : St} {nf p nt : Nat}
theorem Sim.again {t f L : Nat} (hs : Sim cs h x g gr dp S nf p nt) (hb : WB S nf p nt) (ht : t < nt) (hd : S 11 t = nI 1) (hL : S 6 t = nI L) (hL5 : L ≤ 5) (hf : f < nf) (hdp : dp t = 1) (hx : ext h h' [g 8 (6 * t + 0)]) (h0 : h' (g 8 (6 * t + 0)) = some (.inr (4, [.int (nI f), .int (nI L), .ref (g 0 (bRow S f L)), .int 0, .int 0]))) : Sim cs h' x g gr (dpT dp (mEnter (sp S 11 t (nI 0)) t f) t) (mEnter (sp S 11 t (nI 0)) t f) nf p nt := by
  have e1 : sp (sp S 11 t (nI 0)) 11 t (nI (0 + 1)) = S := by rw [sp_sp, sp_same hd]
  have h1 : Sim cs h x g gr (fun u => if u = t then 0 else dp u) (sp (sp S 11 t (nI 0)) 11 t (nI (0 + 1))) nf p nt := by
    rw [e1]
    exact hs.dpm (fun u _ => by
      show (if u = t then 0 else dp u) ≤ dp u
      split
      · exact Nat.zero_le _
      · exact Nat.le_refl _)
  have h2 := Sim.enter (f := f) h1 (hb.congr (sp_off (by decide)) (sp_off (by decide)) (sp_off (by decide)) (sp_off (by decide)) (sp_k (by decide)) (sp_k (by decide)) (sp_k (by decide)) (sp_k (by decide))) ht sp_s (by decide) ((sp_k (by decide)).trans hL) hL5 hf (if_pos rfl) hx (by rw [bRow_eq (S := S) (fun j => sp_k (by decide)) f L]; exact h0)
  rw [dpT_dp] at h2
  exact h2
theorem Sim.rep {t k : Nat} {n : Int32} (hs : Sim cs h x g gr dp S nf p nt) (ht : t < nt) (hk : k < 6) (hx : ext h h' [g 8 (6 * t + k)]) (h0 : h' (g 8 (6 * t + k)) = some (.inr (4, [.int (nI (tn (S 12 (6 * t + k)) % 8)), .int (S 13 (6 * t + k)), .ref (g 0 (tn (S 12 (6 * t + k)))), .int (if S 15 (6 * t + k) < 3 then n else S 14 (6 * t + k)), .int (if S 15 (6 * t + k) < 3 then S 15 (6 * t + k) + 1 else S 15 (6 * t + k))]))) :
    (S 15 (6 * t + k) < 3 → Sim cs h' x g gr dp (sp (sp S 15 (6 * t + k) (S 15 (6 * t + k) + 1)) 14 (6 * t + k) n) nf p nt) ∧ (¬ S 15 (6 * t + k) < 3 → Sim cs h' x g gr dp S nf p nt) := by
  constructor
  · intro h3
    rw [if_pos h3, if_pos h3] at h0
    refine hs.put hx (show 6 * t + k < 6 * nt by omega) h0 ?_ (fun k' i hl => ?_) ?_ (fun k' i e hn _ he => ?_)
    · simp only [ent]
      refine ⟨_, _, _, _, _, rfl, fun _ => ⟨?_, ?_, ?_, ?_, ?_⟩⟩
      · rw [sp_k (by decide), sp_k (by decide)]
      · rw [sp_k (by decide), sp_k (by decide)]
      · rw [sp_k (by decide), sp_k (by decide)]
      · rw [sp_s]
      · rw [sp_k (by decide), sp_s]
    · unfold live at hl ⊢
      rw [sp_off (show 0 ≠ 14 by decide), sp_off (show 0 ≠ 15 by decide)] at hl
      exact hl
    · rw [sp_k (by decide), sp_k (by decide)]
    · exact ent_sp (fun z => hn (rd_f z (by decide))) (ent_sp (fun z => hn (rd_f z (by decide))) he)
  · intro h3
    rw [if_neg h3, if_neg h3] at h0
    refine hs.put hx (show 6 * t + k < 6 * nt by omega) h0 ?_ (fun k' i hl => hl) rfl (fun k' i e hn _ he => he)
    simp only [ent]
    exact ⟨_, _, _, _, _, rfl, fun _ => ⟨rfl, rfl, rfl, rfl, rfl⟩⟩
theorem Sim.out {t : Nat} (hs : Sim cs h x g gr dp S nf p nt) (ht : t < nt) (hx : ext h h' [g 6 t]) (h0 : h' (g 6 t) = some (.inr (5, [.ref (g 7 t), .int (S 11 t), .int (S 6 t), .int (S 7 t), .int (S 8 t), .int (S 9 t + 1), .int (S 7 t)]))) : Sim cs h' x g gr dp (sp (sp S 9 t (S 9 t + 1)) 10 t (S 7 t)) nf p nt := by
  refine hs.put hx ht h0 ?_ (fun k' i hl => ?_) ?_ (fun k' i e hn _ he => ?_)
  · simp only [ent]
    rw [sp_k (by decide), sp_k (by decide), sp_k (by decide), sp_k (by decide), sp_k (by decide), sp_k (by decide), sp_k (by decide), sp_k (by decide), sp_k (show (9 : Nat) ≠ 10 by decide), sp_s, sp_s]
  · unfold live at hl ⊢
    rw [sp_off (show 0 ≠ 10 by decide), sp_off (show 0 ≠ 9 by decide)] at hl
    exact hl
  · rw [sp_k (by decide), sp_k (by decide)]
  · exact ent_sp (fun z => hn (rd_t z (by decide))) (ent_sp (fun z => hn (rd_t z (by decide))) he)
end
theorem WF.lvl {S : St} {nf p nt t L : Nat} {X : Nat → Prop} (hw : WF S nf p nt X) (ht : t < nt) (hL : S 6 t = nI L) (hL5 : L ≤ 5) : L ≤ p := by
  obtain ⟨d, L', mf, a1, a2, a3, a4, a5, a6, a7, a8⟩ := hw.2.1 t ht
  have hp := hw.1.2.1
  have := (nI_eq (a := L) (b := L') (by omega) (by omega)).mp (hL.symm.trans a4)
  omega
theorem WF.main0 {S : St} {nf p nt t r mf : Nat} {X : Nat → Prop} (hw : WF S nf p nt X) (ht : t < nt) (hr : S 12 (6 * t + 0) = nI r) (hr48 : r < 48) (hm : S 5 t = nI mf) (hm8 : mf < 8) : r % 8 = mf := by
  obtain ⟨d, L', mf', a1, a2, a3, a4, a5, a6, a7, a8⟩ := hw.2.1 t ht
  have hn := hw.1.1
  obtain ⟨r0, c1, c2, c3⟩ := a8 (by omega)
  have e1 := (nI_eq (a := r) (b := r0) (by omega) (by omega)).mp (hr.symm.trans c2)
  have e2 := (nI_eq (a := mf) (b := mf') (by omega) (by omega)).mp (hm.symm.trans a6)
  omega
abbrev rm_D_leaveTopFrame : Room := { frames := 4, cells := 0, slots := 0, locals := 89 }
set_option maxHeartbeats 4000000 in
set_option maxRecDepth 100000 in
theorem c_D_leaveTopFrame (l : Launch) (D : va_G) (cs : Nat → Nat) (A : Nat → Prop) (h : pw_H) (x : Nat) (g : Gh) (gr : Nat → Prop) (dp : Nat → Nat) (S : St) (nf pT nt : Nat) (hs : Sim cs h x g gr dp S nf pT nt) (hb : WB S nf pT nt) (t d r mf L : Nat) (htn : t < nt) (h6 : d < 6) (hd : S 11 t = nI (d + 1)) (hr48 : r < 48) (hrw : S 12 (6 * t + d) = nI r) (hmr : d = 0 → r % 8 = mf) (hmf : mf < nf) (hL : S 6 t = nI L) (hLp : L ≤ pT) (hdp : dp t = d + 1) : pm l y_D_leaveTopFrame b_D_leaveTopFrame 3 none rm_D_leaveTopFrame [.ref x, .ref (g 6 t)] D cs A h (va_Qv (fun (h' : pw_H) => Sim cs h' x g gr (dpT dp (if nI d = 0 then mEnter (sp S 11 t (nI d)) t mf else sp S 11 t (nI d)) t) (if nI d = 0 then mEnter (sp S 11 t (nI d)) t mf else sp S 11 t (nI d)) nf pT nt) (ww D cs A) A) 0 0 := by
  refine pm_of R_D rfl (by decide) (Nat.le_of_ble_eq_true rfl) (fun p e s m below meth c ls F hr hlk hnm hP hA hK hl => ?_)
  have hS : va_S A s.heap s.heap [] := va_S.rf
  replace hl : lv_has ls 3 [(0, .ref x), (1, .ref (g 6 t))] := hl
  have hnf8 := hb.1
  have hp5 := hb.2.1
  have hnt4 := hb.2.2.1
  refine lv_aload_n F.1 F.2.1 d_D_leaveTopFrame_0 rfl (lv_at hl 1 rfl) ?_
  have f1 : h (g 6 t) = some (.inr (5, [.ref (g 7 t), .int (S 11 t), .int (S 6 t), .int (S 7 t), .int (S 8 t), .int (S 9 t), .int (S 10 t)])) := hs.tk (by omega)
  refine pw_get F I_T hK.1 hP f1 rfl 1 (by decide) L_D_168 (fun _ z => z) rfl d_D_leaveTopFrame_1 ?_
  refine W.eq (g2 := F0 m 4 ls [.int (nI (d + 1))]) (by rw [hd]) ?_
  refine lv_iconst (v := 1) F.1 F.2.1 d_D_leaveTopFrame_4 (by decide) ?_
  refine lv_icmp_le (tgt := 21) F.1 F.2.1 d_D_leaveTopFrame_5 (by decide) (fun c2 => ?_) (fun c2 => ?_)
  · skip
    have hd0 : d = 0 := (Nat.lt_or_ge 0 d).elim (fun h9 => absurd c2 (nI_ge (a := 1) (b := d + 1) (by omega) (by omega))) (fun h9 => by omega)
    subst hd0
    refine lv_aload_n F.1 F.2.1 d_D_leaveTopFrame_21 rfl (lv_at hl 1 rfl) ?_
    obtain ⟨v3, f4, k5⟩ := hs.fs (t := t) (by omega)
    have f6 : h (g 7 t) = some (.inl (cs 4, 6, .inr (.inr (.inr (.inr v3))))) := f4
    refine pw_crE (pr_V F (c_T_top l D cs A h _ _ 0 (g 8 (6 * t + 0)) _ _ _ _ _ v3 (by omega) (k5 0 (by omega)) (by have h9 := f1; rw [hd] at h9; exact h9) f6) X_D_213 rfl rfl ⟨by decide, by decide⟩ hP hA hK hS f1 rfl rfl rfl hl.1 rfl (Nat.le_of_ble_eq_true rfl) d_D_leaveTopFrame_22 ⟨by decide, by decide⟩) hS (fun H locs hP hS => ?_)
    have f7 := hs.fo (t := t) (k := 0) htn (by omega) (by omega)
    rw [hrw, tn_nI (by omega)] at f7
    refine pw_get F I_Fr hK.1 hP f7 rfl 0 (by decide) L_D_189 (fun _ z => z) rfl d_D_leaveTopFrame_25 ?_
    refine W.eq (g2 := F0 m 28 ls [.int (nI mf)]) (by rw [hmr rfl]) ?_
    refine lv_istore_n F.1 F.2.1 d_D_leaveTopFrame_28 rfl hl (by decide) rfl (fun ls hl => ?_)
    replace hl : lv_has ls 3 [(2, .int (nI mf)), (0, .ref x), (1, .ref (g 6 t))] := hl
    refine lv_aload_n F.1 F.2.1 d_D_leaveTopFrame_29 rfl (lv_at hl 2 rfl) ?_
    refine pw_crE (pr_V F (c_T_top l D cs A h _ _ 0 (g 8 (6 * t + 0)) _ _ _ _ _ v3 (by omega) (k5 0 (by omega)) (by have h9 := f1; rw [hd] at h9; exact h9) f6) X_D_213 rfl rfl ⟨by decide, by decide⟩ hP hA hK hS f1 rfl rfl rfl hl.1 rfl (Nat.le_of_ble_eq_true rfl) d_D_leaveTopFrame_30 ⟨by decide, by decide⟩) hS (fun H locs hP hS => ?_)
    refine lv_iload_n F.1 F.2.1 d_D_leaveTopFrame_33 rfl (lv_at hl 0 rfl) ?_
    refine lv_aload_n F.1 F.2.1 d_D_leaveTopFrame_34 rfl (lv_at hl 2 rfl) ?_
    refine pw_get F I_T hK.1 hP f1 rfl 2 (by decide) L_D_153 (fun _ z => z) rfl d_D_leaveTopFrame_35 ?_
    refine W.eq (g2 := F0 m 38 ls [.int (nI L), .int (nI mf), .ref ((g 8 (6 * t + 0)))]) (by rw [hL]) ?_
    refine lv_aload_n F.1 F.2.1 d_D_leaveTopFrame_38 rfl (lv_at hl 1 rfl) ?_
    refine lv_iload_n F.1 F.2.1 d_D_leaveTopFrame_39 rfl (lv_at hl 0 rfl) ?_
    refine lv_aload_n F.1 F.2.1 d_D_leaveTopFrame_40 rfl (lv_at hl 2 rfl) ?_
    refine pw_get F I_T hK.1 hP f1 rfl 2 (by decide) L_D_153 (fun _ z => z) rfl d_D_leaveTopFrame_41 ?_
    refine W.eq (g2 := F0 m 44 ls [.int (nI L), .int (nI mf), .ref x, .int (nI L), .int (nI mf), .ref ((g 8 (6 * t + 0)))]) (by rw [hL]) ?_
    have f8 : h x = some (.inr (6, [.ref (g 10 0), .ref (g 10 1), .ref (g 10 2), .ref (g 3 6), .int (S 16 4)])) := hs.1
    refine pw_crE (pr_V F (c_D_bodyAt l D cs A h x g gr dp S nf pT nt hs hb mf L hmf hLp) X_D_137 rfl rfl ⟨by decide, by decide⟩ hP hA hK hS f8 rfl rfl rfl hl.1 rfl (Nat.le_of_ble_eq_true rfl) d_D_leaveTopFrame_44 ⟨by decide, by decide⟩) hS (fun H locs hP hS => ?_)
    refine pw_cv (pr_V F (c_Fr_begin l D cs A h _ (g 0 (bRow S mf L)) _ _ _ _ _ (nI mf) (nI L) f7) X_D_242 rfl rfl ⟨by decide, by decide⟩ hP hA hK hS f7 rfl rfl rfl hl.1 rfl (Nat.le_of_ble_eq_true rfl) d_D_leaveTopFrame_47 ⟨by decide, by decide⟩) hS (fun hz9 H locs hq hP hS => ?_)
    have hfin := Sim.again (f := mf) hs hb htn hd hL (by omega) hmf hdp hq.2 hq.1
    exact pw_vret F hr hlk hP hA hK hS (by decide) (by decide) d_D_leaveTopFrame_50 (by rw [if_pos (show nI 0 = (0 : Int32) from rfl)]; exact hfin)
  · skip
    refine lv_aload_n F.1 F.2.1 d_D_leaveTopFrame_8 rfl (lv_at hl 1 rfl) ?_
    refine lv_dup F.1 F.2.1 d_D_leaveTopFrame_9 rfl ?_
    refine pw_get F I_T hK.1 hP f1 rfl 1 (by decide) L_D_168 (fun _ z => z) rfl d_D_leaveTopFrame_10 ?_
    refine W.eq (g2 := F0 m 13 ls [.int (nI (d + 1)), .ref (g 6 t)]) (by rw [hd]) ?_
    refine lv_iconst (v := 1) F.1 F.2.1 d_D_leaveTopFrame_13 (by decide) ?_
    refine lv_isub F.1 F.2.1 d_D_leaveTopFrame_14 ?_
    refine W.eq (g2 := F0 m 15 ls [.int (nI (d)), .ref (g 6 t)]) (by rw [show (1 : Int32) = nI 1 from rfl, show nI (d + 1) - nI 1 = nI d from nI_pred d]) ?_
    refine pw_put F I_T ty_T k_T n_T hK.1 hP hS f1 rfl 1 (by decide) L_D_168 (fun _ z => z) rfl rfl rfl (Nat.le_of_ble_eq_true rfl) d_D_leaveTopFrame_15 (fun H locs hP hS => ?_)
    replace hP : pw D vwCl A (pu h (g 6 t) (.inr (5, [.ref (g 7 t), .int (nI (d)), .int (S 6 t), .int (S 7 t), .int (S 8 t), .int (S 9 t), .int (S 10 t)]))) H := hP
    obtain ⟨h9, e10⟩ : ∃ z9 : pw_H, z9 = pu h (g 6 t) (.inr (5, [.ref (g 7 t), .int (nI (d)), .int (S 6 t), .int (S 7 t), .int (S 8 t), .int (S 9 t), .int (S 10 t)])) := ⟨_, rfl⟩
    rw [← e10] at hP
    have f11 : h9 (g 6 t) = some (.inr (5, [.ref (g 7 t), .int (nI (d)), .int (S 6 t), .int (S 7 t), .int (S 8 t), .int (S 9 t), .int (S 10 t)])) := by rw [e10]; exact pu_s
    obtain ⟨S12, t13⟩ : ∃ z9 : St, z9 = sp S 11 t (nI (d)) := ⟨_, rfl⟩
    have hs14 : Sim cs h9 x g gr dp S12 nf pT nt := by rw [t13]; exact hs.putT htn (by decide) (by rw [e10]; exact ext.rf.pu (Or.inl (by simp))) f11 (by simp only [ent, sp_s, sp_k (show (0 : Nat) ≠ 11 by decide), sp_k (show (1 : Nat) ≠ 11 by decide), sp_k (show (2 : Nat) ≠ 11 by decide), sp_k (show (3 : Nat) ≠ 11 by decide), sp_k (show (4 : Nat) ≠ 11 by decide), sp_k (show (5 : Nat) ≠ 11 by decide), sp_k (show (6 : Nat) ≠ 11 by decide), sp_k (show (7 : Nat) ≠ 11 by decide), sp_k (show (8 : Nat) ≠ 11 by decide), sp_k (show (9 : Nat) ≠ 11 by decide), sp_k (show (10 : Nat) ≠ 11 by decide), sp_k (show (12 : Nat) ≠ 11 by decide), sp_k (show (13 : Nat) ≠ 11 by decide), sp_k (show (14 : Nat) ≠ 11 by decide), sp_k (show (15 : Nat) ≠ 11 by decide), sp_k (show (16 : Nat) ≠ 11 by decide)])
    have u15 : S12 11 t = nI (d) := by rw [t13]; exact sp_s
    refine lv_goto (tgt := 50) F.1 F.2.1 d_D_leaveTopFrame_18 (by decide) ?_
    exact pw_vret F hr hlk hP hA hK hS (by decide) (by decide) d_D_leaveTopFrame_50 (by have hd1 : ¬ nI d = (0 : Int32) := (fun z9 => c2 (by rw [← nI_1, z9]; decide)); rw [if_neg hd1]; have hf9 := hs14; rw [t13] at hf9; exact hf9.dpm (fun u hu => dpT_le (by rw [sp_s, tn_nI (by omega), hdp]; omega) u))
abbrev rm_D_stepOnce : Room := { frames := 5, cells := 0, slots := 0, locals := 111 }
set_option maxHeartbeats 4000000 in
set_option maxRecDepth 100000 in
theorem c_D_stepOnce (l : Launch) (D : va_G) (cs : Nat → Nat) (A : Nat → Prop) (h : pw_H) (x : Nat) (g : Gh) (gr : Nat → Prop) (dp : Nat → Nat) (S : St) (nf pT nt : Nat) (hs : Sim cs h x g gr dp S nf pT nt) (X : Nat → Prop) (hw : WF S nf pT nt X) (t : Nat) (htn : t < nt) (hdp : dp t = tn (S 11 t)) : pm l y_D_stepOnce b_D_stepOnce 5 none rm_D_stepOnce [.ref x, .ref (g 6 t)] D cs A h (va_Qv (fun (h' : pw_H) => Sim cs h' x g gr (dpT dp (mOnce S t) t) (mOnce S t) nf pT nt) (ww D cs A) A) 0 0 := by
  refine pm_of R_D rfl (by decide) (Nat.le_of_ble_eq_true rfl) (fun p e s m below meth c ls F hr hlk hnm hP hA hK hl => ?_)
  have hS : va_S A s.heap s.heap [] := va_S.rf
  replace hl : lv_has ls 5 [(0, .ref x), (1, .ref (g 6 t))] := hl
  obtain ⟨d, r, a, z, L, mf, ht4, h6, hd, hr48, hrw, hz12, hz, haz, ha, hL5, hL, hmf, hm, hh1, hop, rows⟩ := hw.at htn
  have hdp1 : dp t = d + 1 := by rw [hdp, hd, tn_nI (by omega)]
  have hnf8 := hw.1.1
  have hp5 := hw.1.2.1
  have hnt4 := hw.1.2.2.1
  have hb := hw.1
  have hLp : L ≤ pT := hw.lvl htn hL hL5
  have hmr : d = 0 → r % 8 = mf := fun h9 => by subst h9; exact hw.main0 htn hrw hr48 hm (by omega)
  refine lv_aload_n F.1 F.2.1 d_D_stepOnce_0 rfl (lv_at hl 1 rfl) ?_
  refine lv_dup F.1 F.2.1 d_D_stepOnce_1 rfl ?_
  have f1 : h (g 6 t) = some (.inr (5, [.ref (g 7 t), .int (S 11 t), .int (S 6 t), .int (S 7 t), .int (S 8 t), .int (S 9 t), .int (S 10 t)])) := hs.tk (by omega)
  refine pw_get F I_T hK.1 hP f1 rfl 4 (by decide) L_D_171 (fun _ z => z) rfl d_D_stepOnce_2 ?_
  refine lv_iconst (v := 1) F.1 F.2.1 d_D_stepOnce_5 (by decide) ?_
  refine lv_iadd F.1 F.2.1 d_D_stepOnce_6 ?_
  refine pw_put F I_T ty_T k_T n_T hK.1 hP hS f1 rfl 4 (by decide) L_D_171 (fun _ z => z) rfl rfl rfl (Nat.le_of_ble_eq_true rfl) d_D_stepOnce_7 (fun H locs hP hS => ?_)
  replace hP : pw D vwCl A (pu h (g 6 t) (.inr (5, [.ref (g 7 t), .int (S 11 t), .int (S 6 t), .int (S 7 t), .int ((S 8 t) + 1), .int (S 9 t), .int (S 10 t)]))) H := hP
  obtain ⟨h2, e3⟩ : ∃ z9 : pw_H, z9 = pu h (g 6 t) (.inr (5, [.ref (g 7 t), .int (S 11 t), .int (S 6 t), .int (S 7 t), .int ((S 8 t) + 1), .int (S 9 t), .int (S 10 t)])) := ⟨_, rfl⟩
  rw [← e3] at hP
  have f4 : h2 (g 6 t) = some (.inr (5, [.ref (g 7 t), .int (S 11 t), .int (S 6 t), .int (S 7 t), .int ((S 8 t) + 1), .int (S 9 t), .int (S 10 t)])) := by rw [e3]; exact pu_s
  obtain ⟨S5, t6⟩ : ∃ z9 : St, z9 = sp S 8 t ((S 8 t) + 1) := ⟨_, rfl⟩
  have hs7 : Sim cs h2 x g gr dp S5 nf pT nt := by rw [t6]; exact hs.putT htn (by decide) (by rw [e3]; exact ext.rf.pu (Or.inl (by simp))) f4 (by simp only [ent, sp_s, sp_k (show (0 : Nat) ≠ 8 by decide), sp_k (show (1 : Nat) ≠ 8 by decide), sp_k (show (2 : Nat) ≠ 8 by decide), sp_k (show (3 : Nat) ≠ 8 by decide), sp_k (show (4 : Nat) ≠ 8 by decide), sp_k (show (5 : Nat) ≠ 8 by decide), sp_k (show (6 : Nat) ≠ 8 by decide), sp_k (show (7 : Nat) ≠ 8 by decide), sp_k (show (9 : Nat) ≠ 8 by decide), sp_k (show (10 : Nat) ≠ 8 by decide), sp_k (show (11 : Nat) ≠ 8 by decide), sp_k (show (12 : Nat) ≠ 8 by decide), sp_k (show (13 : Nat) ≠ 8 by decide), sp_k (show (14 : Nat) ≠ 8 by decide), sp_k (show (15 : Nat) ≠ 8 by decide), sp_k (show (16 : Nat) ≠ 8 by decide)])
  have u8 : S5 11 t = nI (d + 1) := by rw [t6]; exact (sp_k (by decide)).trans hd
  have u9 : S5 12 (6 * t + d) = nI r := by rw [t6]; exact (sp_k (by decide)).trans hrw
  have u10 : S5 14 (6 * t + d) = nI a := by rw [t6]; exact (sp_k (by decide)).trans ha
  have u11 : S5 2 r = nI z := by rw [t6]; exact (sp_k (by decide)).trans hz
  have u12 : S5 6 t = nI L := by rw [t6]; exact (sp_k (by decide)).trans hL
  have u13 : S5 0 r = 1 := by rw [t6]; exact (sp_k (by decide)).trans hh1
  refine lv_aload_n F.1 F.2.1 d_D_stepOnce_10 rfl (lv_at hl 1 rfl) ?_
  have f14 : h2 (g 6 t) = some (.inr (5, [.ref (g 7 t), .int (S5 11 t), .int (S5 6 t), .int (S5 7 t), .int (S5 8 t), .int (S5 9 t), .int (S5 10 t)])) := hs7.tk (by omega)
  obtain ⟨v15, f16, k17⟩ := hs7.fs (t := t) (by omega)
  have f18 : h2 (g 7 t) = some (.inl (cs 4, 6, .inr (.inr (.inr (.inr v15))))) := f16
  refine pw_crE (pr_V F (c_T_top l D cs A h2 _ _ d (g 8 (6 * t + d)) _ _ _ _ _ v15 (by omega) (k17 d (by omega)) (by have h9 := f14; rw [u8] at h9; exact h9) f18) X_D_213 rfl rfl ⟨by decide, by decide⟩ hP hA hK hS f14 rfl rfl rfl hl.1 rfl (Nat.le_of_ble_eq_true rfl) d_D_stepOnce_11 ⟨by decide, by decide⟩) hS (fun H locs hP hS => ?_)
  refine lv_astore_n F.1 F.2.1 d_D_stepOnce_14 rfl hl (by decide) rfl (fun ls hl => ?_)
  replace hl : lv_has ls 5 [(2, .ref ((g 8 (6 * t + d)))), (0, .ref x), (1, .ref (g 6 t))] := hl
  refine lv_aload_n F.1 F.2.1 d_D_stepOnce_15 rfl (lv_at hl 0 rfl) ?_
  have f19 := hs7.fo (t := t) (k := d) htn (by omega) (by omega)
  rw [u9, tn_nI (by omega), u10] at f19
  have f20 : h2 (g 0 r) = some (.inr (1, [.ref (g 1 r), .ref (g 2 r), .int (S5 2 r)])) := hs7.b (by omega) u13
  obtain ⟨v21, f22, k23⟩ := hs7.kd (r := r) (by omega) u13
  have f24 : h2 (g 1 r) = some (.inl (cs 0, 12, .inl v21)) := f22
  refine pw_ciE (pr_V F (c_Fr_nextKind l D cs A h2 _ _ _ a z _ _ _ _ v21 haz hz12 f19 (by have h9 := f20; rw [u11] at h9; exact h9) f24) X_D_217 rfl rfl ⟨by decide, by decide⟩ hP hA hK hS f19 rfl rfl rfl hl.1 rfl (Nat.le_of_ble_eq_true rfl) d_D_stepOnce_16 ⟨by decide, by decide⟩) hS (fun H locs hP hS => ?_)
  by_cases b25 : a = z
  · skip
    refine W.eq (g2 := F0 m 19 ls [.int (-1)]) (by rw [if_pos b25]) ?_
    refine lv_istore_n F.1 F.2.1 d_D_stepOnce_19 rfl hl (by decide) rfl (fun ls hl => ?_)
    replace hl : lv_has ls 5 [(3, .int (-1)), (2, .ref ((g 8 (6 * t + d)))), (0, .ref x), (1, .ref (g 6 t))] := hl
    refine lv_iload_n F.1 F.2.1 d_D_stepOnce_20 rfl (lv_at hl 0 rfl) ?_
    refine lv_iconst (v := (-1)) F.1 F.2.1 d_D_stepOnce_21 (by decide) ?_
    refine lv_icmp_ne (tgt := 31) F.1 F.2.1 d_D_stepOnce_22 (by decide) (fun c26 => absurd (by decide) c26) (fun c26 => ?_)
    refine lv_aload_n F.1 F.2.1 d_D_stepOnce_25 rfl (lv_at hl 2 rfl) ?_
    refine lv_aload_n F.1 F.2.1 d_D_stepOnce_26 rfl (lv_at hl 3 rfl) ?_
    have f27 : h2 x = some (.inr (6, [.ref (g 10 0), .ref (g 10 1), .ref (g 10 2), .ref (g 3 6), .int (S5 16 4)])) := hs7.1
    refine pw_cv (pr_V F (c_D_leaveTopFrame l D cs A h2 x g gr dp S5 nf pT nt hs7 (by rw [t6]; exact WB.congr hb (sp_off (by decide)) (sp_off (by decide)) (sp_off (by decide)) (sp_off (by decide)) (sp_k (by decide)) (sp_k (by decide)) (sp_k (by decide)) (sp_k (by decide))) t d r mf L htn h6 u8 hr48 u9 hmr hmf u12 hLp hdp1) X_D_226 rfl rfl ⟨by decide, by decide⟩ hP hA hK hS f27 rfl rfl rfl hl.1 rfl (Nat.le_of_ble_eq_true rfl) d_D_stepOnce_27 ⟨by decide, by decide⟩) hS (fun hz9 H locs hq hP hS => ?_)
    exact pw_vret F hr hlk hP hA hK hS (by decide) (by decide) d_D_stepOnce_30 (by rw [mOnce_ret hd h6 hrw hr48 ha (by rw [hz, b25]) hm (by omega)]; rw [t6] at hq; exact hq)
  · skip
    refine W.eq (g2 := F0 m 19 ls [.int (S 3 (12 * r + a))]) (by rw [if_neg b25, k23 a (by omega) (by rw [u11, tn_nI (by omega)]; omega), t6, sp_k (by decide)]) ?_
    refine lv_istore_n F.1 F.2.1 d_D_stepOnce_19 rfl hl (by decide) rfl (fun ls hl => ?_)
    replace hl : lv_has ls 5 [(3, .int (S 3 (12 * r + a))), (2, .ref ((g 8 (6 * t + d)))), (0, .ref x), (1, .ref (g 6 t))] := hl
    refine lv_iload_n F.1 F.2.1 d_D_stepOnce_20 rfl (lv_at hl 0 rfl) ?_
    refine lv_iconst (v := (-1)) F.1 F.2.1 d_D_stepOnce_21 (by decide) ?_
    refine lv_icmp_ne (tgt := 31) F.1 F.2.1 d_D_stepOnce_22 (by decide) (fun c28 => ?_) (fun c28 => absurd c28 (fun z9 => by have h9 := (hop a (by omega)).1; rw [z9] at h9; exact absurd h9 (by decide)))
    refine lv_aload_n F.1 F.2.1 d_D_stepOnce_31 rfl (lv_at hl 1 rfl) ?_
    obtain ⟨v29, f30, k31⟩ := hs7.nm (r := r) (by omega) u13
    have f32 : h2 (g 2 r) = some (.inl (cs 0, 12, .inl v29)) := f30
    refine pw_ciE (pr_V F (c_Fr_nextNumber l D cs A h2 _ _ _ a z _ _ _ _ v29 haz hz12 f19 (by have h9 := f20; rw [u11] at h9; exact h9) f32) X_D_229 rfl rfl ⟨by decide, by decide⟩ hP hA hK hS f19 rfl rfl rfl hl.1 rfl (Nat.le_of_ble_eq_true rfl) d_D_stepOnce_32 ⟨by decide, by decide⟩) hS (fun H locs hP hS => ?_)
    refine W.eq (g2 := F0 m 35 ls [.int (S 4 (12 * r + a))]) (by rw [if_neg b25, k31 a (by omega) (by rw [u11, tn_nI (by omega)]; omega), t6, sp_k (by decide)]) ?_
    refine lv_istore F.1 F.2.1 d_D_stepOnce_35 hl (by decide) rfl (fun ls hl => ?_)
    replace hl : lv_has ls 5 [(4, .int (S 4 (12 * r + a))), (3, .int (S 3 (12 * r + a))), (2, .ref ((g 8 (6 * t + d)))), (0, .ref x), (1, .ref (g 6 t))] := hl
    refine lv_aload_n F.1 F.2.1 d_D_stepOnce_37 rfl (lv_at hl 2 rfl) ?_
    refine lv_dup F.1 F.2.1 d_D_stepOnce_38 rfl ?_
    refine pw_get F I_Fr hK.1 hP f19 rfl 3 (by decide) L_D_195 (fun _ z => z) rfl d_D_stepOnce_39 ?_
    refine lv_iconst (v := 1) F.1 F.2.1 d_D_stepOnce_42 (by decide) ?_
    refine lv_iadd F.1 F.2.1 d_D_stepOnce_43 ?_
    refine W.eq (g2 := F0 m 44 ls [.int (nI (a + 1)), .ref ((g 8 (6 * t + d)))]) (by rw [show (1 : Int32) = nI 1 from rfl, nI_add]) ?_
    refine pw_put F I_Fr ty_Fr k_Fr n_Fr hK.1 hP hS f19 rfl 3 (by decide) L_D_195 (fun _ z => z) rfl rfl rfl (Nat.le_of_ble_eq_true rfl) d_D_stepOnce_44 (fun H locs hP hS => ?_)
    replace hP : pw D vwCl A (pu h2 ((g 8 (6 * t + d))) (.inr (4, [.int (nI (r % 8)), .int (S5 13 (6 * t + d)), .ref (g 0 r), .int (nI (a + 1)), .int (S5 15 (6 * t + d))]))) H := hP
    obtain ⟨h33, e34⟩ : ∃ z9 : pw_H, z9 = pu h2 ((g 8 (6 * t + d))) (.inr (4, [.int (nI (r % 8)), .int (S5 13 (6 * t + d)), .ref (g 0 r), .int (nI (a + 1)), .int (S5 15 (6 * t + d))])) := ⟨_, rfl⟩
    rw [← e34] at hP
    have f35 : h33 ((g 8 (6 * t + d))) = some (.inr (4, [.int (nI (r % 8)), .int (S5 13 (6 * t + d)), .ref (g 0 r), .int (nI (a + 1)), .int (S5 15 (6 * t + d))])) := by rw [e34]; exact pu_s
    obtain ⟨S36, t37⟩ : ∃ z9 : St, z9 = sp S5 14 (6 * t + d) (nI (a + 1)) := ⟨_, rfl⟩
    have hs38 : Sim cs h33 x g gr dp S36 nf pT nt := by rw [t37]; exact hs7.putF (show (6 * t + d) < 6 * nt by omega) (by decide) (by rw [e34]; exact ext.rf.pu (Or.inl (by simp))) f35 (by simp only [ent, sp_s, sp_k (show (0 : Nat) ≠ 14 by decide), sp_k (show (1 : Nat) ≠ 14 by decide), sp_k (show (2 : Nat) ≠ 14 by decide), sp_k (show (3 : Nat) ≠ 14 by decide), sp_k (show (4 : Nat) ≠ 14 by decide), sp_k (show (5 : Nat) ≠ 14 by decide), sp_k (show (6 : Nat) ≠ 14 by decide), sp_k (show (7 : Nat) ≠ 14 by decide), sp_k (show (8 : Nat) ≠ 14 by decide), sp_k (show (9 : Nat) ≠ 14 by decide), sp_k (show (10 : Nat) ≠ 14 by decide), sp_k (show (11 : Nat) ≠ 14 by decide), sp_k (show (12 : Nat) ≠ 14 by decide), sp_k (show (13 : Nat) ≠ 14 by decide), sp_k (show (15 : Nat) ≠ 14 by decide), sp_k (show (16 : Nat) ≠ 14 by decide)]; exact ⟨_, _, _, _, _, rfl, fun _ => ⟨by rw [u9, tn_nI (by omega)], rfl, by rw [u9, tn_nI (by omega)], rfl, rfl⟩⟩)
    have u39 : S36 11 t = nI (d + 1) := by rw [t37]; exact (sp_k (by decide)).trans u8
    have u40 : S36 12 (6 * t + d) = nI r := by rw [t37]; exact (sp_k (by decide)).trans u9
    have u41 : S36 14 (6 * t + d) = nI (a + 1) := by rw [t37]; exact sp_s
    have u42 : S36 2 r = nI z := by rw [t37]; exact (sp_k (by decide)).trans u11
    have u43 : S36 6 t = nI L := by rw [t37]; exact (sp_k (by decide)).trans u12
    have u44 : S36 0 r = 1 := by rw [t37]; exact (sp_k (by decide)).trans u13
    have hop9 := hop a (by omega)
    rcases hop9.1 with hk9 | hk9 | hk9 | hk9 | hk9 | hk9
    · skip
      replace hl : lv_has ls 5 [(4, .int (S 4 (12 * r + a))), (3, .int 0), (2, .ref ((g 8 (6 * t + d)))), (0, .ref x), (1, .ref (g 6 t))] := by rw [hk9] at hl; exact hl
      refine lv_iload_n F.1 F.2.1 d_D_stepOnce_47 rfl (lv_at hl 1 rfl) ?_
      refine lv_tableIn (off := 40) (tgt := 88) F.1 F.2.1 d_D_stepOnce_48 (by decide) (by decide) (by decide) (by decide) ?_
      refine lv_aload_n F.1 F.2.1 d_D_stepOnce_88 rfl (lv_at hl 4 rfl) ?_
      refine lv_dup F.1 F.2.1 d_D_stepOnce_89 rfl ?_
      have f45 : h33 (g 6 t) = some (.inr (5, [.ref (g 7 t), .int (S36 11 t), .int (S36 6 t), .int (S36 7 t), .int (S36 8 t), .int (S36 9 t), .int (S36 10 t)])) := hs38.tk (by omega)
      refine pw_get F I_T hK.1 hP f45 rfl 3 (by decide) L_D_165 (fun _ z => z) rfl d_D_stepOnce_90 ?_
      refine lv_iload F.1 F.2.1 d_D_stepOnce_93 (lv_at hl 0 rfl) ?_
      refine lv_iadd F.1 F.2.1 d_D_stepOnce_95 ?_
      refine pw_put F I_T ty_T k_T n_T hK.1 hP hS f45 rfl 3 (by decide) L_D_165 (fun _ z => z) rfl rfl rfl (Nat.le_of_ble_eq_true rfl) d_D_stepOnce_96 (fun H locs hP hS => ?_)
      replace hP : pw D vwCl A (pu h33 (g 6 t) (.inr (5, [.ref (g 7 t), .int (S36 11 t), .int (S36 6 t), .int ((S36 7 t) + (S 4 (12 * r + a))), .int (S36 8 t), .int (S36 9 t), .int (S36 10 t)]))) H := hP
      obtain ⟨h46, e47⟩ : ∃ z9 : pw_H, z9 = pu h33 (g 6 t) (.inr (5, [.ref (g 7 t), .int (S36 11 t), .int (S36 6 t), .int ((S36 7 t) + (S 4 (12 * r + a))), .int (S36 8 t), .int (S36 9 t), .int (S36 10 t)])) := ⟨_, rfl⟩
      rw [← e47] at hP
      have f48 : h46 (g 6 t) = some (.inr (5, [.ref (g 7 t), .int (S36 11 t), .int (S36 6 t), .int ((S36 7 t) + (S 4 (12 * r + a))), .int (S36 8 t), .int (S36 9 t), .int (S36 10 t)])) := by rw [e47]; exact pu_s
      obtain ⟨S49, t50⟩ : ∃ z9 : St, z9 = sp S36 7 t ((S36 7 t) + (S 4 (12 * r + a))) := ⟨_, rfl⟩
      have hs51 : Sim cs h46 x g gr dp S49 nf pT nt := by rw [t50]; exact hs38.putT htn (by decide) (by rw [e47]; exact ext.rf.pu (Or.inl (by simp))) f48 (by simp only [ent, sp_s, sp_k (show (0 : Nat) ≠ 7 by decide), sp_k (show (1 : Nat) ≠ 7 by decide), sp_k (show (2 : Nat) ≠ 7 by decide), sp_k (show (3 : Nat) ≠ 7 by decide), sp_k (show (4 : Nat) ≠ 7 by decide), sp_k (show (5 : Nat) ≠ 7 by decide), sp_k (show (6 : Nat) ≠ 7 by decide), sp_k (show (8 : Nat) ≠ 7 by decide), sp_k (show (9 : Nat) ≠ 7 by decide), sp_k (show (10 : Nat) ≠ 7 by decide), sp_k (show (11 : Nat) ≠ 7 by decide), sp_k (show (12 : Nat) ≠ 7 by decide), sp_k (show (13 : Nat) ≠ 7 by decide), sp_k (show (14 : Nat) ≠ 7 by decide), sp_k (show (15 : Nat) ≠ 7 by decide), sp_k (show (16 : Nat) ≠ 7 by decide)])
      have u52 : S49 11 t = nI (d + 1) := by rw [t50]; exact (sp_k (by decide)).trans u39
      have u53 : S49 12 (6 * t + d) = nI r := by rw [t50]; exact (sp_k (by decide)).trans u40
      have u54 : S49 14 (6 * t + d) = nI (a + 1) := by rw [t50]; exact (sp_k (by decide)).trans u41
      have u55 : S49 2 r = nI z := by rw [t50]; exact (sp_k (by decide)).trans u42
      have u56 : S49 6 t = nI L := by rw [t50]; exact (sp_k (by decide)).trans u43
      have u57 : S49 0 r = 1 := by rw [t50]; exact (sp_k (by decide)).trans u44
      refine lv_goto (tgt := 147) F.1 F.2.1 d_D_stepOnce_99 (by decide) ?_
      exact pw_vret F hr hlk hP hA hK hS (by decide) (by decide) d_D_stepOnce_147 (by have hmo : mOnce S t = S49 := (by rw [mOnce_op hd h6 hrw hr48 ha (by omega) (fun z9 => b25 ((nI_eq (by omega) (by omega)).mp (z9.trans hz))), hk9, mDo_0, t50, t37, t6]); rw [hmo]; exact hs51.dpm (fun u hu => dpT_le (by rw [u52, tn_nI (by omega), hdp1]; exact Nat.le_refl _) u))
    · skip
      obtain ⟨j, hj, hje⟩ := hop9.2.1 (Or.inl hk9)
      replace hl : lv_has ls 5 [(4, .int (nI j)), (3, .int 1), (2, .ref ((g 8 (6 * t + d)))), (0, .ref x), (1, .ref (g 6 t))] := by rw [hk9, hje] at hl; exact hl
      refine lv_iload_n F.1 F.2.1 d_D_stepOnce_47 rfl (lv_at hl 1 rfl) ?_
      refine lv_tableIn (off := 54) (tgt := 102) F.1 F.2.1 d_D_stepOnce_48 (by decide) (by decide) (by decide) (by decide) ?_
      refine lv_aload_n F.1 F.2.1 d_D_stepOnce_102 rfl (lv_at hl 3 rfl) ?_
      refine lv_aload_n F.1 F.2.1 d_D_stepOnce_103 rfl (lv_at hl 4 rfl) ?_
      refine lv_iload F.1 F.2.1 d_D_stepOnce_104 (lv_at hl 0 rfl) ?_
      have f58 : h33 x = some (.inr (6, [.ref (g 10 0), .ref (g 10 1), .ref (g 10 2), .ref (g 3 6), .int (S36 16 4)])) := hs38.1
      refine pw_cv (pr_V F (c_D_enter l D cs A h33 x g gr dp S36 nf pT nt hs38 (by rw [t37]; exact WB.congr (by rw [t6]; exact WB.congr hb (sp_off (by decide)) (sp_off (by decide)) (sp_off (by decide)) (sp_off (by decide)) (sp_k (by decide)) (sp_k (by decide)) (sp_k (by decide)) (sp_k (by decide))) (sp_off (by decide)) (sp_off (by decide)) (sp_off (by decide)) (sp_off (by decide)) (sp_k (by decide)) (sp_k (by decide)) (sp_k (by decide)) (sp_k (by decide))) t j (d + 1) L htn hj u39 (by omega) u43 hLp hdp1) X_D_232 rfl rfl ⟨by decide, by decide⟩ hP hA hK hS f58 rfl rfl rfl hl.1 rfl (Nat.le_of_ble_eq_true rfl) d_D_stepOnce_106 ⟨by decide, by decide⟩) hS (fun hz9 H locs hq hP hS => ?_)
      refine lv_goto (tgt := 147) F.1 F.2.1 d_D_stepOnce_109 (by decide) ?_
      exact pw_vret F hr hlk hP hA hK hS (by decide) (by decide) d_D_stepOnce_147 (by have hmo : mOnce S t = mEnter S36 t j := (by rw [mOnce_op hd h6 hrw hr48 ha (by omega) (fun z9 => b25 ((nI_eq (by omega) (by omega)).mp (z9.trans hz))), hk9, mDo_1, hje, tn_nI (by omega), t37, t6]); rw [hmo]; exact hq)
    · skip
      replace hl : lv_has ls 5 [(4, .int (S 4 (12 * r + a))), (3, .int 2), (2, .ref ((g 8 (6 * t + d)))), (0, .ref x), (1, .ref (g 6 t))] := by rw [hk9] at hl; exact hl
      refine lv_iload_n F.1 F.2.1 d_D_stepOnce_47 rfl (lv_at hl 1 rfl) ?_
      refine lv_tableIn (off := 99) (tgt := 147) F.1 F.2.1 d_D_stepOnce_48 (by decide) (by decide) (by decide) (by decide) ?_
      exact pw_vret F hr hlk hP hA hK hS (by decide) (by decide) d_D_stepOnce_147 (by have hmo : mOnce S t = S36 := (by rw [mOnce_op hd h6 hrw hr48 ha (by omega) (fun z9 => b25 ((nI_eq (by omega) (by omega)).mp (z9.trans hz))), hk9, mDo_2, t37, t6]); rw [hmo]; exact hs38.dpm (fun u hu => dpT_le (by rw [u39, tn_nI (by omega), hdp1]; exact Nat.le_refl _) u))
    · skip
      replace hl : lv_has ls 5 [(4, .int (S 4 (12 * r + a))), (3, .int 3), (2, .ref ((g 8 (6 * t + d)))), (0, .ref x), (1, .ref (g 6 t))] := by rw [hk9] at hl; exact hl
      refine lv_iload_n F.1 F.2.1 d_D_stepOnce_47 rfl (lv_at hl 1 rfl) ?_
      refine lv_tableIn (off := 64) (tgt := 112) F.1 F.2.1 d_D_stepOnce_48 (by decide) (by decide) (by decide) (by decide) ?_
      refine lv_aload_n F.1 F.2.1 d_D_stepOnce_112 rfl (lv_at hl 2 rfl) ?_
      refine lv_iload F.1 F.2.1 d_D_stepOnce_113 (lv_at hl 0 rfl) ?_
      have f59 := hs38.fo (t := t) (k := d) htn (by omega) (by omega)
      rw [u40, tn_nI (by omega), u41] at f59
      refine pw_cv (pr_V F (c_Fr_repeatFrom l D cs A h33 _ _ _ _ _ _ (S 4 (12 * r + a)) f59) X_D_236 rfl rfl ⟨by decide, by decide⟩ hP hA hK hS f59 rfl rfl rfl hl.1 rfl (Nat.le_of_ble_eq_true rfl) d_D_stepOnce_115 ⟨by decide, by decide⟩) hS (fun hz9 H locs hq hP hS => ?_)
      refine lv_goto (tgt := 147) F.1 F.2.1 d_D_stepOnce_118 (by decide) ?_
      exact pw_vret F hr hlk hP hA hK hS (by decide) (by decide) d_D_stepOnce_147 (by have hre := hs38.rep (n := S 4 (12 * r + a)) htn h6 hq.2 (by rw [u40, tn_nI (by omega), u41]; exact hq.1); by_cases h3 : S36 15 (6 * t + d) < 3; exact (by have hmo : mOnce S t = sp (sp S36 15 (6 * t + d) (S36 15 (6 * t + d) + 1)) 14 (6 * t + d) (S 4 (12 * r + a)) := (by rw [mOnce_op hd h6 hrw hr48 ha (by omega) (fun z9 => b25 ((nI_eq (by omega) (by omega)).mp (z9.trans hz))), hk9, mDo_3t (by rw [← t6, ← t37]; exact h3), t37, t6]); rw [hmo]; exact (hre.1 h3).dpm (fun u hu => dpT_le (by rw [sp_k (by decide), sp_k (by decide), u39, tn_nI (by omega), hdp1]; exact Nat.le_refl _) u)); exact (by have hmo : mOnce S t = S36 := (by rw [mOnce_op hd h6 hrw hr48 ha (by omega) (fun z9 => b25 ((nI_eq (by omega) (by omega)).mp (z9.trans hz))), hk9, mDo_3f (by rw [← t6, ← t37]; exact h3), t37, t6]); rw [hmo]; exact (hre.2 h3).dpm (fun u hu => dpT_le (by rw [u39, tn_nI (by omega), hdp1]; exact Nat.le_refl _) u)))
    · skip
      replace hl : lv_has ls 5 [(4, .int (S 4 (12 * r + a))), (3, .int 4), (2, .ref ((g 8 (6 * t + d)))), (0, .ref x), (1, .ref (g 6 t))] := by rw [hk9] at hl; exact hl
      refine lv_iload_n F.1 F.2.1 d_D_stepOnce_47 rfl (lv_at hl 1 rfl) ?_
      refine lv_tableIn (off := 73) (tgt := 121) F.1 F.2.1 d_D_stepOnce_48 (by decide) (by decide) (by decide) (by decide) ?_
      refine lv_aload_n F.1 F.2.1 d_D_stepOnce_121 rfl (lv_at hl 4 rfl) ?_
      have f60 : h33 (g 6 t) = some (.inr (5, [.ref (g 7 t), .int (S36 11 t), .int (S36 6 t), .int (S36 7 t), .int (S36 8 t), .int (S36 9 t), .int (S36 10 t)])) := hs38.tk (by omega)
      refine pw_cv (pr_V F (c_T_putOut l D cs A h33 _ _ _ _ _ _ _ _ f60) X_D_239 rfl rfl ⟨by decide, by decide⟩ hP hA hK hS f60 rfl rfl rfl hl.1 rfl (Nat.le_of_ble_eq_true rfl) d_D_stepOnce_122 ⟨by decide, by decide⟩) hS (fun hz9 H locs hq hP hS => ?_)
      refine lv_goto (tgt := 147) F.1 F.2.1 d_D_stepOnce_125 (by decide) ?_
      exact pw_vret F hr hlk hP hA hK hS (by decide) (by decide) d_D_stepOnce_147 (by have hmo : mOnce S t = sp (sp S36 9 t (S36 9 t + 1)) 10 t (S36 7 t) := (by rw [mOnce_op hd h6 hrw hr48 ha (by omega) (fun z9 => b25 ((nI_eq (by omega) (by omega)).mp (z9.trans hz))), hk9, mDo_4, t37, t6]); rw [hmo]; exact (hs38.out htn hq.2 hq.1).dpm (fun u hu => dpT_le (by rw [sp_k (by decide), sp_k (by decide), u39, tn_nI (by omega), hdp1]; exact Nat.le_refl _) u))
    · skip
      obtain ⟨j, hj, hje⟩ := hop9.2.1 (Or.inr hk9)
      replace hl : lv_has ls 5 [(4, .int (nI j)), (3, .int 5), (2, .ref ((g 8 (6 * t + d)))), (0, .ref x), (1, .ref (g 6 t))] := by rw [hk9, hje] at hl; exact hl
      refine lv_iload_n F.1 F.2.1 d_D_stepOnce_47 rfl (lv_at hl 1 rfl) ?_
      refine lv_tableIn (off := 80) (tgt := 128) F.1 F.2.1 d_D_stepOnce_48 (by decide) (by decide) (by decide) (by decide) ?_
      refine lv_aload_n F.1 F.2.1 d_D_stepOnce_128 rfl (lv_at hl 4 rfl) ?_
      have f61 : h33 (g 6 t) = some (.inr (5, [.ref (g 7 t), .int (S36 11 t), .int (S36 6 t), .int (S36 7 t), .int (S36 8 t), .int (S36 9 t), .int (S36 10 t)])) := hs38.tk (by omega)
      refine pw_get F I_T hK.1 hP f61 rfl 3 (by decide) L_D_165 (fun _ z => z) rfl d_D_stepOnce_129 ?_
      refine lv_iconst (v := 2) F.1 F.2.1 d_D_stepOnce_132 (by decide) ?_
      refine lv_irem F.1 F.2.1 d_D_stepOnce_133 (by decide) ?_
      refine lv_if_ne (tgt := 147) F.1 F.2.1 d_D_stepOnce_134 (by decide) (fun c62 => ?_) (fun c62 => ?_)
      · skip
        exact pw_vret F hr hlk hP hA hK hS (by decide) (by decide) d_D_stepOnce_147 (by have hmo : mOnce S t = S36 := (by rw [mOnce_op hd h6 hrw hr48 ha (by omega) (fun z9 => b25 ((nI_eq (by omega) (by omega)).mp (z9.trans hz))), hk9, mDo_5f (by rw [← t6, ← t37]; exact c62), t37, t6]); rw [hmo]; exact hs38.dpm (fun u hu => dpT_le (by rw [u39, tn_nI (by omega), hdp1]; exact Nat.le_refl _) u))
      · skip
        refine lv_aload_n F.1 F.2.1 d_D_stepOnce_137 rfl (lv_at hl 3 rfl) ?_
        refine lv_aload_n F.1 F.2.1 d_D_stepOnce_138 rfl (lv_at hl 4 rfl) ?_
        refine lv_iload F.1 F.2.1 d_D_stepOnce_139 (lv_at hl 0 rfl) ?_
        have f63 : h33 x = some (.inr (6, [.ref (g 10 0), .ref (g 10 1), .ref (g 10 2), .ref (g 3 6), .int (S36 16 4)])) := hs38.1
        refine pw_cv (pr_V F (c_D_enter l D cs A h33 x g gr dp S36 nf pT nt hs38 (by rw [t37]; exact WB.congr (by rw [t6]; exact WB.congr hb (sp_off (by decide)) (sp_off (by decide)) (sp_off (by decide)) (sp_off (by decide)) (sp_k (by decide)) (sp_k (by decide)) (sp_k (by decide)) (sp_k (by decide))) (sp_off (by decide)) (sp_off (by decide)) (sp_off (by decide)) (sp_off (by decide)) (sp_k (by decide)) (sp_k (by decide)) (sp_k (by decide)) (sp_k (by decide))) t j (d + 1) L htn hj u39 (by omega) u43 hLp hdp1) X_D_232 rfl rfl ⟨by decide, by decide⟩ hP hA hK hS f63 rfl rfl rfl hl.1 rfl (Nat.le_of_ble_eq_true rfl) d_D_stepOnce_141 ⟨by decide, by decide⟩) hS (fun hz9 H locs hq hP hS => ?_)
        refine lv_goto (tgt := 147) F.1 F.2.1 d_D_stepOnce_144 (by decide) ?_
        exact pw_vret F hr hlk hP hA hK hS (by decide) (by decide) d_D_stepOnce_147 (by have hmo : mOnce S t = mEnter S36 t j := (by rw [mOnce_op hd h6 hrw hr48 ha (by omega) (fun z9 => b25 ((nI_eq (by omega) (by omega)).mp (z9.trans hz))), hk9, mDo_5t (by rw [← t6, ← t37]; exact c62), hje, tn_nI (by omega), t37, t6]); rw [hmo]; exact hq)
