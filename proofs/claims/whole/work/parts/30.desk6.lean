theorem ent_len {cs : Nat → Nat} {S : St} {nf p nt nf' p' nt' : Nat} {g : Gh} {gr : Nat → Prop} {dp : Nat → Nat} {k i : Nat} {e : va_E} (h : k = 10 ∨ k = 11 → lenL nf' p' nt' i = lenL nf p nt i) (he : ent cs S nf p nt g gr dp k i e) : ent cs S nf' p' nt' g gr dp k i e := by
  rcases (show k = 0 ∨ k = 1 ∨ k = 2 ∨ k = 3 ∨ k = 4 ∨ k = 5 ∨ k = 6 ∨ k = 7 ∨ k = 8 ∨ k = 9 ∨ k = 10 ∨ k = 11 by have := ent_k he; omega) with rfl | rfl | rfl | rfl | rfl | rfl | rfl | rfl | rfl | rfl | rfl | rfl <;> simp only [ent] at he ⊢
  all_goals first | exact he | (rw [h (by decide)]; exact he)
theorem live_k {S : St} {nf p nt : Nat} {gr : Nat → Prop} {k i : Nat} (h : live S nf p nt gr k i) : k < 12 := by
  unfold live at h
  split at h <;> first | exact h.elim | omega
theorem lenL_1 {nf p p' nt i : Nat} (h : i ≠ 1) : lenL nf p' nt i = lenL nf p nt i := by
  unfold lenL
  split <;> first | rfl | exact absurd rfl h
section
variable {cs : Nat → Nat} {h h' : pw_H} {x : Nat} {g : Gh} {gr : Nat → Prop} {dp dp' : Nat → Nat} {S S' : St} {nf p nt : Nat}
/-- the target is written -/
theorem Sim.goal {v : Int32} (hs : Sim cs h x g gr dp S nf p nt) (hx : ext h h' [x]) (h0 : h' x = some (.inr (6, [.ref (g 10 0), .ref (g 10 1), .ref (g 10 2), .ref (g 3 6), .int v]))) (h4 : S' 16 4 = v) (hk : ∀ k j, k ≠ 16 → S' k j = S k j) (h2 : S' 16 2 = S 16 2) : Sim cs h' x g gr dp S' nf p nt := by
  refine hs.set (by rw [h4]; exact h0) (fun k i hl => ?_)
  have hl' : live S nf p nt gr k i := by
    have e0 : S' 0 = S 0 := by funext j; exact hk 0 j (by decide)
    unfold live at hl ⊢
    rw [e0] at hl
    exact hl
  refine ⟨hl', Or.inl ⟨hs.kept hx hl' (nin1 (hs.2.2.2 k i hl')), fun e he => ent_cong (fun κ j hr => ?_) he⟩⟩
  by_cases h16 : κ = 16
  · subst h16
    obtain ⟨_, _, rfl⟩ := rd_16 hr
    exact h2
  · exact hk κ j h16
/-- the latest patch is taken away -/
theorem Sim.pop {q : Nat → Option Nat} {mc : Int32} (hs : Sim cs h x g gr dp S nf p nt) (hp : 1 ≤ p) (hx : ext h h' [g 10 1, g 11 1]) (h1 : h' (g 11 1) = some (eQ (cs 5) 10 (va_up q (p - 1) none))) (h2 : h' (g 10 1) = some (.inr (0, [.ref (g 11 1), .int (nI (p - 1)), .int mc]))) (hq : ∀ i, i < p → q i = some (elL g 1 i)) : Sim cs h' x g gr dp S nf (p - 1) nt := by
  have hg := (hs.le (j := 1) (by decide) hp).1
  have l10 : live S nf p nt gr 10 1 := by show 1 < 3; decide
  have l11 : live S nf p nt gr 11 1 := ⟨by decide, hg⟩
  refine hs.set ?_ (fun k i hl => ?_)
  · rw [hs.keptx hx (nin2 (Ne.symm (hs.2.2.2 _ _ l10)) (Ne.symm (hs.2.2.2 _ _ l11)))]; exact hs.1
  · have hl' : live S nf p nt gr k i := by
      rcases (show k = 0 ∨ k = 1 ∨ k = 2 ∨ k = 3 ∨ k = 4 ∨ k = 5 ∨ k = 6 ∨ k = 7 ∨ k = 8 ∨ k = 9 ∨ k = 10 ∨ k = 11 by have := live_k hl; omega) with rfl | rfl | rfl | rfl | rfl | rfl | rfl | rfl | rfl | rfl | rfl | rfl <;> simp only [live] at hl ⊢ <;> first | exact hl | omega
    refine ⟨hl', ?_⟩
    by_cases c10 : k = 10 ∧ i = 1
    · obtain ⟨rfl, rfl⟩ := c10
      exact Or.inr ⟨_, h2, ⟨mc, Or.inl ⟨hg, rfl⟩⟩⟩
    by_cases c11 : k = 11 ∧ i = 1
    · obtain ⟨rfl, rfl⟩ := c11
      refine Or.inr ⟨_, h1, ⟨_, rfl, fun j hj => ?_⟩⟩
      have hj : j < p - 1 := hj
      rw [va_up_ne _ _ (by omega)]
      exact hq j (by omega)
    refine Or.inl ⟨hs.kept hx hl' (nin2 (hs.ne hl' l10 c10) (hs.ne hl' l11 c11)), fun e he => ent_len (fun hk => lenL_1 (fun z => hk.elim (fun y => c10 ⟨y, z⟩) (fun y => c11 ⟨y, z⟩))) he⟩
end
abbrev rm_D_endTransitionWhenAllAreOver : Room := { frames := 3, cells := 0, slots := 0, locals := 66 }
set_option maxHeartbeats 4000000 in
set_option maxRecDepth 100000 in
theorem c_D_endTransitionWhenAllAreOver (l : Launch) (D : va_G) (cs : Nat → Nat) (A : Nat → Prop) (h : pw_H) (x : Nat) (g : Gh) (gr : Nat → Prop) (dp : Nat → Nat) (S : St) (nf pT nt : Nat) (hs : Sim cs h x g gr dp S nf pT nt) (X : Nat → Prop) (hw : WF S nf pT nt X) (q : Nat) (hq : S 16 4 = nI q) (hqp : q = pT ∨ q = pT - 1) (hp1 : 1 ≤ pT) : pm l y_D_endTransitionWhenAllAreOver b_D_endTransitionWhenAllAreOver 2 none rm_D_endTransitionWhenAllAreOver [.ref x] D cs A h (va_Qv (fun (h' : pw_H) => ∃ pN, Sim cs h' x g gr dp (mSettle S) nf pN nt ∧ mSettle S 16 3 = nI pN ∧ pN ≤ 5) (ww D cs A) A) 0 0 := by
  refine pm_of R_D rfl (by decide) (Nat.le_of_ble_eq_true rfl) (fun p e s m below meth c ls F hr hlk hnm hP hA hK hl => ?_)
  have hS : va_S A s.heap s.heap [] := va_S.rf
  replace hl : lv_has ls 2 [(0, .ref x)] := hl
  have hnf8 := hw.1.1
  have hp5 := hw.1.2.1
  have hnt4 := hw.1.2.2.1
  refine lv_iconst (v := 0) F.1 F.2.1 d_D_endTransitionWhenAllAreOver_0 (by decide) ?_
  refine lv_istore_n F.1 F.2.1 d_D_endTransitionWhenAllAreOver_1 rfl hl (by decide) rfl (fun ls hl => ?_)
  replace hl : lv_has ls 2 [(1, .int 0), (0, .ref x)] := hl
  obtain ⟨H, hH0⟩ : ∃ H : Heap, H = s.heap := ⟨_, rfl⟩
  obtain ⟨locs, hlo0⟩ : ∃ locs : List Loc, locs = [] := ⟨_, rfl⟩
  replace hP : pw D vwCl A h H := by rw [hH0]; exact hP
  replace hS : va_S A s.heap H locs := by rw [hH0, hlo0]; exact hS
  rw [← hH0, ← hlo0]
  clear hH0 hlo0
  obtain ⟨i, hi0⟩ : ∃ i : Nat, i = 0 := ⟨0, rfl⟩
  have hiL : i ≤ nt := by omega
  obtain ⟨n, hn⟩ : ∃ n : Nat, nt - i = n := ⟨_, rfl⟩
  have hc : ∀ j, j < i → S 6 j = S 16 4 := fun j hj => by omega
  replace hl : lv_has ls 2 [(1, .int (nI i)), (0, .ref x)] := by rw [hi0]; exact hl
  clear hi0
  induction n generalizing ls i H locs with
  | zero =>
    refine lv_iload_n F.1 F.2.1 d_D_endTransitionWhenAllAreOver_2 rfl (lv_at hl 0 rfl) ?_
    refine lv_aload_n F.1 F.2.1 d_D_endTransitionWhenAllAreOver_3 rfl (lv_at hl 1 rfl) ?_
    have f1 : h x = some (.inr (6, [.ref (g 10 0), .ref (g 10 1), .ref (g 10 2), .ref (g 3 6), .int (S 16 4)])) := hs.1
    refine pw_get F I_D hK.1 hP f1 rfl 2 (by decide) L_D_19 (fun _ z => z) rfl d_D_endTransitionWhenAllAreOver_4 ?_
    obtain ⟨q2, n3, f4, _, _⟩ := hs.ls (show 2 < 3 by decide)
    have f5 : h (g 10 2) = some (.inr (0, [.ref q2, .int (nI nt), .int n3])) := f4
    refine pw_ciE (pr_V F (c_AL_size l D cs A h _ _ _ _ f5) X_D_44 rfl rfl ⟨by decide, by decide⟩ hP hA hK hS f5 rfl rfl rfl hl.1 rfl (Nat.le_of_ble_eq_true rfl) d_D_endTransitionWhenAllAreOver_7 ⟨by decide, by decide⟩) hS (fun H locs hP hS => ?_)
    refine lv_icmp_ge (tgt := 41) F.1 F.2.1 d_D_endTransitionWhenAllAreOver_10 (by decide) (fun c6 => ?_) (fun c6 => absurd (nI_le (show nt ≤ i by omega) (by omega)) c6)
    refine lv_aload_n F.1 F.2.1 d_D_endTransitionWhenAllAreOver_41 rfl (lv_at hl 1 rfl) ?_
    refine pw_get F I_D hK.1 hP f1 rfl 4 (by decide) L_D_29 (fun _ z => z) rfl d_D_endTransitionWhenAllAreOver_42 ?_
    refine lv_aload_n F.1 F.2.1 d_D_endTransitionWhenAllAreOver_45 rfl (lv_at hl 1 rfl) ?_
    refine pw_get F I_D hK.1 hP f1 rfl 1 (by decide) L_D_16 (fun _ z => z) rfl d_D_endTransitionWhenAllAreOver_46 ?_
    obtain ⟨q7, n8, f9, _, _⟩ := hs.ls (show 1 < 3 by decide)
    have f10 : h (g 10 1) = some (.inr (0, [.ref q7, .int (nI pT), .int n8])) := f9
    refine pw_ciE (pr_V F (c_AL_size l D cs A h _ _ _ _ f10) X_D_44 rfl rfl ⟨by decide, by decide⟩ hP hA hK hS f10 rfl rfl rfl hl.1 rfl (Nat.le_of_ble_eq_true rfl) d_D_endTransitionWhenAllAreOver_49 ⟨by decide, by decide⟩) hS (fun H locs hP hS => ?_)
    refine lv_icmp_ge (tgt := 72) F.1 F.2.1 d_D_endTransitionWhenAllAreOver_52 (by decide) (fun c11 => ?_) (fun c11 => ?_)
    · skip
      refine lv_aload_n F.1 F.2.1 d_D_endTransitionWhenAllAreOver_72 rfl (lv_at hl 1 rfl) ?_
      refine lv_iconst (v := (-1)) F.1 F.2.1 d_D_endTransitionWhenAllAreOver_73 (by decide) ?_
      refine pw_put F I_D ty_D k_D n_D hK.1 hP hS f1 rfl 4 (by decide) L_D_29 (fun _ z => z) rfl rfl rfl (Nat.le_of_ble_eq_true rfl) d_D_endTransitionWhenAllAreOver_74 (fun H locs hP hS => ?_)
      replace hP : pw D vwCl A (pu h x (.inr (6, [.ref (g 10 0), .ref (g 10 1), .ref (g 10 2), .ref (g 3 6), .int (-1)]))) H := hP
      obtain ⟨h12, e13⟩ : ∃ z9 : pw_H, z9 = pu h x (.inr (6, [.ref (g 10 0), .ref (g 10 1), .ref (g 10 2), .ref (g 3 6), .int (-1)])) := ⟨_, rfl⟩
      rw [← e13] at hP
      have f14 : h12 x = some (.inr (6, [.ref (g 10 0), .ref (g 10 1), .ref (g 10 2), .ref (g 3 6), .int (-1)])) := by rw [e13]; exact pu_s
      exact pw_vret F hr hlk hP hA hK hS (by decide) (by decide) d_D_endTransitionWhenAllAreOver_77 ⟨pT, by have hqp : q = pT := (hqp.elim id (fun z9 => absurd (hq ▸ c11) (nI_ge (a := q) (b := pT) (by omega) (by omega)))); rw [mSettle_t hw.1.2.2.2.2.2.1 hnt4 (fun j hj => hc j (by omega))]; exact ⟨hs.goal (by rw [e13]; exact ext.rf.pu (Or.inl (by simp))) f14 sp_s (fun k j hk => (sp_k hk).trans (sp_k hk)) ((sp_j (by decide)).trans (sp_j (by decide))), by rw [sp_j (by decide), sp_s, hq, hqp], hp5⟩⟩
    · skip
      refine lv_aload_n F.1 F.2.1 d_D_endTransitionWhenAllAreOver_55 rfl (lv_at hl 1 rfl) ?_
      refine pw_get F I_D hK.1 hP f1 rfl 1 (by decide) L_D_16 (fun _ z => z) rfl d_D_endTransitionWhenAllAreOver_56 ?_
      refine lv_aload_n F.1 F.2.1 d_D_endTransitionWhenAllAreOver_59 rfl (lv_at hl 1 rfl) ?_
      refine pw_get F I_D hK.1 hP f1 rfl 1 (by decide) L_D_16 (fun _ z => z) rfl d_D_endTransitionWhenAllAreOver_60 ?_
      refine pw_ciE (pr_V F (c_AL_size l D cs A h _ _ _ _ f10) X_D_44 rfl rfl ⟨by decide, by decide⟩ hP hA hK hS f10 rfl rfl rfl hl.1 rfl (Nat.le_of_ble_eq_true rfl) d_D_endTransitionWhenAllAreOver_63 ⟨by decide, by decide⟩) hS (fun H locs hP hS => ?_)
      refine lv_iconst (v := 1) F.1 F.2.1 d_D_endTransitionWhenAllAreOver_66 (by decide) ?_
      refine lv_isub F.1 F.2.1 d_D_endTransitionWhenAllAreOver_67 ?_
      refine W.eq (g2 := F0 m 68 ls [.int (nI (pT - 1)), .ref (g 10 1)]) (by rw [show (1 : Int32) = nI 1 from rfl, show nI pT - nI 1 = nI (pT - 1) from pk_sub (by omega)]) ?_
      obtain ⟨_, n15, v16, f17, f18, k19⟩ := hs.le (show 1 < 3 by decide) (show 0 < pT by omega)
      refine pw_cr (pr_V F (c_AL_remove l D cs A h _ _ (pT - 1) _ _ v16 (by omega) (k19 (pT - 1) (show pT - 1 < pT by omega)) (show h (g 10 1) = some (.inr (0, [.ref (g 11 1), .int (nI (pT - 1 + 1)), .int n15])) from by rw [Nat.sub_add_cancel hp1]; exact f17) f18) X_D_210 rfl rfl ⟨by decide, by decide⟩ hP hA hK hS f10 rfl rfl rfl hl.1 rfl (Nat.le_of_ble_eq_true rfl) d_D_endTransitionWhenAllAreOver_68 ⟨by decide, by decide⟩) hS (fun r9 hz9 H locs hq9 hP hS => ?_)
      obtain ⟨_, hq1, hq2, hqx⟩ := hq9
      have hsz : Sim cs hz9 x g gr dp S nf (pT - 1) nt := hs.pop hp1 hqx hq1 hq2 k19
      refine lv_pop F.1 F.2.1 d_D_endTransitionWhenAllAreOver_71 rfl ?_
      refine lv_aload_n F.1 F.2.1 d_D_endTransitionWhenAllAreOver_72 rfl (lv_at hl 1 rfl) ?_
      refine lv_iconst (v := (-1)) F.1 F.2.1 d_D_endTransitionWhenAllAreOver_73 (by decide) ?_
      have f20 : hz9 x = some (.inr (6, [.ref (g 10 0), .ref (g 10 1), .ref (g 10 2), .ref (g 3 6), .int (S 16 4)])) := hsz.1
      refine pw_put F I_D ty_D k_D n_D hK.1 hP hS f20 rfl 4 (by decide) L_D_29 (fun _ z => z) rfl rfl rfl (Nat.le_of_ble_eq_true rfl) d_D_endTransitionWhenAllAreOver_74 (fun H locs hP hS => ?_)
      replace hP : pw D vwCl A (pu hz9 x (.inr (6, [.ref (g 10 0), .ref (g 10 1), .ref (g 10 2), .ref (g 3 6), .int (-1)]))) H := hP
      obtain ⟨h21, e22⟩ : ∃ z9 : pw_H, z9 = pu hz9 x (.inr (6, [.ref (g 10 0), .ref (g 10 1), .ref (g 10 2), .ref (g 3 6), .int (-1)])) := ⟨_, rfl⟩
      rw [← e22] at hP
      have f23 : h21 x = some (.inr (6, [.ref (g 10 0), .ref (g 10 1), .ref (g 10 2), .ref (g 3 6), .int (-1)])) := by rw [e22]; exact pu_s
      exact pw_vret F hr hlk hP hA hK hS (by decide) (by decide) d_D_endTransitionWhenAllAreOver_77 ⟨pT - 1, by have hqp : q = pT - 1 := (hqp.elim (fun z9 => absurd (by rw [hq, z9]; exact Int32.le_refl _) c11) id); rw [mSettle_t hw.1.2.2.2.2.2.1 hnt4 (fun j hj => hc j (by omega))]; exact ⟨hsz.goal (by rw [e22]; exact ext.rf.pu (Or.inl (by simp))) f23 sp_s (fun k j hk => (sp_k hk).trans (sp_k hk)) ((sp_j (by decide)).trans (sp_j (by decide))), by rw [sp_j (by decide), sp_s, hq, hqp], by omega⟩⟩
  | succ n ih =>
    refine lv_iload_n F.1 F.2.1 d_D_endTransitionWhenAllAreOver_2 rfl (lv_at hl 0 rfl) ?_
    refine lv_aload_n F.1 F.2.1 d_D_endTransitionWhenAllAreOver_3 rfl (lv_at hl 1 rfl) ?_
    have f24 : h x = some (.inr (6, [.ref (g 10 0), .ref (g 10 1), .ref (g 10 2), .ref (g 3 6), .int (S 16 4)])) := hs.1
    refine pw_get F I_D hK.1 hP f24 rfl 2 (by decide) L_D_19 (fun _ z => z) rfl d_D_endTransitionWhenAllAreOver_4 ?_
    obtain ⟨q25, n26, f27, _, _⟩ := hs.ls (show 2 < 3 by decide)
    have f28 : h (g 10 2) = some (.inr (0, [.ref q25, .int (nI nt), .int n26])) := f27
    refine pw_ciE (pr_V F (c_AL_size l D cs A h _ _ _ _ f28) X_D_44 rfl rfl ⟨by decide, by decide⟩ hP hA hK hS f28 rfl rfl rfl hl.1 rfl (Nat.le_of_ble_eq_true rfl) d_D_endTransitionWhenAllAreOver_7 ⟨by decide, by decide⟩) hS (fun H locs hP hS => ?_)
    refine lv_icmp_ge (tgt := 41) F.1 F.2.1 d_D_endTransitionWhenAllAreOver_10 (by decide) (fun c29 => absurd c29 (nI_ge (show i < nt by omega) (by omega))) (fun c29 => ?_)
    refine lv_aload_n F.1 F.2.1 d_D_endTransitionWhenAllAreOver_13 rfl (lv_at hl 1 rfl) ?_
    refine pw_get F I_D hK.1 hP f24 rfl 2 (by decide) L_D_19 (fun _ z => z) rfl d_D_endTransitionWhenAllAreOver_14 ?_
    refine lv_iload_n F.1 F.2.1 d_D_endTransitionWhenAllAreOver_17 rfl (lv_at hl 0 rfl) ?_
    obtain ⟨_, n30, v31, f32, f33, k34⟩ := hs.le (show 2 < 3 by decide) (show 0 < nt by omega)
    refine pw_crE (pr_V F (c_AL_get l D cs A h _ _ nt i _ _ v31 (by omega) (by omega) (k34 i (show i < nt by omega)) f32 f33) X_D_78 rfl rfl ⟨by decide, by decide⟩ hP hA hK hS f28 rfl rfl rfl hl.1 rfl (Nat.le_of_ble_eq_true rfl) d_D_endTransitionWhenAllAreOver_18 ⟨by decide, by decide⟩) hS (fun H locs hP hS => ?_)
    have f35 : h (g 6 i) = some (.inr (5, [.ref (g 7 i), .int (S 11 i), .int (S 6 i), .int (S 7 i), .int (S 8 i), .int (S 9 i), .int (S 10 i)])) := hs.tk (by omega)
    refine va_castY (C := R_T) F.1 F.2.1 F.2.2.2.1 (F.2.2.2.2 _ C_D_135) (hK.2.2.2.2.2.2.2.1 ("PatchDesk$Task", "PatchDesk$Task") (by decide)) (pw_recv hK.1 hP f35 rfl) d_D_endTransitionWhenAllAreOver_21 ?_
    refine pw_get F I_T hK.1 hP f35 rfl 2 (by decide) L_D_153 (fun _ z => z) rfl d_D_endTransitionWhenAllAreOver_24 ?_
    refine lv_aload_n F.1 F.2.1 d_D_endTransitionWhenAllAreOver_27 rfl (lv_at hl 1 rfl) ?_
    refine pw_get F I_D hK.1 hP f24 rfl 4 (by decide) L_D_29 (fun _ z => z) rfl d_D_endTransitionWhenAllAreOver_28 ?_
    refine lv_icmp_eq (tgt := 35) F.1 F.2.1 d_D_endTransitionWhenAllAreOver_31 (by decide) (fun c36 => ?_) (fun c36 => ?_)
    · skip
      refine lv_iinc (k := 0) (v := nI (i + 1)) F.1 F.2.1 d_D_endTransitionWhenAllAreOver_35 hl rfl (by rw [show Int32.ofInt 1 = nI 1 from rfl, nI_add]) (by decide) rfl (fun ls hl => ?_)
      replace hl : lv_has ls 2 [(1, .int (nI (i + 1))), (0, .ref x)] := hl
      refine lv_goto (tgt := 2) F.1 F.2.1 d_D_endTransitionWhenAllAreOver_38 (by decide) ?_
      have hc9 : ∀ j, j < i + 1 → S 6 j = S 16 4 := fun j hj => (Nat.lt_or_ge j i).elim (fun h9 => hc j h9) (fun h9 => by rw [show j = i by omega]; exact c36)
      exact ih (ls := ls) (i := i + 1) (H := H) (locs := locs) (by first | exact hl | exact hP | exact hS | exact hc9 | omega) (by first | exact hl | exact hP | exact hS | exact hc9 | omega) (by first | exact hl | exact hP | exact hS | exact hc9 | omega) (by first | exact hl | exact hP | exact hS | exact hc9 | omega) (by first | exact hl | exact hP | exact hS | exact hc9 | omega) (by first | exact hl | exact hP | exact hS | exact hc9 | omega)
    · skip
      exact pw_vret F hr hlk hP hA hK hS (by decide) (by decide) d_D_endTransitionWhenAllAreOver_34 ⟨pT, by rw [mSettle_f hw.1.2.2.2.2.2.1 hnt4 ⟨i, by omega, c36⟩]; exact ⟨hs, hw.1.2.2.2.2.1, hp5⟩⟩
abbrev rm_D_headFor : Room := { frames := 4, cells := 0, slots := 0, locals := 87 }
set_option maxHeartbeats 4000000 in
set_option maxRecDepth 100000 in
theorem c_D_headFor (l : Launch) (D : va_G) (cs : Nat → Nat) (A : Nat → Prop) (h : pw_H) (x : Nat) (g : Gh) (gr : Nat → Prop) (dp : Nat → Nat) (S : St) (nf pT nt : Nat) (hs : Sim cs h x g gr dp S nf pT nt) (X : Nat → Prop) (q : Nat) (hw : WF (sp S 16 4 (nI q)) nf pT nt X) (hqp : q = pT ∨ q = pT - 1) (hp1 : 1 ≤ pT) : pm l y_D_headFor b_D_headFor 2 none rm_D_headFor [.ref x, .int (nI q)] D cs A h (va_Qv (fun (h' : pw_H) => ∃ pN, Sim cs h' x g gr dp (mSettle (sp S 16 4 (nI q))) nf pN nt ∧ mSettle (sp S 16 4 (nI q)) 16 3 = nI pN ∧ pN ≤ 5) (ww D cs A) A) 0 0 := by
  refine pm_of R_D rfl (by decide) (Nat.le_of_ble_eq_true rfl) (fun p e s m below meth c ls F hr hlk hnm hP hA hK hl => ?_)
  have hS : va_S A s.heap s.heap [] := va_S.rf
  replace hl : lv_has ls 2 [(0, .ref x), (1, .int (nI q))] := hl
  refine lv_aload_n F.1 F.2.1 d_D_headFor_0 rfl (lv_at hl 0 rfl) ?_
  refine lv_iload_n F.1 F.2.1 d_D_headFor_1 rfl (lv_at hl 1 rfl) ?_
  have f1 : h x = some (.inr (6, [.ref (g 10 0), .ref (g 10 1), .ref (g 10 2), .ref (g 3 6), .int (S 16 4)])) := hs.1
  refine pw_put F I_D ty_D k_D n_D hK.1 hP hS f1 rfl 4 (by decide) L_D_29 (fun _ z => z) rfl rfl rfl (Nat.le_of_ble_eq_true rfl) d_D_headFor_2 (fun H locs hP hS => ?_)
  replace hP : pw D vwCl A (pu h x (.inr (6, [.ref (g 10 0), .ref (g 10 1), .ref (g 10 2), .ref (g 3 6), .int (nI q)]))) H := hP
  obtain ⟨h2, e3⟩ : ∃ z9 : pw_H, z9 = pu h x (.inr (6, [.ref (g 10 0), .ref (g 10 1), .ref (g 10 2), .ref (g 3 6), .int (nI q)])) := ⟨_, rfl⟩
  rw [← e3] at hP
  have f4 : h2 x = some (.inr (6, [.ref (g 10 0), .ref (g 10 1), .ref (g 10 2), .ref (g 3 6), .int (nI q)])) := by rw [e3]; exact pu_s
  refine lv_aload_n F.1 F.2.1 d_D_headFor_5 rfl (lv_at hl 0 rfl) ?_
  have hs9 : Sim cs h2 x g gr dp (sp S 16 4 (nI q)) nf pT nt := hs.goal (by rw [e3]; exact ext.rf.pu (Or.inl (by simp))) f4 sp_s (fun k j hk => sp_k hk) (sp_j (by decide))
  refine pw_cv (pr_V F (c_D_endTransitionWhenAllAreOver l D cs A h2 x g gr dp (sp S 16 4 (nI q)) nf pT nt hs9 X hw q sp_s hqp hp1) X_D_156 rfl rfl ⟨by decide, by decide⟩ hP hA hK hS f4 rfl rfl rfl hl.1 rfl (Nat.le_of_ble_eq_true rfl) d_D_headFor_6 ⟨by decide, by decide⟩) hS (fun hz9 H locs hq hP hS => ?_)
  exact pw_vret F hr hlk hP hA hK hS (by decide) (by decide) d_D_headFor_9 hq
abbrev rm_D_patches : Room := { frames := 1, cells := 0, slots := 0, locals := 20 }
set_option maxHeartbeats 4000000 in
set_option maxRecDepth 100000 in
theorem c_D_patches (l : Launch) (D : va_G) (cs : Nat → Nat) (A : Nat → Prop) (h : pw_H) (x : Nat) (g : Gh) (gr : Nat → Prop) (dp : Nat → Nat) (S : St) (nf pT nt : Nat) (hs : Sim cs h x g gr dp S nf pT nt) : pm l y_D_patches b_D_patches 1 (some .int) rm_D_patches [.ref x] D cs A h (va_Qi (fun (r : Int32) (h' : pw_H) => h' = h ∧ r = nI pT) (ww D cs A) A) 0 0 := by
  refine pm_of R_D rfl (by decide) (Nat.le_of_ble_eq_true rfl) (fun p e s m below meth c ls F hr hlk hnm hP hA hK hl => ?_)
  have hS : va_S A s.heap s.heap [] := va_S.rf
  replace hl : lv_has ls 1 [(0, .ref x)] := hl
  refine lv_aload_n F.1 F.2.1 d_D_patches_0 rfl (lv_at hl 0 rfl) ?_
  have f1 : h x = some (.inr (6, [.ref (g 10 0), .ref (g 10 1), .ref (g 10 2), .ref (g 3 6), .int (S 16 4)])) := hs.1
  refine pw_get F I_D hK.1 hP f1 rfl 1 (by decide) L_D_16 (fun _ z => z) rfl d_D_patches_1 ?_
  obtain ⟨q2, n3, f4, _, _⟩ := hs.ls (show 1 < 3 by decide)
  have f5 : h (g 10 1) = some (.inr (0, [.ref q2, .int (nI pT), .int n3])) := f4
  refine pw_ciE (pr_V F (c_AL_size l D cs A h _ _ _ _ f5) X_D_44 rfl rfl ⟨by decide, by decide⟩ hP hA hK hS f5 rfl rfl rfl hl.1 rfl (Nat.le_of_ble_eq_true rfl) d_D_patches_4 ⟨by decide, by decide⟩) hS (fun H locs hP hS => ?_)
  exact pw_iret F hr hlk hP hA hK hS (by decide) (by decide) d_D_patches_7 ⟨rfl, rfl⟩
abbrev rm_D_target : Room := { frames := 0, cells := 0, slots := 0, locals := 0 }
set_option maxHeartbeats 4000000 in
set_option maxRecDepth 100000 in
theorem c_D_target (l : Launch) (D : va_G) (cs : Nat → Nat) (A : Nat → Prop) (h : pw_H) (x : Nat) (g : Gh) (gr : Nat → Prop) (dp : Nat → Nat) (S : St) (nf pT nt : Nat) (hs : Sim cs h x g gr dp S nf pT nt) : pm l y_D_target b_D_target 1 (some .int) rm_D_target [.ref x] D cs A h (va_Qi (fun (r : Int32) (h' : pw_H) => h' = h ∧ r = S 16 4) (ww D cs A) A) 0 0 := by
  refine pm_of R_D rfl (by decide) (Nat.le_of_ble_eq_true rfl) (fun p e s m below meth c ls F hr hlk hnm hP hA hK hl => ?_)
  have hS : va_S A s.heap s.heap [] := va_S.rf
  replace hl : lv_has ls 1 [(0, .ref x)] := hl
  refine lv_aload_n F.1 F.2.1 d_D_target_0 rfl (lv_at hl 0 rfl) ?_
  have f1 : h x = some (.inr (6, [.ref (g 10 0), .ref (g 10 1), .ref (g 10 2), .ref (g 3 6), .int (S 16 4)])) := hs.1
  refine pw_get F I_D hK.1 hP f1 rfl 4 (by decide) L_D_29 (fun _ z => z) rfl d_D_target_1 ?_
  exact pw_iret F hr hlk hP hA hK hS (by decide) (by decide) d_D_target_4 ⟨rfl, rfl⟩
abbrev rm_D_keepsSignatures : Room := { frames := 3, cells := 0, slots := 0, locals := 64 }
set_option maxHeartbeats 4000000 in
set_option maxRecDepth 100000 in
theorem c_D_keepsSignatures (l : Launch) (D : va_G) (cs : Nat → Nat) (A : Nat → Prop) (h : pw_H) (x : Nat) (g : Gh) (gr : Nat → Prop) (dp : Nat → Nat) (S : St) (nf pT nt : Nat) (hs : Sim cs h x g gr dp S nf pT nt) (hnf8 : nf ≤ 8) (pa ba sa : Nat) (nv : Value) (qb : Nat → Option Nat) (Vs : Nat → Int32) (fp : h pa = some (.inr (3, [.ref ba, .ref sa, nv]))) (fb : h ba = some (eQ (cs 3) 8 qb)) (fs : h sa = some (eI (cs 0) 8 Vs)) : pm l y_D_keepsSignatures b_D_keepsSignatures 3 (some .boolean) rm_D_keepsSignatures [.ref x, .ref pa] D cs A h (va_Qi (fun (r : Int32) (h' : pw_H) => h' = h ∧ ((∀ f, f < nf → qb f = none ∨ Vs f = S 1 f) → r = 1) ∧ (¬ (∀ f, f < nf → qb f = none ∨ Vs f = S 1 f) → r = 0)) (ww D cs A) A) 0 0 := by
  refine pm_of R_D rfl (by decide) (Nat.le_of_ble_eq_true rfl) (fun p e s m below meth c ls F hr hlk hnm hP hA hK hl => ?_)
  have hS : va_S A s.heap s.heap [] := va_S.rf
  replace hl : lv_has ls 3 [(0, .ref x), (1, .ref pa)] := hl
  refine lv_iconst (v := 0) F.1 F.2.1 d_D_keepsSignatures_0 (by decide) ?_
  refine lv_istore_n F.1 F.2.1 d_D_keepsSignatures_1 rfl hl (by decide) rfl (fun ls hl => ?_)
  replace hl : lv_has ls 3 [(2, .int 0), (0, .ref x), (1, .ref pa)] := hl
  obtain ⟨H, hH0⟩ : ∃ H : Heap, H = s.heap := ⟨_, rfl⟩
  obtain ⟨locs, hlo0⟩ : ∃ locs : List Loc, locs = [] := ⟨_, rfl⟩
  replace hP : pw D vwCl A h H := by rw [hH0]; exact hP
  replace hS : va_S A s.heap H locs := by rw [hH0, hlo0]; exact hS
  rw [← hH0, ← hlo0]
  clear hH0 hlo0
  obtain ⟨i, hi0⟩ : ∃ i : Nat, i = 0 := ⟨0, rfl⟩
  have hiL : i ≤ nf := by omega
  obtain ⟨n, hn⟩ : ∃ n : Nat, nf - i = n := ⟨_, rfl⟩
  have hc : ∀ j, j < i → qb j = none ∨ Vs j = S 1 j := fun j hj => by omega
  replace hl : lv_has ls 3 [(2, .int (nI i)), (0, .ref x), (1, .ref pa)] := by rw [hi0]; exact hl
  clear hi0
  induction n generalizing ls i H locs with
  | zero =>
    refine lv_iload_n F.1 F.2.1 d_D_keepsSignatures_2 rfl (lv_at hl 0 rfl) ?_
    refine lv_aload_n F.1 F.2.1 d_D_keepsSignatures_3 rfl (lv_at hl 1 rfl) ?_
    have f1 : h x = some (.inr (6, [.ref (g 10 0), .ref (g 10 1), .ref (g 10 2), .ref (g 3 6), .int (S 16 4)])) := hs.1
    refine pw_get F I_D hK.1 hP f1 rfl 0 (by decide) L_D_10 (fun _ z => z) rfl d_D_keepsSignatures_4 ?_
    obtain ⟨q2, n3, f4, _, _⟩ := hs.ls (show 0 < 3 by decide)
    have f5 : h (g 10 0) = some (.inr (0, [.ref q2, .int (nI nf), .int n3])) := f4
    refine pw_ciE (pr_V F (c_AL_size l D cs A h _ _ _ _ f5) X_D_44 rfl rfl ⟨by decide, by decide⟩ hP hA hK hS f5 rfl rfl rfl hl.1 rfl (Nat.le_of_ble_eq_true rfl) d_D_keepsSignatures_7 ⟨by decide, by decide⟩) hS (fun H locs hP hS => ?_)
    refine lv_icmp_ge (tgt := 52) F.1 F.2.1 d_D_keepsSignatures_10 (by decide) (fun c6 => ?_) (fun c6 => absurd (nI_le (show nf ≤ i by omega) (by omega)) c6)
    refine lv_iconst (v := 1) F.1 F.2.1 d_D_keepsSignatures_52 (by decide) ?_
    exact pw_zret F hr rfl hlk hP hA hK hS (by decide) (by decide) d_D_keepsSignatures_53 ⟨rfl, fun _ => rfl, fun z9 => absurd (fun j hj => hc j (by omega)) z9⟩
  | succ n ih =>
    refine lv_iload_n F.1 F.2.1 d_D_keepsSignatures_2 rfl (lv_at hl 0 rfl) ?_
    refine lv_aload_n F.1 F.2.1 d_D_keepsSignatures_3 rfl (lv_at hl 1 rfl) ?_
    have f7 : h x = some (.inr (6, [.ref (g 10 0), .ref (g 10 1), .ref (g 10 2), .ref (g 3 6), .int (S 16 4)])) := hs.1
    refine pw_get F I_D hK.1 hP f7 rfl 0 (by decide) L_D_10 (fun _ z => z) rfl d_D_keepsSignatures_4 ?_
    obtain ⟨q8, n9, f10, _, _⟩ := hs.ls (show 0 < 3 by decide)
    have f11 : h (g 10 0) = some (.inr (0, [.ref q8, .int (nI nf), .int n9])) := f10
    refine pw_ciE (pr_V F (c_AL_size l D cs A h _ _ _ _ f11) X_D_44 rfl rfl ⟨by decide, by decide⟩ hP hA hK hS f11 rfl rfl rfl hl.1 rfl (Nat.le_of_ble_eq_true rfl) d_D_keepsSignatures_7 ⟨by decide, by decide⟩) hS (fun H locs hP hS => ?_)
    refine lv_icmp_ge (tgt := 52) F.1 F.2.1 d_D_keepsSignatures_10 (by decide) (fun c12 => absurd c12 (nI_ge (show i < nf by omega) (by omega))) (fun c12 => ?_)
    refine lv_aload_n F.1 F.2.1 d_D_keepsSignatures_13 rfl (lv_at hl 2 rfl) ?_
    refine lv_iload_n F.1 F.2.1 d_D_keepsSignatures_14 rfl (lv_at hl 0 rfl) ?_
    refine pw_ciE (pr_V F (c_P_hasNamed l D cs A h _ _ i _ _ _ (by omega) fp fb) X_D_69 rfl rfl ⟨by decide, by decide⟩ hP hA hK hS fp rfl rfl rfl hl.1 rfl (Nat.le_of_ble_eq_true rfl) d_D_keepsSignatures_15 ⟨by decide, by decide⟩) hS (fun H locs hP hS => ?_)
    by_cases b13 : qb i = none
    · skip
      refine W.eq (g2 := F0 m 18 ls [.int 0]) (by rw [if_pos b13]) ?_
      refine lv_if_eq (tgt := 46) F.1 F.2.1 d_D_keepsSignatures_18 (by decide) (fun c14 => ?_) (fun c14 => absurd (by decide) c14)
      refine lv_iinc (k := 0) (v := nI (i + 1)) F.1 F.2.1 d_D_keepsSignatures_46 hl rfl (by rw [show Int32.ofInt 1 = nI 1 from rfl, nI_add]) (by decide) rfl (fun ls hl => ?_)
      replace hl : lv_has ls 3 [(2, .int (nI (i + 1))), (0, .ref x), (1, .ref pa)] := hl
      refine lv_goto (tgt := 2) F.1 F.2.1 d_D_keepsSignatures_49 (by decide) ?_
      have hc9 : ∀ j, j < i + 1 → qb j = none ∨ Vs j = S 1 j := fun j hj => (Nat.lt_or_ge j i).elim (fun h9 => hc j h9) (fun h9 => by rw [show j = i by omega]; exact Or.inl b13)
      exact ih (ls := ls) (i := i + 1) (H := H) (locs := locs) (by first | exact hl | exact hP | exact hS | exact hc9 | omega) (by first | exact hl | exact hP | exact hS | exact hc9 | omega) (by first | exact hl | exact hP | exact hS | exact hc9 | omega) (by first | exact hl | exact hP | exact hS | exact hc9 | omega) (by first | exact hl | exact hP | exact hS | exact hc9 | omega) (by first | exact hl | exact hP | exact hS | exact hc9 | omega)
    · skip
      refine W.eq (g2 := F0 m 18 ls [.int 1]) (by rw [if_neg b13]) ?_
      refine lv_if_eq (tgt := 46) F.1 F.2.1 d_D_keepsSignatures_18 (by decide) (fun c15 => absurd c15 (by decide)) (fun c15 => ?_)
      refine lv_aload_n F.1 F.2.1 d_D_keepsSignatures_21 rfl (lv_at hl 2 rfl) ?_
      refine pw_get F I_P hK.1 hP fp rfl 1 (by decide) L_D_203 (fun _ z => z) rfl d_D_keepsSignatures_22 ?_
      refine lv_iload_n F.1 F.2.1 d_D_keepsSignatures_25 rfl (lv_at hl 0 rfl) ?_
      refine pw_ialdN F hK.1 hP 0 fs rfl (k := i) (by omega) (by decide) d_D_keepsSignatures_26 ?_
      refine lv_aload_n F.1 F.2.1 d_D_keepsSignatures_27 rfl (lv_at hl 1 rfl) ?_
      refine pw_get F I_D hK.1 hP f7 rfl 0 (by decide) L_D_10 (fun _ z => z) rfl d_D_keepsSignatures_28 ?_
      refine lv_iload_n F.1 F.2.1 d_D_keepsSignatures_31 rfl (lv_at hl 0 rfl) ?_
      obtain ⟨_, n16, v17, f18, f19, k20⟩ := hs.le (show 0 < 3 by decide) (show 0 < nf by omega)
      refine pw_crE (pr_V F (c_AL_get l D cs A h _ _ nf i _ _ v17 (by omega) (by omega) (k20 i (show i < nf by omega)) f18 f19) X_D_78 rfl rfl ⟨by decide, by decide⟩ hP hA hK hS f11 rfl rfl rfl hl.1 rfl (Nat.le_of_ble_eq_true rfl) d_D_keepsSignatures_32 ⟨by decide, by decide⟩) hS (fun H locs hP hS => ?_)
      have f21 : h (g 9 i) = some (.inr (2, [.int (S 1 i), .ref (g 0 i)])) := hs.fu (by omega)
      refine va_castY (C := R_Fn) F.1 F.2.1 F.2.2.2.1 (F.2.2.2.2 _ C_D_57) (hK.2.2.2.2.2.2.2.1 ("PatchDesk$Function", "PatchDesk$Function") (by decide)) (pw_recv hK.1 hP f21 rfl) d_D_keepsSignatures_35 ?_
      refine pw_get F I_Fn hK.1 hP f21 rfl 0 (by decide) L_D_207 (fun _ z => z) rfl d_D_keepsSignatures_38 ?_
      refine lv_icmp_eq (tgt := 46) F.1 F.2.1 d_D_keepsSignatures_41 (by decide) (fun c22 => ?_) (fun c22 => ?_)
      · skip
        refine lv_iinc (k := 0) (v := nI (i + 1)) F.1 F.2.1 d_D_keepsSignatures_46 hl rfl (by rw [show Int32.ofInt 1 = nI 1 from rfl, nI_add]) (by decide) rfl (fun ls hl => ?_)
        replace hl : lv_has ls 3 [(2, .int (nI (i + 1))), (0, .ref x), (1, .ref pa)] := hl
        refine lv_goto (tgt := 2) F.1 F.2.1 d_D_keepsSignatures_49 (by decide) ?_
        have hc9 : ∀ j, j < i + 1 → qb j = none ∨ Vs j = S 1 j := fun j hj => (Nat.lt_or_ge j i).elim (fun h9 => hc j h9) (fun h9 => by rw [show j = i by omega]; exact Or.inr c22)
        exact ih (ls := ls) (i := i + 1) (H := H) (locs := locs) (by first | exact hl | exact hP | exact hS | exact hc9 | omega) (by first | exact hl | exact hP | exact hS | exact hc9 | omega) (by first | exact hl | exact hP | exact hS | exact hc9 | omega) (by first | exact hl | exact hP | exact hS | exact hc9 | omega) (by first | exact hl | exact hP | exact hS | exact hc9 | omega) (by first | exact hl | exact hP | exact hS | exact hc9 | omega)
      · skip
        refine lv_iconst (v := 0) F.1 F.2.1 d_D_keepsSignatures_44 (by decide) ?_
        exact pw_zret F hr rfl hlk hP hA hK hS (by decide) (by decide) d_D_keepsSignatures_45 ⟨rfl, fun z9 => (z9 i (by omega)).elim (fun z8 => absurd z8 b13) (fun z8 => absurd z8 c22), fun _ => rfl⟩
