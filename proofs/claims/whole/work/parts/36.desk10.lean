theorem gset3 {g : Gh} {i a b c k' i' : Nat} (h : ¬ (k' ≤ 2 ∧ i' = i)) : gset (gset (gset g 0 i a) 1 i b) 2 i c k' i' = g k' i' := by
  rw [gset_n (by omega), gset_n (by omega), gset_n (by omega)]
theorem live_case {S : St} {nf p nt : Nat} {gr : Nat → Prop} {k i : Nat} (h : live S nf p nt gr k i) : k = 0 ∨ k = 1 ∨ k = 2 ∨ k = 3 ∨ k = 4 ∨ k = 5 ∨ k = 6 ∨ k = 7 ∨ k = 8 ∨ k = 9 ∨ k = 10 ∨ k = 11 := by
  have := live_k h
  omega
section
variable {cs : Nat → Nat} {h h' : pw_H} {x : Nat} {g g' : Gh} {gr gr' : Nat → Prop} {dp dp' : Nat → Nat} {S S' : St} {nf p nt nf' p' nt' : Nat}
theorem Sim.name {T : St} {f b ka na : Nat} {q : Nat → Option Nat} {V : Nat → Int32} {sg : Int32} (hs : Sim cs h x g gr (dpS S) S nf p nt) (hw : WF S nf p nt noX) (hf : f < nf) (h48 : S 0 (48 + f) = 0)
    (hq : ∀ f, f < 8 → (S 0 (8 * 6 + f) = 1 → q f = some (g 0 (8 * 6 + f))) ∧ (S 0 (8 * 6 + f) = 0 → q f = none)) (hV : ∀ f, f < 8 → S 0 (48 + f) = 1 → V f = S 1 (48 + f))
    (hb : h b = none) (hka : h ka = none) (hna : h na = none) (hkn : ka ≠ na)
    (f1 : h' b = some (.inr (1, [.ref ka, .ref na, .int 0]))) (f2 : h' ka = some (eI (cs 0) 12 (fun _ => 0))) (f3 : h' na = some (eI (cs 0) 12 (fun _ => 0))) (f4 : h' (g 4 6) = some (eQ (cs 3) 8 (va_up q f (some b)))) (f5 : h' (g 5 6) = some (eI (cs 0) 8 (upd V f sg))) (f6 : h' (g 3 6) = some (.inr (3, [.ref (g 4 6), .ref (g 5 6), .int (S 16 2 + 1)]))) (hx : ext h h' [g 3 6, g 4 6, g 5 6])
    (tk : ∀ κ j, ¬ ((κ ≤ 2 ∧ j = 48 + f) ∨ (κ = 16 ∧ j = 2)) → T κ j = S κ j) (t0 : T 0 (48 + f) = 1) (t1 : T 1 (48 + f) = sg) (t2 : T 2 (48 + f) = 0) (t16 : T 16 2 = S 16 2 + 1) :
    Sim cs h' x (gset (gset (gset g 0 (48 + f) b) 1 (48 + f) ka) 2 (48 + f) na) gr (dpS S) T nf p nt := by
  have h8 := hw.1.1
  have lv : ∀ k i, live T nf p nt gr k i → ¬ (k ≤ 2 ∧ i = 48 + f) → live S nf p nt gr k i := fun k i hl hn => by
    rcases live_case hl with rfl | rfl | rfl | rfl | rfl | rfl | rfl | rfl | rfl | rfl | rfl | rfl <;> simp only [live] at hl ⊢
    all_goals first | exact hl | (rw [tk 0 i (by omega)] at hl; exact hl)
  have l36 : live S nf p nt gr 3 6 := Or.inr rfl
  have l46 : live S nf p nt gr 4 6 := Or.inr rfl
  have l56 : live S nf p nt gr 5 6 := Or.inr rfl
  refine hs.mk2 (fun k i => ¬ (k ≤ 2 ∧ i = 48 + f)) (fun _ i => i) ?_ (fun k i hl hsr => ⟨lv k i hl hsr, gset3 hsr⟩) (fun k i i' _ _ _ _ hh => hh) (fun k i hl hsr => ?_) (fun k i k' i' hl hl' hsr hsr' heq => ?_) (fun k i hl => ?_)
  · rw [hs.keptx hx (nin3 (Ne.symm (hs.2.2.2 _ _ l36)) (Ne.symm (hs.2.2.2 _ _ l46)) (Ne.symm (hs.2.2.2 _ _ l56))), gset3 (by omega), gset3 (by omega), gset3 (by omega), gset3 (by omega), tk 16 4 (by omega)]
    exact hs.1
  · have hsr := Classical.byContradiction hsr
    obtain ⟨hk, rfl⟩ := hsr
    rcases (show k = 0 ∨ k = 1 ∨ k = 2 by omega) with rfl | rfl | rfl
    · rw [gset_n (by omega), gset_n (by omega), gset_s]; exact hb
    · rw [gset_n (by omega), gset_s]; exact hka
    · rw [gset_s]; exact hna
  · have hsr := Classical.byContradiction hsr
    have hsr' := Classical.byContradiction hsr'
    obtain ⟨hk, rfl⟩ := hsr
    obtain ⟨hk', rfl⟩ := hsr'
    have n1 : b ≠ ka := pu_t f1 f2 (show (1 : Nat) ≠ 112 by decide)
    have n2 : b ≠ na := pu_t f1 f3 (show (1 : Nat) ≠ 112 by decide)
    refine ⟨?_, rfl⟩
    have g0 : gset (gset (gset g 0 (48 + f) b) 1 (48 + f) ka) 2 (48 + f) na 0 (48 + f) = b := by rw [gset_n (by omega), gset_n (by omega), gset_s]
    have g1 : gset (gset (gset g 0 (48 + f) b) 1 (48 + f) ka) 2 (48 + f) na 1 (48 + f) = ka := by rw [gset_n (by omega), gset_s]
    have g2 : gset (gset (gset g 0 (48 + f) b) 1 (48 + f) ka) 2 (48 + f) na 2 (48 + f) = na := gset_s
    rcases (show k = 0 ∨ k = 1 ∨ k = 2 by omega) with rfl | rfl | rfl <;> rcases (show k' = 0 ∨ k' = 1 ∨ k' = 2 by omega) with rfl | rfl | rfl <;> simp only [g0, g1, g2] at heq <;> first | rfl | exact absurd heq n1 | exact absurd heq n2 | exact absurd heq hkn | exact absurd heq.symm n1 | exact absurd heq.symm n2 | exact absurd heq.symm hkn
  · by_cases hnew : k ≤ 2 ∧ i = 48 + f
    · obtain ⟨hk, rfl⟩ := hnew
      rcases (show k = 0 ∨ k = 1 ∨ k = 2 by omega) with rfl | rfl | rfl
      · refine ⟨_, by rw [gset_n (by omega), gset_n (by omega), gset_s]; exact f1, ?_⟩
        simp only [ent]
        rw [gset_n (show ¬ (1 = 2 ∧ 48 + f = 48 + f) by omega), gset_s, gset_s, t2]
      · refine ⟨_, by rw [gset_n (by omega), gset_s]; exact f2, ?_⟩
        simp only [ent]
        exact ⟨_, rfl, fun a _ ha => by rw [t2] at ha; exact absurd ha (Nat.not_lt_zero _)⟩
      · refine ⟨_, by rw [gset_s]; exact f3, ?_⟩
        simp only [ent]
        exact ⟨_, rfl, fun a _ ha => by rw [t2] at ha; exact absurd ha (Nat.not_lt_zero _)⟩
    · have hlS := lv k i hl hnew
      by_cases c3 : k = 3 ∧ i = 6
      · obtain ⟨rfl, rfl⟩ := c3
        refine ⟨_, by rw [gset3 (by omega)]; exact f6, ?_⟩
        simp only [ent]
        exact ⟨_, by rw [gset3 (by omega), gset3 (by omega)], fun _ => t16.symm⟩
      by_cases c4 : k = 4 ∧ i = 6
      · obtain ⟨rfl, rfl⟩ := c4
        refine ⟨_, by rw [gset3 (by omega)]; exact f4, ?_⟩
        simp only [ent]
        refine ⟨_, rfl, fun f' hf' => ?_⟩
        by_cases hff : f' = f
        · subst hff
          rw [show 8 * 6 + f' = 48 + f' by omega, t0, va_up_self]
          exact ⟨fun _ => by rw [gset_n (by omega), gset_n (by omega), gset_s], fun z => absurd z (by decide)⟩
        · rw [tk 0 _ (by omega), va_up_ne _ _ hff, gset3 (by omega)]
          exact hq f' hf'
      by_cases c5 : k = 5 ∧ i = 6
      · obtain ⟨rfl, rfl⟩ := c5
        refine ⟨_, by rw [gset3 (by omega)]; exact f5, ?_⟩
        simp only [ent]
        refine ⟨_, rfl, fun _ f' hf' => ?_⟩
        by_cases hff : f' = f
        · subst hff
          intro _
          rw [t1]; simp [upd]
        · rw [tk 0 _ (by omega), tk 1 _ (by omega)]
          intro z
          rw [← hV f' hf' z]; simp [upd, hff]
      refine hs.stay hx hlS (nin3 (hs.ne hlS l36 c3) (hs.ne hlS l46 c4) (hs.ne hlS l56 c5)) (gset3 hnew) (fun e he => ent_cong (fun κ j hr => tk κ j (fun z => ?_)) (ent_g (fun k' i' hg => gset3 (fun z => ?_)) he))
      · rcases z with ⟨z1, z2⟩ | ⟨rfl, rfl⟩
        · rcases (show κ = 0 ∨ κ = 1 ∨ κ = 2 by omega) with rfl | rfl | rfl
          · rcases rd_0 hr with ⟨a, b, c⟩ | ⟨a, b, _⟩
            · exact c4 ⟨a, by omega⟩
            · exact c5 ⟨a, b⟩
          · rcases rd_1 hr with ⟨a, b⟩ | ⟨a, b, _⟩
            · subst a
              have : i < nf := hlS
              omega
            · exact c5 ⟨a, b⟩
          · obtain ⟨a, b⟩ := rd_2 hr
            exact hnew ⟨by omega, by omega⟩
        · obtain ⟨a, b, _⟩ := rd_16 hr
          exact c3 ⟨a, b⟩
      · rcases gsh_0 hg z.1 with ⟨a, b, c⟩ | ⟨a, b, c, d, e⟩ | ⟨a, b, c, d⟩ | ⟨a, b, c⟩
        · exact hnew ⟨by omega, by omega⟩
        · rw [z.2, h48] at e
          exact absurd e (by decide)
        · subst a
          have hi : i < 6 * nt := hlS
          have := (hw.row hi c).1
          omega
        · subst a
          have : i < nf := hlS
          omega
end
theorem name_k {S : St} {f κ j : Nat} {sg v : Int32} (hj : ¬ ((κ ≤ 2 ∧ j = 48 + f) ∨ (κ = 16 ∧ j = 2))) : sp (sp (sp (sp S 0 (48 + f) 1) 1 (48 + f) sg) 2 (48 + f) 0) 16 2 v κ j = S κ j := by
  unfold sp
  rw [if_neg (by omega), if_neg (by omega), if_neg (by omega), if_neg (by omega)]
abbrev rm_D_name : Room := { frames := 6, cells := 3, slots := 27, locals := 90 }
set_option maxHeartbeats 4000000 in
set_option maxRecDepth 100000 in
theorem c_D_name (l : Launch) (D : va_G) (cs : Nat → Nat) (A : Nat → Prop) (h : pw_H) (hst : l.stackTraces = false) (x : Nat) (S : St) (hE : SimE cs h x S) (fn sg : Int32) : pmx l y_D_name b_D_name 3 (some .int) rm_D_name [.ref x, .int fn, .int sg] D cs A h (va_Qi (fun (r : Int32) (h' : pw_H) => thName S fn sg = 0 ∧ SimE cs h' x (stName S fn sg) ∧ r = rName S fn sg) (ww D cs A) A) (fun (E : String) (h' : pw_H) => E = sIAE ∧ thName S fn sg = 1 ∧ SimE cs h' x (stName S fn sg)) 3 27 := by
  refine pmx_of R_D rfl (by decide) (Nat.le_of_ble_eq_true rfl) (fun p e s m below meth c ls F hr hlk hnm htb hP hA hK hl => ?_)
  have hS : va_S A s.heap s.heap [] := va_S.rf
  replace hl : lv_has ls 3 [(0, .ref x), (1, .int fn), (2, .int sg)] := hl
  obtain ⟨g, gr, nf, pT, nt, hs, hw⟩ := hE
  obtain ⟨dp, hdpS⟩ : ∃ dp, dp = dpS S := ⟨_, rfl⟩
  rw [← hdpS] at hs
  have hnf8 := hw.1.1
  have hp5 := hw.1.2.1
  have hnt4 := hw.1.2.2.1
  have hn1 := hw.1.2.2.2.1
  have hn3 := hw.1.2.2.2.2.1
  have hn5 := hw.1.2.2.2.2.2.1
  refine lv_aload_n F.1 F.2.1 d_D_name_0 rfl (lv_at hl 0 rfl) ?_
  refine lv_iload_n F.1 F.2.1 d_D_name_1 rfl (lv_at hl 1 rfl) ?_
  have f1 : h x = some (.inr (6, [.ref (g 10 0), .ref (g 10 1), .ref (g 10 2), .ref (g 3 6), .int (S 16 4)])) := hs.1
  refine pw_ciE (pr_V F (c_D_isFunction l D cs A h x g gr dp S nf pT nt hs hnf8 fn) X_D_66 rfl rfl ⟨by decide, by decide⟩ hP hA hK hS f1 rfl rfl rfl hl.1 rfl (Nat.le_of_ble_eq_true rfl) d_D_name_2 ⟨by decide, by decide⟩) hS (fun H locs hP hS => ?_)
  by_cases b2 : mIn fn 0 (nI nf - 1)
  · skip
    refine W.eq (g2 := F0 m 5 ls [.int 1]) (by rw [if_pos b2]) ?_
    refine lv_if_eq (tgt := 26) F.1 F.2.1 d_D_name_5 (by decide) (fun c3 => absurd c3 (by decide)) (fun c3 => ?_)
    obtain ⟨f, hltf, rfl⟩ := mIn_nat (by omega) b2.1 b2.2
    refine lv_aload_n F.1 F.2.1 d_D_name_8 rfl (lv_at hl 0 rfl) ?_
    refine pw_get F I_D hK.1 hP f1 rfl 3 (by decide) L_D_25 (fun _ z => z) rfl d_D_name_9 ?_
    refine lv_iload_n F.1 F.2.1 d_D_name_12 rfl (lv_at hl 1 rfl) ?_
    obtain ⟨v4, f5, k6⟩ := hs.pt (l := 6) (by omega)
    have f7 : h (g 3 6) = some (.inr (3, [.ref (g 4 6), .ref (g 5 6), .int v4])) := f5
    obtain ⟨v8, f9, k10⟩ := hs.bs (l := 6) (by omega)
    have f11 : h (g 4 6) = some (.inl (cs 3, 8, .inr (.inr (.inr (.inr v8))))) := f9
    refine pw_ciE (pr_V F (c_P_hasNamed l D cs A h _ _ f _ _ _ (by omega) f7 f11) X_D_69 rfl rfl ⟨by decide, by decide⟩ hP hA hK hS f7 rfl rfl rfl hl.1 rfl (Nat.le_of_ble_eq_true rfl) d_D_name_13 ⟨by decide, by decide⟩) hS (fun H locs hP hS => ?_)
    by_cases b12 : v8 f = none
    · skip
      refine W.eq (g2 := F0 m 16 ls [.int 0]) (by rw [if_pos b12]) ?_
      refine lv_if_ne (tgt := 26) F.1 F.2.1 d_D_name_16 (by decide) (fun c13 => absurd (by decide) c13) (fun c13 => ?_)
      refine lv_iload_n F.1 F.2.1 d_D_name_19 rfl (lv_at hl 2 rfl) ?_
      refine pw_ciE (pr_S F (c_D_isSignature l D cs A h sg) X_D_33 rfl rfl ⟨by decide, by decide⟩ hP hA hK hS rfl hl.1 rfl (Nat.le_of_ble_eq_true rfl) d_D_name_20 ⟨by decide, by decide⟩) hS (fun H locs hP hS => ?_)
      by_cases b14 : mIn sg 0 9
      · skip
        refine W.eq (g2 := F0 m 23 ls [.int 1]) (by rw [if_pos b14]) ?_
        refine lv_if_ne (tgt := 36) F.1 F.2.1 d_D_name_23 (by decide) (fun c15 => ?_) (fun c15 => absurd c15 (by decide))
        refine lv_aload_n F.1 F.2.1 d_D_name_36 rfl (lv_at hl 0 rfl) ?_
        refine pw_get F I_D hK.1 hP f1 rfl 3 (by decide) L_D_25 (fun _ z => z) rfl d_D_name_37 ?_
        refine lv_iload_n F.1 F.2.1 d_D_name_40 rfl (lv_at hl 1 rfl) ?_
        refine lv_iload_n F.1 F.2.1 d_D_name_41 rfl (lv_at hl 2 rfl) ?_
        obtain ⟨v16, f17, k18⟩ := hs.sg (l := 6) (by omega)
        have f19 : h (g 5 6) = some (.inl (cs 0, 8, .inl v16)) := f17
        refine pw_cv (pr_V F (c_P_include l D cs A h _ _ _ f v4 sg v8 v16 (by omega) f7 f11 f19) X_D_107 rfl rfl ⟨by decide, by decide⟩ hP hA hK hS f7 rfl rfl rfl hl.1 rfl (Nat.le_of_ble_eq_true rfl) d_D_name_42 ⟨by decide, by decide⟩) hS (fun hz9 H locs hq9 hP hS => ?_)
        obtain ⟨bb, ka, na, hkn, hb0, hk0, hn0, i1, i2, i3, i4, i5, i6, ix⟩ := hq9
        have hv6 := k6 rfl
        rw [hv6] at i6
        have h48 : S 0 (48 + f) = 0 := (hw.1.2.2.2.2.2.2.2.1 (48 + f) (by omega)).elim id (fun z8 => by have h9 := (k10 f (by omega)).1 z8; rw [h9] at b12; exact absurd b12 (by simp))
        have hth : thName S (nI f) sg = 0 := (by unfold thName; rw [if_pos ⟨hn1 ▸ b2, b14, by rw [tn_nI (by omega)]; exact h48⟩])
        have hst9 : stName S (nI f) sg = sp (sp (sp (sp (sp S 16 0 0) 0 (48 + f) 1) 1 (48 + f) sg) 2 (48 + f) 0) 16 2 (S 16 2 + 1) := (by unfold stName; rw [if_pos hth, tn_nI (by omega)])
        have e16 : sp S 16 0 0 16 2 = S 16 2 := sp_j (by decide)
        have hsN := Sim.name (S := sp S 16 0 0) (f := f) (T := stName S (nI f) sg) (sg := sg) ((hs.num 0).dpm (dp' := dpS (sp S 16 0 0)) (fun u _ => by show tn (sp S 16 0 0 11 u) ≤ _; rw [sp_k (by decide), hdpS]; exact Nat.le_refl _)) (hw.num (Or.inl rfl) 0) hltf ((sp_k (by decide)).trans h48) (fun f hf => by rw [sp_k (by decide)]; exact k10 f hf) (fun f hf => by rw [sp_k (by decide), sp_k (by decide)]; exact k18 rfl f hf) hb0 hk0 hn0 hkn i1 i2 i3 i4 i5 (by rw [e16]; exact i6) ix (fun κ j hj => by rw [hst9]; exact name_k hj) (by rw [hst9, sp_k (by decide), sp_k (by decide), sp_k (by decide), sp_s]) (by rw [hst9, sp_k (by decide), sp_k (by decide), sp_s]) (by rw [hst9, sp_k (by decide), sp_s]) (by rw [hst9, sp_s, e16])
        have hxz : hz9 x = some (.inr (6, [.ref (g 10 0), .ref (g 10 1), .ref (g 10 2), .ref (g 3 6), .int (S 16 4)])) := (hs.keptx ix (nin3 (Ne.symm (hs.2.2.2 3 6 (Or.inr rfl))) (Ne.symm (hs.2.2.2 4 6 (Or.inr rfl))) (Ne.symm (hs.2.2.2 5 6 (Or.inr rfl))))).trans hs.1
        refine lv_aload_n F.1 F.2.1 d_D_name_45 rfl (lv_at hl 0 rfl) ?_
        refine pw_get F I_D hK.1 hP hxz rfl 3 (by decide) L_D_25 (fun _ z => z) rfl d_D_name_46 ?_
        refine pw_get F I_P hK.1 hP i6 rfl 2 (by decide) L_D_110 (fun _ z => z) rfl d_D_name_49 ?_
        exact vx_ret (pw_iret F hr hlk hP hA hK hS (by decide) (by decide) d_D_name_52 ((by have hw9 : WF (stName S (nI f) sg) nf pT nt noX := (WFe.name ⟨nf, pT, nt, hw⟩ _ _).same (by rw [hst9, sp_j (by decide), sp_k (by decide), sp_k (by decide), sp_k (by decide), sp_j (by decide)]; exact hn1) hnf8 (by rw [hst9, sp_j (by decide), sp_k (by decide), sp_k (by decide), sp_k (by decide), sp_j (by decide)]; exact hn3) hp5 (by rw [hst9, sp_j (by decide), sp_k (by decide), sp_k (by decide), sp_k (by decide), sp_j (by decide)]; exact hn5) hnt4; exact ⟨hth, SimE.mk hsN (fun u _ => by show tn _ ≤ tn (sp S 16 0 0 11 u); rw [hst9, sp_k (by decide), sp_k (by decide), sp_k (by decide), sp_k (by decide)]; exact Nat.le_refl _) hw9, by unfold rName; rw [if_pos hth]⟩)))
      · skip
        refine W.eq (g2 := F0 m 23 ls [.int 0]) (by rw [if_neg b14]) ?_
        refine lv_if_ne (tgt := 36) F.1 F.2.1 d_D_name_23 (by decide) (fun c20 => absurd (by decide) c20) (fun c20 => ?_)
        exact pw_throw (is := 105) (text := "no such function, named already, or no such signature") hst xw_1 (by decide) F hlk htb hP hK hS hl d_D_name_26 d_D_name_29 d_D_name_30 d_D_name_32 d_D_name_35 (by decide) (by decide) (by decide) (by decide) (by decide) (by decide) ((by have hth : thName S (nI f) sg = 1 := (by unfold thName; rw [if_neg (fun z9 => b14 z9.2.1)]); exact ⟨rfl, hth, by unfold stName; rw [if_neg (by rw [hth]; decide)]; exact SimE.num ⟨g, gr, nf, pT, nt, hdpS ▸ hs, hw⟩ 1⟩))
    · skip
      refine W.eq (g2 := F0 m 16 ls [.int 1]) (by rw [if_neg b12]) ?_
      refine lv_if_ne (tgt := 26) F.1 F.2.1 d_D_name_16 (by decide) (fun c21 => ?_) (fun c21 => absurd c21 (by decide))
      exact pw_throw (is := 105) (text := "no such function, named already, or no such signature") hst xw_1 (by decide) F hlk htb hP hK hS hl d_D_name_26 d_D_name_29 d_D_name_30 d_D_name_32 d_D_name_35 (by decide) (by decide) (by decide) (by decide) (by decide) (by decide) ((by have hth : thName S (nI f) sg = 1 := (by unfold thName; rw [if_neg (fun z9 => b12 ((k10 f (by omega)).2 (by have h9 := z9.2.2; rw [tn_nI (by omega)] at h9; exact h9)))]); exact ⟨rfl, hth, by unfold stName; rw [if_neg (by rw [hth]; decide)]; exact SimE.num ⟨g, gr, nf, pT, nt, hdpS ▸ hs, hw⟩ 1⟩))
  · skip
    refine W.eq (g2 := F0 m 5 ls [.int 0]) (by rw [if_neg b2]) ?_
    refine lv_if_eq (tgt := 26) F.1 F.2.1 d_D_name_5 (by decide) (fun c22 => ?_) (fun c22 => absurd (by decide) c22)
    exact pw_throw (is := 105) (text := "no such function, named already, or no such signature") hst xw_1 (by decide) F hlk htb hP hK hS hl d_D_name_26 d_D_name_29 d_D_name_30 d_D_name_32 d_D_name_35 (by decide) (by decide) (by decide) (by decide) (by decide) (by decide) ((by have hth : thName S fn sg = 1 := (by unfold thName; rw [if_neg (fun z9 => b2 (hn1 ▸ z9.1))]); exact ⟨rfl, hth, by unfold stName; rw [if_neg (by rw [hth]; decide)]; exact SimE.num ⟨g, gr, nf, pT, nt, hdpS ▸ hs, hw⟩ 1⟩))
