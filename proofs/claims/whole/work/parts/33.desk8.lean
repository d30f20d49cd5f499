theorem WF.aim0 {S : St} {nf p nt q : Nat} (h : WF S nf p nt noX) (hp : 1 ≤ p) (hq : q = p ∨ q = p - 1) : WF (sp S 16 4 (nI q)) nf p nt noX := by
  have k1 : ∀ {k i : Nat}, k ≠ 16 → sp S 16 4 (nI q) k i = S k i := fun hk => sp_k hk
  have h5 := h.1.2.1
  obtain ⟨⟨h1, h2, h3, h4, h5', h6, h7, h8, h9, h10⟩, hw1, hw2⟩ := h
  refine ⟨⟨h1, h2, h3, (sp_j (by decide)).trans h4, (sp_j (by decide)).trans h5', (sp_j (by decide)).trans h6, Or.inr ⟨hp, hq.elim (fun z => Or.inl (by rw [sp_s, z])) (fun z => Or.inr (by rw [sp_s, z]))⟩, fun j hj => ?_, fun j hj => ?_, fun j hj hh => ?_⟩, fun u hu => ?_, fun u hu h4 => ?_⟩
  · rw [k1 (by decide)]; exact h8 j hj
  · rw [k1 (by decide)]; exact h9 j hj
  · rw [k1 (by decide)] at hh
    obtain ⟨m1, m2⟩ := h10 j hj hh
    exact ⟨m1, m2.congr (Nat.le_refl _) (k1 (by decide)) (fun a _ => k1 (by decide)) (fun a _ => k1 (by decide))⟩
  · obtain ⟨d, hh⟩ := hw1 u hu
    exact ⟨d, hh.congr (k1 (by decide)) (k1 (by decide)) (k1 (by decide)) (fun _ _ => k1 (by decide)) (fun _ _ => k1 (by decide)) (fun _ _ _ => ⟨k1 (by decide), k1 (by decide)⟩) (Nat.le_refl _)⟩
  · have h := hw2 u hu h4
    exact ⟨(k1 (by decide)).trans h.1, (k1 (by decide)).trans h.2.1, (k1 (by decide)).trans h.2.2.1, (k1 (by decide)).trans h.2.2.2.1, (k1 (by decide)).trans h.2.2.2.2⟩
theorem mGoes_w {S : St} {nf p nt t : Nat} (hw : WF S nf p nt noX) (ht : t < nt) (hg : mGoes S t) : ∃ q, q ≤ 5 ∧ S 16 4 = nI q ∧ 1 ≤ p ∧ (q = p ∨ q = p - 1) ∧ WF (sp S 6 t (S 16 4)) nf p nt (fun u => u = t) := by
  have hb := hw.1
  obtain ⟨h1, h2, h3, h4, h5, h6, h7, h8, h9, h10⟩ := hb
  obtain ⟨d, L, mf, a1, a2, a3, a4, a5, a6, a7, a8⟩ := hw.2.1 t ht
  obtain ⟨r, a, z, b1, b2, b3, b4, b5, b6, b7, b8⟩ := a7 d (by omega)
  have hg' := (mGoes_iff a2 (by omega) b2 b1 b6 (by omega)).mp hg
  obtain ⟨g1, g2, g3⟩ := hg'
  have hq : ∃ q, q ≤ 5 ∧ S 16 4 = nI q ∧ 1 ≤ p ∧ (q = p ∨ q = p - 1) := by
    rcases h7 with h7 | ⟨h7, h7' | h7'⟩
    · exact absurd (by rw [h7]; decide) g1
    · exact ⟨p, h2, h7', h7, Or.inl rfl⟩
    · exact ⟨p - 1, by omega, h7', h7, Or.inr rfl⟩
  obtain ⟨q, q5, hq, hp1, hqp⟩ := hq
  have hqle : q ≤ p := hqp.elim (fun h => Nat.le_of_eq h) (fun h => Nat.le_trans (Nat.le_of_eq h) (Nat.sub_le p 1))
  have w1 : WF (sp S 6 t (S 16 4)) nf p nt (fun u => u = t) := by
    refine ⟨hw.1.congr (sp_off (by decide)) (sp_off (by decide)) (sp_off (by decide)) (sp_off (by decide)) (sp_k (by decide)) (sp_k (by decide)) (sp_k (by decide)) (sp_k (by decide)), fun u hu => ?_, fun u hu h4' => ?_⟩
    · by_cases hut : u = t
      · subst hut
        refine ⟨d, q, mf, a1, (sp_k (by decide)).trans a2, hqle, sp_s.trans hq, a5, (sp_k (by decide)).trans a6, fun k hk => ?_, fun hd => (a8 hd).elim (fun r0 h9 => ⟨r0, h9.1, (sp_k (by decide)).trans h9.2.1, h9.2.2⟩)⟩
        obtain ⟨rk, ak, zk, e1, e2, e3, e4, e5, e6, e7, e8⟩ := a7 k hk
        refine ⟨rk, ak, zk, e1, (sp_k (by decide)).trans e2, (sp_k (by decide)).trans e3, e4, (sp_k (by decide)).trans e5, (sp_k (by decide)).trans e6, e7, ?_⟩
        have e9 : rk / 8 ≤ L := e8.elim id (fun z9 => absurd z9.1.1 id)
        rcases hqp with hqp | hqp
        · exact Or.inl (by omega)
        · rcases g3 with g3 | g3
          · have hd1 : d + 1 = 1 := (nI_eq (a := d + 1) (b := 1) (by omega) (by decide)).mp g3.2
            have hkd : k = d := by omega
            subst hkd
            have i1 : rk = r := (nI_eq (by omega) (by omega)).mp (e2.symm.trans b2)
            subst i1
            have i2 : ak = a := (nI_eq (by omega) (by omega)).mp (e6.symm.trans b6)
            have i3 : a = zk := (nI_eq (by omega) (by omega)).mp (g3.1.trans e5)
            exact Or.inr ⟨⟨rfl, hd1⟩, by omega⟩
          · have hc := (mClear_iff a2 (by omega) h5 h2).mp g3.2.2 k hk
            rw [e2, tn_nI (by omega)] at hc
            refine Or.inl ?_
            have hne : rk ≠ 8 * p + rk % 8 := fun z9 => by
              rw [← z9, e3] at hc
              exact absurd hc (by decide)
            omega
      · obtain ⟨du, hh⟩ := hw.2.1 u hu
        exact ⟨du, (hh.mono (fun z9 => absurd z9 id)).congr (sp_k (by decide)) (sp_j hut) (sp_k (by decide)) (fun k _ => sp_k (by decide)) (fun k _ => sp_k (by decide)) (fun r _ _ => ⟨sp_k (by decide), sp_k (by decide)⟩) (Nat.le_refl _)⟩
    · exact ⟨(sp_k (by decide)).trans (hw.2.2 u hu h4').1, (sp_k (by decide)).trans (hw.2.2 u hu h4').2.1, (sp_k (by decide)).trans (hw.2.2 u hu h4').2.2.1, (sp_k (by decide)).trans (hw.2.2 u hu h4').2.2.2.1, (sp_k (by decide)).trans (hw.2.2 u hu h4').2.2.2.2⟩
  exact ⟨q, q5, hq, hp1, hqp, w1⟩
theorem WF.p_eq {T : St} {nf p nt p2 : Nat} {X : Nat → Prop} (h : WF T nf p nt X) (h2 : T 16 3 = nI p2) (b2 : p2 ≤ 5) : p = p2 := by
  have := h.1.2.1
  exact (nI_eq (by omega) (by omega)).mp (h.1.2.2.2.2.1.symm.trans h2)
theorem mSettle_sp0 {T : St} {v : Int32} : mSettle (sp T 16 0 v) = sp (mSettle T) 16 0 v := by
  have e : allOver (sp T 16 0 v) ↔ allOver T := by
    unfold allOver
    rw [sp_j (show (5 : Nat) ≠ 0 by decide), sp_j (show (4 : Nat) ≠ 0 by decide), sp_off (show (6 : Nat) ≠ 16 by decide)]
  unfold mSettle
  by_cases h : allOver T
  · rw [if_pos h, if_pos (e.mpr h), sp_j (by decide), sp_swap (S := T) (i := 0) (j := 3) (by decide), sp_swap (i := 0) (j := 4) (by decide)]
  · rw [if_neg h, if_neg (fun z => h (e.mp z))]
theorem mEnter_11 {S : St} {t f u : Nat} (hu : u ≠ t) : mEnter S t f 11 u = S 11 u := by
  unfold mEnter
  split
  · rfl
  · rw [sp_j hu, sp_k (by decide), sp_k (by decide), sp_k (by decide), sp_k (by decide)]
theorem mDo_11 {S : St} {t i u : Nat} {k n : Int32} (hu : u ≠ t) : mDo S t i k n 11 u = S 11 u := by
  unfold mDo
  repeat' split
  all_goals first | rfl | exact mEnter_11 hu | exact sp_k (by decide) | exact (sp_k (by decide)).trans (sp_k (by decide))
theorem mOnce_11 {S : St} {t u : Nat} (hu : u ≠ t) : mOnce S t 11 u = S 11 u := by
  unfold mOnce
  repeat' split
  · exact (mEnter_11 hu).trans ((sp_j hu).trans (sp_k (by decide)))
  · exact (sp_j hu).trans (sp_k (by decide))
  · exact (mDo_11 hu).trans ((sp_k (by decide)).trans (sp_k (by decide)))
theorem SimE.mk {cs : Nat → Nat} {h : pw_H} {x : Nat} {g : Gh} {gr : Nat → Prop} {dp : Nat → Nat} {T : St} {nf p nt : Nat} (hs : Sim cs h x g gr dp T nf p nt) (hd : ∀ u, u < nt → tn (T 11 u) ≤ dp u) (hw : WF T nf p nt noX) : SimE cs h x T :=
  ⟨g, gr, nf, p, nt, hs.dpm hd, hw⟩
abbrev rm_D_turn : Room := { frames := 6, cells := 1, slots := 6, locals := 108 }
set_option maxHeartbeats 4000000 in
set_option maxRecDepth 100000 in
theorem c_D_turn (l : Launch) (D : va_G) (cs : Nat → Nat) (A : Nat → Prop) (h : pw_H) (hst : l.stackTraces = false) (x : Nat) (S : St) (hE : SimE cs h x S) : pmx l y_D_turn b_D_turn 4 (some .int) rm_D_turn [.ref x] D cs A h (va_Qi (fun (r : Int32) (h' : pw_H) => thTurn S = 0 ∧ SimE cs h' x (stTurn S) ∧ r = rTurn S) (ww D cs A) A) (fun (E : String) (h' : pw_H) => E = sISE ∧ thTurn S = 1 ∧ SimE cs h' x (stTurn S)) 1 6 := by
  refine pmx_of R_D rfl (by decide) (Nat.le_of_ble_eq_true rfl) (fun p e s m below meth c ls F hr hlk hnm htb hP hA hK hl => ?_)
  have hS : va_S A s.heap s.heap [] := va_S.rf
  replace hl : lv_has ls 4 [(0, .ref x)] := hl
  obtain ⟨g, gr, nf, pT, nt, hs, hw⟩ := hE
  obtain ⟨dp, hdpS⟩ : ∃ dp, dp = dpS S := ⟨_, rfl⟩
  rw [← hdpS] at hs
  have hnf8 := hw.1.1
  have hp5 := hw.1.2.1
  have hnt4 := hw.1.2.2.1
  have hn1 := hw.1.2.2.2.1
  have hn3 := hw.1.2.2.2.2.1
  have hn5 := hw.1.2.2.2.2.2.1
  refine lv_aload_n F.1 F.2.1 d_D_turn_0 rfl (lv_at hl 0 rfl) ?_
  have f1 : h x = some (.inr (6, [.ref (g 10 0), .ref (g 10 1), .ref (g 10 2), .ref (g 3 6), .int (S 16 4)])) := hs.1
  refine pw_get F I_D hK.1 hP f1 rfl 1 (by decide) L_D_16 (fun _ z => z) rfl d_D_turn_1 ?_
  obtain ⟨q2, n3, f4, _, _⟩ := hs.ls (show 1 < 3 by decide)
  have f5 : h (g 10 1) = some (.inr (0, [.ref q2, .int (nI pT), .int n3])) := f4
  refine pw_ciE (pr_V F (c_AL_size l D cs A h _ _ _ _ f5) X_D_44 rfl rfl ⟨by decide, by decide⟩ hP hA hK hS f5 rfl rfl rfl hl.1 rfl (Nat.le_of_ble_eq_true rfl) d_D_turn_4 ⟨by decide, by decide⟩) hS (fun H locs hP hS => ?_)
  refine lv_istore_n F.1 F.2.1 d_D_turn_7 rfl hl (by decide) rfl (fun ls hl => ?_)
  replace hl : lv_has ls 4 [(1, .int (nI pT)), (0, .ref x)] := hl
  refine lv_iload_n F.1 F.2.1 d_D_turn_8 rfl (lv_at hl 0 rfl) ?_
  refine lv_if_ne (tgt := 22) F.1 F.2.1 d_D_turn_9 (by decide) (fun c6 => ?_) (fun c6 => ?_)
  · skip
    have hp1 : 1 ≤ pT := Nat.pos_of_ne_zero (fun z9 => c6 (by rw [z9]; rfl))
    refine lv_aload_n F.1 F.2.1 d_D_turn_22 rfl (lv_at hl 1 rfl) ?_
    refine pw_get F I_D hK.1 hP f1 rfl 4 (by decide) L_D_29 (fun _ z => z) rfl d_D_turn_23 ?_
    refine lv_iload_n F.1 F.2.1 d_D_turn_26 rfl (lv_at hl 0 rfl) ?_
    refine lv_iconst (v := 1) F.1 F.2.1 d_D_turn_27 (by decide) ?_
    refine lv_isub F.1 F.2.1 d_D_turn_28 ?_
    refine W.eq (g2 := F0 m 29 ls [.int (nI (pT - 1)), .int (S 16 4)]) (by rw [show (1 : Int32) = nI 1 from rfl, show nI pT - nI 1 = nI (pT - 1) from pk_sub (by omega)]) ?_
    refine lv_icmp_ne (tgt := 36) F.1 F.2.1 d_D_turn_29 (by decide) (fun c7 => ?_) (fun c7 => ?_)
    · skip
      refine lv_iconst (v := 0) F.1 F.2.1 d_D_turn_36 (by decide) ?_
      refine lv_istore_n F.1 F.2.1 d_D_turn_37 rfl hl (by decide) rfl (fun ls hl => ?_)
      replace hl : lv_has ls 4 [(2, .int 0), (1, .int (nI pT)), (0, .ref x)] := hl
      refine lv_iload_n F.1 F.2.1 d_D_turn_38 rfl (lv_at hl 0 rfl) ?_
      refine lv_if_eq (tgt := 46) F.1 F.2.1 d_D_turn_39 (by decide) (fun c8 => ?_) (fun c8 => absurd (by decide) c8)
      refine lv_iload_n F.1 F.2.1 d_D_turn_46 rfl (lv_at hl 1 rfl) ?_
      refine lv_iconst (v := 1) F.1 F.2.1 d_D_turn_47 (by decide) ?_
      refine lv_isub F.1 F.2.1 d_D_turn_48 ?_
      refine W.eq (g2 := F0 m 49 ls [.int (nI (pT - 1))]) (by rw [show (1 : Int32) = nI 1 from rfl, show nI pT - nI 1 = nI (pT - 1) from pk_sub (by omega)]) ?_
      refine lv_istore_n F.1 F.2.1 d_D_turn_49 rfl hl (by decide) rfl (fun ls hl => ?_)
      replace hl : lv_has ls 4 [(3, .int (nI (pT - 1))), (2, .int 0), (1, .int (nI pT)), (0, .ref x)] := hl
      refine lv_aload_n F.1 F.2.1 d_D_turn_50 rfl (lv_at hl 3 rfl) ?_
      refine lv_iload_n F.1 F.2.1 d_D_turn_51 rfl (lv_at hl 0 rfl) ?_
      have hwq : WF (sp S 16 4 (nI (pT - 1))) nf pT nt noX := hw.aim0 hp1 (Or.inr rfl)
      refine pw_cv (pr_V F (c_D_headFor l D cs A h x g gr dp S nf pT nt hs _ (pT - 1) hwq (Or.inr rfl) hp1) X_D_126 rfl rfl ⟨by decide, by decide⟩ hP hA hK hS f1 rfl rfl rfl hl.1 rfl (Nat.le_of_ble_eq_true rfl) d_D_turn_52 ⟨by decide, by decide⟩) hS (fun hz9 H locs hq hP hS => ?_)
      obtain ⟨pN, hs9, hN, hN5⟩ := hq
      have hto : toTurn S = nI (pT - 1) := (by unfold toTurn; rw [hn3, show nI pT - 1 = nI (pT - 1) from (by rw [show pT = pT - 1 + 1 by omega, nI_pred]; rfl), if_neg c7])
      have hth : thTurn S = 0 := (by rw [thTurn_p hw, if_neg (by omega)])
      have hst9 : stTurn S = sp (mSettle (sp S 16 4 (nI (pT - 1)))) 16 0 0 := (by unfold stTurn; rw [if_pos hth, hto, sp_swap (by decide), mSettle_sp0])
      have hw9 : WF (stTurn S) nf pN nt noX := (WFe.turn ⟨nf, pT, nt, hw⟩).same (by rw [hst9, sp_j (by decide), mSettle_o (by decide) (by decide), sp_j (by decide)]; exact hn1) hnf8 (by rw [hst9, sp_j (by decide)]; exact hN) hN5 (by rw [hst9, sp_j (by decide), mSettle_o (by decide) (by decide), sp_j (by decide)]; exact hn5) hnt4
      have hE9 : SimE cs hz9 x (stTurn S) := SimE.mk (by rw [hst9]; exact hs9.num 0) (fun u _ => by rw [hst9, sp_k (by decide), mSettle_k (by decide), sp_k (by decide), hdpS]; exact Nat.le_refl _) hw9
      refine lv_iload_n F.1 F.2.1 d_D_turn_55 rfl (lv_at hl 0 rfl) ?_
      exact vx_ret (pw_iret F hr hlk hP hA hK hS (by decide) (by decide) d_D_turn_56 (⟨hth, hE9, by unfold rTurn; rw [if_pos hth, hto]⟩))
    · skip
      refine lv_iconst (v := 1) F.1 F.2.1 d_D_turn_32 (by decide) ?_
      refine lv_goto (tgt := 37) F.1 F.2.1 d_D_turn_33 (by decide) ?_
      refine lv_istore_n F.1 F.2.1 d_D_turn_37 rfl hl (by decide) rfl (fun ls hl => ?_)
      replace hl : lv_has ls 4 [(2, .int 1), (1, .int (nI pT)), (0, .ref x)] := hl
      refine lv_iload_n F.1 F.2.1 d_D_turn_38 rfl (lv_at hl 0 rfl) ?_
      refine lv_if_eq (tgt := 46) F.1 F.2.1 d_D_turn_39 (by decide) (fun c9 => absurd c9 (by decide)) (fun c9 => ?_)
      refine lv_iload_n F.1 F.2.1 d_D_turn_42 rfl (lv_at hl 1 rfl) ?_
      refine lv_goto (tgt := 49) F.1 F.2.1 d_D_turn_43 (by decide) ?_
      refine lv_istore_n F.1 F.2.1 d_D_turn_49 rfl hl (by decide) rfl (fun ls hl => ?_)
      replace hl : lv_has ls 4 [(3, .int (nI pT)), (2, .int 1), (1, .int (nI pT)), (0, .ref x)] := hl
      refine lv_aload_n F.1 F.2.1 d_D_turn_50 rfl (lv_at hl 3 rfl) ?_
      refine lv_iload_n F.1 F.2.1 d_D_turn_51 rfl (lv_at hl 0 rfl) ?_
      have hwq : WF (sp S 16 4 (nI (pT))) nf pT nt noX := hw.aim0 hp1 (Or.inl rfl)
      refine pw_cv (pr_V F (c_D_headFor l D cs A h x g gr dp S nf pT nt hs _ (pT) hwq (Or.inl rfl) hp1) X_D_126 rfl rfl ⟨by decide, by decide⟩ hP hA hK hS f1 rfl rfl rfl hl.1 rfl (Nat.le_of_ble_eq_true rfl) d_D_turn_52 ⟨by decide, by decide⟩) hS (fun hz9 H locs hq hP hS => ?_)
      obtain ⟨pN, hs9, hN, hN5⟩ := hq
      have hto : toTurn S = nI (pT) := (by unfold toTurn; rw [hn3, show nI pT - 1 = nI (pT - 1) from (by rw [show pT = pT - 1 + 1 by omega, nI_pred]; rfl), if_pos c7])
      have hth : thTurn S = 0 := (by rw [thTurn_p hw, if_neg (by omega)])
      have hst9 : stTurn S = sp (mSettle (sp S 16 4 (nI (pT)))) 16 0 0 := (by unfold stTurn; rw [if_pos hth, hto, sp_swap (by decide), mSettle_sp0])
      have hw9 : WF (stTurn S) nf pN nt noX := (WFe.turn ⟨nf, pT, nt, hw⟩).same (by rw [hst9, sp_j (by decide), mSettle_o (by decide) (by decide), sp_j (by decide)]; exact hn1) hnf8 (by rw [hst9, sp_j (by decide)]; exact hN) hN5 (by rw [hst9, sp_j (by decide), mSettle_o (by decide) (by decide), sp_j (by decide)]; exact hn5) hnt4
      have hE9 : SimE cs hz9 x (stTurn S) := SimE.mk (by rw [hst9]; exact hs9.num 0) (fun u _ => by rw [hst9, sp_k (by decide), mSettle_k (by decide), sp_k (by decide), hdpS]; exact Nat.le_refl _) hw9
      refine lv_iload_n F.1 F.2.1 d_D_turn_55 rfl (lv_at hl 0 rfl) ?_
      exact vx_ret (pw_iret F hr hlk hP hA hK hS (by decide) (by decide) d_D_turn_56 (⟨hth, hE9, by unfold rTurn; rw [if_pos hth, hto]⟩))
  · skip
    exact pw_throw (is := 129) (text := "no transition and no patch") hst xw_2 (by decide) F hlk htb hP hK hS hl d_D_turn_12 d_D_turn_15 d_D_turn_16 d_D_turn_18 d_D_turn_21 (by decide) (by decide) (by decide) (by decide) (by decide) (by decide) ((by have hp0 : pT = 0 := (nI_eq (a := pT) (b := 0) (by omega) (by decide)).mp c6; have hth : thTurn S = 1 := (by rw [thTurn_p hw, if_pos hp0]); exact ⟨rfl, hth, by unfold stTurn; rw [if_neg (by rw [hth]; decide)]; exact SimE.num ⟨g, gr, nf, pT, nt, hdpS ▸ hs, hw⟩ 1⟩))
abbrev rm_D_step : Room := { frames := 6, cells := 1, slots := 6, locals := 135 }
set_option maxHeartbeats 4000000 in
set_option maxRecDepth 100000 in
theorem c_D_step (l : Launch) (D : va_G) (cs : Nat → Nat) (A : Nat → Prop) (h : pw_H) (hst : l.stackTraces = false) (x : Nat) (S : St) (hE : SimE cs h x S) (tk mn : Int32) : pmx l y_D_step b_D_step 6 (some .int) rm_D_step [.ref x, .int tk, .int mn] D cs A h (va_Qi (fun (r : Int32) (h' : pw_H) => thStep S tk mn = 0 ∧ SimE cs h' x (stStep S tk mn) ∧ r = rStep S tk mn) (ww D cs A) A) (fun (E : String) (h' : pw_H) => E = sIAE ∧ thStep S tk mn = 1 ∧ SimE cs h' x (stStep S tk mn)) 1 6 := by
  refine pmx_of R_D rfl (by decide) (Nat.le_of_ble_eq_true rfl) (fun p e s m below meth c ls F hr hlk hnm htb hP hA hK hl => ?_)
  have hS : va_S A s.heap s.heap [] := va_S.rf
  replace hl : lv_has ls 6 [(0, .ref x), (1, .int tk), (2, .int mn)] := hl
  obtain ⟨g, gr, nf, pT, nt, hs, hw⟩ := hE
  obtain ⟨dp, hdpS⟩ : ∃ dp, dp = dpS S := ⟨_, rfl⟩
  rw [← hdpS] at hs
  have hnf8 := hw.1.1
  have hp5 := hw.1.2.1
  have hnt4 := hw.1.2.2.1
  have hn1 := hw.1.2.2.2.1
  have hn3 := hw.1.2.2.2.2.1
  have hn5 := hw.1.2.2.2.2.2.1
  refine lv_aload_n F.1 F.2.1 d_D_step_0 rfl (lv_at hl 0 rfl) ?_
  refine lv_iload_n F.1 F.2.1 d_D_step_1 rfl (lv_at hl 1 rfl) ?_
  have f1 : h x = some (.inr (6, [.ref (g 10 0), .ref (g 10 1), .ref (g 10 2), .ref (g 3 6), .int (S 16 4)])) := hs.1
  refine pw_ciE (pr_V F (c_D_isTask l D cs A h x g gr dp S nf pT nt hs hnt4 tk) X_D_144 rfl rfl ⟨by decide, by decide⟩ hP hA hK hS f1 rfl rfl rfl hl.1 rfl (Nat.le_of_ble_eq_true rfl) d_D_step_2 ⟨by decide, by decide⟩) hS (fun H locs hP hS => ?_)
  by_cases b2 : mIn tk 0 (nI nt - 1)
  · skip
    refine W.eq (g2 := F0 m 5 ls [.int 1]) (by rw [if_pos b2]) ?_
    refine lv_if_eq (tgt := 19) F.1 F.2.1 d_D_step_5 (by decide) (fun c3 => absurd c3 (by decide)) (fun c3 => ?_)
    refine lv_iload_n F.1 F.2.1 d_D_step_8 rfl (lv_at hl 2 rfl) ?_
    refine lv_iconst (v := 1) F.1 F.2.1 d_D_step_9 (by decide) ?_
    refine lv_icmp_lt (tgt := 19) F.1 F.2.1 d_D_step_10 (by decide) (fun c4 => ?_) (fun c4 => ?_)
    · skip
      exact pw_throw (is := 147) (text := "no such task, or steps is not 1 .. 100") hst xw_1 (by decide) F hlk htb hP hK hS hl d_D_step_19 d_D_step_22 d_D_step_23 d_D_step_25 d_D_step_28 (by decide) (by decide) (by decide) (by decide) (by decide) (by decide) ((by have hth : thStep S tk mn = 1 := (by unfold thStep; rw [if_neg (fun z9 => absurd c4 (Int32.not_lt.mpr z9.2.1))]); exact ⟨rfl, hth, by unfold stStep; rw [if_neg (by rw [hth]; decide)]; exact SimE.num ⟨g, gr, nf, pT, nt, hdpS ▸ hs, hw⟩ 1⟩))
    · skip
      refine lv_iload_n F.1 F.2.1 d_D_step_13 rfl (lv_at hl 2 rfl) ?_
      refine lv_bipush (v := 100) F.1 F.2.1 d_D_step_14 (by decide) ?_
      refine lv_icmp_le (tgt := 29) F.1 F.2.1 d_D_step_16 (by decide) (fun c5 => ?_) (fun c5 => ?_)
      · skip
        obtain ⟨f, hltf, rfl⟩ := mIn_nat (by omega) b2.1 b2.2
        have hmn : mIn mn 1 100 := ⟨Int32.not_lt.mp c4, c5⟩
        obtain ⟨M, hM, rfl⟩ := mIn_nat (n := 101) (by decide) (Int32.le_trans (show (0 : Int32) ≤ 1 by decide) hmn.1) hmn.2
        have hM1 : 1 ≤ M := Nat.pos_of_ne_zero (fun z9 => by subst z9; exact absurd hmn.1 (by decide))
        refine lv_aload_n F.1 F.2.1 d_D_step_29 rfl (lv_at hl 0 rfl) ?_
        refine pw_get F I_D hK.1 hP f1 rfl 2 (by decide) L_D_19 (fun _ z => z) rfl d_D_step_30 ?_
        refine lv_iload_n F.1 F.2.1 d_D_step_33 rfl (lv_at hl 1 rfl) ?_
        obtain ⟨_, n6, v7, f8, f9, k10⟩ := hs.le (show 2 < 3 by decide) (show 0 < nt by omega)
        obtain ⟨q11, n12, f13, _, _⟩ := hs.ls (show 2 < 3 by decide)
        have f14 : h (g 10 2) = some (.inr (0, [.ref q11, .int (nI nt), .int n12])) := f13
        refine pw_crE (pr_V F (c_AL_get l D cs A h _ _ nt f _ _ v7 (by omega) (by omega) (k10 f (show f < nt by omega)) f8 f9) X_D_78 rfl rfl ⟨by decide, by decide⟩ hP hA hK hS f14 rfl rfl rfl hl.1 rfl (Nat.le_of_ble_eq_true rfl) d_D_step_34 ⟨by decide, by decide⟩) hS (fun H locs hP hS => ?_)
        have f15 : h (g 6 f) = some (.inr (5, [.ref (g 7 f), .int (S 11 f), .int (S 6 f), .int (S 7 f), .int (S 8 f), .int (S 9 f), .int (S 10 f)])) := hs.tk (by omega)
        refine va_castY (C := R_T) F.1 F.2.1 F.2.2.2.1 (F.2.2.2.2 _ C_D_135) (hK.2.2.2.2.2.2.2.1 ("PatchDesk$Task", "PatchDesk$Task") (by decide)) (pw_recv hK.1 hP f15 rfl) d_D_step_37 ?_
        refine lv_astore_n F.1 F.2.1 d_D_step_40 rfl hl (by decide) rfl (fun ls hl => ?_)
        replace hl : lv_has ls 6 [(3, .ref (g 6 f)), (0, .ref x), (1, .int (nI f)), (2, .int (nI M))] := hl
        refine lv_iconst (v := 0) F.1 F.2.1 d_D_step_41 (by decide) ?_
        refine lv_istore F.1 F.2.1 d_D_step_42 hl (by decide) rfl (fun ls hl => ?_)
        replace hl : lv_has ls 6 [(4, .int 0), (3, .ref (g 6 f)), (0, .ref x), (1, .int (nI f)), (2, .int (nI M))] := hl
        refine lv_iconst (v := 1) F.1 F.2.1 d_D_step_44 (by decide) ?_
        refine lv_istore F.1 F.2.1 d_D_step_45 hl (by decide) rfl (fun ls hl => ?_)
        replace hl : lv_has ls 6 [(5, .int 1), (4, .int 0), (3, .ref (g 6 f)), (0, .ref x), (1, .int (nI f)), (2, .int (nI M))] := hl
        obtain ⟨k, hk0⟩ : ∃ k : Nat, k = 1 := ⟨1, rfl⟩
        obtain ⟨u, hu0⟩ : ∃ u : Int32, u = 0 := ⟨0, rfl⟩
        have hle : 1 ≤ k ∧ k ≤ M + 1 := by omega
        obtain ⟨n, hn⟩ : ∃ n : Nat, M + 1 - k = n := ⟨_, rfl⟩
        replace hl : lv_has ls 6 [(5, .int (nI k)), (4, .int u), (3, .ref (g 6 f)), (0, .ref x), (1, .int (nI f)), (2, .int (nI M))] := by rw [hk0, hu0]; exact hl
        obtain ⟨X, hX⟩ : ∃ z9 : St, z9 = sp S 16 0 0 := ⟨_, rfl⟩
        obtain ⟨hh, hhe⟩ : ∃ z9 : pw_H, z9 = h := ⟨_, rfl⟩
        rw [← hhe] at hP
        have hsX : Sim cs hh x g gr (dpS X) X nf pT nt := by rw [hhe, hX]; exact (hs.num 0).dpm (fun u _ => by rw [hdpS]; show tn (sp S 16 0 0 11 u) ≤ _; rw [sp_k (by decide)]; exact Nat.le_refl _)
        have hrun : mRun f n k X u = mRun f M 1 (sp S 16 0 0) 0 := by rw [hX, hk0, hu0, show n = M by omega]
        have hwX : WF X nf pT nt noX := by rw [hX]; exact hw.num (Or.inl rfl) 0
        obtain ⟨q, hq0⟩ : ∃ q : Nat, q = pT := ⟨_, rfl⟩
        rw [← hq0] at hsX hwX
        clear hX hk0 hu0 hhe hq0
        induction n generalizing ls k u X q hh H locs with
        | zero =>
          refine lv_iload F.1 F.2.1 d_D_step_47 (lv_at hl 0 rfl) ?_
          refine lv_iload_n F.1 F.2.1 d_D_step_49 rfl (lv_at hl 5 rfl) ?_
          refine lv_icmp_gt (tgt := 88) F.1 F.2.1 d_D_step_50 (by decide) (fun c16 => ?_) (fun c16 => absurd (nI_lt (show M < k by omega) (by omega)) c16)
          refine lv_iload F.1 F.2.1 d_D_step_88 (lv_at hl 1 rfl) ?_
          exact vx_ret (pw_iret F hr hlk hP hA hK hS (by decide) (by decide) d_D_step_90 ((by have hth : thStep S (nI f) (nI M) = 0 := (by unfold thStep; rw [if_pos ⟨hn5 ▸ b2, hmn⟩]); have hn0 : mRun f 0 k X u = mRun f M 1 (sp S 16 0 0) 0 := hrun; exact ⟨hth, by unfold stStep; rw [if_pos hth, tn_nI (by omega), tn_nI (by omega), ← hn0]; exact SimE.mk hsX (fun _ _ => Nat.le_refl _) hwX, by unfold rStep; rw [if_pos hth, tn_nI (by omega), tn_nI (by omega), ← hn0]; rfl⟩)))
        | succ n ih =>
          refine lv_iload F.1 F.2.1 d_D_step_47 (lv_at hl 0 rfl) ?_
          refine lv_iload_n F.1 F.2.1 d_D_step_49 rfl (lv_at hl 5 rfl) ?_
          refine lv_icmp_gt (tgt := 88) F.1 F.2.1 d_D_step_50 (by decide) (fun c17 => absurd c17 (nI_nlt (show k ≤ M by omega) (by omega))) (fun c17 => ?_)
          refine lv_aload_n F.1 F.2.1 d_D_step_53 rfl (lv_at hl 3 rfl) ?_
          refine lv_aload_n F.1 F.2.1 d_D_step_54 rfl (lv_at hl 2 rfl) ?_
          have f18 : hh x = some (.inr (6, [.ref (g 10 0), .ref (g 10 1), .ref (g 10 2), .ref (g 3 6), .int (X 16 4)])) := hsX.1
          refine pw_ci (pr_V F (c_D_canGoOver l D cs A hh x g gr (dpS X) X nf q nt hsX _ hwX f hltf rfl) X_D_149 rfl rfl ⟨by decide, by decide⟩ hP hA hK hS f18 rfl rfl rfl hl.1 rfl (Nat.le_of_ble_eq_true rfl) d_D_step_55 ⟨by decide, by decide⟩) hS (fun r9 hn9 H locs hq hP hS => ?_)
          obtain ⟨he9, hq1, hq2⟩ := hq
          rw [he9] at hP
          clear he9
          by_cases b19 : mGoes X f
          · skip
            refine W.eq (g2 := F0 m 58 ls [.int 1]) (by rw [hq1 b19]) ?_
            refine lv_if_eq (tgt := 77) F.1 F.2.1 d_D_step_58 (by decide) (fun c20 => absurd c20 (by decide)) (fun c20 => ?_)
            refine lv_aload_n F.1 F.2.1 d_D_step_61 rfl (lv_at hl 2 rfl) ?_
            refine lv_aload_n F.1 F.2.1 d_D_step_62 rfl (lv_at hl 3 rfl) ?_
            refine pw_get F I_D hK.1 hP f18 rfl 4 (by decide) L_D_29 (fun _ z => z) rfl d_D_step_63 ?_
            have f21 : hh (g 6 f) = some (.inr (5, [.ref (g 7 f), .int (X 11 f), .int (X 6 f), .int (X 7 f), .int (X 8 f), .int (X 9 f), .int (X 10 f)])) := hsX.tk (by omega)
            refine pw_put F I_T ty_T k_T n_T hK.1 hP hS f21 rfl 2 (by decide) L_D_153 (fun _ z => z) rfl rfl rfl (Nat.le_of_ble_eq_true rfl) d_D_step_66 (fun H locs hP hS => ?_)
            replace hP : pw D vwCl A (pu hh (g 6 f) (.inr (5, [.ref (g 7 f), .int (X 11 f), .int (X 16 4), .int (X 7 f), .int (X 8 f), .int (X 9 f), .int (X 10 f)]))) H := hP
            obtain ⟨h22, e23⟩ : ∃ z9 : pw_H, z9 = pu hh (g 6 f) (.inr (5, [.ref (g 7 f), .int (X 11 f), .int (X 16 4), .int (X 7 f), .int (X 8 f), .int (X 9 f), .int (X 10 f)])) := ⟨_, rfl⟩
            rw [← e23] at hP
            have f24 : h22 (g 6 f) = some (.inr (5, [.ref (g 7 f), .int (X 11 f), .int (X 16 4), .int (X 7 f), .int (X 8 f), .int (X 9 f), .int (X 10 f)])) := by rw [e23]; exact pu_s
            obtain ⟨q4, hq45, hq4, hq41, hq4p, hwS⟩ := mGoes_w hwX hltf b19
            have hsS : Sim cs h22 x g gr (dpS X) (sp X 6 f (X 16 4)) nf q nt := hsX.putT hltf (by decide) (by rw [e23]; exact ext.rf.pu (Or.inl (by simp))) f24 (by simp only [ent, sp_s, sp_k (show (0 : Nat) ≠ 6 by decide), sp_k (show (1 : Nat) ≠ 6 by decide), sp_k (show (2 : Nat) ≠ 6 by decide), sp_k (show (3 : Nat) ≠ 6 by decide), sp_k (show (4 : Nat) ≠ 6 by decide), sp_k (show (5 : Nat) ≠ 6 by decide), sp_k (show (7 : Nat) ≠ 6 by decide), sp_k (show (8 : Nat) ≠ 6 by decide), sp_k (show (9 : Nat) ≠ 6 by decide), sp_k (show (10 : Nat) ≠ 6 by decide), sp_k (show (11 : Nat) ≠ 6 by decide), sp_k (show (12 : Nat) ≠ 6 by decide), sp_k (show (13 : Nat) ≠ 6 by decide), sp_k (show (14 : Nat) ≠ 6 by decide), sp_k (show (15 : Nat) ≠ 6 by decide), sp_k (show (16 : Nat) ≠ 6 by decide)])
            refine lv_aload_n F.1 F.2.1 d_D_step_69 rfl (lv_at hl 3 rfl) ?_
            have f25 : h22 x = some (.inr (6, [.ref (g 10 0), .ref (g 10 1), .ref (g 10 2), .ref (g 3 6), .int ((sp X 6 f (X 16 4)) 16 4)])) := hsS.1
            refine pw_cv (pr_V F (c_D_endTransitionWhenAllAreOver l D cs A h22 x g gr (dpS X) (sp X 6 f (X 16 4)) nf q nt hsS _ hwS q4 ((sp_k (by decide)).trans hq4) hq4p hq41) X_D_156 rfl rfl ⟨by decide, by decide⟩ hP hA hK hS f25 rfl rfl rfl hl.1 rfl (Nat.le_of_ble_eq_true rfl) d_D_step_70 ⟨by decide, by decide⟩) hS (fun hy9 H locs hq hP hS => ?_)
            obtain ⟨pN, hsY, hN, hN5⟩ := hq
            obtain ⟨p7, hw7⟩ := mGoes_ok hwX hltf b19
            have hp7 : p7 = pN := hw7.p_eq hN hN5
            rw [hp7] at hw7
            obtain ⟨Y, hYe⟩ : ∃ z9 : St, z9 = mSettle (sp X 6 f (X 16 4)) := ⟨_, rfl⟩
            rw [← hYe] at hw7 hsY
            refine lv_iload F.1 F.2.1 d_D_step_73 (lv_at hl 0 rfl) ?_
            refine lv_istore F.1 F.2.1 d_D_step_75 hl (by decide) rfl (fun ls hl => ?_)
            replace hl : lv_has ls 6 [(4, .int (nI k)), (5, .int (nI k)), (3, .ref (g 6 f)), (0, .ref x), (1, .int (nI f)), (2, .int (nI M))] := hl
            refine lv_aload_n F.1 F.2.1 d_D_step_77 rfl (lv_at hl 3 rfl) ?_
            refine lv_aload_n F.1 F.2.1 d_D_step_78 rfl (lv_at hl 2 rfl) ?_
            have f26 : hy9 x = some (.inr (6, [.ref (g 10 0), .ref (g 10 1), .ref (g 10 2), .ref (g 3 6), .int (Y 16 4)])) := hsY.1
            refine pw_cv (pr_V F (c_D_stepOnce l D cs A hy9 x g gr (dpS X) Y nf pN nt hsY _ hw7 f hltf (by rw [hYe, mSettle_k (by decide), sp_k (by decide)])) X_D_159 rfl rfl ⟨by decide, by decide⟩ hP hA hK hS f26 rfl rfl rfl hl.1 rfl (Nat.le_of_ble_eq_true rfl) d_D_step_79 ⟨by decide, by decide⟩) hS (fun hz9 H locs hq hP hS => ?_)
            have hw9 : WF (mOnce Y f) nf pN nt noX := mOnce_ok hw7 hltf (fun u hu => hu)
            have hs9 : Sim cs hz9 x g gr (dpS (mOnce Y f)) (mOnce Y f) nf pN nt := hq.dpm (fun u _ => by unfold dpT; by_cases hu : u = f; exact (by rw [if_pos hu, hu]; exact Nat.le_refl _); exact (by rw [if_neg hu]; show tn (mOnce Y f 11 u) ≤ tn (X 11 u); rw [mOnce_11 hu, hYe, mSettle_k (by decide), sp_k (by decide)]; exact Nat.le_refl _))
            refine lv_iinc (k := 1) (v := nI (k + 1)) F.1 F.2.1 d_D_step_82 hl rfl (by rw [show Int32.ofInt 1 = nI 1 from rfl, nI_add]) (by decide) rfl (fun ls hl => ?_)
            replace hl : lv_has ls 6 [(5, .int (nI (k + 1))), (4, .int (nI k)), (3, .ref (g 6 f)), (0, .ref x), (1, .int (nI f)), (2, .int (nI M))] := hl
            refine lv_goto (tgt := 47) F.1 F.2.1 d_D_step_85 (by decide) ?_
            have hr9 : mRun f n (k + 1) (mOnce Y f) (nI k) = mRun f M 1 (sp S 16 0 0) 0 := by rw [← hrun, mRun_t b19, hYe]
            exact ih (ls := ls) (k := k + 1) (u := nI k) (X := mOnce Y f) (q := pN) (hh := hz9) (H := H) (locs := locs) (by first | exact hl | exact hP | exact hS | exact hs9 | exact hr9 | exact hw9 | omega) (by first | exact hl | exact hP | exact hS | exact hs9 | exact hr9 | exact hw9 | omega) (by first | exact hl | exact hP | exact hS | exact hs9 | exact hr9 | exact hw9 | omega) (by first | exact hl | exact hP | exact hS | exact hs9 | exact hr9 | exact hw9 | omega) (by first | exact hl | exact hP | exact hS | exact hs9 | exact hr9 | exact hw9 | omega) (by first | exact hl | exact hP | exact hS | exact hs9 | exact hr9 | exact hw9 | omega) (by first | exact hl | exact hP | exact hS | exact hs9 | exact hr9 | exact hw9 | omega) (by first | exact hl | exact hP | exact hS | exact hs9 | exact hr9 | exact hw9 | omega)
          · skip
            refine W.eq (g2 := F0 m 58 ls [.int 0]) (by rw [hq2 b19]) ?_
            refine lv_if_eq (tgt := 77) F.1 F.2.1 d_D_step_58 (by decide) (fun c27 => ?_) (fun c27 => absurd (by decide) c27)
            refine lv_aload_n F.1 F.2.1 d_D_step_77 rfl (lv_at hl 3 rfl) ?_
            refine lv_aload_n F.1 F.2.1 d_D_step_78 rfl (lv_at hl 2 rfl) ?_
            refine pw_cv (pr_V F (c_D_stepOnce l D cs A hh x g gr (dpS X) X nf q nt hsX _ hwX f hltf rfl) X_D_159 rfl rfl ⟨by decide, by decide⟩ hP hA hK hS f18 rfl rfl rfl hl.1 rfl (Nat.le_of_ble_eq_true rfl) d_D_step_79 ⟨by decide, by decide⟩) hS (fun hz9 H locs hq hP hS => ?_)
            have hw9 : WF (mOnce X f) nf q nt noX := mOnce_ok hwX hltf (fun u _ z9 => z9)
            have hs9 : Sim cs hz9 x g gr (dpS (mOnce X f)) (mOnce X f) nf q nt := hq.dpm (fun u _ => by unfold dpT; by_cases hu : u = f; exact (by rw [if_pos hu, hu]; exact Nat.le_refl _); exact (by rw [if_neg hu]; show tn (mOnce X f 11 u) ≤ tn (X 11 u); rw [mOnce_11 hu]; exact Nat.le_refl _))
            refine lv_iinc (k := 0) (v := nI (k + 1)) F.1 F.2.1 d_D_step_82 hl rfl (by rw [show Int32.ofInt 1 = nI 1 from rfl, nI_add]) (by decide) rfl (fun ls hl => ?_)
            replace hl : lv_has ls 6 [(5, .int (nI (k + 1))), (4, .int u), (3, .ref (g 6 f)), (0, .ref x), (1, .int (nI f)), (2, .int (nI M))] := hl
            refine lv_goto (tgt := 47) F.1 F.2.1 d_D_step_85 (by decide) ?_
            have hr9 : mRun f n (k + 1) (mOnce X f) u = mRun f M 1 (sp S 16 0 0) 0 := by rw [← hrun, mRun_f b19]
            exact ih (ls := ls) (k := k + 1) (u := u) (X := mOnce X f) (q := q) (hh := hz9) (H := H) (locs := locs) (by first | exact hl | exact hP | exact hS | exact hs9 | exact hr9 | exact hw9 | omega) (by first | exact hl | exact hP | exact hS | exact hs9 | exact hr9 | exact hw9 | omega) (by first | exact hl | exact hP | exact hS | exact hs9 | exact hr9 | exact hw9 | omega) (by first | exact hl | exact hP | exact hS | exact hs9 | exact hr9 | exact hw9 | omega) (by first | exact hl | exact hP | exact hS | exact hs9 | exact hr9 | exact hw9 | omega) (by first | exact hl | exact hP | exact hS | exact hs9 | exact hr9 | exact hw9 | omega) (by first | exact hl | exact hP | exact hS | exact hs9 | exact hr9 | exact hw9 | omega) (by first | exact hl | exact hP | exact hS | exact hs9 | exact hr9 | exact hw9 | omega)
      · skip
        exact pw_throw (is := 147) (text := "no such task, or steps is not 1 .. 100") hst xw_1 (by decide) F hlk htb hP hK hS hl d_D_step_19 d_D_step_22 d_D_step_23 d_D_step_25 d_D_step_28 (by decide) (by decide) (by decide) (by decide) (by decide) (by decide) ((by have hth : thStep S tk mn = 1 := (by unfold thStep; rw [if_neg (fun z9 => c5 z9.2.2)]); exact ⟨rfl, hth, by unfold stStep; rw [if_neg (by rw [hth]; decide)]; exact SimE.num ⟨g, gr, nf, pT, nt, hdpS ▸ hs, hw⟩ 1⟩))
  · skip
    refine W.eq (g2 := F0 m 5 ls [.int 0]) (by rw [if_neg b2]) ?_
    refine lv_if_eq (tgt := 19) F.1 F.2.1 d_D_step_5 (by decide) (fun c28 => ?_) (fun c28 => absurd (by decide) c28)
    exact pw_throw (is := 147) (text := "no such task, or steps is not 1 .. 100") hst xw_1 (by decide) F hlk htb hP hK hS hl d_D_step_19 d_D_step_22 d_D_step_23 d_D_step_25 d_D_step_28 (by decide) (by decide) (by decide) (by decide) (by decide) (by decide) ((by have hth : thStep S tk mn = 1 := (by unfold thStep; rw [if_neg (fun z9 => b2 (hn5 ▸ z9.1))]); exact ⟨rfl, hth, by unfold stStep; rw [if_neg (by rw [hth]; decide)]; exact SimE.num ⟨g, gr, nf, pT, nt, hdpS ▸ hs, hw⟩ 1⟩))
