abbrev sIAE : String := "java/lang/IllegalArgumentException"
abbrev sISE : String := "java/lang/IllegalStateException"
abbrev sUOE : String := "java/lang/UnsupportedOperationException"
abbrev sNSE : String := "java/util/NoSuchElementException"
/-- the desk at x stands for the state S -/
def SimE (cs : Nat → Nat) (h : pw_H) (x : Nat) (S : St) : Prop := ∃ g gr nf p nt, Sim cs h x g gr (dpS S) S nf p nt ∧ WF S nf p nt noX
theorem WFe.same {S : St} {nf p nt : Nat} (h : WFe S) (h1 : S 16 1 = nI nf) (b1 : nf ≤ 8) (h2 : S 16 3 = nI p) (b2 : p ≤ 5) (h3 : S 16 5 = nI nt) (b3 : nt ≤ 4) : WF S nf p nt noX := by
  obtain ⟨nf', p', nt', hw⟩ := h
  have c1 := hw.1.1
  have c2 := hw.1.2.1
  have c3 := hw.1.2.2.1
  have e1 := (nI_eq (a := nf) (b := nf') (by omega) (by omega)).mp (h1.symm.trans hw.1.2.2.2.1)
  have e2 := (nI_eq (a := p) (b := p') (by omega) (by omega)).mp (h2.symm.trans hw.1.2.2.2.2.1)
  have e3 := (nI_eq (a := nt) (b := nt') (by omega) (by omega)).mp (h3.symm.trans hw.1.2.2.2.2.2.1)
  subst e1 e2 e3
  exact hw
theorem SimE.wf {cs : Nat → Nat} {h : pw_H} {x : Nat} {S : St} (hE : SimE cs h x S) : WFe S := by
  obtain ⟨g, gr, nf, p, nt, hs, hw⟩ := hE
  exact ⟨nf, p, nt, hw⟩
theorem Sim.num {cs : Nat → Nat} {h : pw_H} {x : Nat} {g : Gh} {gr : Nat → Prop} {dp : Nat → Nat} {S : St} {nf p nt : Nat} (hs : Sim cs h x g gr dp S nf p nt) (v : Int32) : Sim cs h x g gr dp (sp S 16 0 v) nf p nt :=
  hs.same (sp_off (by decide)) (sp_j (by decide)) (fun k i κ j hr => by
    by_cases h16 : κ = 16
    · subst h16
      obtain ⟨_, _, rfl⟩ := rd_16 hr
      exact sp_j (by decide)
    · exact sp_k h16)
theorem SimE.num {cs : Nat → Nat} {h : pw_H} {x : Nat} {S : St} (hE : SimE cs h x S) (v : Int32) : SimE cs h x (sp S 16 0 v) := by
  obtain ⟨g, gr, nf, p, nt, hs, hw⟩ := hE
  refine ⟨g, gr, nf, p, nt, ?_, hw.num (Or.inl rfl) v⟩
  have e : dpS (sp S 16 0 v) = dpS S := by
    funext u
    show tn (sp S 16 0 v 11 u) = tn (S 11 u)
    rw [sp_k (by decide)]
  rw [e]
  exact hs.num v
theorem mIn2 {x : Int32} (h : (0 : Int32) ≤ x ∧ x ≤ 2) : x = 0 ∨ x = 1 ∨ x = 2 := by
  obtain ⟨n, hn, rfl⟩ := mIn_nat (n := 3) (by decide) h.1 h.2
  rcases (show n = 0 ∨ n = 1 ∨ n = 2 by omega) with rfl | rfl | rfl
  · exact Or.inl rfl
  · exact Or.inr (Or.inl rfl)
  · exact Or.inr (Or.inr rfl)
abbrev rm_D_look : Room := { frames := 6, cells := 1, slots := 6, locals := 90 }
set_option maxHeartbeats 4000000 in
set_option maxRecDepth 100000 in
theorem c_D_look (l : Launch) (D : va_G) (cs : Nat → Nat) (A : Nat → Prop) (h : pw_H) (hst : l.stackTraces = false) (x : Nat) (S : St) (hE : SimE cs h x S) (tk w : Int32) : pmx l y_D_look b_D_look 4 (some .int) rm_D_look [.ref x, .int tk, .int w] D cs A h (va_Qi (fun (r : Int32) (h' : pw_H) => thLook S tk w = 0 ∧ h' = h ∧ r = rLook S tk w) (ww D cs A) A) (fun (E : String) (h' : pw_H) => E = sIAE ∧ thLook S tk w = 1 ∧ h' = h) 1 6 := by
  refine pmx_of R_D rfl (by decide) (Nat.le_of_ble_eq_true rfl) (fun p e s m below meth c ls F hr hlk hnm htb hP hA hK hl => ?_)
  have hS : va_S A s.heap s.heap [] := va_S.rf
  replace hl : lv_has ls 4 [(0, .ref x), (1, .int tk), (2, .int w)] := hl
  obtain ⟨g, gr, nf, pT, nt, hs, hw⟩ := hE
  obtain ⟨dp, hdpS⟩ : ∃ dp, dp = dpS S := ⟨_, rfl⟩
  rw [← hdpS] at hs
  have hnf8 := hw.1.1
  have hp5 := hw.1.2.1
  have hnt4 := hw.1.2.2.1
  have hn1 := hw.1.2.2.2.1
  have hn3 := hw.1.2.2.2.2.1
  have hn5 := hw.1.2.2.2.2.2.1
  refine lv_aload_n F.1 F.2.1 d_D_look_0 rfl (lv_at hl 0 rfl) ?_
  refine lv_iload_n F.1 F.2.1 d_D_look_1 rfl (lv_at hl 1 rfl) ?_
  have f1 : h x = some (.inr (6, [.ref (g 10 0), .ref (g 10 1), .ref (g 10 2), .ref (g 3 6), .int (S 16 4)])) := hs.1
  refine pw_ciE (pr_V F (c_D_isTask l D cs A h x g gr dp S nf pT nt hs hnt4 tk) X_D_144 rfl rfl ⟨by decide, by decide⟩ hP hA hK hS f1 rfl rfl rfl hl.1 rfl (Nat.le_of_ble_eq_true rfl) d_D_look_2 ⟨by decide, by decide⟩) hS (fun H locs hP hS => ?_)
  by_cases b2 : mIn tk 0 (nI nt - 1)
  · skip
    refine W.eq (g2 := F0 m 5 ls [.int 1]) (by rw [if_pos b2]) ?_
    refine lv_if_eq (tgt := 17) F.1 F.2.1 d_D_look_5 (by decide) (fun c3 => absurd c3 (by decide)) (fun c3 => ?_)
    refine lv_iload_n F.1 F.2.1 d_D_look_8 rfl (lv_at hl 2 rfl) ?_
    refine lv_if_lt (tgt := 17) F.1 F.2.1 d_D_look_9 (by decide) (fun c4 => ?_) (fun c4 => ?_)
    · skip
      exact pw_throw (is := 163) (text := "no such task or what") hst xw_1 (by decide) F hlk htb hP hK hS hl d_D_look_17 d_D_look_20 d_D_look_21 d_D_look_23 d_D_look_26 (by decide) (by decide) (by decide) (by decide) (by decide) (by decide) (⟨rfl, by unfold thLook; rw [if_neg (fun z9 => absurd c4 (Int32.not_lt.mpr z9.2.1))], rfl⟩)
    · skip
      refine lv_iload_n F.1 F.2.1 d_D_look_12 rfl (lv_at hl 2 rfl) ?_
      refine lv_iconst (v := 5) F.1 F.2.1 d_D_look_13 (by decide) ?_
      refine lv_icmp_le (tgt := 27) F.1 F.2.1 d_D_look_14 (by decide) (fun c5 => ?_) (fun c5 => ?_)
      · skip
        obtain ⟨f, hltf, rfl⟩ := mIn_nat (by omega) b2.1 b2.2
        refine lv_aload_n F.1 F.2.1 d_D_look_27 rfl (lv_at hl 0 rfl) ?_
        refine pw_get F I_D hK.1 hP f1 rfl 2 (by decide) L_D_19 (fun _ z => z) rfl d_D_look_28 ?_
        refine lv_iload_n F.1 F.2.1 d_D_look_31 rfl (lv_at hl 1 rfl) ?_
        obtain ⟨_, n6, v7, f8, f9, k10⟩ := hs.le (show 2 < 3 by decide) (show 0 < nt by omega)
        obtain ⟨q11, n12, f13, _, _⟩ := hs.ls (show 2 < 3 by decide)
        have f14 : h (g 10 2) = some (.inr (0, [.ref q11, .int (nI nt), .int n12])) := f13
        refine pw_crE (pr_V F (c_AL_get l D cs A h _ _ nt f _ _ v7 (by omega) (by omega) (k10 f (show f < nt by omega)) f8 f9) X_D_78 rfl rfl ⟨by decide, by decide⟩ hP hA hK hS f14 rfl rfl rfl hl.1 rfl (Nat.le_of_ble_eq_true rfl) d_D_look_32 ⟨by decide, by decide⟩) hS (fun H locs hP hS => ?_)
        have f15 : h (g 6 f) = some (.inr (5, [.ref (g 7 f), .int (S 11 f), .int (S 6 f), .int (S 7 f), .int (S 8 f), .int (S 9 f), .int (S 10 f)])) := hs.tk (by omega)
        refine va_castY (C := R_T) F.1 F.2.1 F.2.2.2.1 (F.2.2.2.2 _ C_D_135) (hK.2.2.2.2.2.2.2.1 ("PatchDesk$Task", "PatchDesk$Task") (by decide)) (pw_recv hK.1 hP f15 rfl) d_D_look_35 ?_
        refine lv_astore_n F.1 F.2.1 d_D_look_38 rfl hl (by decide) rfl (fun ls hl => ?_)
        replace hl : lv_has ls 4 [(3, .ref (g 6 f)), (0, .ref x), (1, .int (nI f)), (2, .int w)] := hl
        have hwin : mIn w 0 5 := ⟨Int32.not_lt.mp c4, c5⟩
        rcases mIn5 hwin with rfl | rfl | rfl | rfl | rfl | rfl
        · skip
          refine lv_iload_n F.1 F.2.1 d_D_look_39 rfl (lv_at hl 3 rfl) ?_
          refine lv_tableIn (off := 36) (tgt := 76) F.1 F.2.1 d_D_look_40 (by decide) (by decide) (by decide) (by decide) ?_
          refine lv_aload_n F.1 F.2.1 d_D_look_76 rfl (lv_at hl 0 rfl) ?_
          refine pw_get F I_T hK.1 hP f15 rfl 2 (by decide) L_D_153 (fun _ z => z) rfl d_D_look_77 ?_
          exact vx_ret (pw_iret F hr hlk hP hA hK hS (by decide) (by decide) d_D_look_80 ((by have hth : thLook S (nI f) 0 = 0 := (by unfold thLook; rw [if_pos ⟨hn5 ▸ b2, by decide⟩]); exact ⟨hth, rfl, by unfold rLook; rw [if_pos hth, if_pos rfl, tn_nI (by omega)]⟩)))
        · skip
          refine lv_iload_n F.1 F.2.1 d_D_look_39 rfl (lv_at hl 3 rfl) ?_
          refine lv_tableIn (off := 41) (tgt := 81) F.1 F.2.1 d_D_look_40 (by decide) (by decide) (by decide) (by decide) ?_
          refine lv_aload_n F.1 F.2.1 d_D_look_81 rfl (lv_at hl 0 rfl) ?_
          refine pw_get F I_T hK.1 hP f15 rfl 3 (by decide) L_D_165 (fun _ z => z) rfl d_D_look_82 ?_
          exact vx_ret (pw_iret F hr hlk hP hA hK hS (by decide) (by decide) d_D_look_85 ((by have hth : thLook S (nI f) 1 = 0 := (by unfold thLook; rw [if_pos ⟨hn5 ▸ b2, by decide⟩]); exact ⟨hth, rfl, by unfold rLook; rw [if_pos hth, if_neg (by decide), if_pos rfl, tn_nI (by omega)]⟩)))
        · skip
          refine lv_iload_n F.1 F.2.1 d_D_look_39 rfl (lv_at hl 3 rfl) ?_
          refine lv_tableIn (off := 46) (tgt := 86) F.1 F.2.1 d_D_look_40 (by decide) (by decide) (by decide) (by decide) ?_
          refine lv_aload_n F.1 F.2.1 d_D_look_86 rfl (lv_at hl 0 rfl) ?_
          refine pw_get F I_T hK.1 hP f15 rfl 1 (by decide) L_D_168 (fun _ z => z) rfl d_D_look_87 ?_
          exact vx_ret (pw_iret F hr hlk hP hA hK hS (by decide) (by decide) d_D_look_90 ((by have hth : thLook S (nI f) 2 = 0 := (by unfold thLook; rw [if_pos ⟨hn5 ▸ b2, by decide⟩]); exact ⟨hth, rfl, by unfold rLook; rw [if_pos hth, if_neg (by decide), if_neg (by decide), if_pos rfl, tn_nI (by omega)]⟩)))
        · skip
          refine lv_iload_n F.1 F.2.1 d_D_look_39 rfl (lv_at hl 3 rfl) ?_
          refine lv_tableIn (off := 51) (tgt := 91) F.1 F.2.1 d_D_look_40 (by decide) (by decide) (by decide) (by decide) ?_
          refine lv_aload_n F.1 F.2.1 d_D_look_91 rfl (lv_at hl 0 rfl) ?_
          refine pw_get F I_T hK.1 hP f15 rfl 4 (by decide) L_D_171 (fun _ z => z) rfl d_D_look_92 ?_
          exact vx_ret (pw_iret F hr hlk hP hA hK hS (by decide) (by decide) d_D_look_95 ((by have hth : thLook S (nI f) 3 = 0 := (by unfold thLook; rw [if_pos ⟨hn5 ▸ b2, by decide⟩]); exact ⟨hth, rfl, by unfold rLook; rw [if_pos hth, if_neg (by decide), if_neg (by decide), if_neg (by decide), if_pos rfl, tn_nI (by omega)]⟩)))
        · skip
          refine lv_iload_n F.1 F.2.1 d_D_look_39 rfl (lv_at hl 3 rfl) ?_
          refine lv_tableIn (off := 56) (tgt := 96) F.1 F.2.1 d_D_look_40 (by decide) (by decide) (by decide) (by decide) ?_
          refine lv_aload_n F.1 F.2.1 d_D_look_96 rfl (lv_at hl 0 rfl) ?_
          refine pw_get F I_T hK.1 hP f15 rfl 5 (by decide) L_D_174 (fun _ z => z) rfl d_D_look_97 ?_
          exact vx_ret (pw_iret F hr hlk hP hA hK hS (by decide) (by decide) d_D_look_100 ((by have hth : thLook S (nI f) 4 = 0 := (by unfold thLook; rw [if_pos ⟨hn5 ▸ b2, by decide⟩]); exact ⟨hth, rfl, by unfold rLook; rw [if_pos hth, if_neg (by decide), if_neg (by decide), if_neg (by decide), if_neg (by decide), if_pos rfl, tn_nI (by omega)]⟩)))
        · skip
          refine lv_iload_n F.1 F.2.1 d_D_look_39 rfl (lv_at hl 3 rfl) ?_
          refine lv_tableOut (tgt := 101) F.1 F.2.1 d_D_look_40 (by decide) (by decide) ?_
          refine lv_aload_n F.1 F.2.1 d_D_look_101 rfl (lv_at hl 0 rfl) ?_
          refine pw_get F I_T hK.1 hP f15 rfl 6 (by decide) L_D_177 (fun _ z => z) rfl d_D_look_102 ?_
          exact vx_ret (pw_iret F hr hlk hP hA hK hS (by decide) (by decide) d_D_look_105 ((by have hth : thLook S (nI f) 5 = 0 := (by unfold thLook; rw [if_pos ⟨hn5 ▸ b2, by decide⟩]); exact ⟨hth, rfl, by unfold rLook; rw [if_pos hth, if_neg (by decide), if_neg (by decide), if_neg (by decide), if_neg (by decide), if_neg (by decide), tn_nI (by omega)]⟩)))
      · skip
        exact pw_throw (is := 163) (text := "no such task or what") hst xw_1 (by decide) F hlk htb hP hK hS hl d_D_look_17 d_D_look_20 d_D_look_21 d_D_look_23 d_D_look_26 (by decide) (by decide) (by decide) (by decide) (by decide) (by decide) (⟨rfl, by unfold thLook; rw [if_neg (fun z9 => c5 z9.2.2)], rfl⟩)
  · skip
    refine W.eq (g2 := F0 m 5 ls [.int 0]) (by rw [if_neg b2]) ?_
    refine lv_if_eq (tgt := 17) F.1 F.2.1 d_D_look_5 (by decide) (fun c16 => ?_) (fun c16 => absurd (by decide) c16)
    exact pw_throw (is := 163) (text := "no such task or what") hst xw_1 (by decide) F hlk htb hP hK hS hl d_D_look_17 d_D_look_20 d_D_look_21 d_D_look_23 d_D_look_26 (by decide) (by decide) (by decide) (by decide) (by decide) (by decide) (⟨rfl, by unfold thLook; rw [if_neg (fun z9 => b2 (hn5 ▸ z9.1))], rfl⟩)
abbrev rm_D_frame : Room := { frames := 6, cells := 1, slots := 6, locals := 90 }
set_option maxHeartbeats 4000000 in
set_option maxRecDepth 100000 in
theorem c_D_frame (l : Launch) (D : va_G) (cs : Nat → Nat) (A : Nat → Prop) (h : pw_H) (hst : l.stackTraces = false) (x : Nat) (S : St) (hE : SimE cs h x S) (tk k w : Int32) : pmx l y_D_frame b_D_frame 6 (some .int) rm_D_frame [.ref x, .int tk, .int k, .int w] D cs A h (va_Qi (fun (r : Int32) (h' : pw_H) => thFrame S tk k w = 0 ∧ h' = h ∧ r = rFrame S tk k w) (ww D cs A) A) (fun (E : String) (h' : pw_H) => (E = sIAE ∧ thFrame S tk k w = 1 ∧ h' = h) ∨ (E = sNSE ∧ thFrame S tk k w = 2 ∧ h' = h)) 1 6 := by
  refine pmx_of R_D rfl (by decide) (Nat.le_of_ble_eq_true rfl) (fun p e s m below meth c ls F hr hlk hnm htb hP hA hK hl => ?_)
  have hS : va_S A s.heap s.heap [] := va_S.rf
  replace hl : lv_has ls 6 [(0, .ref x), (1, .int tk), (2, .int k), (3, .int w)] := hl
  obtain ⟨g, gr, nf, pT, nt, hs, hw⟩ := hE
  obtain ⟨dp, hdpS⟩ : ∃ dp, dp = dpS S := ⟨_, rfl⟩
  rw [← hdpS] at hs
  have hnf8 := hw.1.1
  have hp5 := hw.1.2.1
  have hnt4 := hw.1.2.2.1
  have hn1 := hw.1.2.2.2.1
  have hn3 := hw.1.2.2.2.2.1
  have hn5 := hw.1.2.2.2.2.2.1
  refine lv_aload_n F.1 F.2.1 d_D_frame_0 rfl (lv_at hl 0 rfl) ?_
  refine lv_iload_n F.1 F.2.1 d_D_frame_1 rfl (lv_at hl 1 rfl) ?_
  have f1 : h x = some (.inr (6, [.ref (g 10 0), .ref (g 10 1), .ref (g 10 2), .ref (g 3 6), .int (S 16 4)])) := hs.1
  refine pw_ciE (pr_V F (c_D_isTask l D cs A h x g gr dp S nf pT nt hs hnt4 tk) X_D_144 rfl rfl ⟨by decide, by decide⟩ hP hA hK hS f1 rfl rfl rfl hl.1 rfl (Nat.le_of_ble_eq_true rfl) d_D_frame_2 ⟨by decide, by decide⟩) hS (fun H locs hP hS => ?_)
  by_cases b2 : mIn tk 0 (nI nt - 1)
  · skip
    refine W.eq (g2 := F0 m 5 ls [.int 1]) (by rw [if_pos b2]) ?_
    refine lv_if_eq (tgt := 17) F.1 F.2.1 d_D_frame_5 (by decide) (fun c3 => absurd c3 (by decide)) (fun c3 => ?_)
    refine lv_iload_n F.1 F.2.1 d_D_frame_8 rfl (lv_at hl 3 rfl) ?_
    refine lv_if_lt (tgt := 17) F.1 F.2.1 d_D_frame_9 (by decide) (fun c4 => ?_) (fun c4 => ?_)
    · skip
      exact pw_throw (is := 163) (text := "no such task or what") hst xw_1 (by decide) F hlk htb hP hK hS hl d_D_frame_17 d_D_frame_20 d_D_frame_21 d_D_frame_23 d_D_frame_26 (by decide) (by decide) (by decide) (by decide) (by decide) (by decide) (Or.inl ⟨rfl, by unfold thFrame; rw [if_pos (fun z9 => absurd c4 (Int32.not_lt.mpr z9.2.1))], rfl⟩)
    · skip
      refine lv_iload_n F.1 F.2.1 d_D_frame_12 rfl (lv_at hl 3 rfl) ?_
      refine lv_iconst (v := 2) F.1 F.2.1 d_D_frame_13 (by decide) ?_
      refine lv_icmp_le (tgt := 27) F.1 F.2.1 d_D_frame_14 (by decide) (fun c5 => ?_) (fun c5 => ?_)
      · skip
        obtain ⟨f, hltf, rfl⟩ := mIn_nat (by omega) b2.1 b2.2
        obtain ⟨d, r0, a0, z0, L0, mf0, ht4, h6, hd, hr48, hrw, hz12, hz, haz, ha, hL5, hL, hmf, hm, hh1, hop, rows⟩ := hw.at hltf
        refine lv_aload_n F.1 F.2.1 d_D_frame_27 rfl (lv_at hl 0 rfl) ?_
        refine pw_get F I_D hK.1 hP f1 rfl 2 (by decide) L_D_19 (fun _ z => z) rfl d_D_frame_28 ?_
        refine lv_iload_n F.1 F.2.1 d_D_frame_31 rfl (lv_at hl 1 rfl) ?_
        obtain ⟨_, n6, v7, f8, f9, k10⟩ := hs.le (show 2 < 3 by decide) (show 0 < nt by omega)
        obtain ⟨q11, n12, f13, _, _⟩ := hs.ls (show 2 < 3 by decide)
        have f14 : h (g 10 2) = some (.inr (0, [.ref q11, .int (nI nt), .int n12])) := f13
        refine pw_crE (pr_V F (c_AL_get l D cs A h _ _ nt f _ _ v7 (by omega) (by omega) (k10 f (show f < nt by omega)) f8 f9) X_D_78 rfl rfl ⟨by decide, by decide⟩ hP hA hK hS f14 rfl rfl rfl hl.1 rfl (Nat.le_of_ble_eq_true rfl) d_D_frame_32 ⟨by decide, by decide⟩) hS (fun H locs hP hS => ?_)
        have f15 : h (g 6 f) = some (.inr (5, [.ref (g 7 f), .int (S 11 f), .int (S 6 f), .int (S 7 f), .int (S 8 f), .int (S 9 f), .int (S 10 f)])) := hs.tk (by omega)
        refine va_castY (C := R_T) F.1 F.2.1 F.2.2.2.1 (F.2.2.2.2 _ C_D_135) (hK.2.2.2.2.2.2.2.1 ("PatchDesk$Task", "PatchDesk$Task") (by decide)) (pw_recv hK.1 hP f15 rfl) d_D_frame_35 ?_
        refine lv_astore F.1 F.2.1 d_D_frame_38 hl (by decide) rfl (fun ls hl => ?_)
        replace hl : lv_has ls 6 [(4, .ref (g 6 f)), (0, .ref x), (1, .int (nI f)), (2, .int k), (3, .int w)] := hl
        refine lv_iload_n F.1 F.2.1 d_D_frame_40 rfl (lv_at hl 3 rfl) ?_
        refine lv_if_lt (tgt := 53) F.1 F.2.1 d_D_frame_41 (by decide) (fun c16 => ?_) (fun c16 => ?_)
        · skip
          exact pw_throwN (is := 182) (text := "no such frame") hst xw_4 (by decide) F hlk htb hP hK hS hl d_D_frame_53 d_D_frame_56 d_D_frame_57 d_D_frame_59 d_D_frame_62 (by decide) (by decide) (by decide) (by decide) (by decide) (by decide) (Or.inr ⟨rfl, by unfold thFrame; rw [if_neg (fun z9 => z9 ⟨hn5 ▸ b2, ⟨Int32.not_lt.mp c4, c5⟩⟩), if_neg (fun z9 => by rw [tn_nI (by omega), hd] at z9; exact ((isF_iff (n := d + 1) (by omega)).mpr z9).1 c16)], rfl⟩)
        · skip
          refine lv_iload_n F.1 F.2.1 d_D_frame_44 rfl (lv_at hl 3 rfl) ?_
          refine lv_aload F.1 F.2.1 d_D_frame_45 (lv_at hl 0 rfl) ?_
          refine pw_get F I_T hK.1 hP f15 rfl 1 (by decide) L_D_168 (fun _ z => z) rfl d_D_frame_47 ?_
          refine W.eq (g2 := F0 m 50 ls [.int (nI (d + 1)), .int k]) (by rw [hd]) ?_
          refine lv_icmp_lt (tgt := 63) F.1 F.2.1 d_D_frame_50 (by decide) (fun c17 => ?_) (fun c17 => ?_)
          · skip
            obtain ⟨kk, hkk, rfl⟩ : ∃ kk : Nat, kk < d + 1 ∧ k = nI kk := ((isF_iff (n := d + 1) (by omega)).mp ⟨c16, Int32.not_le.mpr c17⟩).elim (fun z8 z9 => mIn_nat (by omega) z8 z9)
            obtain ⟨rk, hrk, hrow⟩ := rows kk (by omega)
            refine lv_aload F.1 F.2.1 d_D_frame_63 (lv_at hl 0 rfl) ?_
            refine pw_get F I_T hK.1 hP f15 rfl 0 (by decide) L_D_185 (fun _ z => z) rfl d_D_frame_65 ?_
            refine lv_iload_n F.1 F.2.1 d_D_frame_68 rfl (lv_at hl 3 rfl) ?_
            obtain ⟨v18, f19, k20⟩ := hs.fs (t := f) (by omega)
            have f21 : h (g 7 f) = some (.inl (cs 4, 6, .inr (.inr (.inr (.inr v18))))) := f19
            refine pw_aldqN F hK.1 hP 4 f21 rfl (k := kk) (by omega) (by decide) d_D_frame_69 ?_
            refine W.eq (g2 := F0 m 70 ls [.ref ((g 8 (6 * f + kk)))]) (by rw [k20 kk (by omega)]; rfl) ?_
            refine lv_astore F.1 F.2.1 d_D_frame_70 hl (by decide) rfl (fun ls hl => ?_)
            replace hl : lv_has ls 6 [(5, .ref ((g 8 (6 * f + kk)))), (4, .ref (g 6 f)), (0, .ref x), (1, .int (nI f)), (2, .int (nI kk)), (3, .int w)] := hl
            have hwin : mIn w 0 2 := ⟨Int32.not_lt.mp c4, c5⟩
            rcases mIn2 hwin with rfl | rfl | rfl
            · skip
              refine lv_iload_n F.1 F.2.1 d_D_frame_72 rfl (lv_at hl 5 rfl) ?_
              refine lv_lookup (off := 27) (tgt := 100) F.1 F.2.1 d_D_frame_73 (by decide) (by decide) (by decide) ?_
              refine lv_aload F.1 F.2.1 d_D_frame_100 (lv_at hl 0 rfl) ?_
              have f22 := hs.fo (t := f) (k := kk) hltf (by omega) (by rw [hdpS]; show kk < tn (S 11 f); rw [hd, tn_nI (by omega)]; omega)
              rw [hrow, tn_nI (by omega)] at f22
              refine pw_get F I_Fr hK.1 hP f22 rfl 0 (by decide) L_D_189 (fun _ z => z) rfl d_D_frame_102 ?_
              exact vx_ret (pw_iret F hr hlk hP hA hK hS (by decide) (by decide) d_D_frame_105 ((by have hth : thFrame S (nI f) (nI kk) 0 = 0 := (by unfold thFrame; rw [if_neg (fun z9 => z9 ⟨hn5 ▸ b2, by decide⟩), if_pos (by rw [tn_nI (by omega), hd]; exact mIn_of (by omega) hkk)]); exact ⟨hth, rfl, by unfold rFrame; rw [if_pos hth, if_pos rfl, tn_nI (by omega), tn_nI (by omega), hrow, tn_nI (by omega)]⟩)))
            · skip
              refine lv_iload_n F.1 F.2.1 d_D_frame_72 rfl (lv_at hl 5 rfl) ?_
              refine lv_lookup (off := 33) (tgt := 106) F.1 F.2.1 d_D_frame_73 (by decide) (by decide) (by decide) ?_
              refine lv_aload F.1 F.2.1 d_D_frame_106 (lv_at hl 0 rfl) ?_
              have f23 := hs.fo (t := f) (k := kk) hltf (by omega) (by rw [hdpS]; show kk < tn (S 11 f); rw [hd, tn_nI (by omega)]; omega)
              rw [hrow, tn_nI (by omega)] at f23
              refine pw_get F I_Fr hK.1 hP f23 rfl 1 (by decide) L_D_194 (fun _ z => z) rfl d_D_frame_108 ?_
              exact vx_ret (pw_iret F hr hlk hP hA hK hS (by decide) (by decide) d_D_frame_111 ((by have hth : thFrame S (nI f) (nI kk) 1 = 0 := (by unfold thFrame; rw [if_neg (fun z9 => z9 ⟨hn5 ▸ b2, by decide⟩), if_pos (by rw [tn_nI (by omega), hd]; exact mIn_of (by omega) hkk)]); exact ⟨hth, rfl, by unfold rFrame; rw [if_pos hth, if_neg (by decide), if_pos rfl, tn_nI (by omega), tn_nI (by omega)]⟩)))
            · skip
              refine lv_iload_n F.1 F.2.1 d_D_frame_72 rfl (lv_at hl 5 rfl) ?_
              refine lv_lookup (off := 39) (tgt := 112) F.1 F.2.1 d_D_frame_73 (by decide) (by decide) (by decide) ?_
              refine lv_aload F.1 F.2.1 d_D_frame_112 (lv_at hl 0 rfl) ?_
              have f24 := hs.fo (t := f) (k := kk) hltf (by omega) (by rw [hdpS]; show kk < tn (S 11 f); rw [hd, tn_nI (by omega)]; omega)
              rw [hrow, tn_nI (by omega)] at f24
              refine pw_get F I_Fr hK.1 hP f24 rfl 3 (by decide) L_D_195 (fun _ z => z) rfl d_D_frame_114 ?_
              exact vx_ret (pw_iret F hr hlk hP hA hK hS (by decide) (by decide) d_D_frame_117 ((by have hth : thFrame S (nI f) (nI kk) 2 = 0 := (by unfold thFrame; rw [if_neg (fun z9 => z9 ⟨hn5 ▸ b2, by decide⟩), if_pos (by rw [tn_nI (by omega), hd]; exact mIn_of (by omega) hkk)]); exact ⟨hth, rfl, by unfold rFrame; rw [if_pos hth, if_neg (by decide), if_neg (by decide), tn_nI (by omega), tn_nI (by omega)]⟩)))
          · skip
            exact pw_throwN (is := 182) (text := "no such frame") hst xw_4 (by decide) F hlk htb hP hK hS hl d_D_frame_53 d_D_frame_56 d_D_frame_57 d_D_frame_59 d_D_frame_62 (by decide) (by decide) (by decide) (by decide) (by decide) (by decide) (Or.inr ⟨rfl, by unfold thFrame; rw [if_neg (fun z9 => z9 ⟨hn5 ▸ b2, ⟨Int32.not_lt.mp c4, c5⟩⟩), if_neg (fun z9 => by rw [tn_nI (by omega), hd] at z9; exact ((isF_iff (n := d + 1) (by omega)).mpr z9).2 (Int32.not_lt.mp c17))], rfl⟩)
      · skip
        exact pw_throw (is := 163) (text := "no such task or what") hst xw_1 (by decide) F hlk htb hP hK hS hl d_D_frame_17 d_D_frame_20 d_D_frame_21 d_D_frame_23 d_D_frame_26 (by decide) (by decide) (by decide) (by decide) (by decide) (by decide) (Or.inl ⟨rfl, by unfold thFrame; rw [if_pos (fun z9 => c5 z9.2.2)], rfl⟩)
  · skip
    refine W.eq (g2 := F0 m 5 ls [.int 0]) (by rw [if_neg b2]) ?_
    refine lv_if_eq (tgt := 17) F.1 F.2.1 d_D_frame_5 (by decide) (fun c25 => ?_) (fun c25 => absurd (by decide) c25)
    exact pw_throw (is := 163) (text := "no such task or what") hst xw_1 (by decide) F hlk htb hP hK hS hl d_D_frame_17 d_D_frame_20 d_D_frame_21 d_D_frame_23 d_D_frame_26 (by decide) (by decide) (by decide) (by decide) (by decide) (by decide) (Or.inl ⟨rfl, by unfold thFrame; rw [if_pos (fun z9 => b2 (hn5 ▸ z9.1))], rfl⟩)
abbrev rm_D_body : Room := { frames := 6, cells := 1, slots := 6, locals := 90 }
set_option maxHeartbeats 4000000 in
set_option maxRecDepth 100000 in
theorem c_D_body (l : Launch) (D : va_G) (cs : Nat → Nat) (A : Nat → Prop) (h : pw_H) (hst : l.stackTraces = false) (x : Nat) (S : St) (hE : SimE cs h x S) (fn lv : Int32) : pmx l y_D_body b_D_body 3 (some .int) rm_D_body [.ref x, .int fn, .int lv] D cs A h (va_Qi (fun (r : Int32) (h' : pw_H) => thBody S fn lv = 0 ∧ h' = h ∧ r = rBody S fn lv) (ww D cs A) A) (fun (E : String) (h' : pw_H) => (E = sIAE ∧ thBody S fn lv = 1 ∧ h' = h) ∨ (E = sNSE ∧ thBody S fn lv = 2 ∧ h' = h)) 1 6 := by
  refine pmx_of R_D rfl (by decide) (Nat.le_of_ble_eq_true rfl) (fun p e s m below meth c ls F hr hlk hnm htb hP hA hK hl => ?_)
  have hS : va_S A s.heap s.heap [] := va_S.rf
  replace hl : lv_has ls 3 [(0, .ref x), (1, .int fn), (2, .int lv)] := hl
  obtain ⟨g, gr, nf, pT, nt, hs, hw⟩ := hE
  obtain ⟨dp, hdpS⟩ : ∃ dp, dp = dpS S := ⟨_, rfl⟩
  rw [← hdpS] at hs
  have hnf8 := hw.1.1
  have hp5 := hw.1.2.1
  have hnt4 := hw.1.2.2.1
  have hn1 := hw.1.2.2.2.1
  have hn3 := hw.1.2.2.2.2.1
  have hn5 := hw.1.2.2.2.2.2.1
  refine lv_aload_n F.1 F.2.1 d_D_body_0 rfl (lv_at hl 0 rfl) ?_
  refine lv_iload_n F.1 F.2.1 d_D_body_1 rfl (lv_at hl 1 rfl) ?_
  have f1 : h x = some (.inr (6, [.ref (g 10 0), .ref (g 10 1), .ref (g 10 2), .ref (g 3 6), .int (S 16 4)])) := hs.1
  refine pw_ciE (pr_V F (c_D_isFunction l D cs A h x g gr dp S nf pT nt hs hnf8 fn) X_D_66 rfl rfl ⟨by decide, by decide⟩ hP hA hK hS f1 rfl rfl rfl hl.1 rfl (Nat.le_of_ble_eq_true rfl) d_D_body_2 ⟨by decide, by decide⟩) hS (fun H locs hP hS => ?_)
  by_cases b2 : mIn fn 0 (nI nf - 1)
  · skip
    refine W.eq (g2 := F0 m 5 ls [.int 1]) (by rw [if_pos b2]) ?_
    refine lv_if_ne (tgt := 18) F.1 F.2.1 d_D_body_5 (by decide) (fun c3 => ?_) (fun c3 => absurd c3 (by decide))
    obtain ⟨f, hltf, rfl⟩ := mIn_nat (by omega) b2.1 b2.2
    refine lv_iload_n F.1 F.2.1 d_D_body_18 rfl (lv_at hl 2 rfl) ?_
    refine lv_if_lt (tgt := 33) F.1 F.2.1 d_D_body_19 (by decide) (fun c4 => ?_) (fun c4 => ?_)
    · skip
      exact pw_throwN (is := 198) (text := "no such level") hst xw_4 (by decide) F hlk htb hP hK hS hl d_D_body_33 d_D_body_36 d_D_body_37 d_D_body_39 d_D_body_42 (by decide) (by decide) (by decide) (by decide) (by decide) (by decide) (Or.inr ⟨rfl, by unfold thBody; rw [if_neg (fun z9 => z9 (hn1 ▸ b2)), if_neg (fun z9 => absurd c4 (Int32.not_lt.mpr z9.1))], rfl⟩)
    · skip
      refine lv_iload_n F.1 F.2.1 d_D_body_22 rfl (lv_at hl 2 rfl) ?_
      refine lv_aload_n F.1 F.2.1 d_D_body_23 rfl (lv_at hl 0 rfl) ?_
      refine pw_get F I_D hK.1 hP f1 rfl 1 (by decide) L_D_16 (fun _ z => z) rfl d_D_body_24 ?_
      obtain ⟨q5, n6, f7, _, _⟩ := hs.ls (show 1 < 3 by decide)
      have f8 : h (g 10 1) = some (.inr (0, [.ref q5, .int (nI pT), .int n6])) := f7
      refine pw_ciE (pr_V F (c_AL_size l D cs A h _ _ _ _ f8) X_D_44 rfl rfl ⟨by decide, by decide⟩ hP hA hK hS f8 rfl rfl rfl hl.1 rfl (Nat.le_of_ble_eq_true rfl) d_D_body_27 ⟨by decide, by decide⟩) hS (fun H locs hP hS => ?_)
      refine lv_icmp_le (tgt := 43) F.1 F.2.1 d_D_body_30 (by decide) (fun c9 => ?_) (fun c9 => ?_)
      · skip
        obtain ⟨L, hLp, rfl⟩ := mIn_nat (n := pT + 1) (by omega) (Int32.not_lt.mp c4) (by rw [nI_pred]; exact c9)
        have hbk := bRow_ok (L := L) hw.1 hltf (by omega)
        refine lv_aload_n F.1 F.2.1 d_D_body_43 rfl (lv_at hl 0 rfl) ?_
        refine lv_iload_n F.1 F.2.1 d_D_body_44 rfl (lv_at hl 1 rfl) ?_
        refine lv_iload_n F.1 F.2.1 d_D_body_45 rfl (lv_at hl 2 rfl) ?_
        refine pw_crE (pr_V F (c_D_bodyAt l D cs A h x g gr dp S nf pT nt hs hw.1 f L hltf (by omega)) X_D_137 rfl rfl ⟨by decide, by decide⟩ hP hA hK hS f1 rfl rfl rfl hl.1 rfl (Nat.le_of_ble_eq_true rfl) d_D_body_46 ⟨by decide, by decide⟩) hS (fun H locs hP hS => ?_)
        have f10 := hs.b (r := bRow S f L) (by omega) hbk.2.1
        refine pw_get F I_B hK.1 hP f10 rfl 2 (by decide) L_D_86 (fun _ z => z) rfl d_D_body_49 ?_
        exact vx_ret (pw_iret F hr hlk hP hA hK hS (by decide) (by decide) d_D_body_52 ((by have hth : thBody S (nI f) (nI L) = 0 := (by unfold thBody; rw [if_neg (fun z9 => z9 (hn1 ▸ b2)), if_pos ⟨Int32.not_lt.mp c4, hn3 ▸ c9⟩]); exact ⟨hth, rfl, by unfold rBody; rw [if_pos hth, tn_nI (by omega), tn_nI (by omega)]⟩)))
      · skip
        exact pw_throwN (is := 198) (text := "no such level") hst xw_4 (by decide) F hlk htb hP hK hS hl d_D_body_33 d_D_body_36 d_D_body_37 d_D_body_39 d_D_body_42 (by decide) (by decide) (by decide) (by decide) (by decide) (by decide) (Or.inr ⟨rfl, by unfold thBody; rw [if_neg (fun z9 => z9 (hn1 ▸ b2)), if_neg (fun z9 => c9 (hn3 ▸ z9.2))], rfl⟩)
  · skip
    refine W.eq (g2 := F0 m 5 ls [.int 0]) (by rw [if_neg b2]) ?_
    refine lv_if_ne (tgt := 18) F.1 F.2.1 d_D_body_5 (by decide) (fun c11 => absurd (by decide) c11) (fun c11 => ?_)
    exact pw_throw (is := 131) (text := "no such function") hst xw_1 (by decide) F hlk htb hP hK hS hl d_D_body_8 d_D_body_11 d_D_body_12 d_D_body_14 d_D_body_17 (by decide) (by decide) (by decide) (by decide) (by decide) (by decide) (Or.inl ⟨rfl, by unfold thBody; rw [if_pos (fun z9 => b2 (hn1 ▸ z9))], rfl⟩)
