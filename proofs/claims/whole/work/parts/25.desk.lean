theorem isF_iff {x : Int32} {n : Nat} (hn : n ≤ 1000) : (¬ x < 0 ∧ ¬ nI n ≤ x) ↔ mIn x 0 (nI n - 1) := by
  constructor
  · rintro ⟨h0, h1⟩
    obtain ⟨j, hj, rfl⟩ := nI_of (x := x) h0
    have hjn : j < n := by
      rcases Nat.lt_or_ge j n with h | h
      · exact h
      · exact absurd (nI_le h hj) h1
    exact mIn_of hn hjn
  · rintro ⟨h0, h1⟩
    obtain ⟨j, hj, rfl⟩ := mIn_nat hn h0 h1
    exact ⟨Int32.not_lt.mpr h0, nI_ge hj (by omega)⟩
abbrev rm_D_isFunction : Room := { frames := 1, cells := 0, slots := 0, locals := 20 }
set_option maxHeartbeats 4000000 in
set_option maxRecDepth 100000 in
theorem c_D_isFunction (l : Launch) (D : va_G) (cs : Nat → Nat) (A : Nat → Prop) (h : pw_H) (x : Nat) (g : Gh) (gr : Nat → Prop) (dp : Nat → Nat) (S : St) (nf pT nt : Nat) (hs : Sim cs h x g gr dp S nf pT nt) (hnf8 : nf ≤ 8) (fn : Int32) : pm l y_D_isFunction b_D_isFunction 2 (some .boolean) rm_D_isFunction [.ref x, .int fn] D cs A h (va_Qi (fun (r : Int32) (h' : pw_H) => h' = h ∧ r = (if mIn fn 0 (nI nf - 1) then 1 else 0)) (ww D cs A) A) 0 0 := by
  refine pm_of R_D rfl (by decide) (Nat.le_of_ble_eq_true rfl) (fun p e s m below meth c ls F hr hlk hnm hP hA hK hl => ?_)
  have hS : va_S A s.heap s.heap [] := va_S.rf
  replace hl : lv_has ls 2 [(0, .ref x), (1, .int fn)] := hl
  refine lv_iload_n F.1 F.2.1 d_D_isFunction_0 rfl (lv_at hl 1 rfl) ?_
  refine lv_if_lt (tgt := 19) F.1 F.2.1 d_D_isFunction_1 (by decide) (fun c1 => ?_) (fun c1 => ?_)
  · skip
    refine lv_iconst (v := 0) F.1 F.2.1 d_D_isFunction_19 (by decide) ?_
    exact pw_zret F hr rfl hlk hP hA hK hS (by decide) (by decide) d_D_isFunction_20 ⟨rfl, by rw [if_neg (fun z9 => ((isF_iff (by omega)).mpr z9).1 c1)]⟩
  · skip
    refine lv_iload_n F.1 F.2.1 d_D_isFunction_4 rfl (lv_at hl 1 rfl) ?_
    refine lv_aload_n F.1 F.2.1 d_D_isFunction_5 rfl (lv_at hl 0 rfl) ?_
    have f2 : h x = some (.inr (6, [.ref (g 10 0), .ref (g 10 1), .ref (g 10 2), .ref (g 3 6), .int (S 16 4)])) := hs.1
    refine pw_get F I_D hK.1 hP f2 rfl 0 (by decide) L_D_10 (fun _ z => z) rfl d_D_isFunction_6 ?_
    obtain ⟨q3, n4, f5, _, _⟩ := hs.ls (show 0 < 3 by decide)
    have f6 : h (g 10 0) = some (.inr (0, [.ref q3, .int (nI nf), .int n4])) := f5
    refine pw_ciE (pr_V F (c_AL_size l D cs A h _ _ _ _ f6) X_D_44 rfl rfl ⟨by decide, by decide⟩ hP hA hK hS f6 rfl rfl rfl hl.1 rfl (Nat.le_of_ble_eq_true rfl) d_D_isFunction_9 ⟨by decide, by decide⟩) hS (fun H locs hP hS => ?_)
    refine lv_icmp_ge (tgt := 19) F.1 F.2.1 d_D_isFunction_12 (by decide) (fun c7 => ?_) (fun c7 => ?_)
    · skip
      refine lv_iconst (v := 0) F.1 F.2.1 d_D_isFunction_19 (by decide) ?_
      exact pw_zret F hr rfl hlk hP hA hK hS (by decide) (by decide) d_D_isFunction_20 ⟨rfl, by rw [if_neg (fun z9 => ((isF_iff (by omega)).mpr z9).2 c7)]⟩
    · skip
      refine lv_iconst (v := 1) F.1 F.2.1 d_D_isFunction_15 (by decide) ?_
      refine lv_goto (tgt := 20) F.1 F.2.1 d_D_isFunction_16 (by decide) ?_
      exact pw_zret F hr rfl hlk hP hA hK hS (by decide) (by decide) d_D_isFunction_20 ⟨rfl, by rw [if_pos ((isF_iff (by omega)).mp ⟨c1, c7⟩)]⟩
abbrev rm_D_isTask : Room := { frames := 1, cells := 0, slots := 0, locals := 20 }
set_option maxHeartbeats 4000000 in
set_option maxRecDepth 100000 in
theorem c_D_isTask (l : Launch) (D : va_G) (cs : Nat → Nat) (A : Nat → Prop) (h : pw_H) (x : Nat) (g : Gh) (gr : Nat → Prop) (dp : Nat → Nat) (S : St) (nf pT nt : Nat) (hs : Sim cs h x g gr dp S nf pT nt) (hnt4 : nt ≤ 4) (fn : Int32) : pm l y_D_isTask b_D_isTask 2 (some .boolean) rm_D_isTask [.ref x, .int fn] D cs A h (va_Qi (fun (r : Int32) (h' : pw_H) => h' = h ∧ r = (if mIn fn 0 (nI nt - 1) then 1 else 0)) (ww D cs A) A) 0 0 := by
  refine pm_of R_D rfl (by decide) (Nat.le_of_ble_eq_true rfl) (fun p e s m below meth c ls F hr hlk hnm hP hA hK hl => ?_)
  have hS : va_S A s.heap s.heap [] := va_S.rf
  replace hl : lv_has ls 2 [(0, .ref x), (1, .int fn)] := hl
  refine lv_iload_n F.1 F.2.1 d_D_isTask_0 rfl (lv_at hl 1 rfl) ?_
  refine lv_if_lt (tgt := 19) F.1 F.2.1 d_D_isTask_1 (by decide) (fun c1 => ?_) (fun c1 => ?_)
  · skip
    refine lv_iconst (v := 0) F.1 F.2.1 d_D_isTask_19 (by decide) ?_
    exact pw_zret F hr rfl hlk hP hA hK hS (by decide) (by decide) d_D_isTask_20 ⟨rfl, by rw [if_neg (fun z9 => ((isF_iff (by omega)).mpr z9).1 c1)]⟩
  · skip
    refine lv_iload_n F.1 F.2.1 d_D_isTask_4 rfl (lv_at hl 1 rfl) ?_
    refine lv_aload_n F.1 F.2.1 d_D_isTask_5 rfl (lv_at hl 0 rfl) ?_
    have f2 : h x = some (.inr (6, [.ref (g 10 0), .ref (g 10 1), .ref (g 10 2), .ref (g 3 6), .int (S 16 4)])) := hs.1
    refine pw_get F I_D hK.1 hP f2 rfl 2 (by decide) L_D_19 (fun _ z => z) rfl d_D_isTask_6 ?_
    obtain ⟨q3, n4, f5, _, _⟩ := hs.ls (show 2 < 3 by decide)
    have f6 : h (g 10 2) = some (.inr (0, [.ref q3, .int (nI nt), .int n4])) := f5
    refine pw_ciE (pr_V F (c_AL_size l D cs A h _ _ _ _ f6) X_D_44 rfl rfl ⟨by decide, by decide⟩ hP hA hK hS f6 rfl rfl rfl hl.1 rfl (Nat.le_of_ble_eq_true rfl) d_D_isTask_9 ⟨by decide, by decide⟩) hS (fun H locs hP hS => ?_)
    refine lv_icmp_ge (tgt := 19) F.1 F.2.1 d_D_isTask_12 (by decide) (fun c7 => ?_) (fun c7 => ?_)
    · skip
      refine lv_iconst (v := 0) F.1 F.2.1 d_D_isTask_19 (by decide) ?_
      exact pw_zret F hr rfl hlk hP hA hK hS (by decide) (by decide) d_D_isTask_20 ⟨rfl, by rw [if_neg (fun z9 => ((isF_iff (by omega)).mpr z9).2 c7)]⟩
    · skip
      refine lv_iconst (v := 1) F.1 F.2.1 d_D_isTask_15 (by decide) ?_
      refine lv_goto (tgt := 20) F.1 F.2.1 d_D_isTask_16 (by decide) ?_
      exact pw_zret F hr rfl hlk hP hA hK hS (by decide) (by decide) d_D_isTask_20 ⟨rfl, by rw [if_pos ((isF_iff (by omega)).mp ⟨c1, c7⟩)]⟩
abbrev rm_D_isSignature : Room := { frames := 0, cells := 0, slots := 0, locals := 0 }
set_option maxHeartbeats 4000000 in
set_option maxRecDepth 100000 in
theorem c_D_isSignature (l : Launch) (D : va_G) (cs : Nat → Nat) (A : Nat → Prop) (h : pw_H) (sg : Int32) : pm l y_D_isSignature b_D_isSignature 1 (some .boolean) rm_D_isSignature [.int sg] D cs A h (va_Qi (fun (r : Int32) (h' : pw_H) => h' = h ∧ r = (if mIn sg 0 9 then 1 else 0)) (ww D cs A) A) 0 0 := by
  refine pm_of R_D rfl (by decide) (Nat.le_of_ble_eq_true rfl) (fun p e s m below meth c ls F hr hlk hnm hP hA hK hl => ?_)
  have hS : va_S A s.heap s.heap [] := va_S.rf
  replace hl : lv_has ls 1 [(0, .int sg)] := hl
  refine lv_iload_n F.1 F.2.1 d_D_isSignature_0 rfl (lv_at hl 0 rfl) ?_
  refine lv_if_lt (tgt := 14) F.1 F.2.1 d_D_isSignature_1 (by decide) (fun c1 => ?_) (fun c1 => ?_)
  · skip
    refine lv_iconst (v := 0) F.1 F.2.1 d_D_isSignature_14 (by decide) ?_
    exact pw_zret F hr rfl hlk hP hA hK hS (by decide) (by decide) d_D_isSignature_15 ⟨rfl, by rw [if_neg (fun z9 => absurd c1 (Int32.not_lt.mpr z9.1))]⟩
  · skip
    refine lv_iload_n F.1 F.2.1 d_D_isSignature_4 rfl (lv_at hl 0 rfl) ?_
    refine lv_bipush (v := 9) F.1 F.2.1 d_D_isSignature_5 (by decide) ?_
    refine lv_icmp_gt (tgt := 14) F.1 F.2.1 d_D_isSignature_7 (by decide) (fun c2 => ?_) (fun c2 => ?_)
    · skip
      refine lv_iconst (v := 0) F.1 F.2.1 d_D_isSignature_14 (by decide) ?_
      exact pw_zret F hr rfl hlk hP hA hK hS (by decide) (by decide) d_D_isSignature_15 ⟨rfl, by rw [if_neg (fun z9 => absurd c2 (Int32.not_lt.mpr z9.2))]⟩
    · skip
      refine lv_iconst (v := 1) F.1 F.2.1 d_D_isSignature_10 (by decide) ?_
      refine lv_goto (tgt := 15) F.1 F.2.1 d_D_isSignature_11 (by decide) ?_
      exact pw_zret F hr rfl hlk hP hA hK hS (by decide) (by decide) d_D_isSignature_15 ⟨rfl, by rw [if_pos ⟨Int32.not_lt.mp c1, Int32.not_lt.mp c2⟩]⟩
abbrev rm_D_isInUse : Room := { frames := 1, cells := 0, slots := 0, locals := 20 }
set_option maxHeartbeats 4000000 in
set_option maxRecDepth 100000 in
theorem c_D_isInUse (l : Launch) (D : va_G) (cs : Nat → Nat) (A : Nat → Prop) (h : pw_H) (x : Nat) (g : Gh) (gr : Nat → Prop) (dp : Nat → Nat) (S : St) (nf pT nt : Nat) (hs : Sim cs h x g gr dp S nf pT nt) (hnt4 : nt ≤ 4) (hp5 : pT ≤ 5) : pm l y_D_isInUse b_D_isInUse 1 (some .boolean) rm_D_isInUse [.ref x] D cs A h (va_Qi (fun (r : Int32) (h' : pw_H) => h' = h ∧ r = (if nt = 0 ∧ pT = 0 then 0 else 1)) (ww D cs A) A) 0 0 := by
  refine pm_of R_D rfl (by decide) (Nat.le_of_ble_eq_true rfl) (fun p e s m below meth c ls F hr hlk hnm hP hA hK hl => ?_)
  have hS : va_S A s.heap s.heap [] := va_S.rf
  replace hl : lv_has ls 1 [(0, .ref x)] := hl
  refine lv_aload_n F.1 F.2.1 d_D_isInUse_0 rfl (lv_at hl 0 rfl) ?_
  have f1 : h x = some (.inr (6, [.ref (g 10 0), .ref (g 10 1), .ref (g 10 2), .ref (g 3 6), .int (S 16 4)])) := hs.1
  refine pw_get F I_D hK.1 hP f1 rfl 2 (by decide) L_D_19 (fun _ z => z) rfl d_D_isInUse_1 ?_
  obtain ⟨q2, n3, f4, _, _⟩ := hs.ls (show 2 < 3 by decide)
  have f5 : h (g 10 2) = some (.inr (0, [.ref q2, .int (nI nt), .int n3])) := f4
  refine pw_ciE (pr_V F (c_AL_isEmpty l D cs A h _ _ _ _ f5) X_D_200 rfl rfl ⟨by decide, by decide⟩ hP hA hK hS f5 rfl rfl rfl hl.1 rfl (Nat.le_of_ble_eq_true rfl) d_D_isInUse_4 ⟨by decide, by decide⟩) hS (fun H locs hP hS => ?_)
  by_cases b6 : nI nt = 0
  · skip
    refine W.eq (g2 := F0 m 7 ls [.int 1]) (by rw [if_pos b6]) ?_
    refine lv_if_eq (tgt := 20) F.1 F.2.1 d_D_isInUse_7 (by decide) (fun c7 => absurd c7 (by decide)) (fun c7 => ?_)
    refine lv_aload_n F.1 F.2.1 d_D_isInUse_10 rfl (lv_at hl 0 rfl) ?_
    refine pw_get F I_D hK.1 hP f1 rfl 1 (by decide) L_D_16 (fun _ z => z) rfl d_D_isInUse_11 ?_
    obtain ⟨q8, n9, f10, _, _⟩ := hs.ls (show 1 < 3 by decide)
    have f11 : h (g 10 1) = some (.inr (0, [.ref q8, .int (nI pT), .int n9])) := f10
    refine pw_ciE (pr_V F (c_AL_isEmpty l D cs A h _ _ _ _ f11) X_D_200 rfl rfl ⟨by decide, by decide⟩ hP hA hK hS f11 rfl rfl rfl hl.1 rfl (Nat.le_of_ble_eq_true rfl) d_D_isInUse_14 ⟨by decide, by decide⟩) hS (fun H locs hP hS => ?_)
    by_cases b12 : nI pT = 0
    · skip
      refine W.eq (g2 := F0 m 17 ls [.int 1]) (by rw [if_pos b12]) ?_
      refine lv_if_ne (tgt := 24) F.1 F.2.1 d_D_isInUse_17 (by decide) (fun c13 => ?_) (fun c13 => absurd c13 (by decide))
      refine lv_iconst (v := 0) F.1 F.2.1 d_D_isInUse_24 (by decide) ?_
      exact pw_zret F hr rfl hlk hP hA hK hS (by decide) (by decide) d_D_isInUse_25 ⟨rfl, by rw [if_pos ⟨((nI_eq (a := nt) (b := 0) (by omega) (by decide)).mp b6), ((nI_eq (a := pT) (b := 0) (by omega) (by decide)).mp b12)⟩]⟩
    · skip
      refine W.eq (g2 := F0 m 17 ls [.int 0]) (by rw [if_neg b12]) ?_
      refine lv_if_ne (tgt := 24) F.1 F.2.1 d_D_isInUse_17 (by decide) (fun c14 => absurd (by decide) c14) (fun c14 => ?_)
      refine lv_iconst (v := 1) F.1 F.2.1 d_D_isInUse_20 (by decide) ?_
      refine lv_goto (tgt := 25) F.1 F.2.1 d_D_isInUse_21 (by decide) ?_
      exact pw_zret F hr rfl hlk hP hA hK hS (by decide) (by decide) d_D_isInUse_25 ⟨rfl, by rw [if_neg (fun z9 => b12 (by rw [z9.2]; rfl))]⟩
  · skip
    refine W.eq (g2 := F0 m 7 ls [.int 0]) (by rw [if_neg b6]) ?_
    refine lv_if_eq (tgt := 20) F.1 F.2.1 d_D_isInUse_7 (by decide) (fun c15 => ?_) (fun c15 => absurd (by decide) c15)
    refine lv_iconst (v := 1) F.1 F.2.1 d_D_isInUse_20 (by decide) ?_
    refine lv_goto (tgt := 25) F.1 F.2.1 d_D_isInUse_21 (by decide) ?_
    exact pw_zret F hr rfl hlk hP hA hK hS (by decide) (by decide) d_D_isInUse_25 ⟨rfl, by rw [if_neg (fun z9 => b6 (by rw [z9.1]; rfl))]⟩
