theorem sw_out {x : Int32} {lo hi : Int32} (h : ¬ mIn x lo hi) : x.toInt < lo.toInt ∨ hi.toInt < x.toInt := by
  rcases Int.lt_or_le x.toInt lo.toInt with h1 | h1
  · exact Or.inl h1
  · rcases Int.lt_or_le hi.toInt x.toInt with h2 | h2
    · exact Or.inr h2
    · exact absurd ⟨Int32.le_iff_toInt_le.mpr h1, Int32.le_iff_toInt_le.mpr h2⟩ h
/-- what isOperation says -/
def opOk (nf : Nat) (kd n own : Int32) : Prop := mIn kd 0 5 ∧ (kd = 0 → mIn n (-99) 99) ∧ (kd = 1 ∨ kd = 5 → mIn n 0 (nI nf - 1)) ∧ (kd = 3 → mIn n 0 own)
abbrev rm_D_isOperation : Room := { frames := 2, cells := 0, slots := 0, locals := 41 }
set_option maxHeartbeats 4000000 in
set_option maxRecDepth 100000 in
theorem c_D_isOperation (l : Launch) (D : va_G) (cs : Nat → Nat) (A : Nat → Prop) (h : pw_H) (x : Nat) (g : Gh) (gr : Nat → Prop) (dp : Nat → Nat) (S : St) (nf pT nt : Nat) (hs : Sim cs h x g gr dp S nf pT nt) (hnf8 : nf ≤ 8) (kd n own : Int32) : pm l y_D_isOperation b_D_isOperation 4 (some .boolean) rm_D_isOperation [.ref x, .int kd, .int n, .int own] D cs A h (va_Qi (fun (r : Int32) (h' : pw_H) => h' = h ∧ (opOk nf kd n own → r = 1) ∧ (¬ opOk nf kd n own → r = 0)) (ww D cs A) A) 0 0 := by
  refine pm_of R_D rfl (by decide) (Nat.le_of_ble_eq_true rfl) (fun p e s m below meth c ls F hr hlk hnm hP hA hK hl => ?_)
  have hS : va_S A s.heap s.heap [] := va_S.rf
  replace hl : lv_has ls 4 [(0, .ref x), (1, .int kd), (2, .int n), (3, .int own)] := hl
  refine lv_iload_n F.1 F.2.1 d_D_isOperation_0 rfl (lv_at hl 1 rfl) ?_
  by_cases b1 : mIn kd 0 5
  · skip
    rcases mIn5 b1 with rfl | rfl | rfl | rfl | rfl | rfl
    · skip
      refine lv_tableIn (off := 39) (tgt := 40) F.1 F.2.1 d_D_isOperation_1 (by decide) (by decide) (by decide) (by decide) ?_
      refine lv_iload_n F.1 F.2.1 d_D_isOperation_40 rfl (lv_at hl 2 rfl) ?_
      refine lv_bipush (v := (-99)) F.1 F.2.1 d_D_isOperation_41 (by decide) ?_
      refine lv_icmp_lt (tgt := 56) F.1 F.2.1 d_D_isOperation_43 (by decide) (fun c2 => ?_) (fun c2 => ?_)
      · skip
        refine lv_iconst (v := 0) F.1 F.2.1 d_D_isOperation_56 (by decide) ?_
        exact pw_zret F hr rfl hlk hP hA hK hS (by decide) (by decide) d_D_isOperation_57 ⟨rfl, fun z8 => absurd z8 (show ¬ opOk nf 0 n own from fun z9 => absurd c2 (Int32.not_lt.mpr (z9.2.1 rfl).1)), fun _ => rfl⟩
      · skip
        refine lv_iload_n F.1 F.2.1 d_D_isOperation_46 rfl (lv_at hl 2 rfl) ?_
        refine lv_bipush (v := 99) F.1 F.2.1 d_D_isOperation_47 (by decide) ?_
        refine lv_icmp_gt (tgt := 56) F.1 F.2.1 d_D_isOperation_49 (by decide) (fun c3 => ?_) (fun c3 => ?_)
        · skip
          refine lv_iconst (v := 0) F.1 F.2.1 d_D_isOperation_56 (by decide) ?_
          exact pw_zret F hr rfl hlk hP hA hK hS (by decide) (by decide) d_D_isOperation_57 ⟨rfl, fun z8 => absurd z8 (show ¬ opOk nf 0 n own from fun z9 => absurd c3 (Int32.not_lt.mpr (z9.2.1 rfl).2)), fun _ => rfl⟩
        · skip
          refine lv_iconst (v := 1) F.1 F.2.1 d_D_isOperation_52 (by decide) ?_
          refine lv_goto (tgt := 57) F.1 F.2.1 d_D_isOperation_53 (by decide) ?_
          exact pw_zret F hr rfl hlk hP hA hK hS (by decide) (by decide) d_D_isOperation_57 ⟨rfl, fun _ => rfl, fun z8 => absurd (show opOk nf 0 n own from ⟨by decide, fun _ => ⟨Int32.not_lt.mp c2, Int32.not_lt.mp c3⟩, fun z9 => absurd z9 (by decide), fun z9 => absurd z9 (by decide)⟩) z8⟩
    · skip
      refine lv_tableIn (off := 57) (tgt := 58) F.1 F.2.1 d_D_isOperation_1 (by decide) (by decide) (by decide) (by decide) ?_
      refine lv_aload_n F.1 F.2.1 d_D_isOperation_58 rfl (lv_at hl 0 rfl) ?_
      refine lv_iload_n F.1 F.2.1 d_D_isOperation_59 rfl (lv_at hl 2 rfl) ?_
      have f4 : h x = some (.inr (6, [.ref (g 10 0), .ref (g 10 1), .ref (g 10 2), .ref (g 3 6), .int (S 16 4)])) := hs.1
      refine pw_ciE (pr_V F (c_D_isFunction l D cs A h x g gr dp S nf pT nt hs hnf8 n) X_D_66 rfl rfl ⟨by decide, by decide⟩ hP hA hK hS f4 rfl rfl rfl hl.1 rfl (Nat.le_of_ble_eq_true rfl) d_D_isOperation_60 ⟨by decide, by decide⟩) hS (fun H locs hP hS => ?_)
      by_cases b5 : mIn n 0 (nI nf - 1)
      · skip
        refine W.eq (g2 := F0 m 63 ls [.int 1]) (by rw [if_pos b5]) ?_
        exact pw_zret F hr rfl hlk hP hA hK hS (by decide) (by decide) d_D_isOperation_63 ⟨rfl, fun _ => rfl, fun z8 => absurd (show opOk nf 1 n own from ⟨by decide, fun z9 => absurd z9 (by decide), fun _ => b5, fun z9 => absurd z9 (by decide)⟩) z8⟩
      · skip
        refine W.eq (g2 := F0 m 63 ls [.int 0]) (by rw [if_neg b5]) ?_
        exact pw_zret F hr rfl hlk hP hA hK hS (by decide) (by decide) d_D_isOperation_63 ⟨rfl, fun z8 => absurd z8 (show ¬ opOk nf 1 n own from fun z9 => b5 (z9.2.2.1 (by decide))), fun _ => rfl⟩
    · skip
      refine lv_tableIn (off := 78) (tgt := 79) F.1 F.2.1 d_D_isOperation_1 (by decide) (by decide) (by decide) (by decide) ?_
      refine lv_iconst (v := 1) F.1 F.2.1 d_D_isOperation_79 (by decide) ?_
      exact pw_zret F hr rfl hlk hP hA hK hS (by decide) (by decide) d_D_isOperation_80 ⟨rfl, fun _ => rfl, fun z8 => absurd (show opOk nf 2 n own from ⟨by decide, fun z9 => absurd z9 (by decide), fun z9 => absurd z9 (by decide), fun z9 => absurd z9 (by decide)⟩) z8⟩
    · skip
      refine lv_tableIn (off := 63) (tgt := 64) F.1 F.2.1 d_D_isOperation_1 (by decide) (by decide) (by decide) (by decide) ?_
      refine lv_iload_n F.1 F.2.1 d_D_isOperation_64 rfl (lv_at hl 2 rfl) ?_
      refine lv_if_lt (tgt := 77) F.1 F.2.1 d_D_isOperation_65 (by decide) (fun c6 => ?_) (fun c6 => ?_)
      · skip
        refine lv_iconst (v := 0) F.1 F.2.1 d_D_isOperation_77 (by decide) ?_
        exact pw_zret F hr rfl hlk hP hA hK hS (by decide) (by decide) d_D_isOperation_78 ⟨rfl, fun z8 => absurd z8 (show ¬ opOk nf 3 n own from fun z9 => absurd c6 (Int32.not_lt.mpr (z9.2.2.2 rfl).1)), fun _ => rfl⟩
      · skip
        refine lv_iload_n F.1 F.2.1 d_D_isOperation_68 rfl (lv_at hl 2 rfl) ?_
        refine lv_iload_n F.1 F.2.1 d_D_isOperation_69 rfl (lv_at hl 3 rfl) ?_
        refine lv_icmp_gt (tgt := 77) F.1 F.2.1 d_D_isOperation_70 (by decide) (fun c7 => ?_) (fun c7 => ?_)
        · skip
          refine lv_iconst (v := 0) F.1 F.2.1 d_D_isOperation_77 (by decide) ?_
          exact pw_zret F hr rfl hlk hP hA hK hS (by decide) (by decide) d_D_isOperation_78 ⟨rfl, fun z8 => absurd z8 (show ¬ opOk nf 3 n own from fun z9 => absurd c7 (Int32.not_lt.mpr (z9.2.2.2 rfl).2)), fun _ => rfl⟩
        · skip
          refine lv_iconst (v := 1) F.1 F.2.1 d_D_isOperation_73 (by decide) ?_
          refine lv_goto (tgt := 78) F.1 F.2.1 d_D_isOperation_74 (by decide) ?_
          exact pw_zret F hr rfl hlk hP hA hK hS (by decide) (by decide) d_D_isOperation_78 ⟨rfl, fun _ => rfl, fun z8 => absurd (show opOk nf 3 n own from ⟨by decide, fun z9 => absurd z9 (by decide), fun z9 => absurd z9 (by decide), fun _ => ⟨Int32.not_lt.mp c6, Int32.not_lt.mp c7⟩⟩) z8⟩
    · skip
      refine lv_tableIn (off := 78) (tgt := 79) F.1 F.2.1 d_D_isOperation_1 (by decide) (by decide) (by decide) (by decide) ?_
      refine lv_iconst (v := 1) F.1 F.2.1 d_D_isOperation_79 (by decide) ?_
      exact pw_zret F hr rfl hlk hP hA hK hS (by decide) (by decide) d_D_isOperation_80 ⟨rfl, fun _ => rfl, fun z8 => absurd (show opOk nf 4 n own from ⟨by decide, fun z9 => absurd z9 (by decide), fun z9 => absurd z9 (by decide), fun z9 => absurd z9 (by decide)⟩) z8⟩
    · skip
      refine lv_tableIn (off := 57) (tgt := 58) F.1 F.2.1 d_D_isOperation_1 (by decide) (by decide) (by decide) (by decide) ?_
      refine lv_aload_n F.1 F.2.1 d_D_isOperation_58 rfl (lv_at hl 0 rfl) ?_
      refine lv_iload_n F.1 F.2.1 d_D_isOperation_59 rfl (lv_at hl 2 rfl) ?_
      have f8 : h x = some (.inr (6, [.ref (g 10 0), .ref (g 10 1), .ref (g 10 2), .ref (g 3 6), .int (S 16 4)])) := hs.1
      refine pw_ciE (pr_V F (c_D_isFunction l D cs A h x g gr dp S nf pT nt hs hnf8 n) X_D_66 rfl rfl ⟨by decide, by decide⟩ hP hA hK hS f8 rfl rfl rfl hl.1 rfl (Nat.le_of_ble_eq_true rfl) d_D_isOperation_60 ⟨by decide, by decide⟩) hS (fun H locs hP hS => ?_)
      by_cases b9 : mIn n 0 (nI nf - 1)
      · skip
        refine W.eq (g2 := F0 m 63 ls [.int 1]) (by rw [if_pos b9]) ?_
        exact pw_zret F hr rfl hlk hP hA hK hS (by decide) (by decide) d_D_isOperation_63 ⟨rfl, fun _ => rfl, fun z8 => absurd (show opOk nf 5 n own from ⟨by decide, fun z9 => absurd z9 (by decide), fun _ => b9, fun z9 => absurd z9 (by decide)⟩) z8⟩
      · skip
        refine W.eq (g2 := F0 m 63 ls [.int 0]) (by rw [if_neg b9]) ?_
        exact pw_zret F hr rfl hlk hP hA hK hS (by decide) (by decide) d_D_isOperation_63 ⟨rfl, fun z8 => absurd z8 (show ¬ opOk nf 5 n own from fun z9 => b9 (z9.2.2.1 (by decide))), fun _ => rfl⟩
  · skip
    refine lv_tableOut (tgt := 81) F.1 F.2.1 d_D_isOperation_1 (sw_out (lo := 0) (hi := 5) b1) (by decide) ?_
    refine lv_iconst (v := 0) F.1 F.2.1 d_D_isOperation_81 (by decide) ?_
    exact pw_zret F hr rfl hlk hP hA hK hS (by decide) (by decide) d_D_isOperation_82 ⟨rfl, fun z8 => absurd z8 (show ¬ opOk nf kd n own from fun z9 => b1 z9.1), fun _ => rfl⟩
abbrev rm_D_bodyAt : Room := { frames := 3, cells := 0, slots := 0, locals := 64 }
set_option maxHeartbeats 4000000 in
set_option maxRecDepth 100000 in
theorem c_D_bodyAt (l : Launch) (D : va_G) (cs : Nat → Nat) (A : Nat → Prop) (h : pw_H) (x : Nat) (g : Gh) (gr : Nat → Prop) (dp : Nat → Nat) (S : St) (nf pT nt : Nat) (hs : Sim cs h x g gr dp S nf pT nt) (hw : WB S nf pT nt) (f L : Nat) (hf : f < nf) (hL : L ≤ pT) : pm l y_D_bodyAt b_D_bodyAt 6 (some (.object "PatchDesk$Body")) rm_D_bodyAt [.ref x, .int (nI f), .int (nI L)] D cs A h (va_Qr (fun _ => True) (fun (h' : pw_H) (r : Nat) (t : State) => (h' = h ∧ r = g 0 (bRow S f L)) ∧ ww D cs A h' t) A) 0 0 := by
  refine pm_of R_D rfl (by decide) (Nat.le_of_ble_eq_true rfl) (fun p e s m below meth c ls F hr hlk hnm hP hA hK hl => ?_)
  have hS : va_S A s.heap s.heap [] := va_S.rf
  replace hl : lv_has ls 6 [(0, .ref x), (1, .int (nI f)), (2, .int (nI L))] := hl
  have hnf8 := hw.1
  have hp5 := hw.2.1
  refine lv_aload_n F.1 F.2.1 d_D_bodyAt_0 rfl (lv_at hl 0 rfl) ?_
  have f1 : h x = some (.inr (6, [.ref (g 10 0), .ref (g 10 1), .ref (g 10 2), .ref (g 3 6), .int (S 16 4)])) := hs.1
  refine pw_get F I_D hK.1 hP f1 rfl 0 (by decide) L_D_10 (fun _ z => z) rfl d_D_bodyAt_1 ?_
  refine lv_iload_n F.1 F.2.1 d_D_bodyAt_4 rfl (lv_at hl 1 rfl) ?_
  obtain ⟨_, n2, v3, f4, f5, k6⟩ := hs.le (show 0 < 3 by decide) (show 0 < nf by omega)
  obtain ⟨q7, n8, f9, _, _⟩ := hs.ls (show 0 < 3 by decide)
  have f10 : h (g 10 0) = some (.inr (0, [.ref q7, .int (nI nf), .int n8])) := f9
  refine pw_crE (pr_V F (c_AL_get l D cs A h _ _ nf f _ _ v3 (by omega) (by omega) (k6 f (show f < nf by omega)) f4 f5) X_D_78 rfl rfl ⟨by decide, by decide⟩ hP hA hK hS f10 rfl rfl rfl hl.1 rfl (Nat.le_of_ble_eq_true rfl) d_D_bodyAt_5 ⟨by decide, by decide⟩) hS (fun H locs hP hS => ?_)
  have f11 : h (g 9 f) = some (.inr (2, [.int (S 1 f), .ref (g 0 f)])) := hs.fu (by omega)
  refine va_castY (C := R_Fn) F.1 F.2.1 F.2.2.2.1 (F.2.2.2.2 _ C_D_57) (hK.2.2.2.2.2.2.2.1 ("PatchDesk$Function", "PatchDesk$Function") (by decide)) (pw_recv hK.1 hP f11 rfl) d_D_bodyAt_8 ?_
  refine pw_get F I_Fn hK.1 hP f11 rfl 1 (by decide) L_D_82 (fun _ z => z) rfl d_D_bodyAt_11 ?_
  refine lv_astore_n F.1 F.2.1 d_D_bodyAt_14 rfl hl (by decide) rfl (fun ls hl => ?_)
  replace hl : lv_has ls 6 [(3, .ref (g 0 f)), (0, .ref x), (1, .int (nI f)), (2, .int (nI L))] := hl
  refine lv_iconst (v := 0) F.1 F.2.1 d_D_bodyAt_15 (by decide) ?_
  refine lv_istore F.1 F.2.1 d_D_bodyAt_16 hl (by decide) rfl (fun ls hl => ?_)
  replace hl : lv_has ls 6 [(4, .int 0), (3, .ref (g 0 f)), (0, .ref x), (1, .int (nI f)), (2, .int (nI L))] := hl
  obtain ⟨i, hi0⟩ : ∃ i : Nat, i = 0 := ⟨0, rfl⟩
  have hiL : i ≤ L := by omega
  obtain ⟨n, hn⟩ : ∃ n : Nat, L - i = n := ⟨_, rfl⟩
  obtain ⟨v5, hv5⟩ : ∃ v5 : Nat, v5 = 0 := ⟨0, rfl⟩
  replace hl : lv_has ls 6 [(4, .int (nI i)), (3, .ref ((g 0 (bRow S f i)))), (0, .ref x), (1, .int (nI f)), (2, .int (nI L))] := by rw [hi0]; exact hl
  clear hi0
  induction n generalizing ls i H locs with
  | zero =>
    refine lv_iload F.1 F.2.1 d_D_bodyAt_18 (lv_at hl 0 rfl) ?_
    refine lv_iload_n F.1 F.2.1 d_D_bodyAt_20 rfl (lv_at hl 4 rfl) ?_
    refine lv_icmp_ge (tgt := 73) F.1 F.2.1 d_D_bodyAt_21 (by decide) (fun c12 => ?_) (fun c12 => absurd (nI_le (show L ≤ i by omega) (by omega)) c12)
    refine lv_aload_n F.1 F.2.1 d_D_bodyAt_73 rfl (lv_at hl 1 rfl) ?_
    exact pw_aret F hr (Or.inl ⟨_, rfl⟩) hlk hP hA hK hS (by decide) (by decide) d_D_bodyAt_74 ⟨rfl, by rw [show i = L by omega]⟩
  | succ n ih =>
    refine lv_iload F.1 F.2.1 d_D_bodyAt_18 (lv_at hl 0 rfl) ?_
    refine lv_iload_n F.1 F.2.1 d_D_bodyAt_20 rfl (lv_at hl 4 rfl) ?_
    refine lv_icmp_ge (tgt := 73) F.1 F.2.1 d_D_bodyAt_21 (by decide) (fun c13 => absurd c13 (nI_ge (show i < L by omega) (by omega))) (fun c13 => ?_)
    refine lv_iload F.1 F.2.1 d_D_bodyAt_24 (lv_at hl 0 rfl) ?_
    refine lv_aload_n F.1 F.2.1 d_D_bodyAt_26 rfl (lv_at hl 2 rfl) ?_
    refine pw_get F I_D hK.1 hP f1 rfl 1 (by decide) L_D_16 (fun _ z => z) rfl d_D_bodyAt_27 ?_
    obtain ⟨q14, n15, f16, _, _⟩ := hs.ls (show 1 < 3 by decide)
    have f17 : h (g 10 1) = some (.inr (0, [.ref q14, .int (nI pT), .int n15])) := f16
    refine pw_ciE (pr_V F (c_AL_size l D cs A h _ _ _ _ f17) X_D_44 rfl rfl ⟨by decide, by decide⟩ hP hA hK hS f17 rfl rfl rfl hl.1 rfl (Nat.le_of_ble_eq_true rfl) d_D_bodyAt_30 ⟨by decide, by decide⟩) hS (fun H locs hP hS => ?_)
    refine lv_icmp_ge (tgt := 73) F.1 F.2.1 d_D_bodyAt_33 (by decide) (fun c18 => absurd c18 (nI_ge (show i < pT by omega) (by omega))) (fun c18 => ?_)
    refine lv_aload_n F.1 F.2.1 d_D_bodyAt_36 rfl (lv_at hl 2 rfl) ?_
    refine pw_get F I_D hK.1 hP f1 rfl 1 (by decide) L_D_16 (fun _ z => z) rfl d_D_bodyAt_37 ?_
    refine lv_iload F.1 F.2.1 d_D_bodyAt_40 (lv_at hl 0 rfl) ?_
    obtain ⟨_, n19, v20, f21, f22, k23⟩ := hs.le (show 1 < 3 by decide) (show 0 < pT by omega)
    refine pw_crE (pr_V F (c_AL_get l D cs A h _ _ pT i _ _ v20 (by omega) (by omega) (k23 i (show i < pT by omega)) f21 f22) X_D_78 rfl rfl ⟨by decide, by decide⟩ hP hA hK hS f17 rfl rfl rfl hl.1 rfl (Nat.le_of_ble_eq_true rfl) d_D_bodyAt_42 ⟨by decide, by decide⟩) hS (fun H locs hP hS => ?_)
    obtain ⟨v24, f25, k26⟩ := hs.pt (l := (i + 1)) (by omega)
    have f27 : h ((g 3 (i + 1))) = some (.inr (3, [.ref ((g 4 (i + 1))), .ref ((g 5 (i + 1))), .int v24])) := f25
    refine va_castY (C := R_P) F.1 F.2.1 F.2.2.2.1 (F.2.2.2.2 _ C_D_22) (hK.2.2.2.2.2.2.2.1 ("PatchDesk$Patch", "PatchDesk$Patch") (by decide)) (pw_recv hK.1 hP f27 rfl) d_D_bodyAt_45 ?_
    refine lv_astore F.1 F.2.1 d_D_bodyAt_48 hl (by decide) rfl (fun ls hl => ?_)
    replace hl : lv_has ls 6 [(5, .ref ((g 3 (i + 1)))), (4, .int (nI i)), (3, .ref ((g 0 (bRow S f i)))), (0, .ref x), (1, .int (nI f)), (2, .int (nI L))] := hl
    refine lv_aload F.1 F.2.1 d_D_bodyAt_50 (lv_at hl 0 rfl) ?_
    refine lv_iload_n F.1 F.2.1 d_D_bodyAt_52 rfl (lv_at hl 4 rfl) ?_
    obtain ⟨v28, f29, k30⟩ := hs.bs (l := (i + 1)) (by omega)
    have f31 : h ((g 4 (i + 1))) = some (.inl (cs 3, 8, .inr (.inr (.inr (.inr v28))))) := f29
    refine pw_ciE (pr_V F (c_P_hasNamed l D cs A h _ _ f _ _ _ (by omega) f27 f31) X_D_69 rfl rfl ⟨by decide, by decide⟩ hP hA hK hS f27 rfl rfl rfl hl.1 rfl (Nat.le_of_ble_eq_true rfl) d_D_bodyAt_53 ⟨by decide, by decide⟩) hS (fun H locs hP hS => ?_)
    by_cases b32 : v28 f = none
    · skip
      refine W.eq (g2 := F0 m 56 ls [.int 0]) (by rw [if_pos b32]) ?_
      refine lv_if_eq (tgt := 67) F.1 F.2.1 d_D_bodyAt_56 (by decide) (fun c33 => ?_) (fun c33 => absurd (by decide) c33)
      refine lv_iinc (k := 1) (v := nI (i + 1)) F.1 F.2.1 d_D_bodyAt_67 hl rfl (by rw [show Int32.ofInt 1 = nI 1 from rfl, nI_add]) (by decide) rfl (fun ls hl => ?_)
      replace hl : lv_has ls 6 [(4, .int (nI (i + 1))), (5, .ref ((g 3 (i + 1)))), (3, .ref ((g 0 (bRow S f i)))), (0, .ref x), (1, .int (nI f)), (2, .int (nI L))] := hl
      refine lv_goto (tgt := 18) F.1 F.2.1 d_D_bodyAt_70 (by decide) ?_
      replace hl : lv_has ls 6 [(4, .int (nI (i + 1))), (3, .ref (g 0 (bRow S f (i + 1)))), (0, .ref x), (1, .int (nI f)), (2, .int (nI L))] := by rw [show bRow S f (i + 1) = bRow S f i from by simp only [bRow]; rw [if_neg (fun z9 => (hw.2.2.2.2.2.2.2.1 (8 * (i + 1) + f) (by omega)).elim z9 (fun z8 => by have h9 := (k30 f (by omega)).1 z8; rw [h9] at b32; exact absurd b32 (by simp)))]]; exact lv_sub hl [0, 2, 3, 4, 5] rfl
      exact ih (ls := ls) (i := i + 1) (H := H) (locs := locs) (by first | exact hl | exact hP | exact hS | omega) (by first | exact hl | exact hP | exact hS | omega) (by first | exact hl | exact hP | exact hS | omega) (by first | exact hl | exact hP | exact hS | omega) (by first | exact hl | exact hP | exact hS | omega)
    · skip
      refine W.eq (g2 := F0 m 56 ls [.int 1]) (by rw [if_neg b32]) ?_
      refine lv_if_eq (tgt := 67) F.1 F.2.1 d_D_bodyAt_56 (by decide) (fun c34 => absurd c34 (by decide)) (fun c34 => ?_)
      refine lv_aload F.1 F.2.1 d_D_bodyAt_59 (lv_at hl 0 rfl) ?_
      refine pw_get F I_P hK.1 hP f27 rfl 0 (by decide) L_D_74 (fun _ z => z) rfl d_D_bodyAt_61 ?_
      refine lv_iload_n F.1 F.2.1 d_D_bodyAt_64 rfl (lv_at hl 4 rfl) ?_
      refine pw_aldqN F hK.1 hP 3 f31 rfl (k := f) (by omega) (by decide) d_D_bodyAt_65 ?_
      refine W.eq (g2 := F0 m 66 ls [.ref ((g 0 (8 * (i + 1) + f)))]) (by rw [(k30 f (by omega)).1 ((hw.2.2.2.2.2.2.2.1 (8 * (i + 1) + f) (by omega)).elim (fun z9 => absurd ((k30 f (by omega)).2 z9) b32) id)]; rfl) ?_
      refine lv_astore_n F.1 F.2.1 d_D_bodyAt_66 rfl hl (by decide) rfl (fun ls hl => ?_)
      replace hl : lv_has ls 6 [(3, .ref ((g 0 (8 * (i + 1) + f)))), (5, .ref ((g 3 (i + 1)))), (4, .int (nI i)), (0, .ref x), (1, .int (nI f)), (2, .int (nI L))] := hl
      refine lv_iinc (k := 2) (v := nI (i + 1)) F.1 F.2.1 d_D_bodyAt_67 hl rfl (by rw [show Int32.ofInt 1 = nI 1 from rfl, nI_add]) (by decide) rfl (fun ls hl => ?_)
      replace hl : lv_has ls 6 [(4, .int (nI (i + 1))), (3, .ref ((g 0 (8 * (i + 1) + f)))), (5, .ref ((g 3 (i + 1)))), (0, .ref x), (1, .int (nI f)), (2, .int (nI L))] := hl
      refine lv_goto (tgt := 18) F.1 F.2.1 d_D_bodyAt_70 (by decide) ?_
      replace hl : lv_has ls 6 [(4, .int (nI (i + 1))), (3, .ref (g 0 (bRow S f (i + 1)))), (0, .ref x), (1, .int (nI f)), (2, .int (nI L))] := by rw [show bRow S f (i + 1) = 8 * (i + 1) + f from by simp only [bRow]; rw [if_pos (fun z9 => b32 ((k30 f (by omega)).2 z9))]]; exact lv_sub hl [0, 1, 3, 4, 5] rfl
      exact ih (ls := ls) (i := i + 1) (H := H) (locs := locs) (by first | exact hl | exact hP | exact hS | omega) (by first | exact hl | exact hP | exact hS | omega) (by first | exact hl | exact hP | exact hS | omega) (by first | exact hl | exact hP | exact hS | omega) (by first | exact hl | exact hP | exact hS | omega)
