def takeN (T : St) (f b n : Nat) : St := fun k j =>
  if (k = 0 ∨ k = 2) ∧ j = b then T k (48 + f) else
  if (k = 3 ∨ k = 4) ∧ 12 * b ≤ j ∧ j < 12 * b + n then T k (12 * (48 + f) + (j - 12 * b)) else T k j
theorem takeN_0 {T : St} {f b : Nat} : sp (sp T 0 b (T 0 (48 + f))) 2 b (T 2 (48 + f)) = takeN T f b 0 := by
  funext k j
  simp only [takeN, sp]
  by_cases h0 : k = 0
  · subst h0
    repeat' split
    all_goals first | rfl | (exfalso; omega)
  by_cases h2 : k = 2
  · subst h2
    repeat' split
    all_goals first | rfl | (exfalso; omega)
  repeat' split
  all_goals first | rfl | (exfalso; omega)
theorem takeN_s {T : St} {f b n : Nat} (hf : f < 8) (hb : b < 48) (hn : n < 12) : sp (sp (takeN T f b n) 3 (12 * b + n) (T 3 (12 * (48 + f) + n))) 4 (12 * b + n) (T 4 (12 * (48 + f) + n)) = takeN T f b (n + 1) := by
  funext k j
  simp only [takeN, sp]
  by_cases h0 : k = 3
  · subst h0
    repeat' split
    all_goals first | rfl | (exfalso; omega) | (congr 1; omega)
  by_cases h2 : k = 4
  · subst h2
    repeat' split
    all_goals first | rfl | (exfalso; omega) | (congr 1; omega)
  repeat' split
  all_goals first | rfl | (exfalso; omega)
theorem takeN_v {T : St} {f b n k i : Nat} (hb : b < 48) (hk : k = 3 ∨ k = 4) : takeN T f b n k (12 * (48 + f) + i) = if n ≤ 12 then T k (12 * (48 + f) + i) else takeN T f b n k (12 * (48 + f) + i) := by
  split
  · simp only [takeN]
    rw [if_neg (by omega), if_neg (by omega)]
  · rfl
theorem takeN_v' {T : St} {f b n k i : Nat} (hb : b < 48) (hk : k = 3 ∨ k = 4) (hn : n ≤ 12) : takeN T f b n k (12 * (48 + f) + i) = T k (12 * (48 + f) + i) := by
  rw [takeN_v hb hk, if_pos hn]
theorem nar_01 {v : Int32} (h : v = 0 ∨ v = 1) : vp_nar .boolean v = v := by
  rcases h with rfl | rfl <;> rfl
def clrN (T : St) (i : Nat) : St := fun k j => if k = 0 ∧ 48 ≤ j ∧ j < 48 + i then 0 else T k j
theorem clrN_0 {T : St} : clrN T 0 = T := by
  funext k j
  simp only [clrN]
  rw [if_neg (by omega)]
theorem clrN_s {T : St} {i : Nat} : sp (clrN T i) 0 (48 + i) 0 = clrN T (i + 1) := by
  funext k j
  simp only [clrN, sp]
  repeat' split
  all_goals first | rfl | (exfalso; omega)
theorem clrN_8 {T : St} : clrN T 8 = mClr T := rfl
theorem clrN_o {T : St} {i j : Nat} : clrN T i 16 j = T 16 j := by
  simp only [clrN]
  rw [if_neg (by omega)]
def movN (T : St) (L i : Nat) : St := fun k j =>
  if k = 0 ∧ 48 ≤ j ∧ j < 48 + i then 0 else
  if (k = 0 ∨ k = 2) ∧ 8 * L ≤ j ∧ j < 8 * L + i then T k (48 + (j - 8 * L)) else
  if (k = 3 ∨ k = 4) ∧ 96 * L ≤ j ∧ j < 96 * L + 12 * i then T k (576 + (j - 96 * L)) else T k j
theorem movN_0 {T : St} {L : Nat} : movN T L 0 = T := by
  funext k j
  simp only [movN]
  rw [if_neg (by omega), if_neg (by omega), if_neg (by omega)]
theorem movN_8 {T : St} {L : Nat} : movN T L 8 = mClr (mMove T L) := rfl
theorem movN_o {T : St} {L i j : Nat} : movN T L i 16 j = T 16 j := by
  simp only [movN]
  rw [if_neg (by omega), if_neg (by omega), if_neg (by omega)]
theorem movN_h {T : St} {L i j : Nat} (hL : L ≤ 5) (hi : i ≤ 8) (hT : ∀ j, j < 56 → T 0 j = 0 ∨ T 0 j = 1) (hj : j < 56) : movN T L i 0 j = 0 ∨ movN T L i 0 j = 1 := by
  simp only [movN]
  split
  · exact Or.inl rfl
  · split
    · exact hT _ (by omega)
    · split
      · exact hT _ (by omega)
      · exact hT _ hj
theorem movN_s {T : St} {L i : Nat} (hL : L ≤ 5) (hi : i < 8) : sp (takeN (movN T L i) i (8 * L + i) 12) 0 (48 + i) 0 = movN T L (i + 1) := by
  funext k j
  simp only [movN, takeN, sp]
  by_cases h0 : k = 0
  · subst h0
    repeat' split
    all_goals first | rfl | (exfalso; omega) | (congr 1; omega)
  by_cases h2 : k = 2
  · subst h2
    repeat' split
    all_goals first | rfl | (exfalso; omega) | (congr 1; omega)
  by_cases h3 : k = 3
  · subst h3
    repeat' split
    all_goals first | rfl | (exfalso; omega) | (congr 1; omega)
  by_cases h4 : k = 4
  · subst h4
    repeat' split
    all_goals first | rfl | (exfalso; omega) | (congr 1; omega)
  repeat' split
  all_goals first | rfl | (exfalso; omega)
abbrev rm_M_takeBody : Room := { frames := 0, cells := 0, slots := 0, locals := 0 }
set_option maxHeartbeats 4000000 in
set_option maxRecDepth 100000 in
theorem c_M_takeBody (l : Launch) (D : va_G) (cs : Nat → Nat) (A : Nat → Prop) (h : pw_H) (o : Nat) (ad : Nat → Nat) (S : St) (hR : RM cs h o ad S) (hbz : ∀ j, j < 56 → S 0 j = 0 ∨ S 0 j = 1) (f b : Nat) (hf : f < 8) (hb : b < 48) : pm l y_M_takeBody b_M_takeBody 4 none rm_M_takeBody [.ref o, .int (nI f), .int (nI b)] D cs A h (va_Qv (fun (h' : pw_H) => RM cs h' o ad (takeN S f b 12)) (ww D cs A) A) 0 0 := by
  refine pm_of R_M rfl (by decide) (Nat.le_of_ble_eq_true rfl) (fun p e s m below meth c ls F hr hlk hnm hP hA hK hl => ?_)
  have hS : va_S A s.heap s.heap [] := va_S.rf
  replace hl : lv_has ls 4 [(0, .ref o), (1, .int (nI f)), (2, .int (nI b))] := hl
  refine lv_aload_n F.1 F.2.1 d_M_takeBody_0 rfl (lv_at hl 0 rfl) ?_
  have f1 : h o = some (.inr (7, [.int (S 16 0), .int (S 16 1), .ref (ad 0), .ref (ad 1), .ref (ad 2), .ref (ad 3), .ref (ad 4), .int (S 16 2), .int (S 16 3), .int (S 16 4), .int (S 16 5), .ref (ad 5), .ref (ad 6), .ref (ad 7), .ref (ad 8), .ref (ad 9), .ref (ad 10), .ref (ad 11), .ref (ad 12), .ref (ad 13), .ref (ad 14), .ref (ad 15)])) := hR.1
  refine pw_get F I_M hK.1 hP f1 rfl 2 (by decide) L_M_7 (fun _ z => z) rfl d_M_takeBody_1 ?_
  refine lv_iload_n F.1 F.2.1 d_M_takeBody_4 rfl (lv_at hl 2 rfl) ?_
  refine lv_aload_n F.1 F.2.1 d_M_takeBody_5 rfl (lv_at hl 0 rfl) ?_
  refine pw_get F I_M hK.1 hP f1 rfl 2 (by decide) L_M_7 (fun _ z => z) rfl d_M_takeBody_6 ?_
  refine lv_bipush (v := 48) F.1 F.2.1 d_M_takeBody_9 (by decide) ?_
  refine lv_iload_n F.1 F.2.1 d_M_takeBody_11 rfl (lv_at hl 1 rfl) ?_
  refine lv_iadd F.1 F.2.1 d_M_takeBody_12 ?_
  refine W.eq (g2 := F0 m 13 ls [.int (nI (48 + f)), .ref (ad 0), .int (nI b), .ref (ad 0)]) (by rw [show (48 : Int32) = nI 48 from rfl, nI_add]) ?_
  have f2 : h (ad 0) = some (.inl (cs 1, 56, .inl (S 0))) := hR.2.1 0 (by decide)
  refine pw_zaldN F hK.1 hP 1 f2 rfl (k := 48 + f) (by omega) (by decide) d_M_takeBody_13 ?_
  refine pw_zastN F hK.1 hP hS 1 f2 rfl (k := b) (by omega) (by decide) (nar_01 (hbz (48 + f) (by omega))) d_M_takeBody_14 (fun H locs hP hS => ?_)
  replace hP : pw D vwCl A (pu h (ad 0) (.inl (cs 1, 56, .inl (upd (S 0) b (S 0 (48 + f)))))) H := hP
  replace hR := hR.arr (show 0 < 16 by decide) b (S 0 (48 + f))
  obtain ⟨h3, e4⟩ : ∃ z9 : pw_H, z9 = pu h (ad 0) (.inl (cs 1, 56, .inl (upd (S 0) b (S 0 (48 + f))))) := ⟨_, rfl⟩
  rw [← e4] at hP
  obtain ⟨S5, t6⟩ : ∃ z9 : St, z9 = sp S 0 b (S 0 (48 + f)) := ⟨_, rfl⟩
  replace hR : RM cs h3 o ad S5 := by rw [e4, t6]; exact hR
  refine lv_aload_n F.1 F.2.1 d_M_takeBody_15 rfl (lv_at hl 0 rfl) ?_
  have f7 : h3 o = some (.inr (7, [.int (S5 16 0), .int (S5 16 1), .ref (ad 0), .ref (ad 1), .ref (ad 2), .ref (ad 3), .ref (ad 4), .int (S5 16 2), .int (S5 16 3), .int (S5 16 4), .int (S5 16 5), .ref (ad 5), .ref (ad 6), .ref (ad 7), .ref (ad 8), .ref (ad 9), .ref (ad 10), .ref (ad 11), .ref (ad 12), .ref (ad 13), .ref (ad 14), .ref (ad 15)])) := hR.1
  refine pw_get F I_M hK.1 hP f7 rfl 4 (by decide) L_M_17 (fun _ z => z) rfl d_M_takeBody_16 ?_
  refine lv_iload_n F.1 F.2.1 d_M_takeBody_19 rfl (lv_at hl 2 rfl) ?_
  refine lv_aload_n F.1 F.2.1 d_M_takeBody_20 rfl (lv_at hl 0 rfl) ?_
  refine pw_get F I_M hK.1 hP f7 rfl 4 (by decide) L_M_17 (fun _ z => z) rfl d_M_takeBody_21 ?_
  refine lv_bipush (v := 48) F.1 F.2.1 d_M_takeBody_24 (by decide) ?_
  refine lv_iload_n F.1 F.2.1 d_M_takeBody_26 rfl (lv_at hl 1 rfl) ?_
  refine lv_iadd F.1 F.2.1 d_M_takeBody_27 ?_
  refine W.eq (g2 := F0 m 28 ls [.int (nI (48 + f)), .ref (ad 2), .int (nI b), .ref (ad 2)]) (by rw [show (48 : Int32) = nI 48 from rfl, nI_add]) ?_
  have f8 : h3 (ad 2) = some (.inl (cs 0, 56, .inl (S5 2))) := hR.2.1 2 (by decide)
  refine pw_ialdN F hK.1 hP 0 f8 rfl (k := 48 + f) (by omega) (by decide) d_M_takeBody_28 ?_
  refine W.eq (g2 := F0 m 29 ls [.int (S 2 (48 + f)), .int (nI b), .ref (ad 2)]) (by rw [show S5 2 (48 + f) = S 2 (48 + f) from by rw [t6]; exact sp_k (by decide)]) ?_
  refine pw_iastN F hK.1 hP hS 0 f8 rfl (k := b) (by omega) (by decide) d_M_takeBody_29 (fun H locs hP hS => ?_)
  replace hP : pw D vwCl A (pu h3 (ad 2) (.inl (cs 0, 56, .inl (upd (S5 2) b (S 2 (48 + f)))))) H := hP
  replace hR := hR.arr (show 2 < 16 by decide) b (S 2 (48 + f))
  obtain ⟨h9, e10⟩ : ∃ z9 : pw_H, z9 = pu h3 (ad 2) (.inl (cs 0, 56, .inl (upd (S5 2) b (S 2 (48 + f))))) := ⟨_, rfl⟩
  rw [← e10] at hP
  obtain ⟨S11, t12⟩ : ∃ z9 : St, z9 = sp S5 2 b (S 2 (48 + f)) := ⟨_, rfl⟩
  replace hR : RM cs h9 o ad S11 := by rw [e10, t12]; exact hR
  refine lv_iconst (v := 0) F.1 F.2.1 d_M_takeBody_30 (by decide) ?_
  refine lv_istore_n F.1 F.2.1 d_M_takeBody_31 rfl hl (by decide) rfl (fun ls hl => ?_)
  replace hl : lv_has ls 4 [(3, .int 0), (0, .ref o), (1, .int (nI f)), (2, .int (nI b))] := hl
  obtain ⟨i, hi0⟩ : ∃ i : Nat, i = 0 := ⟨0, rfl⟩
  have hle : i ≤ 12 := by omega
  obtain ⟨n, hn⟩ : ∃ n : Nat, 12 - i = n := ⟨_, rfl⟩
  replace hl : lv_has ls 4 [(3, .int (nI i)), (0, .ref o), (1, .int (nI f)), (2, .int (nI b))] := by rw [hi0]; exact hl
  obtain ⟨X, hX⟩ : ∃ z9 : St, z9 = takeN S f b i := ⟨_, rfl⟩
  replace hR : RM cs h9 o ad X := by rw [hX, hi0, ← takeN_0]; rw [t12, t6] at hR; exact hR
  clear hi0
  obtain ⟨hh, hhe⟩ : ∃ z9 : pw_H, z9 = h9 := ⟨_, rfl⟩
  rw [← hhe] at hP
  rw [← hhe] at hR
  clear hhe
  induction n generalizing ls i X hh H locs with
  | zero =>
    refine lv_iload_n F.1 F.2.1 d_M_takeBody_32 rfl (lv_at hl 0 rfl) ?_
    refine lv_bipush (v := 12) F.1 F.2.1 d_M_takeBody_33 (by decide) ?_
    refine lv_icmp_ge (tgt := 94) F.1 F.2.1 d_M_takeBody_35 (by decide) (fun c13 => ?_) (fun c13 => absurd (nI_le (a := 12) (b := i) (by omega) (by omega)) c13)
    exact pw_vret F hr hlk hP hA hK hS (by decide) (by decide) d_M_takeBody_94 (by rw [hX, show i = 12 by omega] at hR; exact hR)
  | succ n ih =>
    have hX3 : X 3 (12 * (48 + f) + i) = S 3 (12 * (48 + f) + i) := by rw [hX]; exact takeN_v' hb (Or.inl rfl) hle
    have hX4 : X 4 (12 * (48 + f) + i) = S 4 (12 * (48 + f) + i) := by rw [hX]; exact takeN_v' hb (Or.inr rfl) hle
    refine lv_iload_n F.1 F.2.1 d_M_takeBody_32 rfl (lv_at hl 0 rfl) ?_
    refine lv_bipush (v := 12) F.1 F.2.1 d_M_takeBody_33 (by decide) ?_
    refine lv_icmp_ge (tgt := 94) F.1 F.2.1 d_M_takeBody_35 (by decide) (fun c14 => absurd c14 (nI_ge (a := i) (b := 12) (by omega) (by decide))) (fun c14 => ?_)
    refine lv_aload_n F.1 F.2.1 d_M_takeBody_38 rfl (lv_at hl 1 rfl) ?_
    have f15 : hh o = some (.inr (7, [.int (X 16 0), .int (X 16 1), .ref (ad 0), .ref (ad 1), .ref (ad 2), .ref (ad 3), .ref (ad 4), .int (X 16 2), .int (X 16 3), .int (X 16 4), .int (X 16 5), .ref (ad 5), .ref (ad 6), .ref (ad 7), .ref (ad 8), .ref (ad 9), .ref (ad 10), .ref (ad 11), .ref (ad 12), .ref (ad 13), .ref (ad 14), .ref (ad 15)])) := hR.1
    refine pw_get F I_M hK.1 hP f15 rfl 5 (by decide) L_M_20 (fun _ z => z) rfl d_M_takeBody_39 ?_
    refine lv_bipush (v := 12) F.1 F.2.1 d_M_takeBody_42 (by decide) ?_
    refine lv_iload_n F.1 F.2.1 d_M_takeBody_44 rfl (lv_at hl 3 rfl) ?_
    refine lv_imul F.1 F.2.1 d_M_takeBody_45 ?_
    refine W.eq (g2 := F0 m 46 ls [.int (nI (12 * b)), .ref (ad 3)]) (by rw [show (12 : Int32) = nI 12 from rfl, pk_mul]) ?_
    refine lv_iload_n F.1 F.2.1 d_M_takeBody_46 rfl (lv_at hl 0 rfl) ?_
    refine lv_iadd F.1 F.2.1 d_M_takeBody_47 ?_
    refine W.eq (g2 := F0 m 48 ls [.int (nI (12 * b + i)), .ref (ad 3)]) (by rw [nI_add]) ?_
    refine lv_aload_n F.1 F.2.1 d_M_takeBody_48 rfl (lv_at hl 1 rfl) ?_
    refine pw_get F I_M hK.1 hP f15 rfl 5 (by decide) L_M_20 (fun _ z => z) rfl d_M_takeBody_49 ?_
    refine lv_bipush (v := 12) F.1 F.2.1 d_M_takeBody_52 (by decide) ?_
    refine lv_bipush (v := 48) F.1 F.2.1 d_M_takeBody_54 (by decide) ?_
    refine lv_iload_n F.1 F.2.1 d_M_takeBody_56 rfl (lv_at hl 2 rfl) ?_
    refine lv_iadd F.1 F.2.1 d_M_takeBody_57 ?_
    refine W.eq (g2 := F0 m 58 ls [.int (nI (48 + f)), .int 12, .ref (ad 3), .int (nI (12 * b + i)), .ref (ad 3)]) (by rw [show (48 : Int32) = nI 48 from rfl, nI_add]) ?_
    refine lv_imul F.1 F.2.1 d_M_takeBody_58 ?_
    refine W.eq (g2 := F0 m 59 ls [.int (nI (12 * (48 + f))), .ref (ad 3), .int (nI (12 * b + i)), .ref (ad 3)]) (by rw [show (12 : Int32) = nI 12 from rfl, pk_mul]) ?_
    refine lv_iload_n F.1 F.2.1 d_M_takeBody_59 rfl (lv_at hl 0 rfl) ?_
    refine lv_iadd F.1 F.2.1 d_M_takeBody_60 ?_
    refine W.eq (g2 := F0 m 61 ls [.int (nI ((12 * (48 + f)) + i)), .ref (ad 3), .int (nI (12 * b + i)), .ref (ad 3)]) (by rw [nI_add]) ?_
    have f16 : hh (ad 3) = some (.inl (cs 0, 672, .inl (X 3))) := hR.2.1 3 (by decide)
    refine pw_ialdN F hK.1 hP 0 f16 rfl (k := (12 * (48 + f)) + i) (by omega) (by decide) d_M_takeBody_61 ?_
    refine pw_iastN F hK.1 hP hS 0 f16 rfl (k := 12 * b + i) (by omega) (by decide) d_M_takeBody_62 (fun H locs hP hS => ?_)
    replace hP : pw D vwCl A (pu hh (ad 3) (.inl (cs 0, 672, .inl (upd (X 3) (12 * b + i) (X 3 ((12 * (48 + f)) + i)))))) H := hP
    replace hR := hR.arr (show 3 < 16 by decide) (12 * b + i) (X 3 ((12 * (48 + f)) + i))
    obtain ⟨h17, e18⟩ : ∃ z9 : pw_H, z9 = pu hh (ad 3) (.inl (cs 0, 672, .inl (upd (X 3) (12 * b + i) (X 3 ((12 * (48 + f)) + i))))) := ⟨_, rfl⟩
    rw [← e18] at hP
    obtain ⟨S19, t20⟩ : ∃ z9 : St, z9 = sp X 3 (12 * b + i) (X 3 ((12 * (48 + f)) + i)) := ⟨_, rfl⟩
    replace hR : RM cs h17 o ad S19 := by rw [e18, t20]; exact hR
    refine lv_aload_n F.1 F.2.1 d_M_takeBody_63 rfl (lv_at hl 1 rfl) ?_
    have f21 : h17 o = some (.inr (7, [.int (S19 16 0), .int (S19 16 1), .ref (ad 0), .ref (ad 1), .ref (ad 2), .ref (ad 3), .ref (ad 4), .int (S19 16 2), .int (S19 16 3), .int (S19 16 4), .int (S19 16 5), .ref (ad 5), .ref (ad 6), .ref (ad 7), .ref (ad 8), .ref (ad 9), .ref (ad 10), .ref (ad 11), .ref (ad 12), .ref (ad 13), .ref (ad 14), .ref (ad 15)])) := hR.1
    refine pw_get F I_M hK.1 hP f21 rfl 6 (by decide) L_M_23 (fun _ z => z) rfl d_M_takeBody_64 ?_
    refine lv_bipush (v := 12) F.1 F.2.1 d_M_takeBody_67 (by decide) ?_
    refine lv_iload_n F.1 F.2.1 d_M_takeBody_69 rfl (lv_at hl 3 rfl) ?_
    refine lv_imul F.1 F.2.1 d_M_takeBody_70 ?_
    refine W.eq (g2 := F0 m 71 ls [.int (nI (12 * b)), .ref (ad 4)]) (by rw [show (12 : Int32) = nI 12 from rfl, pk_mul]) ?_
    refine lv_iload_n F.1 F.2.1 d_M_takeBody_71 rfl (lv_at hl 0 rfl) ?_
    refine lv_iadd F.1 F.2.1 d_M_takeBody_72 ?_
    refine W.eq (g2 := F0 m 73 ls [.int (nI (12 * b + i)), .ref (ad 4)]) (by rw [nI_add]) ?_
    refine lv_aload_n F.1 F.2.1 d_M_takeBody_73 rfl (lv_at hl 1 rfl) ?_
    refine pw_get F I_M hK.1 hP f21 rfl 6 (by decide) L_M_23 (fun _ z => z) rfl d_M_takeBody_74 ?_
    refine lv_bipush (v := 12) F.1 F.2.1 d_M_takeBody_77 (by decide) ?_
    refine lv_bipush (v := 48) F.1 F.2.1 d_M_takeBody_79 (by decide) ?_
    refine lv_iload_n F.1 F.2.1 d_M_takeBody_81 rfl (lv_at hl 2 rfl) ?_
    refine lv_iadd F.1 F.2.1 d_M_takeBody_82 ?_
    refine W.eq (g2 := F0 m 83 ls [.int (nI (48 + f)), .int 12, .ref (ad 4), .int (nI (12 * b + i)), .ref (ad 4)]) (by rw [show (48 : Int32) = nI 48 from rfl, nI_add]) ?_
    refine lv_imul F.1 F.2.1 d_M_takeBody_83 ?_
    refine W.eq (g2 := F0 m 84 ls [.int (nI (12 * (48 + f))), .ref (ad 4), .int (nI (12 * b + i)), .ref (ad 4)]) (by rw [show (12 : Int32) = nI 12 from rfl, pk_mul]) ?_
    refine lv_iload_n F.1 F.2.1 d_M_takeBody_84 rfl (lv_at hl 0 rfl) ?_
    refine lv_iadd F.1 F.2.1 d_M_takeBody_85 ?_
    refine W.eq (g2 := F0 m 86 ls [.int (nI ((12 * (48 + f)) + i)), .ref (ad 4), .int (nI (12 * b + i)), .ref (ad 4)]) (by rw [nI_add]) ?_
    have f22 : h17 (ad 4) = some (.inl (cs 0, 672, .inl (S19 4))) := hR.2.1 4 (by decide)
    refine pw_ialdN F hK.1 hP 0 f22 rfl (k := (12 * (48 + f)) + i) (by omega) (by decide) d_M_takeBody_86 ?_
    refine W.eq (g2 := F0 m 87 ls [.int (X 4 ((12 * (48 + f)) + i)), .int (nI (12 * b + i)), .ref (ad 4)]) (by rw [show S19 4 ((12 * (48 + f)) + i) = X 4 ((12 * (48 + f)) + i) from by rw [t20]; exact sp_k (by decide)]) ?_
    refine pw_iastN F hK.1 hP hS 0 f22 rfl (k := 12 * b + i) (by omega) (by decide) d_M_takeBody_87 (fun H locs hP hS => ?_)
    replace hP : pw D vwCl A (pu h17 (ad 4) (.inl (cs 0, 672, .inl (upd (S19 4) (12 * b + i) (X 4 ((12 * (48 + f)) + i)))))) H := hP
    replace hR := hR.arr (show 4 < 16 by decide) (12 * b + i) (X 4 ((12 * (48 + f)) + i))
    obtain ⟨h23, e24⟩ : ∃ z9 : pw_H, z9 = pu h17 (ad 4) (.inl (cs 0, 672, .inl (upd (S19 4) (12 * b + i) (X 4 ((12 * (48 + f)) + i))))) := ⟨_, rfl⟩
    rw [← e24] at hP
    obtain ⟨S25, t26⟩ : ∃ z9 : St, z9 = sp S19 4 (12 * b + i) (X 4 ((12 * (48 + f)) + i)) := ⟨_, rfl⟩
    replace hR : RM cs h23 o ad S25 := by rw [e24, t26]; exact hR
    refine lv_iinc (k := 0) (v := nI (i + 1)) F.1 F.2.1 d_M_takeBody_88 hl rfl (by rw [show Int32.ofInt 1 = nI 1 from rfl, nI_add]) (by decide) rfl (fun ls hl => ?_)
    replace hl : lv_has ls 4 [(3, .int (nI (i + 1))), (0, .ref o), (1, .int (nI f)), (2, .int (nI b))] := hl
    refine lv_goto (tgt := 32) F.1 F.2.1 d_M_takeBody_91 (by decide) ?_
    have hX9 : S25 = takeN S f b (i + 1) := by rw [t26, t20, hX3, hX4, hX]; exact takeN_s (n := i) hf hb (by omega)
    exact ih (ls := ls) (i := i + 1) (X := S25) (hh := h23) (H := H) (locs := locs) (by first | exact hl | exact hP | exact hS | exact hR | exact hX9 | omega) (by first | exact hl | exact hP | exact hS | exact hR | exact hX9 | omega) (by first | exact hl | exact hP | exact hS | exact hR | exact hX9 | omega) (by first | exact hl | exact hP | exact hS | exact hR | exact hX9 | omega) (by first | exact hl | exact hP | exact hS | exact hR | exact hX9 | omega) (by first | exact hl | exact hP | exact hS | exact hR | exact hX9 | omega) (by first | exact hl | exact hP | exact hS | exact hR | exact hX9 | omega)
