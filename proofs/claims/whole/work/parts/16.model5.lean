theorem mIn5 {x : Int32} (h : (0 : Int32) ≤ x ∧ x ≤ 5) : x = 0 ∨ x = 1 ∨ x = 2 ∨ x = 3 ∨ x = 4 ∨ x = 5 := by
  obtain ⟨n, hn, rfl⟩ := mIn_nat (n := 6) (by decide) h.1 h.2
  rcases (show n = 0 ∨ n = 1 ∨ n = 2 ∨ n = 3 ∨ n = 4 ∨ n = 5 by omega) with rfl | rfl | rfl | rfl | rfl | rfl
  · exact Or.inl rfl
  · exact Or.inr (Or.inl rfl)
  · exact Or.inr (Or.inr (Or.inl rfl))
  · exact Or.inr (Or.inr (Or.inr (Or.inl rfl)))
  · exact Or.inr (Or.inr (Or.inr (Or.inr (Or.inl rfl))))
  · exact Or.inr (Or.inr (Or.inr (Or.inr (Or.inr rfl))))
theorem oRow_0 {f : Nat} {dr : Int32} (hf : f < 8) (h : dr = 0) : oRow (nI f) dr = 0 + f := by
  show (if dr = 0 then 0 else 48) + tn (nI f) = _
  rw [if_pos h, tn_nI (by omega)]
theorem oRow_1 {f : Nat} {dr : Int32} (hf : f < 8) (h : ¬ dr = 0) : oRow (nI f) dr = 48 + f := by
  show (if dr = 0 then 0 else 48) + tn (nI f) = _
  rw [if_neg h, tn_nI (by omega)]
theorem sp_sp {S : St} {k j : Nat} {v w : Int32} : sp (sp S k j v) k j w = sp S k j w := by
  funext x y
  simp only [sp]
  split <;> rfl
theorem bRow_le (S : St) (f L : Nat) : bRow S f L ≤ 8 * L + f := by
  induction L with
  | zero => simp only [bRow]; omega
  | succ n ih =>
    simp only [bRow]
    split <;> omega
theorem bRow_eq {S T : St} (h : ∀ j, T 0 j = S 0 j) (f L : Nat) : bRow T f L = bRow S f L := by
  induction L with
  | zero => rfl
  | succ n ih => simp only [bRow, h, ih]
theorem mEnter_o {S : St} {t f j : Nat} : mEnter S t f 16 j = S 16 j := by
  unfold mEnter
  split
  · rfl
  · rw [sp_k (by decide), sp_k (by decide), sp_k (by decide), sp_k (by decide), sp_k (by decide)]
abbrev rm_M_operation : Room := { frames := 1, cells := 0, slots := 0, locals := 22 }
set_option maxHeartbeats 4000000 in
set_option maxRecDepth 100000 in
theorem c_M_operation (l : Launch) (D : va_G) (cs : Nat → Nat) (A : Nat → Prop) (h : pw_H) (o : Nat) (ad : Nat → Nat) (S : St) (hR : RM cs h o ad S) (hB : ∀ j, j < 56 → ¬ S 0 j = 0 → ∃ z, z ≤ 12 ∧ S 2 j = nI z) (fn dr kd n : Int32) : pm l y_M_operation b_M_operation 7 (some .int) rm_M_operation [.ref o, .int fn, .int dr, .int kd, .int n] D cs A h (va_Qi (fun (r : Int32) (h' : pw_H) => RM cs h' o ad (stOperation S fn dr kd n) ∧ r = rOperation S fn dr kd n) (ww D cs A) A) 0 0 := by
  refine pm_of R_M rfl (by decide) (Nat.le_of_ble_eq_true rfl) (fun p e s m below meth c ls F hr hlk hnm hP hA hK hl => ?_)
  have hS : va_S A s.heap s.heap [] := va_S.rf
  replace hl : lv_has ls 7 [(0, .ref o), (1, .int fn), (2, .int dr), (3, .int kd), (4, .int n)] := hl
  by_cases hin : (0 : Int32) ≤ fn ∧ fn ≤ 7
  · skip
    obtain ⟨f, hf, rfl⟩ := mIn_nat (n := 8) (by decide) hin.1 hin.2
    refine lv_iload_n F.1 F.2.1 d_M_operation_0 rfl (lv_at hl 2 rfl) ?_
    refine lv_if_eq (tgt := 9) F.1 F.2.1 d_M_operation_1 (by decide) (fun c1 => ?_) (fun c1 => ?_)
    · skip
      refine lv_iconst (v := 0) F.1 F.2.1 d_M_operation_9 (by decide) ?_
      refine lv_iload_n F.1 F.2.1 d_M_operation_10 rfl (lv_at hl 1 rfl) ?_
      refine lv_iadd F.1 F.2.1 d_M_operation_11 ?_
      refine W.eq (g2 := F0 m 12 ls [.int (nI (0 + f))]) (by rw [show (0 : Int32) = nI 0 from rfl, nI_add]) ?_
      refine lv_istore F.1 F.2.1 d_M_operation_12 hl (by decide) rfl (fun ls hl => ?_)
      replace hl : lv_has ls 7 [(5, .int (nI (0 + f))), (0, .ref o), (1, .int (nI f)), (2, .int dr), (3, .int kd), (4, .int n)] := hl
      refine lv_iload_n F.1 F.2.1 d_M_operation_14 rfl (lv_at hl 2 rfl) ?_
      refine lv_iconst (v := 0) F.1 F.2.1 d_M_operation_15 (by decide) ?_
      refine lv_bipush (v := 7) F.1 F.2.1 d_M_operation_16 (by decide) ?_
      refine pw_ciE (pr_S F (c_M_inn l D cs A h (nI f) 0 7) X_M_72 rfl rfl ⟨by decide, by decide⟩ hP hA hK hS rfl hl.1 rfl (Nat.le_of_ble_eq_true rfl) d_M_operation_18 ⟨by decide, by decide⟩) hS (fun H locs hP hS => ?_)
      refine W.eq (g2 := F0 m 21 ls [.int 1]) (by rw [if_pos hin]) ?_
      refine lv_if_eq (tgt := 37) F.1 F.2.1 d_M_operation_21 (by decide) (fun c2 => absurd c2 (by decide)) (fun c2 => ?_)
      refine lv_iload_n F.1 F.2.1 d_M_operation_24 rfl (lv_at hl 4 rfl) ?_
      refine lv_iconst (v := 0) F.1 F.2.1 d_M_operation_25 (by decide) ?_
      refine lv_iconst (v := 5) F.1 F.2.1 d_M_operation_26 (by decide) ?_
      refine pw_ciE (pr_S F (c_M_inn l D cs A h kd 0 5) X_M_72 rfl rfl ⟨by decide, by decide⟩ hP hA hK hS rfl hl.1 rfl (Nat.le_of_ble_eq_true rfl) d_M_operation_27 ⟨by decide, by decide⟩) hS (fun H locs hP hS => ?_)
      by_cases b3 : 0 ≤ kd ∧ kd ≤ 5
      · skip
        refine W.eq (g2 := F0 m 30 ls [.int 1]) (by rw [if_pos b3]) ?_
        refine lv_if_eq (tgt := 37) F.1 F.2.1 d_M_operation_30 (by decide) (fun c4 => absurd c4 (by decide)) (fun c4 => ?_)
        rcases mIn5 b3 with rfl | rfl | rfl | rfl | rfl | rfl
        · skip
          refine lv_iconst (v := 1) F.1 F.2.1 d_M_operation_33 (by decide) ?_
          refine lv_goto (tgt := 38) F.1 F.2.1 d_M_operation_34 (by decide) ?_
          refine lv_istore F.1 F.2.1 d_M_operation_38 hl (by decide) rfl (fun ls hl => ?_)
          replace hl : lv_has ls 7 [(6, .int 1), (5, .int (nI (0 + f))), (0, .ref o), (1, .int (nI f)), (2, .int dr), (3, .int 0), (4, .int n)] := hl
          refine lv_iload F.1 F.2.1 d_M_operation_40 (lv_at hl 0 rfl) ?_
          refine lv_if_eq (tgt := 59) F.1 F.2.1 d_M_operation_42 (by decide) (fun c5 => absurd c5 (by decide)) (fun c5 => ?_)
          refine lv_aload_n F.1 F.2.1 d_M_operation_45 rfl (lv_at hl 2 rfl) ?_
          have f6 : h o = some (.inr (7, [.int (S 16 0), .int (S 16 1), .ref (ad 0), .ref (ad 1), .ref (ad 2), .ref (ad 3), .ref (ad 4), .int (S 16 2), .int (S 16 3), .int (S 16 4), .int (S 16 5), .ref (ad 5), .ref (ad 6), .ref (ad 7), .ref (ad 8), .ref (ad 9), .ref (ad 10), .ref (ad 11), .ref (ad 12), .ref (ad 13), .ref (ad 14), .ref (ad 15)])) := hR.1
          refine pw_get F I_M hK.1 hP f6 rfl 2 (by decide) L_M_7 (fun _ z => z) rfl d_M_operation_46 ?_
          refine lv_iload F.1 F.2.1 d_M_operation_49 (lv_at hl 1 rfl) ?_
          have f7 : h (ad 0) = some (.inl (cs 1, 56, .inl (S 0))) := hR.2.1 0 (by decide)
          refine pw_zaldN F hK.1 hP 1 f7 rfl (k := 0 + f) (by omega) (by decide) d_M_operation_51 ?_
          refine lv_if_eq (tgt := 59) F.1 F.2.1 d_M_operation_52 (by decide) (fun c8 => ?_) (fun c8 => ?_)
          · skip
            refine lv_iconst (v := 0) F.1 F.2.1 d_M_operation_59 (by decide) ?_
            refine lv_istore F.1 F.2.1 d_M_operation_60 hl (by decide) rfl (fun ls hl => ?_)
            replace hl : lv_has ls 7 [(6, .int 0), (5, .int (nI (0 + f))), (0, .ref o), (1, .int (nI f)), (2, .int dr), (3, .int 0), (4, .int n)] := hl
            refine lv_iload F.1 F.2.1 d_M_operation_62 (lv_at hl 0 rfl) ?_
            refine lv_if_eq (tgt := 82) F.1 F.2.1 d_M_operation_64 (by decide) (fun c9 => ?_) (fun c9 => absurd (by decide) c9)
            refine lv_iload F.1 F.2.1 d_M_operation_82 (lv_at hl 0 rfl) ?_
            refine lv_if_eq (tgt := 111) F.1 F.2.1 d_M_operation_84 (by decide) (fun c10 => ?_) (fun c10 => absurd (by decide) c10)
            refine lv_iload F.1 F.2.1 d_M_operation_111 (lv_at hl 0 rfl) ?_
            refine lv_if_eq (tgt := 136) F.1 F.2.1 d_M_operation_113 (by decide) (fun c11 => ?_) (fun c11 => absurd (by decide) c11)
            refine lv_aload_n F.1 F.2.1 d_M_operation_136 rfl (lv_at hl 2 rfl) ?_
            refine lv_iload F.1 F.2.1 d_M_operation_137 (lv_at hl 0 rfl) ?_
            refine lv_if_ne (tgt := 146) F.1 F.2.1 d_M_operation_139 (by decide) (fun c12 => absurd (by decide) c12) (fun c12 => ?_)
            refine lv_iconst (v := 1) F.1 F.2.1 d_M_operation_142 (by decide) ?_
            refine lv_goto (tgt := 174) F.1 F.2.1 d_M_operation_143 (by decide) ?_
            refine pw_put F I_M ty_M k_M n_M hK.1 hP hS f6 rfl 0 (by decide) L_M_63 (fun _ z => z) rfl rfl rfl (Nat.le_of_ble_eq_true rfl) d_M_operation_174 (fun H locs hP hS => ?_)
            have hP : pw D vwCl A (pu h o (.inr (7, (mfs ad S).set (mpos 0) (.int 1)))) H := hP
            have hR := hR.num (show 0 < 6 by decide) 1
            obtain ⟨h13, e14⟩ : ∃ z9 : pw_H, z9 = pu h o (.inr (7, (mfs ad S).set (mpos 0) (.int 1))) := ⟨_, rfl⟩
            rw [← e14] at hP
            obtain ⟨S15, t16⟩ : ∃ z9 : St, z9 = sp S 16 0 1 := ⟨_, rfl⟩
            have hR : RM cs h13 o ad S15 := by rw [e14, t16]; exact hR
            refine lv_aload_n F.1 F.2.1 d_M_operation_177 rfl (lv_at hl 2 rfl) ?_
            have f17 : h13 o = some (.inr (7, [.int (S15 16 0), .int (S15 16 1), .ref (ad 0), .ref (ad 1), .ref (ad 2), .ref (ad 3), .ref (ad 4), .int (S15 16 2), .int (S15 16 3), .int (S15 16 4), .int (S15 16 5), .ref (ad 5), .ref (ad 6), .ref (ad 7), .ref (ad 8), .ref (ad 9), .ref (ad 10), .ref (ad 11), .ref (ad 12), .ref (ad 13), .ref (ad 14), .ref (ad 15)])) := hR.1
            refine pw_get F I_M hK.1 hP f17 rfl 0 (by decide) L_M_63 (fun _ z => z) rfl d_M_operation_178 ?_
            refine W.eq (g2 := F0 m 181 ls [.int 1]) (by rw [show S15 16 0 = 1 from by rw [t16]; exact sp_s]) ?_
            refine lv_if_le (tgt := 186) F.1 F.2.1 d_M_operation_181 (by decide) (fun c18 => absurd c18 (by decide)) (fun c18 => ?_)
            refine lv_iconst (v := 0) F.1 F.2.1 d_M_operation_184 (by decide) ?_
            exact pw_iret F hr hlk hP hA hK hS (by decide) (by decide) d_M_operation_185 (by have hth : thOperation S (nI f) dr 0 n = 1 := (by unfold thOperation; rw [if_pos (show ¬ gdOperation S (nI f) dr 0 n from fun z9 => z9.2.2.1 (by rw [oRow_0 hf c1]; exact c8))]); unfold stOperation rOperation; rw [hth, if_neg (by decide), if_neg (by decide)]; rw [t16] at hR; exact ⟨hR, rfl⟩)
          · skip
            obtain ⟨z, hz12, hz⟩ := hB (0 + f) (by omega) c8
            have hor : oRow (nI f) dr = 0 + f := oRow_0 hf c1
            refine lv_iconst (v := 1) F.1 F.2.1 d_M_operation_55 (by decide) ?_
            refine lv_goto (tgt := 60) F.1 F.2.1 d_M_operation_56 (by decide) ?_
            refine lv_istore F.1 F.2.1 d_M_operation_60 hl (by decide) rfl (fun ls hl => ?_)
            replace hl : lv_has ls 7 [(6, .int 1), (5, .int (nI (0 + f))), (0, .ref o), (1, .int (nI f)), (2, .int dr), (3, .int 0), (4, .int n)] := hl
            refine lv_iload F.1 F.2.1 d_M_operation_62 (lv_at hl 0 rfl) ?_
            refine lv_if_eq (tgt := 82) F.1 F.2.1 d_M_operation_64 (by decide) (fun c19 => absurd c19 (by decide)) (fun c19 => ?_)
            refine lv_iload_n F.1 F.2.1 d_M_operation_67 rfl (lv_at hl 5 rfl) ?_
            refine lv_if_ne (tgt := 82) F.1 F.2.1 d_M_operation_68 (by decide) (fun c20 => absurd (by decide) c20) (fun c20 => ?_)
            refine lv_iload F.1 F.2.1 d_M_operation_71 (lv_at hl 6 rfl) ?_
            refine lv_bipush (v := (-99)) F.1 F.2.1 d_M_operation_73 (by decide) ?_
            refine lv_bipush (v := 99) F.1 F.2.1 d_M_operation_75 (by decide) ?_
            refine pw_ciE (pr_S F (c_M_inn l D cs A h n (-99) 99) X_M_72 rfl rfl ⟨by decide, by decide⟩ hP hA hK hS rfl hl.1 rfl (Nat.le_of_ble_eq_true rfl) d_M_operation_77 ⟨by decide, by decide⟩) hS (fun H locs hP hS => ?_)
            by_cases b21 : (-99) ≤ n ∧ n ≤ 99
            · skip
              refine W.eq (g2 := F0 m 80 ls [.int 1]) (by rw [if_pos b21]) ?_
              refine lv_istore F.1 F.2.1 d_M_operation_80 hl (by decide) rfl (fun ls hl => ?_)
              replace hl : lv_has ls 7 [(6, .int 1), (5, .int (nI (0 + f))), (0, .ref o), (1, .int (nI f)), (2, .int dr), (3, .int 0), (4, .int n)] := hl
              refine lv_iload F.1 F.2.1 d_M_operation_82 (lv_at hl 0 rfl) ?_
              refine lv_if_eq (tgt := 111) F.1 F.2.1 d_M_operation_84 (by decide) (fun c22 => absurd c22 (by decide)) (fun c22 => ?_)
              refine lv_iload_n F.1 F.2.1 d_M_operation_87 rfl (lv_at hl 5 rfl) ?_
              refine lv_iconst (v := 1) F.1 F.2.1 d_M_operation_88 (by decide) ?_
              refine lv_icmp_eq (tgt := 97) F.1 F.2.1 d_M_operation_89 (by decide) (fun c23 => absurd c23 (by decide)) (fun c23 => ?_)
              refine lv_iload_n F.1 F.2.1 d_M_operation_92 rfl (lv_at hl 5 rfl) ?_
              refine lv_iconst (v := 5) F.1 F.2.1 d_M_operation_93 (by decide) ?_
              refine lv_icmp_ne (tgt := 111) F.1 F.2.1 d_M_operation_94 (by decide) (fun c24 => ?_) (fun c24 => absurd c24 (by decide))
              refine lv_iload F.1 F.2.1 d_M_operation_111 (lv_at hl 0 rfl) ?_
              refine lv_if_eq (tgt := 136) F.1 F.2.1 d_M_operation_113 (by decide) (fun c25 => absurd c25 (by decide)) (fun c25 => ?_)
              refine lv_iload_n F.1 F.2.1 d_M_operation_116 rfl (lv_at hl 5 rfl) ?_
              refine lv_iconst (v := 3) F.1 F.2.1 d_M_operation_117 (by decide) ?_
              refine lv_icmp_ne (tgt := 136) F.1 F.2.1 d_M_operation_118 (by decide) (fun c26 => ?_) (fun c26 => absurd c26 (by decide))
              refine lv_aload_n F.1 F.2.1 d_M_operation_136 rfl (lv_at hl 2 rfl) ?_
              refine lv_iload F.1 F.2.1 d_M_operation_137 (lv_at hl 0 rfl) ?_
              refine lv_if_ne (tgt := 146) F.1 F.2.1 d_M_operation_139 (by decide) (fun c27 => ?_) (fun c27 => absurd c27 (by decide))
              refine lv_iload_n F.1 F.2.1 d_M_operation_146 rfl (lv_at hl 4 rfl) ?_
              refine lv_if_ne (tgt := 157) F.1 F.2.1 d_M_operation_147 (by decide) (fun c28 => absurd c1 c28) (fun c28 => ?_)
              refine lv_aload_n F.1 F.2.1 d_M_operation_150 rfl (lv_at hl 2 rfl) ?_
              refine pw_ciE (pr_V F (c_M_fresh l D cs A h o ad S hR) X_M_79 rfl rfl ⟨by decide, by decide⟩ hP hA hK hS f6 rfl rfl rfl hl.1 rfl (Nat.le_of_ble_eq_true rfl) d_M_operation_151 ⟨by decide, by decide⟩) hS (fun H locs hP hS => ?_)
              by_cases b29 : mFresh S
              · skip
                refine W.eq (g2 := F0 m 154 ls [.int 1, .ref o]) (by rw [if_pos b29]) ?_
                refine lv_if_eq (tgt := 169) F.1 F.2.1 d_M_operation_154 (by decide) (fun c30 => absurd c30 (by decide)) (fun c30 => ?_)
                refine lv_aload_n F.1 F.2.1 d_M_operation_157 rfl (lv_at hl 2 rfl) ?_
                refine pw_get F I_M hK.1 hP f6 rfl 4 (by decide) L_M_17 (fun _ z => z) rfl d_M_operation_158 ?_
                refine lv_iload F.1 F.2.1 d_M_operation_161 (lv_at hl 1 rfl) ?_
                have f31 : h (ad 2) = some (.inl (cs 0, 56, .inl (S 2))) := hR.2.1 2 (by decide)
                refine pw_ialdN F hK.1 hP 0 f31 rfl (k := 0 + f) (by omega) (by decide) d_M_operation_163 ?_
                refine W.eq (g2 := F0 m 164 ls [.int (nI z), .ref o]) (by rw [hz]) ?_
                refine lv_bipush (v := 12) F.1 F.2.1 d_M_operation_164 (by decide) ?_
                refine lv_icmp_ne (tgt := 173) F.1 F.2.1 d_M_operation_166 (by decide) (fun c32 => ?_) (fun c32 => ?_)
                · skip
                  refine lv_iconst (v := 0) F.1 F.2.1 d_M_operation_173 (by decide) ?_
                  refine pw_put F I_M ty_M k_M n_M hK.1 hP hS f6 rfl 0 (by decide) L_M_63 (fun _ z => z) rfl rfl rfl (Nat.le_of_ble_eq_true rfl) d_M_operation_174 (fun H locs hP hS => ?_)
                  have hP : pw D vwCl A (pu h o (.inr (7, (mfs ad S).set (mpos 0) (.int 0)))) H := hP
                  have hR := hR.num (show 0 < 6 by decide) 0
                  obtain ⟨h33, e34⟩ : ∃ z9 : pw_H, z9 = pu h o (.inr (7, (mfs ad S).set (mpos 0) (.int 0))) := ⟨_, rfl⟩
                  rw [← e34] at hP
                  obtain ⟨S35, t36⟩ : ∃ z9 : St, z9 = sp S 16 0 0 := ⟨_, rfl⟩
                  have hR : RM cs h33 o ad S35 := by rw [e34, t36]; exact hR
                  refine lv_aload_n F.1 F.2.1 d_M_operation_177 rfl (lv_at hl 2 rfl) ?_
                  have f37 : h33 o = some (.inr (7, [.int (S35 16 0), .int (S35 16 1), .ref (ad 0), .ref (ad 1), .ref (ad 2), .ref (ad 3), .ref (ad 4), .int (S35 16 2), .int (S35 16 3), .int (S35 16 4), .int (S35 16 5), .ref (ad 5), .ref (ad 6), .ref (ad 7), .ref (ad 8), .ref (ad 9), .ref (ad 10), .ref (ad 11), .ref (ad 12), .ref (ad 13), .ref (ad 14), .ref (ad 15)])) := hR.1
                  refine pw_get F I_M hK.1 hP f37 rfl 0 (by decide) L_M_63 (fun _ z => z) rfl d_M_operation_178 ?_
                  refine W.eq (g2 := F0 m 181 ls [.int 0]) (by rw [show S35 16 0 = 0 from by rw [t36]; exact sp_s]) ?_
                  refine lv_if_le (tgt := 186) F.1 F.2.1 d_M_operation_181 (by decide) (fun c38 => ?_) (fun c38 => absurd (by decide) c38)
                  have hlt : z < 12 := by
                    rcases Nat.lt_or_ge z 12 with h9 | h9
                    · exact h9
                    · exact absurd (show nI z = 12 by rw [show z = 12 by omega]; rfl) c32
                  refine lv_aload_n F.1 F.2.1 d_M_operation_186 rfl (lv_at hl 2 rfl) ?_
                  refine pw_get F I_M hK.1 hP f37 rfl 5 (by decide) L_M_20 (fun _ z => z) rfl d_M_operation_187 ?_
                  refine lv_bipush (v := 12) F.1 F.2.1 d_M_operation_190 (by decide) ?_
                  refine lv_iload F.1 F.2.1 d_M_operation_192 (lv_at hl 1 rfl) ?_
                  refine lv_imul F.1 F.2.1 d_M_operation_194 ?_
                  refine W.eq (g2 := F0 m 195 ls [.int (nI (12 * (0 + f))), .ref (ad 3)]) (by rw [show (12 : Int32) = nI 12 from rfl, pk_mul]) ?_
                  refine lv_aload_n F.1 F.2.1 d_M_operation_195 rfl (lv_at hl 2 rfl) ?_
                  refine pw_get F I_M hK.1 hP f37 rfl 4 (by decide) L_M_17 (fun _ z => z) rfl d_M_operation_196 ?_
                  refine lv_iload F.1 F.2.1 d_M_operation_199 (lv_at hl 1 rfl) ?_
                  have f39 : h33 (ad 2) = some (.inl (cs 0, 56, .inl (S35 2))) := hR.2.1 2 (by decide)
                  refine pw_ialdN F hK.1 hP 0 f39 rfl (k := 0 + f) (by omega) (by decide) d_M_operation_201 ?_
                  refine W.eq (g2 := F0 m 202 ls [.int (nI z), .int (nI (12 * (0 + f))), .ref (ad 3)]) (by rw [show S35 2 (0 + f) = S 2 (0 + f) from by rw [t36]; exact sp_k (by decide), hz]) ?_
                  refine lv_iadd F.1 F.2.1 d_M_operation_202 ?_
                  refine W.eq (g2 := F0 m 203 ls [.int (nI ((12 * (0 + f)) + z)), .ref (ad 3)]) (by rw [nI_add]) ?_
                  refine lv_iload_n F.1 F.2.1 d_M_operation_203 rfl (lv_at hl 5 rfl) ?_
                  have f40 : h33 (ad 3) = some (.inl (cs 0, 672, .inl (S35 3))) := hR.2.1 3 (by decide)
                  refine pw_iastN F hK.1 hP hS 0 f40 rfl (k := (12 * (0 + f)) + z) (by omega) (by decide) d_M_operation_204 (fun H locs hP hS => ?_)
                  have hP : pw D vwCl A (pu h33 (ad 3) (.inl (cs 0, 672, .inl (upd (S35 3) ((12 * (0 + f)) + z) 0)))) H := hP
                  have hR := hR.arr (show 3 < 16 by decide) ((12 * (0 + f)) + z) 0
                  obtain ⟨h41, e42⟩ : ∃ z9 : pw_H, z9 = pu h33 (ad 3) (.inl (cs 0, 672, .inl (upd (S35 3) ((12 * (0 + f)) + z) 0))) := ⟨_, rfl⟩
                  rw [← e42] at hP
                  obtain ⟨S43, t44⟩ : ∃ z9 : St, z9 = sp S35 3 ((12 * (0 + f)) + z) 0 := ⟨_, rfl⟩
                  have hR : RM cs h41 o ad S43 := by rw [e42, t44]; exact hR
                  refine lv_aload_n F.1 F.2.1 d_M_operation_205 rfl (lv_at hl 2 rfl) ?_
                  have f45 : h41 o = some (.inr (7, [.int (S43 16 0), .int (S43 16 1), .ref (ad 0), .ref (ad 1), .ref (ad 2), .ref (ad 3), .ref (ad 4), .int (S43 16 2), .int (S43 16 3), .int (S43 16 4), .int (S43 16 5), .ref (ad 5), .ref (ad 6), .ref (ad 7), .ref (ad 8), .ref (ad 9), .ref (ad 10), .ref (ad 11), .ref (ad 12), .ref (ad 13), .ref (ad 14), .ref (ad 15)])) := hR.1
                  refine pw_get F I_M hK.1 hP f45 rfl 6 (by decide) L_M_23 (fun _ z => z) rfl d_M_operation_206 ?_
                  refine lv_bipush (v := 12) F.1 F.2.1 d_M_operation_209 (by decide) ?_
                  refine lv_iload F.1 F.2.1 d_M_operation_211 (lv_at hl 1 rfl) ?_
                  refine lv_imul F.1 F.2.1 d_M_operation_213 ?_
                  refine W.eq (g2 := F0 m 214 ls [.int (nI (12 * (0 + f))), .ref (ad 4)]) (by rw [show (12 : Int32) = nI 12 from rfl, pk_mul]) ?_
                  refine lv_aload_n F.1 F.2.1 d_M_operation_214 rfl (lv_at hl 2 rfl) ?_
                  refine pw_get F I_M hK.1 hP f45 rfl 4 (by decide) L_M_17 (fun _ z => z) rfl d_M_operation_215 ?_
                  refine lv_iload F.1 F.2.1 d_M_operation_218 (lv_at hl 1 rfl) ?_
                  have f46 : h41 (ad 2) = some (.inl (cs 0, 56, .inl (S43 2))) := hR.2.1 2 (by decide)
                  refine pw_ialdN F hK.1 hP 0 f46 rfl (k := 0 + f) (by omega) (by decide) d_M_operation_220 ?_
                  refine W.eq (g2 := F0 m 221 ls [.int (nI z), .int (nI (12 * (0 + f))), .ref (ad 4)]) (by rw [show S43 2 (0 + f) = S35 2 (0 + f) from by rw [t44]; exact sp_k (by decide), show S35 2 (0 + f) = S 2 (0 + f) from by rw [t36]; exact sp_k (by decide), hz]) ?_
                  refine lv_iadd F.1 F.2.1 d_M_operation_221 ?_
                  refine W.eq (g2 := F0 m 222 ls [.int (nI ((12 * (0 + f)) + z)), .ref (ad 4)]) (by rw [nI_add]) ?_
                  refine lv_iload F.1 F.2.1 d_M_operation_222 (lv_at hl 6 rfl) ?_
                  have f47 : h41 (ad 4) = some (.inl (cs 0, 672, .inl (S43 4))) := hR.2.1 4 (by decide)
                  refine pw_iastN F hK.1 hP hS 0 f47 rfl (k := (12 * (0 + f)) + z) (by omega) (by decide) d_M_operation_224 (fun H locs hP hS => ?_)
                  have hP : pw D vwCl A (pu h41 (ad 4) (.inl (cs 0, 672, .inl (upd (S43 4) ((12 * (0 + f)) + z) n)))) H := hP
                  have hR := hR.arr (show 4 < 16 by decide) ((12 * (0 + f)) + z) n
                  obtain ⟨h48, e49⟩ : ∃ z9 : pw_H, z9 = pu h41 (ad 4) (.inl (cs 0, 672, .inl (upd (S43 4) ((12 * (0 + f)) + z) n))) := ⟨_, rfl⟩
                  rw [← e49] at hP
                  obtain ⟨S50, t51⟩ : ∃ z9 : St, z9 = sp S43 4 ((12 * (0 + f)) + z) n := ⟨_, rfl⟩
                  have hR : RM cs h48 o ad S50 := by rw [e49, t51]; exact hR
                  refine lv_aload_n F.1 F.2.1 d_M_operation_225 rfl (lv_at hl 2 rfl) ?_
                  have f52 : h48 o = some (.inr (7, [.int (S50 16 0), .int (S50 16 1), .ref (ad 0), .ref (ad 1), .ref (ad 2), .ref (ad 3), .ref (ad 4), .int (S50 16 2), .int (S50 16 3), .int (S50 16 4), .int (S50 16 5), .ref (ad 5), .ref (ad 6), .ref (ad 7), .ref (ad 8), .ref (ad 9), .ref (ad 10), .ref (ad 11), .ref (ad 12), .ref (ad 13), .ref (ad 14), .ref (ad 15)])) := hR.1
                  refine pw_get F I_M hK.1 hP f52 rfl 4 (by decide) L_M_17 (fun _ z => z) rfl d_M_operation_226 ?_
                  refine lv_iload F.1 F.2.1 d_M_operation_229 (lv_at hl 1 rfl) ?_
                  refine lv_dup2_11 F.1 F.2.1 d_M_operation_231 rfl rfl ?_
                  have f53 : h48 (ad 2) = some (.inl (cs 0, 56, .inl (S50 2))) := hR.2.1 2 (by decide)
                  refine pw_ialdN F hK.1 hP 0 f53 rfl (k := 0 + f) (by omega) (by decide) d_M_operation_232 ?_
                  refine W.eq (g2 := F0 m 233 ls [.int (nI z), .int (nI (0 + f)), .ref (ad 2)]) (by rw [show S50 2 (0 + f) = S43 2 (0 + f) from by rw [t51]; exact sp_k (by decide), show S43 2 (0 + f) = S35 2 (0 + f) from by rw [t44]; exact sp_k (by decide), show S35 2 (0 + f) = S 2 (0 + f) from by rw [t36]; exact sp_k (by decide), hz]) ?_
                  refine lv_iconst (v := 1) F.1 F.2.1 d_M_operation_233 (by decide) ?_
                  refine lv_iadd F.1 F.2.1 d_M_operation_234 ?_
                  refine W.eq (g2 := F0 m 235 ls [.int (nI (z + 1)), .int (nI (0 + f)), .ref (ad 2)]) (by rw [show (1 : Int32) = nI 1 from rfl, nI_add]) ?_
                  refine pw_iastN F hK.1 hP hS 0 f53 rfl (k := 0 + f) (by omega) (by decide) d_M_operation_235 (fun H locs hP hS => ?_)
                  have hP : pw D vwCl A (pu h48 (ad 2) (.inl (cs 0, 56, .inl (upd (S50 2) (0 + f) (nI (z + 1)))))) H := hP
                  have hR := hR.arr (show 2 < 16 by decide) (0 + f) (nI (z + 1))
                  obtain ⟨h54, e55⟩ : ∃ z9 : pw_H, z9 = pu h48 (ad 2) (.inl (cs 0, 56, .inl (upd (S50 2) (0 + f) (nI (z + 1))))) := ⟨_, rfl⟩
                  rw [← e55] at hP
                  obtain ⟨S56, t57⟩ : ∃ z9 : St, z9 = sp S50 2 (0 + f) (nI (z + 1)) := ⟨_, rfl⟩
                  have hR : RM cs h54 o ad S56 := by rw [e55, t57]; exact hR
                  refine lv_aload_n F.1 F.2.1 d_M_operation_236 rfl (lv_at hl 2 rfl) ?_
                  have f58 : h54 o = some (.inr (7, [.int (S56 16 0), .int (S56 16 1), .ref (ad 0), .ref (ad 1), .ref (ad 2), .ref (ad 3), .ref (ad 4), .int (S56 16 2), .int (S56 16 3), .int (S56 16 4), .int (S56 16 5), .ref (ad 5), .ref (ad 6), .ref (ad 7), .ref (ad 8), .ref (ad 9), .ref (ad 10), .ref (ad 11), .ref (ad 12), .ref (ad 13), .ref (ad 14), .ref (ad 15)])) := hR.1
                  refine pw_get F I_M hK.1 hP f58 rfl 4 (by decide) L_M_17 (fun _ z => z) rfl d_M_operation_237 ?_
                  refine lv_iload F.1 F.2.1 d_M_operation_240 (lv_at hl 1 rfl) ?_
                  have f59 : h54 (ad 2) = some (.inl (cs 0, 56, .inl (S56 2))) := hR.2.1 2 (by decide)
                  refine pw_ialdN F hK.1 hP 0 f59 rfl (k := 0 + f) (by omega) (by decide) d_M_operation_242 ?_
                  refine W.eq (g2 := F0 m 243 ls [.int (nI (z + 1))]) (by rw [show S56 2 (0 + f) = nI (z + 1) from by rw [t57]; exact sp_s]) ?_
                  exact pw_iret F hr hlk hP hA hK hS (by decide) (by decide) d_M_operation_243 (by have hgd := (show gdOperation S (nI f) dr 0 n from ⟨hin, by decide, by rw [hor]; exact c8, fun _ => b21, fun z9 => absurd z9 (by decide), fun z9 => absurd z9 (by decide)⟩); have hth : thOperation S (nI f) dr 0 n = 0 := (by unfold thOperation; rw [if_neg (fun z9 => z9 hgd), if_neg (fun z9 => z9.elim (fun z8 => z8.2 b29) (fun z8 => c32 (by rw [hor, hz] at z8; exact z8)))]); unfold stOperation rOperation; rw [if_pos hth, if_pos hth, hor, hz, tn_nI (by omega), nI_1]; rw [t57, t51, t44, t36] at hR; exact ⟨hR, rfl⟩)
                · skip
                  refine lv_iconst (v := 2) F.1 F.2.1 d_M_operation_169 (by decide) ?_
                  refine lv_goto (tgt := 174) F.1 F.2.1 d_M_operation_170 (by decide) ?_
                  refine pw_put F I_M ty_M k_M n_M hK.1 hP hS f6 rfl 0 (by decide) L_M_63 (fun _ z => z) rfl rfl rfl (Nat.le_of_ble_eq_true rfl) d_M_operation_174 (fun H locs hP hS => ?_)
                  have hP : pw D vwCl A (pu h o (.inr (7, (mfs ad S).set (mpos 0) (.int 2)))) H := hP
                  have hR := hR.num (show 0 < 6 by decide) 2
                  obtain ⟨h60, e61⟩ : ∃ z9 : pw_H, z9 = pu h o (.inr (7, (mfs ad S).set (mpos 0) (.int 2))) := ⟨_, rfl⟩
                  rw [← e61] at hP
                  obtain ⟨S62, t63⟩ : ∃ z9 : St, z9 = sp S 16 0 2 := ⟨_, rfl⟩
                  have hR : RM cs h60 o ad S62 := by rw [e61, t63]; exact hR
                  refine lv_aload_n F.1 F.2.1 d_M_operation_177 rfl (lv_at hl 2 rfl) ?_
                  have f64 : h60 o = some (.inr (7, [.int (S62 16 0), .int (S62 16 1), .ref (ad 0), .ref (ad 1), .ref (ad 2), .ref (ad 3), .ref (ad 4), .int (S62 16 2), .int (S62 16 3), .int (S62 16 4), .int (S62 16 5), .ref (ad 5), .ref (ad 6), .ref (ad 7), .ref (ad 8), .ref (ad 9), .ref (ad 10), .ref (ad 11), .ref (ad 12), .ref (ad 13), .ref (ad 14), .ref (ad 15)])) := hR.1
                  refine pw_get F I_M hK.1 hP f64 rfl 0 (by decide) L_M_63 (fun _ z => z) rfl d_M_operation_178 ?_
                  refine W.eq (g2 := F0 m 181 ls [.int 2]) (by rw [show S62 16 0 = 2 from by rw [t63]; exact sp_s]) ?_
                  refine lv_if_le (tgt := 186) F.1 F.2.1 d_M_operation_181 (by decide) (fun c65 => absurd c65 (by decide)) (fun c65 => ?_)
                  refine lv_iconst (v := 0) F.1 F.2.1 d_M_operation_184 (by decide) ?_
                  exact pw_iret F hr hlk hP hA hK hS (by decide) (by decide) d_M_operation_185 (by have hgd := (show gdOperation S (nI f) dr 0 n from ⟨hin, by decide, by rw [hor]; exact c8, fun _ => b21, fun z9 => absurd z9 (by decide), fun z9 => absurd z9 (by decide)⟩); have hth : thOperation S (nI f) dr 0 n = 2 := (by unfold thOperation; rw [if_neg (fun z9 => z9 hgd), if_pos (Or.inr (by rw [hor, hz]; exact c32))]); unfold stOperation rOperation; rw [hth, if_neg (by decide), if_neg (by decide)]; rw [t63] at hR; exact ⟨hR, rfl⟩)
              · skip
                refine W.eq (g2 := F0 m 154 ls [.int 0, .ref o]) (by rw [if_neg b29]) ?_
                refine lv_if_eq (tgt := 169) F.1 F.2.1 d_M_operation_154 (by decide) (fun c66 => ?_) (fun c66 => absurd (by decide) c66)
                refine lv_iconst (v := 2) F.1 F.2.1 d_M_operation_169 (by decide) ?_
                refine lv_goto (tgt := 174) F.1 F.2.1 d_M_operation_170 (by decide) ?_
                refine pw_put F I_M ty_M k_M n_M hK.1 hP hS f6 rfl 0 (by decide) L_M_63 (fun _ z => z) rfl rfl rfl (Nat.le_of_ble_eq_true rfl) d_M_operation_174 (fun H locs hP hS => ?_)
                have hP : pw D vwCl A (pu h o (.inr (7, (mfs ad S).set (mpos 0) (.int 2)))) H := hP
                have hR := hR.num (show 0 < 6 by decide) 2
                obtain ⟨h67, e68⟩ : ∃ z9 : pw_H, z9 = pu h o (.inr (7, (mfs ad S).set (mpos 0) (.int 2))) := ⟨_, rfl⟩
                rw [← e68] at hP
                obtain ⟨S69, t70⟩ : ∃ z9 : St, z9 = sp S 16 0 2 := ⟨_, rfl⟩
                have hR : RM cs h67 o ad S69 := by rw [e68, t70]; exact hR
                refine lv_aload_n F.1 F.2.1 d_M_operation_177 rfl (lv_at hl 2 rfl) ?_
                have f71 : h67 o = some (.inr (7, [.int (S69 16 0), .int (S69 16 1), .ref (ad 0), .ref (ad 1), .ref (ad 2), .ref (ad 3), .ref (ad 4), .int (S69 16 2), .int (S69 16 3), .int (S69 16 4), .int (S69 16 5), .ref (ad 5), .ref (ad 6), .ref (ad 7), .ref (ad 8), .ref (ad 9), .ref (ad 10), .ref (ad 11), .ref (ad 12), .ref (ad 13), .ref (ad 14), .ref (ad 15)])) := hR.1
                refine pw_get F I_M hK.1 hP f71 rfl 0 (by decide) L_M_63 (fun _ z => z) rfl d_M_operation_178 ?_
                refine W.eq (g2 := F0 m 181 ls [.int 2]) (by rw [show S69 16 0 = 2 from by rw [t70]; exact sp_s]) ?_
                refine lv_if_le (tgt := 186) F.1 F.2.1 d_M_operation_181 (by decide) (fun c72 => absurd c72 (by decide)) (fun c72 => ?_)
                refine lv_iconst (v := 0) F.1 F.2.1 d_M_operation_184 (by decide) ?_
                exact pw_iret F hr hlk hP hA hK hS (by decide) (by decide) d_M_operation_185 (by have hgd := (show gdOperation S (nI f) dr 0 n from ⟨hin, by decide, by rw [hor]; exact c8, fun _ => b21, fun z9 => absurd z9 (by decide), fun z9 => absurd z9 (by decide)⟩); have hth : thOperation S (nI f) dr 0 n = 2 := (by unfold thOperation; rw [if_neg (fun z9 => z9 hgd), if_pos (Or.inl ⟨c1, b29⟩)]); unfold stOperation rOperation; rw [hth, if_neg (by decide), if_neg (by decide)]; rw [t70] at hR; exact ⟨hR, rfl⟩)
            · skip
              refine W.eq (g2 := F0 m 80 ls [.int 0]) (by rw [if_neg b21]) ?_
              refine lv_istore F.1 F.2.1 d_M_operation_80 hl (by decide) rfl (fun ls hl => ?_)
              replace hl : lv_has ls 7 [(6, .int 0), (5, .int (nI (0 + f))), (0, .ref o), (1, .int (nI f)), (2, .int dr), (3, .int 0), (4, .int n)] := hl
              refine lv_iload F.1 F.2.1 d_M_operation_82 (lv_at hl 0 rfl) ?_
              refine lv_if_eq (tgt := 111) F.1 F.2.1 d_M_operation_84 (by decide) (fun c73 => ?_) (fun c73 => absurd (by decide) c73)
              refine lv_iload F.1 F.2.1 d_M_operation_111 (lv_at hl 0 rfl) ?_
              refine lv_if_eq (tgt := 136) F.1 F.2.1 d_M_operation_113 (by decide) (fun c74 => ?_) (fun c74 => absurd (by decide) c74)
              refine lv_aload_n F.1 F.2.1 d_M_operation_136 rfl (lv_at hl 2 rfl) ?_
              refine lv_iload F.1 F.2.1 d_M_operation_137 (lv_at hl 0 rfl) ?_
              refine lv_if_ne (tgt := 146) F.1 F.2.1 d_M_operation_139 (by decide) (fun c75 => absurd (by decide) c75) (fun c75 => ?_)
              refine lv_iconst (v := 1) F.1 F.2.1 d_M_operation_142 (by decide) ?_
              refine lv_goto (tgt := 174) F.1 F.2.1 d_M_operation_143 (by decide) ?_
              refine pw_put F I_M ty_M k_M n_M hK.1 hP hS f6 rfl 0 (by decide) L_M_63 (fun _ z => z) rfl rfl rfl (Nat.le_of_ble_eq_true rfl) d_M_operation_174 (fun H locs hP hS => ?_)
              have hP : pw D vwCl A (pu h o (.inr (7, (mfs ad S).set (mpos 0) (.int 1)))) H := hP
              have hR := hR.num (show 0 < 6 by decide) 1
              obtain ⟨h76, e77⟩ : ∃ z9 : pw_H, z9 = pu h o (.inr (7, (mfs ad S).set (mpos 0) (.int 1))) := ⟨_, rfl⟩
              rw [← e77] at hP
              obtain ⟨S78, t79⟩ : ∃ z9 : St, z9 = sp S 16 0 1 := ⟨_, rfl⟩
              have hR : RM cs h76 o ad S78 := by rw [e77, t79]; exact hR
              refine lv_aload_n F.1 F.2.1 d_M_operation_177 rfl (lv_at hl 2 rfl) ?_
              have f80 : h76 o = some (.inr (7, [.int (S78 16 0), .int (S78 16 1), .ref (ad 0), .ref (ad 1), .ref (ad 2), .ref (ad 3), .ref (ad 4), .int (S78 16 2), .int (S78 16 3), .int (S78 16 4), .int (S78 16 5), .ref (ad 5), .ref (ad 6), .ref (ad 7), .ref (ad 8), .ref (ad 9), .ref (ad 10), .ref (ad 11), .ref (ad 12), .ref (ad 13), .ref (ad 14), .ref (ad 15)])) := hR.1
              refine pw_get F I_M hK.1 hP f80 rfl 0 (by decide) L_M_63 (fun _ z => z) rfl d_M_operation_178 ?_
              refine W.eq (g2 := F0 m 181 ls [.int 1]) (by rw [show S78 16 0 = 1 from by rw [t79]; exact sp_s]) ?_
              refine lv_if_le (tgt := 186) F.1 F.2.1 d_M_operation_181 (by decide) (fun c81 => absurd c81 (by decide)) (fun c81 => ?_)
              refine lv_iconst (v := 0) F.1 F.2.1 d_M_operation_184 (by decide) ?_
              exact pw_iret F hr hlk hP hA hK hS (by decide) (by decide) d_M_operation_185 (by have hth : thOperation S (nI f) dr 0 n = 1 := (by unfold thOperation; rw [if_pos (show ¬ gdOperation S (nI f) dr 0 n from fun z9 => b21 (z9.2.2.2.1 rfl))]); unfold stOperation rOperation; rw [hth, if_neg (by decide), if_neg (by decide)]; rw [t79] at hR; exact ⟨hR, rfl⟩)
        · skip
          refine lv_iconst (v := 1) F.1 F.2.1 d_M_operation_33 (by decide) ?_
          refine lv_goto (tgt := 38) F.1 F.2.1 d_M_operation_34 (by decide) ?_
          refine lv_istore F.1 F.2.1 d_M_operation_38 hl (by decide) rfl (fun ls hl => ?_)
          replace hl : lv_has ls 7 [(6, .int 1), (5, .int (nI (0 + f))), (0, .ref o), (1, .int (nI f)), (2, .int dr), (3, .int 1), (4, .int n)] := hl
          refine lv_iload F.1 F.2.1 d_M_operation_40 (lv_at hl 0 rfl) ?_
          refine lv_if_eq (tgt := 59) F.1 F.2.1 d_M_operation_42 (by decide) (fun c82 => absurd c82 (by decide)) (fun c82 => ?_)
          refine lv_aload_n F.1 F.2.1 d_M_operation_45 rfl (lv_at hl 2 rfl) ?_
          have f83 : h o = some (.inr (7, [.int (S 16 0), .int (S 16 1), .ref (ad 0), .ref (ad 1), .ref (ad 2), .ref (ad 3), .ref (ad 4), .int (S 16 2), .int (S 16 3), .int (S 16 4), .int (S 16 5), .ref (ad 5), .ref (ad 6), .ref (ad 7), .ref (ad 8), .ref (ad 9), .ref (ad 10), .ref (ad 11), .ref (ad 12), .ref (ad 13), .ref (ad 14), .ref (ad 15)])) := hR.1
          refine pw_get F I_M hK.1 hP f83 rfl 2 (by decide) L_M_7 (fun _ z => z) rfl d_M_operation_46 ?_
          refine lv_iload F.1 F.2.1 d_M_operation_49 (lv_at hl 1 rfl) ?_
          have f84 : h (ad 0) = some (.inl (cs 1, 56, .inl (S 0))) := hR.2.1 0 (by decide)
          refine pw_zaldN F hK.1 hP 1 f84 rfl (k := 0 + f) (by omega) (by decide) d_M_operation_51 ?_
          refine lv_if_eq (tgt := 59) F.1 F.2.1 d_M_operation_52 (by decide) (fun c85 => ?_) (fun c85 => ?_)
          · skip
            refine lv_iconst (v := 0) F.1 F.2.1 d_M_operation_59 (by decide) ?_
            refine lv_istore F.1 F.2.1 d_M_operation_60 hl (by decide) rfl (fun ls hl => ?_)
            replace hl : lv_has ls 7 [(6, .int 0), (5, .int (nI (0 + f))), (0, .ref o), (1, .int (nI f)), (2, .int dr), (3, .int 1), (4, .int n)] := hl
            refine lv_iload F.1 F.2.1 d_M_operation_62 (lv_at hl 0 rfl) ?_
            refine lv_if_eq (tgt := 82) F.1 F.2.1 d_M_operation_64 (by decide) (fun c86 => ?_) (fun c86 => absurd (by decide) c86)
            refine lv_iload F.1 F.2.1 d_M_operation_82 (lv_at hl 0 rfl) ?_
            refine lv_if_eq (tgt := 111) F.1 F.2.1 d_M_operation_84 (by decide) (fun c87 => ?_) (fun c87 => absurd (by decide) c87)
            refine lv_iload F.1 F.2.1 d_M_operation_111 (lv_at hl 0 rfl) ?_
            refine lv_if_eq (tgt := 136) F.1 F.2.1 d_M_operation_113 (by decide) (fun c88 => ?_) (fun c88 => absurd (by decide) c88)
            refine lv_aload_n F.1 F.2.1 d_M_operation_136 rfl (lv_at hl 2 rfl) ?_
            refine lv_iload F.1 F.2.1 d_M_operation_137 (lv_at hl 0 rfl) ?_
            refine lv_if_ne (tgt := 146) F.1 F.2.1 d_M_operation_139 (by decide) (fun c89 => absurd (by decide) c89) (fun c89 => ?_)
            refine lv_iconst (v := 1) F.1 F.2.1 d_M_operation_142 (by decide) ?_
            refine lv_goto (tgt := 174) F.1 F.2.1 d_M_operation_143 (by decide) ?_
            refine pw_put F I_M ty_M k_M n_M hK.1 hP hS f83 rfl 0 (by decide) L_M_63 (fun _ z => z) rfl rfl rfl (Nat.le_of_ble_eq_true rfl) d_M_operation_174 (fun H locs hP hS => ?_)
            have hP : pw D vwCl A (pu h o (.inr (7, (mfs ad S).set (mpos 0) (.int 1)))) H := hP
            have hR := hR.num (show 0 < 6 by decide) 1
            obtain ⟨h90, e91⟩ : ∃ z9 : pw_H, z9 = pu h o (.inr (7, (mfs ad S).set (mpos 0) (.int 1))) := ⟨_, rfl⟩
            rw [← e91] at hP
            obtain ⟨S92, t93⟩ : ∃ z9 : St, z9 = sp S 16 0 1 := ⟨_, rfl⟩
            have hR : RM cs h90 o ad S92 := by rw [e91, t93]; exact hR
            refine lv_aload_n F.1 F.2.1 d_M_operation_177 rfl (lv_at hl 2 rfl) ?_
            have f94 : h90 o = some (.inr (7, [.int (S92 16 0), .int (S92 16 1), .ref (ad 0), .ref (ad 1), .ref (ad 2), .ref (ad 3), .ref (ad 4), .int (S92 16 2), .int (S92 16 3), .int (S92 16 4), .int (S92 16 5), .ref (ad 5), .ref (ad 6), .ref (ad 7), .ref (ad 8), .ref (ad 9), .ref (ad 10), .ref (ad 11), .ref (ad 12), .ref (ad 13), .ref (ad 14), .ref (ad 15)])) := hR.1
            refine pw_get F I_M hK.1 hP f94 rfl 0 (by decide) L_M_63 (fun _ z => z) rfl d_M_operation_178 ?_
            refine W.eq (g2 := F0 m 181 ls [.int 1]) (by rw [show S92 16 0 = 1 from by rw [t93]; exact sp_s]) ?_
            refine lv_if_le (tgt := 186) F.1 F.2.1 d_M_operation_181 (by decide) (fun c95 => absurd c95 (by decide)) (fun c95 => ?_)
            refine lv_iconst (v := 0) F.1 F.2.1 d_M_operation_184 (by decide) ?_
            exact pw_iret F hr hlk hP hA hK hS (by decide) (by decide) d_M_operation_185 (by have hth : thOperation S (nI f) dr 1 n = 1 := (by unfold thOperation; rw [if_pos (show ¬ gdOperation S (nI f) dr 1 n from fun z9 => z9.2.2.1 (by rw [oRow_0 hf c1]; exact c85))]); unfold stOperation rOperation; rw [hth, if_neg (by decide), if_neg (by decide)]; rw [t93] at hR; exact ⟨hR, rfl⟩)
          · skip
            obtain ⟨z, hz12, hz⟩ := hB (0 + f) (by omega) c85
            have hor : oRow (nI f) dr = 0 + f := oRow_0 hf c1
            refine lv_iconst (v := 1) F.1 F.2.1 d_M_operation_55 (by decide) ?_
            refine lv_goto (tgt := 60) F.1 F.2.1 d_M_operation_56 (by decide) ?_
            refine lv_istore F.1 F.2.1 d_M_operation_60 hl (by decide) rfl (fun ls hl => ?_)
            replace hl : lv_has ls 7 [(6, .int 1), (5, .int (nI (0 + f))), (0, .ref o), (1, .int (nI f)), (2, .int dr), (3, .int 1), (4, .int n)] := hl
            refine lv_iload F.1 F.2.1 d_M_operation_62 (lv_at hl 0 rfl) ?_
            refine lv_if_eq (tgt := 82) F.1 F.2.1 d_M_operation_64 (by decide) (fun c96 => absurd c96 (by decide)) (fun c96 => ?_)
            refine lv_iload_n F.1 F.2.1 d_M_operation_67 rfl (lv_at hl 5 rfl) ?_
            refine lv_if_ne (tgt := 82) F.1 F.2.1 d_M_operation_68 (by decide) (fun c97 => ?_) (fun c97 => absurd c97 (by decide))
            refine lv_iload F.1 F.2.1 d_M_operation_82 (lv_at hl 0 rfl) ?_
            refine lv_if_eq (tgt := 111) F.1 F.2.1 d_M_operation_84 (by decide) (fun c98 => absurd c98 (by decide)) (fun c98 => ?_)
            refine lv_iload_n F.1 F.2.1 d_M_operation_87 rfl (lv_at hl 5 rfl) ?_
            refine lv_iconst (v := 1) F.1 F.2.1 d_M_operation_88 (by decide) ?_
            refine lv_icmp_eq (tgt := 97) F.1 F.2.1 d_M_operation_89 (by decide) (fun c99 => ?_) (fun c99 => absurd (by decide) c99)
            refine lv_iload F.1 F.2.1 d_M_operation_97 (lv_at hl 6 rfl) ?_
            refine lv_iconst (v := 0) F.1 F.2.1 d_M_operation_99 (by decide) ?_
            refine lv_aload_n F.1 F.2.1 d_M_operation_100 rfl (lv_at hl 2 rfl) ?_
            refine pw_get F I_M hK.1 hP f83 rfl 1 (by decide) L_M_76 (fun _ z => z) rfl d_M_operation_101 ?_
            refine lv_iconst (v := 1) F.1 F.2.1 d_M_operation_104 (by decide) ?_
            refine lv_isub F.1 F.2.1 d_M_operation_105 ?_
            refine pw_ciE (pr_S F (c_M_inn l D cs A h n 0 ((S 16 1) - 1)) X_M_72 rfl rfl ⟨by decide, by decide⟩ hP hA hK hS rfl hl.1 rfl (Nat.le_of_ble_eq_true rfl) d_M_operation_106 ⟨by decide, by decide⟩) hS (fun H locs hP hS => ?_)
            by_cases b100 : 0 ≤ n ∧ n ≤ ((S 16 1) - 1)
            · skip
              refine W.eq (g2 := F0 m 109 ls [.int 1]) (by rw [if_pos b100]) ?_
              refine lv_istore F.1 F.2.1 d_M_operation_109 hl (by decide) rfl (fun ls hl => ?_)
              replace hl : lv_has ls 7 [(6, .int 1), (5, .int (nI (0 + f))), (0, .ref o), (1, .int (nI f)), (2, .int dr), (3, .int 1), (4, .int n)] := hl
              refine lv_iload F.1 F.2.1 d_M_operation_111 (lv_at hl 0 rfl) ?_
              refine lv_if_eq (tgt := 136) F.1 F.2.1 d_M_operation_113 (by decide) (fun c101 => absurd c101 (by decide)) (fun c101 => ?_)
              refine lv_iload_n F.1 F.2.1 d_M_operation_116 rfl (lv_at hl 5 rfl) ?_
              refine lv_iconst (v := 3) F.1 F.2.1 d_M_operation_117 (by decide) ?_
              refine lv_icmp_ne (tgt := 136) F.1 F.2.1 d_M_operation_118 (by decide) (fun c102 => ?_) (fun c102 => absurd c102 (by decide))
              refine lv_aload_n F.1 F.2.1 d_M_operation_136 rfl (lv_at hl 2 rfl) ?_
              refine lv_iload F.1 F.2.1 d_M_operation_137 (lv_at hl 0 rfl) ?_
              refine lv_if_ne (tgt := 146) F.1 F.2.1 d_M_operation_139 (by decide) (fun c103 => ?_) (fun c103 => absurd c103 (by decide))
              refine lv_iload_n F.1 F.2.1 d_M_operation_146 rfl (lv_at hl 4 rfl) ?_
              refine lv_if_ne (tgt := 157) F.1 F.2.1 d_M_operation_147 (by decide) (fun c104 => absurd c1 c104) (fun c104 => ?_)
              refine lv_aload_n F.1 F.2.1 d_M_operation_150 rfl (lv_at hl 2 rfl) ?_
              refine pw_ciE (pr_V F (c_M_fresh l D cs A h o ad S hR) X_M_79 rfl rfl ⟨by decide, by decide⟩ hP hA hK hS f83 rfl rfl rfl hl.1 rfl (Nat.le_of_ble_eq_true rfl) d_M_operation_151 ⟨by decide, by decide⟩) hS (fun H locs hP hS => ?_)
              by_cases b105 : mFresh S
              · skip
                refine W.eq (g2 := F0 m 154 ls [.int 1, .ref o]) (by rw [if_pos b105]) ?_
                refine lv_if_eq (tgt := 169) F.1 F.2.1 d_M_operation_154 (by decide) (fun c106 => absurd c106 (by decide)) (fun c106 => ?_)
                refine lv_aload_n F.1 F.2.1 d_M_operation_157 rfl (lv_at hl 2 rfl) ?_
                refine pw_get F I_M hK.1 hP f83 rfl 4 (by decide) L_M_17 (fun _ z => z) rfl d_M_operation_158 ?_
                refine lv_iload F.1 F.2.1 d_M_operation_161 (lv_at hl 1 rfl) ?_
                have f107 : h (ad 2) = some (.inl (cs 0, 56, .inl (S 2))) := hR.2.1 2 (by decide)
                refine pw_ialdN F hK.1 hP 0 f107 rfl (k := 0 + f) (by omega) (by decide) d_M_operation_163 ?_
                refine W.eq (g2 := F0 m 164 ls [.int (nI z), .ref o]) (by rw [hz]) ?_
                refine lv_bipush (v := 12) F.1 F.2.1 d_M_operation_164 (by decide) ?_
                refine lv_icmp_ne (tgt := 173) F.1 F.2.1 d_M_operation_166 (by decide) (fun c108 => ?_) (fun c108 => ?_)
                · skip
                  refine lv_iconst (v := 0) F.1 F.2.1 d_M_operation_173 (by decide) ?_
                  refine pw_put F I_M ty_M k_M n_M hK.1 hP hS f83 rfl 0 (by decide) L_M_63 (fun _ z => z) rfl rfl rfl (Nat.le_of_ble_eq_true rfl) d_M_operation_174 (fun H locs hP hS => ?_)
                  have hP : pw D vwCl A (pu h o (.inr (7, (mfs ad S).set (mpos 0) (.int 0)))) H := hP
                  have hR := hR.num (show 0 < 6 by decide) 0
                  obtain ⟨h109, e110⟩ : ∃ z9 : pw_H, z9 = pu h o (.inr (7, (mfs ad S).set (mpos 0) (.int 0))) := ⟨_, rfl⟩
                  rw [← e110] at hP
                  obtain ⟨S111, t112⟩ : ∃ z9 : St, z9 = sp S 16 0 0 := ⟨_, rfl⟩
                  have hR : RM cs h109 o ad S111 := by rw [e110, t112]; exact hR
                  refine lv_aload_n F.1 F.2.1 d_M_operation_177 rfl (lv_at hl 2 rfl) ?_
                  have f113 : h109 o = some (.inr (7, [.int (S111 16 0), .int (S111 16 1), .ref (ad 0), .ref (ad 1), .ref (ad 2), .ref (ad 3), .ref (ad 4), .int (S111 16 2), .int (S111 16 3), .int (S111 16 4), .int (S111 16 5), .ref (ad 5), .ref (ad 6), .ref (ad 7), .ref (ad 8), .ref (ad 9), .ref (ad 10), .ref (ad 11), .ref (ad 12), .ref (ad 13), .ref (ad 14), .ref (ad 15)])) := hR.1
                  refine pw_get F I_M hK.1 hP f113 rfl 0 (by decide) L_M_63 (fun _ z => z) rfl d_M_operation_178 ?_
                  refine W.eq (g2 := F0 m 181 ls [.int 0]) (by rw [show S111 16 0 = 0 from by rw [t112]; exact sp_s]) ?_
                  refine lv_if_le (tgt := 186) F.1 F.2.1 d_M_operation_181 (by decide) (fun c114 => ?_) (fun c114 => absurd (by decide) c114)
                  have hlt : z < 12 := by
                    rcases Nat.lt_or_ge z 12 with h9 | h9
                    · exact h9
                    · exact absurd (show nI z = 12 by rw [show z = 12 by omega]; rfl) c108
                  refine lv_aload_n F.1 F.2.1 d_M_operation_186 rfl (lv_at hl 2 rfl) ?_
                  refine pw_get F I_M hK.1 hP f113 rfl 5 (by decide) L_M_20 (fun _ z => z) rfl d_M_operation_187 ?_
                  refine lv_bipush (v := 12) F.1 F.2.1 d_M_operation_190 (by decide) ?_
                  refine lv_iload F.1 F.2.1 d_M_operation_192 (lv_at hl 1 rfl) ?_
                  refine lv_imul F.1 F.2.1 d_M_operation_194 ?_
                  refine W.eq (g2 := F0 m 195 ls [.int (nI (12 * (0 + f))), .ref (ad 3)]) (by rw [show (12 : Int32) = nI 12 from rfl, pk_mul]) ?_
                  refine lv_aload_n F.1 F.2.1 d_M_operation_195 rfl (lv_at hl 2 rfl) ?_
                  refine pw_get F I_M hK.1 hP f113 rfl 4 (by decide) L_M_17 (fun _ z => z) rfl d_M_operation_196 ?_
                  refine lv_iload F.1 F.2.1 d_M_operation_199 (lv_at hl 1 rfl) ?_
                  have f115 : h109 (ad 2) = some (.inl (cs 0, 56, .inl (S111 2))) := hR.2.1 2 (by decide)
                  refine pw_ialdN F hK.1 hP 0 f115 rfl (k := 0 + f) (by omega) (by decide) d_M_operation_201 ?_
                  refine W.eq (g2 := F0 m 202 ls [.int (nI z), .int (nI (12 * (0 + f))), .ref (ad 3)]) (by rw [show S111 2 (0 + f) = S 2 (0 + f) from by rw [t112]; exact sp_k (by decide), hz]) ?_
                  refine lv_iadd F.1 F.2.1 d_M_operation_202 ?_
                  refine W.eq (g2 := F0 m 203 ls [.int (nI ((12 * (0 + f)) + z)), .ref (ad 3)]) (by rw [nI_add]) ?_
                  refine lv_iload_n F.1 F.2.1 d_M_operation_203 rfl (lv_at hl 5 rfl) ?_
                  have f116 : h109 (ad 3) = some (.inl (cs 0, 672, .inl (S111 3))) := hR.2.1 3 (by decide)
                  refine pw_iastN F hK.1 hP hS 0 f116 rfl (k := (12 * (0 + f)) + z) (by omega) (by decide) d_M_operation_204 (fun H locs hP hS => ?_)
                  have hP : pw D vwCl A (pu h109 (ad 3) (.inl (cs 0, 672, .inl (upd (S111 3) ((12 * (0 + f)) + z) 1)))) H := hP
                  have hR := hR.arr (show 3 < 16 by decide) ((12 * (0 + f)) + z) 1
                  obtain ⟨h117, e118⟩ : ∃ z9 : pw_H, z9 = pu h109 (ad 3) (.inl (cs 0, 672, .inl (upd (S111 3) ((12 * (0 + f)) + z) 1))) := ⟨_, rfl⟩
                  rw [← e118] at hP
                  obtain ⟨S119, t120⟩ : ∃ z9 : St, z9 = sp S111 3 ((12 * (0 + f)) + z) 1 := ⟨_, rfl⟩
                  have hR : RM cs h117 o ad S119 := by rw [e118, t120]; exact hR
                  refine lv_aload_n F.1 F.2.1 d_M_operation_205 rfl (lv_at hl 2 rfl) ?_
                  have f121 : h117 o = some (.inr (7, [.int (S119 16 0), .int (S119 16 1), .ref (ad 0), .ref (ad 1), .ref (ad 2), .ref (ad 3), .ref (ad 4), .int (S119 16 2), .int (S119 16 3), .int (S119 16 4), .int (S119 16 5), .ref (ad 5), .ref (ad 6), .ref (ad 7), .ref (ad 8), .ref (ad 9), .ref (ad 10), .ref (ad 11), .ref (ad 12), .ref (ad 13), .ref (ad 14), .ref (ad 15)])) := hR.1
                  refine pw_get F I_M hK.1 hP f121 rfl 6 (by decide) L_M_23 (fun _ z => z) rfl d_M_operation_206 ?_
                  refine lv_bipush (v := 12) F.1 F.2.1 d_M_operation_209 (by decide) ?_
                  refine lv_iload F.1 F.2.1 d_M_operation_211 (lv_at hl 1 rfl) ?_
                  refine lv_imul F.1 F.2.1 d_M_operation_213 ?_
                  refine W.eq (g2 := F0 m 214 ls [.int (nI (12 * (0 + f))), .ref (ad 4)]) (by rw [show (12 : Int32) = nI 12 from rfl, pk_mul]) ?_
                  refine lv_aload_n F.1 F.2.1 d_M_operation_214 rfl (lv_at hl 2 rfl) ?_
                  refine pw_get F I_M hK.1 hP f121 rfl 4 (by decide) L_M_17 (fun _ z => z) rfl d_M_operation_215 ?_
                  refine lv_iload F.1 F.2.1 d_M_operation_218 (lv_at hl 1 rfl) ?_
                  have f122 : h117 (ad 2) = some (.inl (cs 0, 56, .inl (S119 2))) := hR.2.1 2 (by decide)
                  refine pw_ialdN F hK.1 hP 0 f122 rfl (k := 0 + f) (by omega) (by decide) d_M_operation_220 ?_
                  refine W.eq (g2 := F0 m 221 ls [.int (nI z), .int (nI (12 * (0 + f))), .ref (ad 4)]) (by rw [show S119 2 (0 + f) = S111 2 (0 + f) from by rw [t120]; exact sp_k (by decide), show S111 2 (0 + f) = S 2 (0 + f) from by rw [t112]; exact sp_k (by decide), hz]) ?_
                  refine lv_iadd F.1 F.2.1 d_M_operation_221 ?_
                  refine W.eq (g2 := F0 m 222 ls [.int (nI ((12 * (0 + f)) + z)), .ref (ad 4)]) (by rw [nI_add]) ?_
                  refine lv_iload F.1 F.2.1 d_M_operation_222 (lv_at hl 6 rfl) ?_
                  have f123 : h117 (ad 4) = some (.inl (cs 0, 672, .inl (S119 4))) := hR.2.1 4 (by decide)
                  refine pw_iastN F hK.1 hP hS 0 f123 rfl (k := (12 * (0 + f)) + z) (by omega) (by decide) d_M_operation_224 (fun H locs hP hS => ?_)
                  have hP : pw D vwCl A (pu h117 (ad 4) (.inl (cs 0, 672, .inl (upd (S119 4) ((12 * (0 + f)) + z) n)))) H := hP
                  have hR := hR.arr (show 4 < 16 by decide) ((12 * (0 + f)) + z) n
                  obtain ⟨h124, e125⟩ : ∃ z9 : pw_H, z9 = pu h117 (ad 4) (.inl (cs 0, 672, .inl (upd (S119 4) ((12 * (0 + f)) + z) n))) := ⟨_, rfl⟩
                  rw [← e125] at hP
                  obtain ⟨S126, t127⟩ : ∃ z9 : St, z9 = sp S119 4 ((12 * (0 + f)) + z) n := ⟨_, rfl⟩
                  have hR : RM cs h124 o ad S126 := by rw [e125, t127]; exact hR
                  refine lv_aload_n F.1 F.2.1 d_M_operation_225 rfl (lv_at hl 2 rfl) ?_
                  have f128 : h124 o = some (.inr (7, [.int (S126 16 0), .int (S126 16 1), .ref (ad 0), .ref (ad 1), .ref (ad 2), .ref (ad 3), .ref (ad 4), .int (S126 16 2), .int (S126 16 3), .int (S126 16 4), .int (S126 16 5), .ref (ad 5), .ref (ad 6), .ref (ad 7), .ref (ad 8), .ref (ad 9), .ref (ad 10), .ref (ad 11), .ref (ad 12), .ref (ad 13), .ref (ad 14), .ref (ad 15)])) := hR.1
                  refine pw_get F I_M hK.1 hP f128 rfl 4 (by decide) L_M_17 (fun _ z => z) rfl d_M_operation_226 ?_
                  refine lv_iload F.1 F.2.1 d_M_operation_229 (lv_at hl 1 rfl) ?_
                  refine lv_dup2_11 F.1 F.2.1 d_M_operation_231 rfl rfl ?_
                  have f129 : h124 (ad 2) = some (.inl (cs 0, 56, .inl (S126 2))) := hR.2.1 2 (by decide)
                  refine pw_ialdN F hK.1 hP 0 f129 rfl (k := 0 + f) (by omega) (by decide) d_M_operation_232 ?_
                  refine W.eq (g2 := F0 m 233 ls [.int (nI z), .int (nI (0 + f)), .ref (ad 2)]) (by rw [show S126 2 (0 + f) = S119 2 (0 + f) from by rw [t127]; exact sp_k (by decide), show S119 2 (0 + f) = S111 2 (0 + f) from by rw [t120]; exact sp_k (by decide), show S111 2 (0 + f) = S 2 (0 + f) from by rw [t112]; exact sp_k (by decide), hz]) ?_
                  refine lv_iconst (v := 1) F.1 F.2.1 d_M_operation_233 (by decide) ?_
                  refine lv_iadd F.1 F.2.1 d_M_operation_234 ?_
                  refine W.eq (g2 := F0 m 235 ls [.int (nI (z + 1)), .int (nI (0 + f)), .ref (ad 2)]) (by rw [show (1 : Int32) = nI 1 from rfl, nI_add]) ?_
                  refine pw_iastN F hK.1 hP hS 0 f129 rfl (k := 0 + f) (by omega) (by decide) d_M_operation_235 (fun H locs hP hS => ?_)
                  have hP : pw D vwCl A (pu h124 (ad 2) (.inl (cs 0, 56, .inl (upd (S126 2) (0 + f) (nI (z + 1)))))) H := hP
                  have hR := hR.arr (show 2 < 16 by decide) (0 + f) (nI (z + 1))
                  obtain ⟨h130, e131⟩ : ∃ z9 : pw_H, z9 = pu h124 (ad 2) (.inl (cs 0, 56, .inl (upd (S126 2) (0 + f) (nI (z + 1))))) := ⟨_, rfl⟩
                  rw [← e131] at hP
                  obtain ⟨S132, t133⟩ : ∃ z9 : St, z9 = sp S126 2 (0 + f) (nI (z + 1)) := ⟨_, rfl⟩
                  have hR : RM cs h130 o ad S132 := by rw [e131, t133]; exact hR
                  refine lv_aload_n F.1 F.2.1 d_M_operation_236 rfl (lv_at hl 2 rfl) ?_
                  have f134 : h130 o = some (.inr (7, [.int (S132 16 0), .int (S132 16 1), .ref (ad 0), .ref (ad 1), .ref (ad 2), .ref (ad 3), .ref (ad 4), .int (S132 16 2), .int (S132 16 3), .int (S132 16 4), .int (S132 16 5), .ref (ad 5), .ref (ad 6), .ref (ad 7), .ref (ad 8), .ref (ad 9), .ref (ad 10), .ref (ad 11), .ref (ad 12), .ref (ad 13), .ref (ad 14), .ref (ad 15)])) := hR.1
                  refine pw_get F I_M hK.1 hP f134 rfl 4 (by decide) L_M_17 (fun _ z => z) rfl d_M_operation_237 ?_
                  refine lv_iload F.1 F.2.1 d_M_operation_240 (lv_at hl 1 rfl) ?_
                  have f135 : h130 (ad 2) = some (.inl (cs 0, 56, .inl (S132 2))) := hR.2.1 2 (by decide)
                  refine pw_ialdN F hK.1 hP 0 f135 rfl (k := 0 + f) (by omega) (by decide) d_M_operation_242 ?_
                  refine W.eq (g2 := F0 m 243 ls [.int (nI (z + 1))]) (by rw [show S132 2 (0 + f) = nI (z + 1) from by rw [t133]; exact sp_s]) ?_
                  exact pw_iret F hr hlk hP hA hK hS (by decide) (by decide) d_M_operation_243 (by have hgd := (show gdOperation S (nI f) dr 1 n from ⟨hin, by decide, by rw [hor]; exact c85, fun z9 => absurd z9 (by decide), fun _ => b100, fun z9 => absurd z9 (by decide)⟩); have hth : thOperation S (nI f) dr 1 n = 0 := (by unfold thOperation; rw [if_neg (fun z9 => z9 hgd), if_neg (fun z9 => z9.elim (fun z8 => z8.2 b105) (fun z8 => c108 (by rw [hor, hz] at z8; exact z8)))]); unfold stOperation rOperation; rw [if_pos hth, if_pos hth, hor, hz, tn_nI (by omega), nI_1]; rw [t133, t127, t120, t112] at hR; exact ⟨hR, rfl⟩)
                · skip
                  refine lv_iconst (v := 2) F.1 F.2.1 d_M_operation_169 (by decide) ?_
                  refine lv_goto (tgt := 174) F.1 F.2.1 d_M_operation_170 (by decide) ?_
                  refine pw_put F I_M ty_M k_M n_M hK.1 hP hS f83 rfl 0 (by decide) L_M_63 (fun _ z => z) rfl rfl rfl (Nat.le_of_ble_eq_true rfl) d_M_operation_174 (fun H locs hP hS => ?_)
                  have hP : pw D vwCl A (pu h o (.inr (7, (mfs ad S).set (mpos 0) (.int 2)))) H := hP
                  have hR := hR.num (show 0 < 6 by decide) 2
                  obtain ⟨h136, e137⟩ : ∃ z9 : pw_H, z9 = pu h o (.inr (7, (mfs ad S).set (mpos 0) (.int 2))) := ⟨_, rfl⟩
                  rw [← e137] at hP
                  obtain ⟨S138, t139⟩ : ∃ z9 : St, z9 = sp S 16 0 2 := ⟨_, rfl⟩
                  have hR : RM cs h136 o ad S138 := by rw [e137, t139]; exact hR
                  refine lv_aload_n F.1 F.2.1 d_M_operation_177 rfl (lv_at hl 2 rfl) ?_
                  have f140 : h136 o = some (.inr (7, [.int (S138 16 0), .int (S138 16 1), .ref (ad 0), .ref (ad 1), .ref (ad 2), .ref (ad 3), .ref (ad 4), .int (S138 16 2), .int (S138 16 3), .int (S138 16 4), .int (S138 16 5), .ref (ad 5), .ref (ad 6), .ref (ad 7), .ref (ad 8), .ref (ad 9), .ref (ad 10), .ref (ad 11), .ref (ad 12), .ref (ad 13), .ref (ad 14), .ref (ad 15)])) := hR.1
                  refine pw_get F I_M hK.1 hP f140 rfl 0 (by decide) L_M_63 (fun _ z => z) rfl d_M_operation_178 ?_
                  refine W.eq (g2 := F0 m 181 ls [.int 2]) (by rw [show S138 16 0 = 2 from by rw [t139]; exact sp_s]) ?_
                  refine lv_if_le (tgt := 186) F.1 F.2.1 d_M_operation_181 (by decide) (fun c141 => absurd c141 (by decide)) (fun c141 => ?_)
                  refine lv_iconst (v := 0) F.1 F.2.1 d_M_operation_184 (by decide) ?_
                  exact pw_iret F hr hlk hP hA hK hS (by decide) (by decide) d_M_operation_185 (by have hgd := (show gdOperation S (nI f) dr 1 n from ⟨hin, by decide, by rw [hor]; exact c85, fun z9 => absurd z9 (by decide), fun _ => b100, fun z9 => absurd z9 (by decide)⟩); have hth : thOperation S (nI f) dr 1 n = 2 := (by unfold thOperation; rw [if_neg (fun z9 => z9 hgd), if_pos (Or.inr (by rw [hor, hz]; exact c108))]); unfold stOperation rOperation; rw [hth, if_neg (by decide), if_neg (by decide)]; rw [t139] at hR; exact ⟨hR, rfl⟩)
              · skip
                refine W.eq (g2 := F0 m 154 ls [.int 0, .ref o]) (by rw [if_neg b105]) ?_
                refine lv_if_eq (tgt := 169) F.1 F.2.1 d_M_operation_154 (by decide) (fun c142 => ?_) (fun c142 => absurd (by decide) c142)
                refine lv_iconst (v := 2) F.1 F.2.1 d_M_operation_169 (by decide) ?_
                refine lv_goto (tgt := 174) F.1 F.2.1 d_M_operation_170 (by decide) ?_
                refine pw_put F I_M ty_M k_M n_M hK.1 hP hS f83 rfl 0 (by decide) L_M_63 (fun _ z => z) rfl rfl rfl (Nat.le_of_ble_eq_true rfl) d_M_operation_174 (fun H locs hP hS => ?_)
                have hP : pw D vwCl A (pu h o (.inr (7, (mfs ad S).set (mpos 0) (.int 2)))) H := hP
                have hR := hR.num (show 0 < 6 by decide) 2
                obtain ⟨h143, e144⟩ : ∃ z9 : pw_H, z9 = pu h o (.inr (7, (mfs ad S).set (mpos 0) (.int 2))) := ⟨_, rfl⟩
                rw [← e144] at hP
                obtain ⟨S145, t146⟩ : ∃ z9 : St, z9 = sp S 16 0 2 := ⟨_, rfl⟩
                have hR : RM cs h143 o ad S145 := by rw [e144, t146]; exact hR
                refine lv_aload_n F.1 F.2.1 d_M_operation_177 rfl (lv_at hl 2 rfl) ?_
                have f147 : h143 o = some (.inr (7, [.int (S145 16 0), .int (S145 16 1), .ref (ad 0), .ref (ad 1), .ref (ad 2), .ref (ad 3), .ref (ad 4), .int (S145 16 2), .int (S145 16 3), .int (S145 16 4), .int (S145 16 5), .ref (ad 5), .ref (ad 6), .ref (ad 7), .ref (ad 8), .ref (ad 9), .ref (ad 10), .ref (ad 11), .ref (ad 12), .ref (ad 13), .ref (ad 14), .ref (ad 15)])) := hR.1
                refine pw_get F I_M hK.1 hP f147 rfl 0 (by decide) L_M_63 (fun _ z => z) rfl d_M_operation_178 ?_
                refine W.eq (g2 := F0 m 181 ls [.int 2]) (by rw [show S145 16 0 = 2 from by rw [t146]; exact sp_s]) ?_
                refine lv_if_le (tgt := 186) F.1 F.2.1 d_M_operation_181 (by decide) (fun c148 => absurd c148 (by decide)) (fun c148 => ?_)
                refine lv_iconst (v := 0) F.1 F.2.1 d_M_operation_184 (by decide) ?_
                exact pw_iret F hr hlk hP hA hK hS (by decide) (by decide) d_M_operation_185 (by have hgd := (show gdOperation S (nI f) dr 1 n from ⟨hin, by decide, by rw [hor]; exact c85, fun z9 => absurd z9 (by decide), fun _ => b100, fun z9 => absurd z9 (by decide)⟩); have hth : thOperation S (nI f) dr 1 n = 2 := (by unfold thOperation; rw [if_neg (fun z9 => z9 hgd), if_pos (Or.inl ⟨c1, b105⟩)]); unfold stOperation rOperation; rw [hth, if_neg (by decide), if_neg (by decide)]; rw [t146] at hR; exact ⟨hR, rfl⟩)
            · skip
              refine W.eq (g2 := F0 m 109 ls [.int 0]) (by rw [if_neg b100]) ?_
              refine lv_istore F.1 F.2.1 d_M_operation_109 hl (by decide) rfl (fun ls hl => ?_)
              replace hl : lv_has ls 7 [(6, .int 0), (5, .int (nI (0 + f))), (0, .ref o), (1, .int (nI f)), (2, .int dr), (3, .int 1), (4, .int n)] := hl
              refine lv_iload F.1 F.2.1 d_M_operation_111 (lv_at hl 0 rfl) ?_
              refine lv_if_eq (tgt := 136) F.1 F.2.1 d_M_operation_113 (by decide) (fun c149 => ?_) (fun c149 => absurd (by decide) c149)
              refine lv_aload_n F.1 F.2.1 d_M_operation_136 rfl (lv_at hl 2 rfl) ?_
              refine lv_iload F.1 F.2.1 d_M_operation_137 (lv_at hl 0 rfl) ?_
              refine lv_if_ne (tgt := 146) F.1 F.2.1 d_M_operation_139 (by decide) (fun c150 => absurd (by decide) c150) (fun c150 => ?_)
              refine lv_iconst (v := 1) F.1 F.2.1 d_M_operation_142 (by decide) ?_
              refine lv_goto (tgt := 174) F.1 F.2.1 d_M_operation_143 (by decide) ?_
              refine pw_put F I_M ty_M k_M n_M hK.1 hP hS f83 rfl 0 (by decide) L_M_63 (fun _ z => z) rfl rfl rfl (Nat.le_of_ble_eq_true rfl) d_M_operation_174 (fun H locs hP hS => ?_)
              have hP : pw D vwCl A (pu h o (.inr (7, (mfs ad S).set (mpos 0) (.int 1)))) H := hP
              have hR := hR.num (show 0 < 6 by decide) 1
              obtain ⟨h151, e152⟩ : ∃ z9 : pw_H, z9 = pu h o (.inr (7, (mfs ad S).set (mpos 0) (.int 1))) := ⟨_, rfl⟩
              rw [← e152] at hP
              obtain ⟨S153, t154⟩ : ∃ z9 : St, z9 = sp S 16 0 1 := ⟨_, rfl⟩
              have hR : RM cs h151 o ad S153 := by rw [e152, t154]; exact hR
              refine lv_aload_n F.1 F.2.1 d_M_operation_177 rfl (lv_at hl 2 rfl) ?_
              have f155 : h151 o = some (.inr (7, [.int (S153 16 0), .int (S153 16 1), .ref (ad 0), .ref (ad 1), .ref (ad 2), .ref (ad 3), .ref (ad 4), .int (S153 16 2), .int (S153 16 3), .int (S153 16 4), .int (S153 16 5), .ref (ad 5), .ref (ad 6), .ref (ad 7), .ref (ad 8), .ref (ad 9), .ref (ad 10), .ref (ad 11), .ref (ad 12), .ref (ad 13), .ref (ad 14), .ref (ad 15)])) := hR.1
              refine pw_get F I_M hK.1 hP f155 rfl 0 (by decide) L_M_63 (fun _ z => z) rfl d_M_operation_178 ?_
              refine W.eq (g2 := F0 m 181 ls [.int 1]) (by rw [show S153 16 0 = 1 from by rw [t154]; exact sp_s]) ?_
              refine lv_if_le (tgt := 186) F.1 F.2.1 d_M_operation_181 (by decide) (fun c156 => absurd c156 (by decide)) (fun c156 => ?_)
              refine lv_iconst (v := 0) F.1 F.2.1 d_M_operation_184 (by decide) ?_
              exact pw_iret F hr hlk hP hA hK hS (by decide) (by decide) d_M_operation_185 (by have hth : thOperation S (nI f) dr 1 n = 1 := (by unfold thOperation; rw [if_pos (show ¬ gdOperation S (nI f) dr 1 n from fun z9 => b100 (z9.2.2.2.2.1 (Or.inl rfl)))]); unfold stOperation rOperation; rw [hth, if_neg (by decide), if_neg (by decide)]; rw [t154] at hR; exact ⟨hR, rfl⟩)
        · skip
          refine lv_iconst (v := 1) F.1 F.2.1 d_M_operation_33 (by decide) ?_
          refine lv_goto (tgt := 38) F.1 F.2.1 d_M_operation_34 (by decide) ?_
          refine lv_istore F.1 F.2.1 d_M_operation_38 hl (by decide) rfl (fun ls hl => ?_)
          replace hl : lv_has ls 7 [(6, .int 1), (5, .int (nI (0 + f))), (0, .ref o), (1, .int (nI f)), (2, .int dr), (3, .int 2), (4, .int n)] := hl
          refine lv_iload F.1 F.2.1 d_M_operation_40 (lv_at hl 0 rfl) ?_
          refine lv_if_eq (tgt := 59) F.1 F.2.1 d_M_operation_42 (by decide) (fun c157 => absurd c157 (by decide)) (fun c157 => ?_)
          refine lv_aload_n F.1 F.2.1 d_M_operation_45 rfl (lv_at hl 2 rfl) ?_
          have f158 : h o = some (.inr (7, [.int (S 16 0), .int (S 16 1), .ref (ad 0), .ref (ad 1), .ref (ad 2), .ref (ad 3), .ref (ad 4), .int (S 16 2), .int (S 16 3), .int (S 16 4), .int (S 16 5), .ref (ad 5), .ref (ad 6), .ref (ad 7), .ref (ad 8), .ref (ad 9), .ref (ad 10), .ref (ad 11), .ref (ad 12), .ref (ad 13), .ref (ad 14), .ref (ad 15)])) := hR.1
          refine pw_get F I_M hK.1 hP f158 rfl 2 (by decide) L_M_7 (fun _ z => z) rfl d_M_operation_46 ?_
          refine lv_iload F.1 F.2.1 d_M_operation_49 (lv_at hl 1 rfl) ?_
          have f159 : h (ad 0) = some (.inl (cs 1, 56, .inl (S 0))) := hR.2.1 0 (by decide)
          refine pw_zaldN F hK.1 hP 1 f159 rfl (k := 0 + f) (by omega) (by decide) d_M_operation_51 ?_
          refine lv_if_eq (tgt := 59) F.1 F.2.1 d_M_operation_52 (by decide) (fun c160 => ?_) (fun c160 => ?_)
          · skip
            refine lv_iconst (v := 0) F.1 F.2.1 d_M_operation_59 (by decide) ?_
            refine lv_istore F.1 F.2.1 d_M_operation_60 hl (by decide) rfl (fun ls hl => ?_)
            replace hl : lv_has ls 7 [(6, .int 0), (5, .int (nI (0 + f))), (0, .ref o), (1, .int (nI f)), (2, .int dr), (3, .int 2), (4, .int n)] := hl
            refine lv_iload F.1 F.2.1 d_M_operation_62 (lv_at hl 0 rfl) ?_
            refine lv_if_eq (tgt := 82) F.1 F.2.1 d_M_operation_64 (by decide) (fun c161 => ?_) (fun c161 => absurd (by decide) c161)
            refine lv_iload F.1 F.2.1 d_M_operation_82 (lv_at hl 0 rfl) ?_
            refine lv_if_eq (tgt := 111) F.1 F.2.1 d_M_operation_84 (by decide) (fun c162 => ?_) (fun c162 => absurd (by decide) c162)
            refine lv_iload F.1 F.2.1 d_M_operation_111 (lv_at hl 0 rfl) ?_
            refine lv_if_eq (tgt := 136) F.1 F.2.1 d_M_operation_113 (by decide) (fun c163 => ?_) (fun c163 => absurd (by decide) c163)
            refine lv_aload_n F.1 F.2.1 d_M_operation_136 rfl (lv_at hl 2 rfl) ?_
            refine lv_iload F.1 F.2.1 d_M_operation_137 (lv_at hl 0 rfl) ?_
            refine lv_if_ne (tgt := 146) F.1 F.2.1 d_M_operation_139 (by decide) (fun c164 => absurd (by decide) c164) (fun c164 => ?_)
            refine lv_iconst (v := 1) F.1 F.2.1 d_M_operation_142 (by decide) ?_
            refine lv_goto (tgt := 174) F.1 F.2.1 d_M_operation_143 (by decide) ?_
            refine pw_put F I_M ty_M k_M n_M hK.1 hP hS f158 rfl 0 (by decide) L_M_63 (fun _ z => z) rfl rfl rfl (Nat.le_of_ble_eq_true rfl) d_M_operation_174 (fun H locs hP hS => ?_)
            have hP : pw D vwCl A (pu h o (.inr (7, (mfs ad S).set (mpos 0) (.int 1)))) H := hP
            have hR := hR.num (show 0 < 6 by decide) 1
            obtain ⟨h165, e166⟩ : ∃ z9 : pw_H, z9 = pu h o (.inr (7, (mfs ad S).set (mpos 0) (.int 1))) := ⟨_, rfl⟩
            rw [← e166] at hP
            obtain ⟨S167, t168⟩ : ∃ z9 : St, z9 = sp S 16 0 1 := ⟨_, rfl⟩
            have hR : RM cs h165 o ad S167 := by rw [e166, t168]; exact hR
            refine lv_aload_n F.1 F.2.1 d_M_operation_177 rfl (lv_at hl 2 rfl) ?_
            have f169 : h165 o = some (.inr (7, [.int (S167 16 0), .int (S167 16 1), .ref (ad 0), .ref (ad 1), .ref (ad 2), .ref (ad 3), .ref (ad 4), .int (S167 16 2), .int (S167 16 3), .int (S167 16 4), .int (S167 16 5), .ref (ad 5), .ref (ad 6), .ref (ad 7), .ref (ad 8), .ref (ad 9), .ref (ad 10), .ref (ad 11), .ref (ad 12), .ref (ad 13), .ref (ad 14), .ref (ad 15)])) := hR.1
            refine pw_get F I_M hK.1 hP f169 rfl 0 (by decide) L_M_63 (fun _ z => z) rfl d_M_operation_178 ?_
            refine W.eq (g2 := F0 m 181 ls [.int 1]) (by rw [show S167 16 0 = 1 from by rw [t168]; exact sp_s]) ?_
            refine lv_if_le (tgt := 186) F.1 F.2.1 d_M_operation_181 (by decide) (fun c170 => absurd c170 (by decide)) (fun c170 => ?_)
            refine lv_iconst (v := 0) F.1 F.2.1 d_M_operation_184 (by decide) ?_
            exact pw_iret F hr hlk hP hA hK hS (by decide) (by decide) d_M_operation_185 (by have hth : thOperation S (nI f) dr 2 n = 1 := (by unfold thOperation; rw [if_pos (show ¬ gdOperation S (nI f) dr 2 n from fun z9 => z9.2.2.1 (by rw [oRow_0 hf c1]; exact c160))]); unfold stOperation rOperation; rw [hth, if_neg (by decide), if_neg (by decide)]; rw [t168] at hR; exact ⟨hR, rfl⟩)
          · skip
            obtain ⟨z, hz12, hz⟩ := hB (0 + f) (by omega) c160
            have hor : oRow (nI f) dr = 0 + f := oRow_0 hf c1
            refine lv_iconst (v := 1) F.1 F.2.1 d_M_operation_55 (by decide) ?_
            refine lv_goto (tgt := 60) F.1 F.2.1 d_M_operation_56 (by decide) ?_
            refine lv_istore F.1 F.2.1 d_M_operation_60 hl (by decide) rfl (fun ls hl => ?_)
            replace hl : lv_has ls 7 [(6, .int 1), (5, .int (nI (0 + f))), (0, .ref o), (1, .int (nI f)), (2, .int dr), (3, .int 2), (4, .int n)] := hl
            refine lv_iload F.1 F.2.1 d_M_operation_62 (lv_at hl 0 rfl) ?_
            refine lv_if_eq (tgt := 82) F.1 F.2.1 d_M_operation_64 (by decide) (fun c171 => absurd c171 (by decide)) (fun c171 => ?_)
            refine lv_iload_n F.1 F.2.1 d_M_operation_67 rfl (lv_at hl 5 rfl) ?_
            refine lv_if_ne (tgt := 82) F.1 F.2.1 d_M_operation_68 (by decide) (fun c172 => ?_) (fun c172 => absurd c172 (by decide))
            refine lv_iload F.1 F.2.1 d_M_operation_82 (lv_at hl 0 rfl) ?_
            refine lv_if_eq (tgt := 111) F.1 F.2.1 d_M_operation_84 (by decide) (fun c173 => absurd c173 (by decide)) (fun c173 => ?_)
            refine lv_iload_n F.1 F.2.1 d_M_operation_87 rfl (lv_at hl 5 rfl) ?_
            refine lv_iconst (v := 1) F.1 F.2.1 d_M_operation_88 (by decide) ?_
            refine lv_icmp_eq (tgt := 97) F.1 F.2.1 d_M_operation_89 (by decide) (fun c174 => absurd c174 (by decide)) (fun c174 => ?_)
            refine lv_iload_n F.1 F.2.1 d_M_operation_92 rfl (lv_at hl 5 rfl) ?_
            refine lv_iconst (v := 5) F.1 F.2.1 d_M_operation_93 (by decide) ?_
            refine lv_icmp_ne (tgt := 111) F.1 F.2.1 d_M_operation_94 (by decide) (fun c175 => ?_) (fun c175 => absurd c175 (by decide))
            refine lv_iload F.1 F.2.1 d_M_operation_111 (lv_at hl 0 rfl) ?_
            refine lv_if_eq (tgt := 136) F.1 F.2.1 d_M_operation_113 (by decide) (fun c176 => absurd c176 (by decide)) (fun c176 => ?_)
            refine lv_iload_n F.1 F.2.1 d_M_operation_116 rfl (lv_at hl 5 rfl) ?_
            refine lv_iconst (v := 3) F.1 F.2.1 d_M_operation_117 (by decide) ?_
            refine lv_icmp_ne (tgt := 136) F.1 F.2.1 d_M_operation_118 (by decide) (fun c177 => ?_) (fun c177 => absurd c177 (by decide))
            refine lv_aload_n F.1 F.2.1 d_M_operation_136 rfl (lv_at hl 2 rfl) ?_
            refine lv_iload F.1 F.2.1 d_M_operation_137 (lv_at hl 0 rfl) ?_
            refine lv_if_ne (tgt := 146) F.1 F.2.1 d_M_operation_139 (by decide) (fun c178 => ?_) (fun c178 => absurd c178 (by decide))
            refine lv_iload_n F.1 F.2.1 d_M_operation_146 rfl (lv_at hl 4 rfl) ?_
            refine lv_if_ne (tgt := 157) F.1 F.2.1 d_M_operation_147 (by decide) (fun c179 => absurd c1 c179) (fun c179 => ?_)
            refine lv_aload_n F.1 F.2.1 d_M_operation_150 rfl (lv_at hl 2 rfl) ?_
            refine pw_ciE (pr_V F (c_M_fresh l D cs A h o ad S hR) X_M_79 rfl rfl ⟨by decide, by decide⟩ hP hA hK hS f158 rfl rfl rfl hl.1 rfl (Nat.le_of_ble_eq_true rfl) d_M_operation_151 ⟨by decide, by decide⟩) hS (fun H locs hP hS => ?_)
            by_cases b180 : mFresh S
            · skip
              refine W.eq (g2 := F0 m 154 ls [.int 1, .ref o]) (by rw [if_pos b180]) ?_
              refine lv_if_eq (tgt := 169) F.1 F.2.1 d_M_operation_154 (by decide) (fun c181 => absurd c181 (by decide)) (fun c181 => ?_)
              refine lv_aload_n F.1 F.2.1 d_M_operation_157 rfl (lv_at hl 2 rfl) ?_
              refine pw_get F I_M hK.1 hP f158 rfl 4 (by decide) L_M_17 (fun _ z => z) rfl d_M_operation_158 ?_
              refine lv_iload F.1 F.2.1 d_M_operation_161 (lv_at hl 1 rfl) ?_
              have f182 : h (ad 2) = some (.inl (cs 0, 56, .inl (S 2))) := hR.2.1 2 (by decide)
              refine pw_ialdN F hK.1 hP 0 f182 rfl (k := 0 + f) (by omega) (by decide) d_M_operation_163 ?_
              refine W.eq (g2 := F0 m 164 ls [.int (nI z), .ref o]) (by rw [hz]) ?_
              refine lv_bipush (v := 12) F.1 F.2.1 d_M_operation_164 (by decide) ?_
              refine lv_icmp_ne (tgt := 173) F.1 F.2.1 d_M_operation_166 (by decide) (fun c183 => ?_) (fun c183 => ?_)
              · skip
                refine lv_iconst (v := 0) F.1 F.2.1 d_M_operation_173 (by decide) ?_
                refine pw_put F I_M ty_M k_M n_M hK.1 hP hS f158 rfl 0 (by decide) L_M_63 (fun _ z => z) rfl rfl rfl (Nat.le_of_ble_eq_true rfl) d_M_operation_174 (fun H locs hP hS => ?_)
                have hP : pw D vwCl A (pu h o (.inr (7, (mfs ad S).set (mpos 0) (.int 0)))) H := hP
                have hR := hR.num (show 0 < 6 by decide) 0
                obtain ⟨h184, e185⟩ : ∃ z9 : pw_H, z9 = pu h o (.inr (7, (mfs ad S).set (mpos 0) (.int 0))) := ⟨_, rfl⟩
                rw [← e185] at hP
                obtain ⟨S186, t187⟩ : ∃ z9 : St, z9 = sp S 16 0 0 := ⟨_, rfl⟩
                have hR : RM cs h184 o ad S186 := by rw [e185, t187]; exact hR
                refine lv_aload_n F.1 F.2.1 d_M_operation_177 rfl (lv_at hl 2 rfl) ?_
                have f188 : h184 o = some (.inr (7, [.int (S186 16 0), .int (S186 16 1), .ref (ad 0), .ref (ad 1), .ref (ad 2), .ref (ad 3), .ref (ad 4), .int (S186 16 2), .int (S186 16 3), .int (S186 16 4), .int (S186 16 5), .ref (ad 5), .ref (ad 6), .ref (ad 7), .ref (ad 8), .ref (ad 9), .ref (ad 10), .ref (ad 11), .ref (ad 12), .ref (ad 13), .ref (ad 14), .ref (ad 15)])) := hR.1
                refine pw_get F I_M hK.1 hP f188 rfl 0 (by decide) L_M_63 (fun _ z => z) rfl d_M_operation_178 ?_
                refine W.eq (g2 := F0 m 181 ls [.int 0]) (by rw [show S186 16 0 = 0 from by rw [t187]; exact sp_s]) ?_
                refine lv_if_le (tgt := 186) F.1 F.2.1 d_M_operation_181 (by decide) (fun c189 => ?_) (fun c189 => absurd (by decide) c189)
                have hlt : z < 12 := by
                  rcases Nat.lt_or_ge z 12 with h9 | h9
                  · exact h9
                  · exact absurd (show nI z = 12 by rw [show z = 12 by omega]; rfl) c183
                refine lv_aload_n F.1 F.2.1 d_M_operation_186 rfl (lv_at hl 2 rfl) ?_
                refine pw_get F I_M hK.1 hP f188 rfl 5 (by decide) L_M_20 (fun _ z => z) rfl d_M_operation_187 ?_
                refine lv_bipush (v := 12) F.1 F.2.1 d_M_operation_190 (by decide) ?_
                refine lv_iload F.1 F.2.1 d_M_operation_192 (lv_at hl 1 rfl) ?_
                refine lv_imul F.1 F.2.1 d_M_operation_194 ?_
                refine W.eq (g2 := F0 m 195 ls [.int (nI (12 * (0 + f))), .ref (ad 3)]) (by rw [show (12 : Int32) = nI 12 from rfl, pk_mul]) ?_
                refine lv_aload_n F.1 F.2.1 d_M_operation_195 rfl (lv_at hl 2 rfl) ?_
                refine pw_get F I_M hK.1 hP f188 rfl 4 (by decide) L_M_17 (fun _ z => z) rfl d_M_operation_196 ?_
                refine lv_iload F.1 F.2.1 d_M_operation_199 (lv_at hl 1 rfl) ?_
                have f190 : h184 (ad 2) = some (.inl (cs 0, 56, .inl (S186 2))) := hR.2.1 2 (by decide)
                refine pw_ialdN F hK.1 hP 0 f190 rfl (k := 0 + f) (by omega) (by decide) d_M_operation_201 ?_
                refine W.eq (g2 := F0 m 202 ls [.int (nI z), .int (nI (12 * (0 + f))), .ref (ad 3)]) (by rw [show S186 2 (0 + f) = S 2 (0 + f) from by rw [t187]; exact sp_k (by decide), hz]) ?_
                refine lv_iadd F.1 F.2.1 d_M_operation_202 ?_
                refine W.eq (g2 := F0 m 203 ls [.int (nI ((12 * (0 + f)) + z)), .ref (ad 3)]) (by rw [nI_add]) ?_
                refine lv_iload_n F.1 F.2.1 d_M_operation_203 rfl (lv_at hl 5 rfl) ?_
                have f191 : h184 (ad 3) = some (.inl (cs 0, 672, .inl (S186 3))) := hR.2.1 3 (by decide)
                refine pw_iastN F hK.1 hP hS 0 f191 rfl (k := (12 * (0 + f)) + z) (by omega) (by decide) d_M_operation_204 (fun H locs hP hS => ?_)
                have hP : pw D vwCl A (pu h184 (ad 3) (.inl (cs 0, 672, .inl (upd (S186 3) ((12 * (0 + f)) + z) 2)))) H := hP
                have hR := hR.arr (show 3 < 16 by decide) ((12 * (0 + f)) + z) 2
                obtain ⟨h192, e193⟩ : ∃ z9 : pw_H, z9 = pu h184 (ad 3) (.inl (cs 0, 672, .inl (upd (S186 3) ((12 * (0 + f)) + z) 2))) := ⟨_, rfl⟩
                rw [← e193] at hP
                obtain ⟨S194, t195⟩ : ∃ z9 : St, z9 = sp S186 3 ((12 * (0 + f)) + z) 2 := ⟨_, rfl⟩
                have hR : RM cs h192 o ad S194 := by rw [e193, t195]; exact hR
                refine lv_aload_n F.1 F.2.1 d_M_operation_205 rfl (lv_at hl 2 rfl) ?_
                have f196 : h192 o = some (.inr (7, [.int (S194 16 0), .int (S194 16 1), .ref (ad 0), .ref (ad 1), .ref (ad 2), .ref (ad 3), .ref (ad 4), .int (S194 16 2), .int (S194 16 3), .int (S194 16 4), .int (S194 16 5), .ref (ad 5), .ref (ad 6), .ref (ad 7), .ref (ad 8), .ref (ad 9), .ref (ad 10), .ref (ad 11), .ref (ad 12), .ref (ad 13), .ref (ad 14), .ref (ad 15)])) := hR.1
                refine pw_get F I_M hK.1 hP f196 rfl 6 (by decide) L_M_23 (fun _ z => z) rfl d_M_operation_206 ?_
                refine lv_bipush (v := 12) F.1 F.2.1 d_M_operation_209 (by decide) ?_
                refine lv_iload F.1 F.2.1 d_M_operation_211 (lv_at hl 1 rfl) ?_
                refine lv_imul F.1 F.2.1 d_M_operation_213 ?_
                refine W.eq (g2 := F0 m 214 ls [.int (nI (12 * (0 + f))), .ref (ad 4)]) (by rw [show (12 : Int32) = nI 12 from rfl, pk_mul]) ?_
                refine lv_aload_n F.1 F.2.1 d_M_operation_214 rfl (lv_at hl 2 rfl) ?_
                refine pw_get F I_M hK.1 hP f196 rfl 4 (by decide) L_M_17 (fun _ z => z) rfl d_M_operation_215 ?_
                refine lv_iload F.1 F.2.1 d_M_operation_218 (lv_at hl 1 rfl) ?_
                have f197 : h192 (ad 2) = some (.inl (cs 0, 56, .inl (S194 2))) := hR.2.1 2 (by decide)
                refine pw_ialdN F hK.1 hP 0 f197 rfl (k := 0 + f) (by omega) (by decide) d_M_operation_220 ?_
                refine W.eq (g2 := F0 m 221 ls [.int (nI z), .int (nI (12 * (0 + f))), .ref (ad 4)]) (by rw [show S194 2 (0 + f) = S186 2 (0 + f) from by rw [t195]; exact sp_k (by decide), show S186 2 (0 + f) = S 2 (0 + f) from by rw [t187]; exact sp_k (by decide), hz]) ?_
                refine lv_iadd F.1 F.2.1 d_M_operation_221 ?_
                refine W.eq (g2 := F0 m 222 ls [.int (nI ((12 * (0 + f)) + z)), .ref (ad 4)]) (by rw [nI_add]) ?_
                refine lv_iload F.1 F.2.1 d_M_operation_222 (lv_at hl 6 rfl) ?_
                have f198 : h192 (ad 4) = some (.inl (cs 0, 672, .inl (S194 4))) := hR.2.1 4 (by decide)
                refine pw_iastN F hK.1 hP hS 0 f198 rfl (k := (12 * (0 + f)) + z) (by omega) (by decide) d_M_operation_224 (fun H locs hP hS => ?_)
                have hP : pw D vwCl A (pu h192 (ad 4) (.inl (cs 0, 672, .inl (upd (S194 4) ((12 * (0 + f)) + z) n)))) H := hP
                have hR := hR.arr (show 4 < 16 by decide) ((12 * (0 + f)) + z) n
                obtain ⟨h199, e200⟩ : ∃ z9 : pw_H, z9 = pu h192 (ad 4) (.inl (cs 0, 672, .inl (upd (S194 4) ((12 * (0 + f)) + z) n))) := ⟨_, rfl⟩
                rw [← e200] at hP
                obtain ⟨S201, t202⟩ : ∃ z9 : St, z9 = sp S194 4 ((12 * (0 + f)) + z) n := ⟨_, rfl⟩
                have hR : RM cs h199 o ad S201 := by rw [e200, t202]; exact hR
                refine lv_aload_n F.1 F.2.1 d_M_operation_225 rfl (lv_at hl 2 rfl) ?_
                have f203 : h199 o = some (.inr (7, [.int (S201 16 0), .int (S201 16 1), .ref (ad 0), .ref (ad 1), .ref (ad 2), .ref (ad 3), .ref (ad 4), .int (S201 16 2), .int (S201 16 3), .int (S201 16 4), .int (S201 16 5), .ref (ad 5), .ref (ad 6), .ref (ad 7), .ref (ad 8), .ref (ad 9), .ref (ad 10), .ref (ad 11), .ref (ad 12), .ref (ad 13), .ref (ad 14), .ref (ad 15)])) := hR.1
                refine pw_get F I_M hK.1 hP f203 rfl 4 (by decide) L_M_17 (fun _ z => z) rfl d_M_operation_226 ?_
                refine lv_iload F.1 F.2.1 d_M_operation_229 (lv_at hl 1 rfl) ?_
                refine lv_dup2_11 F.1 F.2.1 d_M_operation_231 rfl rfl ?_
                have f204 : h199 (ad 2) = some (.inl (cs 0, 56, .inl (S201 2))) := hR.2.1 2 (by decide)
                refine pw_ialdN F hK.1 hP 0 f204 rfl (k := 0 + f) (by omega) (by decide) d_M_operation_232 ?_
                refine W.eq (g2 := F0 m 233 ls [.int (nI z), .int (nI (0 + f)), .ref (ad 2)]) (by rw [show S201 2 (0 + f) = S194 2 (0 + f) from by rw [t202]; exact sp_k (by decide), show S194 2 (0 + f) = S186 2 (0 + f) from by rw [t195]; exact sp_k (by decide), show S186 2 (0 + f) = S 2 (0 + f) from by rw [t187]; exact sp_k (by decide), hz]) ?_
                refine lv_iconst (v := 1) F.1 F.2.1 d_M_operation_233 (by decide) ?_
                refine lv_iadd F.1 F.2.1 d_M_operation_234 ?_
                refine W.eq (g2 := F0 m 235 ls [.int (nI (z + 1)), .int (nI (0 + f)), .ref (ad 2)]) (by rw [show (1 : Int32) = nI 1 from rfl, nI_add]) ?_
                refine pw_iastN F hK.1 hP hS 0 f204 rfl (k := 0 + f) (by omega) (by decide) d_M_operation_235 (fun H locs hP hS => ?_)
                have hP : pw D vwCl A (pu h199 (ad 2) (.inl (cs 0, 56, .inl (upd (S201 2) (0 + f) (nI (z + 1)))))) H := hP
                have hR := hR.arr (show 2 < 16 by decide) (0 + f) (nI (z + 1))
                obtain ⟨h205, e206⟩ : ∃ z9 : pw_H, z9 = pu h199 (ad 2) (.inl (cs 0, 56, .inl (upd (S201 2) (0 + f) (nI (z + 1))))) := ⟨_, rfl⟩
                rw [← e206] at hP
                obtain ⟨S207, t208⟩ : ∃ z9 : St, z9 = sp S201 2 (0 + f) (nI (z + 1)) := ⟨_, rfl⟩
                have hR : RM cs h205 o ad S207 := by rw [e206, t208]; exact hR
                refine lv_aload_n F.1 F.2.1 d_M_operation_236 rfl (lv_at hl 2 rfl) ?_
                have f209 : h205 o = some (.inr (7, [.int (S207 16 0), .int (S207 16 1), .ref (ad 0), .ref (ad 1), .ref (ad 2), .ref (ad 3), .ref (ad 4), .int (S207 16 2), .int (S207 16 3), .int (S207 16 4), .int (S207 16 5), .ref (ad 5), .ref (ad 6), .ref (ad 7), .ref (ad 8), .ref (ad 9), .ref (ad 10), .ref (ad 11), .ref (ad 12), .ref (ad 13), .ref (ad 14), .ref (ad 15)])) := hR.1
                refine pw_get F I_M hK.1 hP f209 rfl 4 (by decide) L_M_17 (fun _ z => z) rfl d_M_operation_237 ?_
                refine lv_iload F.1 F.2.1 d_M_operation_240 (lv_at hl 1 rfl) ?_
                have f210 : h205 (ad 2) = some (.inl (cs 0, 56, .inl (S207 2))) := hR.2.1 2 (by decide)
                refine pw_ialdN F hK.1 hP 0 f210 rfl (k := 0 + f) (by omega) (by decide) d_M_operation_242 ?_
                refine W.eq (g2 := F0 m 243 ls [.int (nI (z + 1))]) (by rw [show S207 2 (0 + f) = nI (z + 1) from by rw [t208]; exact sp_s]) ?_
                exact pw_iret F hr hlk hP hA hK hS (by decide) (by decide) d_M_operation_243 (by have hgd := (show gdOperation S (nI f) dr 2 n from ⟨hin, by decide, by rw [hor]; exact c160, fun z9 => absurd z9 (by decide), fun z9 => absurd z9 (by decide), fun z9 => absurd z9 (by decide)⟩); have hth : thOperation S (nI f) dr 2 n = 0 := (by unfold thOperation; rw [if_neg (fun z9 => z9 hgd), if_neg (fun z9 => z9.elim (fun z8 => z8.2 b180) (fun z8 => c183 (by rw [hor, hz] at z8; exact z8)))]); unfold stOperation rOperation; rw [if_pos hth, if_pos hth, hor, hz, tn_nI (by omega), nI_1]; rw [t208, t202, t195, t187] at hR; exact ⟨hR, rfl⟩)
              · skip
                refine lv_iconst (v := 2) F.1 F.2.1 d_M_operation_169 (by decide) ?_
                refine lv_goto (tgt := 174) F.1 F.2.1 d_M_operation_170 (by decide) ?_
                refine pw_put F I_M ty_M k_M n_M hK.1 hP hS f158 rfl 0 (by decide) L_M_63 (fun _ z => z) rfl rfl rfl (Nat.le_of_ble_eq_true rfl) d_M_operation_174 (fun H locs hP hS => ?_)
                have hP : pw D vwCl A (pu h o (.inr (7, (mfs ad S).set (mpos 0) (.int 2)))) H := hP
                have hR := hR.num (show 0 < 6 by decide) 2
                obtain ⟨h211, e212⟩ : ∃ z9 : pw_H, z9 = pu h o (.inr (7, (mfs ad S).set (mpos 0) (.int 2))) := ⟨_, rfl⟩
                rw [← e212] at hP
                obtain ⟨S213, t214⟩ : ∃ z9 : St, z9 = sp S 16 0 2 := ⟨_, rfl⟩
                have hR : RM cs h211 o ad S213 := by rw [e212, t214]; exact hR
                refine lv_aload_n F.1 F.2.1 d_M_operation_177 rfl (lv_at hl 2 rfl) ?_
                have f215 : h211 o = some (.inr (7, [.int (S213 16 0), .int (S213 16 1), .ref (ad 0), .ref (ad 1), .ref (ad 2), .ref (ad 3), .ref (ad 4), .int (S213 16 2), .int (S213 16 3), .int (S213 16 4), .int (S213 16 5), .ref (ad 5), .ref (ad 6), .ref (ad 7), .ref (ad 8), .ref (ad 9), .ref (ad 10), .ref (ad 11), .ref (ad 12), .ref (ad 13), .ref (ad 14), .ref (ad 15)])) := hR.1
                refine pw_get F I_M hK.1 hP f215 rfl 0 (by decide) L_M_63 (fun _ z => z) rfl d_M_operation_178 ?_
                refine W.eq (g2 := F0 m 181 ls [.int 2]) (by rw [show S213 16 0 = 2 from by rw [t214]; exact sp_s]) ?_
                refine lv_if_le (tgt := 186) F.1 F.2.1 d_M_operation_181 (by decide) (fun c216 => absurd c216 (by decide)) (fun c216 => ?_)
                refine lv_iconst (v := 0) F.1 F.2.1 d_M_operation_184 (by decide) ?_
                exact pw_iret F hr hlk hP hA hK hS (by decide) (by decide) d_M_operation_185 (by have hgd := (show gdOperation S (nI f) dr 2 n from ⟨hin, by decide, by rw [hor]; exact c160, fun z9 => absurd z9 (by decide), fun z9 => absurd z9 (by decide), fun z9 => absurd z9 (by decide)⟩); have hth : thOperation S (nI f) dr 2 n = 2 := (by unfold thOperation; rw [if_neg (fun z9 => z9 hgd), if_pos (Or.inr (by rw [hor, hz]; exact c183))]); unfold stOperation rOperation; rw [hth, if_neg (by decide), if_neg (by decide)]; rw [t214] at hR; exact ⟨hR, rfl⟩)
            · skip
              refine W.eq (g2 := F0 m 154 ls [.int 0, .ref o]) (by rw [if_neg b180]) ?_
              refine lv_if_eq (tgt := 169) F.1 F.2.1 d_M_operation_154 (by decide) (fun c217 => ?_) (fun c217 => absurd (by decide) c217)
              refine lv_iconst (v := 2) F.1 F.2.1 d_M_operation_169 (by decide) ?_
              refine lv_goto (tgt := 174) F.1 F.2.1 d_M_operation_170 (by decide) ?_
              refine pw_put F I_M ty_M k_M n_M hK.1 hP hS f158 rfl 0 (by decide) L_M_63 (fun _ z => z) rfl rfl rfl (Nat.le_of_ble_eq_true rfl) d_M_operation_174 (fun H locs hP hS => ?_)
              have hP : pw D vwCl A (pu h o (.inr (7, (mfs ad S).set (mpos 0) (.int 2)))) H := hP
              have hR := hR.num (show 0 < 6 by decide) 2
              obtain ⟨h218, e219⟩ : ∃ z9 : pw_H, z9 = pu h o (.inr (7, (mfs ad S).set (mpos 0) (.int 2))) := ⟨_, rfl⟩
              rw [← e219] at hP
              obtain ⟨S220, t221⟩ : ∃ z9 : St, z9 = sp S 16 0 2 := ⟨_, rfl⟩
              have hR : RM cs h218 o ad S220 := by rw [e219, t221]; exact hR
              refine lv_aload_n F.1 F.2.1 d_M_operation_177 rfl (lv_at hl 2 rfl) ?_
              have f222 : h218 o = some (.inr (7, [.int (S220 16 0), .int (S220 16 1), .ref (ad 0), .ref (ad 1), .ref (ad 2), .ref (ad 3), .ref (ad 4), .int (S220 16 2), .int (S220 16 3), .int (S220 16 4), .int (S220 16 5), .ref (ad 5), .ref (ad 6), .ref (ad 7), .ref (ad 8), .ref (ad 9), .ref (ad 10), .ref (ad 11), .ref (ad 12), .ref (ad 13), .ref (ad 14), .ref (ad 15)])) := hR.1
              refine pw_get F I_M hK.1 hP f222 rfl 0 (by decide) L_M_63 (fun _ z => z) rfl d_M_operation_178 ?_
              refine W.eq (g2 := F0 m 181 ls [.int 2]) (by rw [show S220 16 0 = 2 from by rw [t221]; exact sp_s]) ?_
              refine lv_if_le (tgt := 186) F.1 F.2.1 d_M_operation_181 (by decide) (fun c223 => absurd c223 (by decide)) (fun c223 => ?_)
              refine lv_iconst (v := 0) F.1 F.2.1 d_M_operation_184 (by decide) ?_
              exact pw_iret F hr hlk hP hA hK hS (by decide) (by decide) d_M_operation_185 (by have hgd := (show gdOperation S (nI f) dr 2 n from ⟨hin, by decide, by rw [hor]; exact c160, fun z9 => absurd z9 (by decide), fun z9 => absurd z9 (by decide), fun z9 => absurd z9 (by decide)⟩); have hth : thOperation S (nI f) dr 2 n = 2 := (by unfold thOperation; rw [if_neg (fun z9 => z9 hgd), if_pos (Or.inl ⟨c1, b180⟩)]); unfold stOperation rOperation; rw [hth, if_neg (by decide), if_neg (by decide)]; rw [t221] at hR; exact ⟨hR, rfl⟩)
        · skip
          refine lv_iconst (v := 1) F.1 F.2.1 d_M_operation_33 (by decide) ?_
          refine lv_goto (tgt := 38) F.1 F.2.1 d_M_operation_34 (by decide) ?_
          refine lv_istore F.1 F.2.1 d_M_operation_38 hl (by decide) rfl (fun ls hl => ?_)
          replace hl : lv_has ls 7 [(6, .int 1), (5, .int (nI (0 + f))), (0, .ref o), (1, .int (nI f)), (2, .int dr), (3, .int 3), (4, .int n)] := hl
          refine lv_iload F.1 F.2.1 d_M_operation_40 (lv_at hl 0 rfl) ?_
          refine lv_if_eq (tgt := 59) F.1 F.2.1 d_M_operation_42 (by decide) (fun c224 => absurd c224 (by decide)) (fun c224 => ?_)
          refine lv_aload_n F.1 F.2.1 d_M_operation_45 rfl (lv_at hl 2 rfl) ?_
          have f225 : h o = some (.inr (7, [.int (S 16 0), .int (S 16 1), .ref (ad 0), .ref (ad 1), .ref (ad 2), .ref (ad 3), .ref (ad 4), .int (S 16 2), .int (S 16 3), .int (S 16 4), .int (S 16 5), .ref (ad 5), .ref (ad 6), .ref (ad 7), .ref (ad 8), .ref (ad 9), .ref (ad 10), .ref (ad 11), .ref (ad 12), .ref (ad 13), .ref (ad 14), .ref (ad 15)])) := hR.1
          refine pw_get F I_M hK.1 hP f225 rfl 2 (by decide) L_M_7 (fun _ z => z) rfl d_M_operation_46 ?_
          refine lv_iload F.1 F.2.1 d_M_operation_49 (lv_at hl 1 rfl) ?_
          have f226 : h (ad 0) = some (.inl (cs 1, 56, .inl (S 0))) := hR.2.1 0 (by decide)
          refine pw_zaldN F hK.1 hP 1 f226 rfl (k := 0 + f) (by omega) (by decide) d_M_operation_51 ?_
          refine lv_if_eq (tgt := 59) F.1 F.2.1 d_M_operation_52 (by decide) (fun c227 => ?_) (fun c227 => ?_)
          · skip
            refine lv_iconst (v := 0) F.1 F.2.1 d_M_operation_59 (by decide) ?_
            refine lv_istore F.1 F.2.1 d_M_operation_60 hl (by decide) rfl (fun ls hl => ?_)
            replace hl : lv_has ls 7 [(6, .int 0), (5, .int (nI (0 + f))), (0, .ref o), (1, .int (nI f)), (2, .int dr), (3, .int 3), (4, .int n)] := hl
            refine lv_iload F.1 F.2.1 d_M_operation_62 (lv_at hl 0 rfl) ?_
            refine lv_if_eq (tgt := 82) F.1 F.2.1 d_M_operation_64 (by decide) (fun c228 => ?_) (fun c228 => absurd (by decide) c228)
            refine lv_iload F.1 F.2.1 d_M_operation_82 (lv_at hl 0 rfl) ?_
            refine lv_if_eq (tgt := 111) F.1 F.2.1 d_M_operation_84 (by decide) (fun c229 => ?_) (fun c229 => absurd (by decide) c229)
            refine lv_iload F.1 F.2.1 d_M_operation_111 (lv_at hl 0 rfl) ?_
            refine lv_if_eq (tgt := 136) F.1 F.2.1 d_M_operation_113 (by decide) (fun c230 => ?_) (fun c230 => absurd (by decide) c230)
            refine lv_aload_n F.1 F.2.1 d_M_operation_136 rfl (lv_at hl 2 rfl) ?_
            refine lv_iload F.1 F.2.1 d_M_operation_137 (lv_at hl 0 rfl) ?_
            refine lv_if_ne (tgt := 146) F.1 F.2.1 d_M_operation_139 (by decide) (fun c231 => absurd (by decide) c231) (fun c231 => ?_)
            refine lv_iconst (v := 1) F.1 F.2.1 d_M_operation_142 (by decide) ?_
            refine lv_goto (tgt := 174) F.1 F.2.1 d_M_operation_143 (by decide) ?_
            refine pw_put F I_M ty_M k_M n_M hK.1 hP hS f225 rfl 0 (by decide) L_M_63 (fun _ z => z) rfl rfl rfl (Nat.le_of_ble_eq_true rfl) d_M_operation_174 (fun H locs hP hS => ?_)
            have hP : pw D vwCl A (pu h o (.inr (7, (mfs ad S).set (mpos 0) (.int 1)))) H := hP
            have hR := hR.num (show 0 < 6 by decide) 1
            obtain ⟨h232, e233⟩ : ∃ z9 : pw_H, z9 = pu h o (.inr (7, (mfs ad S).set (mpos 0) (.int 1))) := ⟨_, rfl⟩
            rw [← e233] at hP
            obtain ⟨S234, t235⟩ : ∃ z9 : St, z9 = sp S 16 0 1 := ⟨_, rfl⟩
            have hR : RM cs h232 o ad S234 := by rw [e233, t235]; exact hR
            refine lv_aload_n F.1 F.2.1 d_M_operation_177 rfl (lv_at hl 2 rfl) ?_
            have f236 : h232 o = some (.inr (7, [.int (S234 16 0), .int (S234 16 1), .ref (ad 0), .ref (ad 1), .ref (ad 2), .ref (ad 3), .ref (ad 4), .int (S234 16 2), .int (S234 16 3), .int (S234 16 4), .int (S234 16 5), .ref (ad 5), .ref (ad 6), .ref (ad 7), .ref (ad 8), .ref (ad 9), .ref (ad 10), .ref (ad 11), .ref (ad 12), .ref (ad 13), .ref (ad 14), .ref (ad 15)])) := hR.1
            refine pw_get F I_M hK.1 hP f236 rfl 0 (by decide) L_M_63 (fun _ z => z) rfl d_M_operation_178 ?_
            refine W.eq (g2 := F0 m 181 ls [.int 1]) (by rw [show S234 16 0 = 1 from by rw [t235]; exact sp_s]) ?_
            refine lv_if_le (tgt := 186) F.1 F.2.1 d_M_operation_181 (by decide) (fun c237 => absurd c237 (by decide)) (fun c237 => ?_)
            refine lv_iconst (v := 0) F.1 F.2.1 d_M_operation_184 (by decide) ?_
            exact pw_iret F hr hlk hP hA hK hS (by decide) (by decide) d_M_operation_185 (by have hth : thOperation S (nI f) dr 3 n = 1 := (by unfold thOperation; rw [if_pos (show ¬ gdOperation S (nI f) dr 3 n from fun z9 => z9.2.2.1 (by rw [oRow_0 hf c1]; exact c227))]); unfold stOperation rOperation; rw [hth, if_neg (by decide), if_neg (by decide)]; rw [t235] at hR; exact ⟨hR, rfl⟩)
          · skip
            obtain ⟨z, hz12, hz⟩ := hB (0 + f) (by omega) c227
            have hor : oRow (nI f) dr = 0 + f := oRow_0 hf c1
            refine lv_iconst (v := 1) F.1 F.2.1 d_M_operation_55 (by decide) ?_
            refine lv_goto (tgt := 60) F.1 F.2.1 d_M_operation_56 (by decide) ?_
            refine lv_istore F.1 F.2.1 d_M_operation_60 hl (by decide) rfl (fun ls hl => ?_)
            replace hl : lv_has ls 7 [(6, .int 1), (5, .int (nI (0 + f))), (0, .ref o), (1, .int (nI f)), (2, .int dr), (3, .int 3), (4, .int n)] := hl
            refine lv_iload F.1 F.2.1 d_M_operation_62 (lv_at hl 0 rfl) ?_
            refine lv_if_eq (tgt := 82) F.1 F.2.1 d_M_operation_64 (by decide) (fun c238 => absurd c238 (by decide)) (fun c238 => ?_)
            refine lv_iload_n F.1 F.2.1 d_M_operation_67 rfl (lv_at hl 5 rfl) ?_
            refine lv_if_ne (tgt := 82) F.1 F.2.1 d_M_operation_68 (by decide) (fun c239 => ?_) (fun c239 => absurd c239 (by decide))
            refine lv_iload F.1 F.2.1 d_M_operation_82 (lv_at hl 0 rfl) ?_
            refine lv_if_eq (tgt := 111) F.1 F.2.1 d_M_operation_84 (by decide) (fun c240 => absurd c240 (by decide)) (fun c240 => ?_)
            refine lv_iload_n F.1 F.2.1 d_M_operation_87 rfl (lv_at hl 5 rfl) ?_
            refine lv_iconst (v := 1) F.1 F.2.1 d_M_operation_88 (by decide) ?_
            refine lv_icmp_eq (tgt := 97) F.1 F.2.1 d_M_operation_89 (by decide) (fun c241 => absurd c241 (by decide)) (fun c241 => ?_)
            refine lv_iload_n F.1 F.2.1 d_M_operation_92 rfl (lv_at hl 5 rfl) ?_
            refine lv_iconst (v := 5) F.1 F.2.1 d_M_operation_93 (by decide) ?_
            refine lv_icmp_ne (tgt := 111) F.1 F.2.1 d_M_operation_94 (by decide) (fun c242 => ?_) (fun c242 => absurd c242 (by decide))
            refine lv_iload F.1 F.2.1 d_M_operation_111 (lv_at hl 0 rfl) ?_
            refine lv_if_eq (tgt := 136) F.1 F.2.1 d_M_operation_113 (by decide) (fun c243 => absurd c243 (by decide)) (fun c243 => ?_)
            refine lv_iload_n F.1 F.2.1 d_M_operation_116 rfl (lv_at hl 5 rfl) ?_
            refine lv_iconst (v := 3) F.1 F.2.1 d_M_operation_117 (by decide) ?_
            refine lv_icmp_ne (tgt := 136) F.1 F.2.1 d_M_operation_118 (by decide) (fun c244 => absurd (by decide) c244) (fun c244 => ?_)
            refine lv_iload F.1 F.2.1 d_M_operation_121 (lv_at hl 6 rfl) ?_
            refine lv_iconst (v := 0) F.1 F.2.1 d_M_operation_123 (by decide) ?_
            refine lv_aload_n F.1 F.2.1 d_M_operation_124 rfl (lv_at hl 2 rfl) ?_
            refine pw_get F I_M hK.1 hP f225 rfl 4 (by decide) L_M_17 (fun _ z => z) rfl d_M_operation_125 ?_
            refine lv_iload F.1 F.2.1 d_M_operation_128 (lv_at hl 1 rfl) ?_
            have f245 : h (ad 2) = some (.inl (cs 0, 56, .inl (S 2))) := hR.2.1 2 (by decide)
            refine pw_ialdN F hK.1 hP 0 f245 rfl (k := 0 + f) (by omega) (by decide) d_M_operation_130 ?_
            refine W.eq (g2 := F0 m 131 ls [.int (nI z), .int 0, .int n]) (by rw [hz]) ?_
            refine pw_ciE (pr_S F (c_M_inn l D cs A h n 0 (nI z)) X_M_72 rfl rfl ⟨by decide, by decide⟩ hP hA hK hS rfl hl.1 rfl (Nat.le_of_ble_eq_true rfl) d_M_operation_131 ⟨by decide, by decide⟩) hS (fun H locs hP hS => ?_)
            by_cases b246 : 0 ≤ n ∧ n ≤ (nI z)
            · skip
              refine W.eq (g2 := F0 m 134 ls [.int 1]) (by rw [if_pos b246]) ?_
              refine lv_istore F.1 F.2.1 d_M_operation_134 hl (by decide) rfl (fun ls hl => ?_)
              replace hl : lv_has ls 7 [(6, .int 1), (5, .int (nI (0 + f))), (0, .ref o), (1, .int (nI f)), (2, .int dr), (3, .int 3), (4, .int n)] := hl
              refine lv_aload_n F.1 F.2.1 d_M_operation_136 rfl (lv_at hl 2 rfl) ?_
              refine lv_iload F.1 F.2.1 d_M_operation_137 (lv_at hl 0 rfl) ?_
              refine lv_if_ne (tgt := 146) F.1 F.2.1 d_M_operation_139 (by decide) (fun c247 => ?_) (fun c247 => absurd c247 (by decide))
              refine lv_iload_n F.1 F.2.1 d_M_operation_146 rfl (lv_at hl 4 rfl) ?_
              refine lv_if_ne (tgt := 157) F.1 F.2.1 d_M_operation_147 (by decide) (fun c248 => absurd c1 c248) (fun c248 => ?_)
              refine lv_aload_n F.1 F.2.1 d_M_operation_150 rfl (lv_at hl 2 rfl) ?_
              refine pw_ciE (pr_V F (c_M_fresh l D cs A h o ad S hR) X_M_79 rfl rfl ⟨by decide, by decide⟩ hP hA hK hS f225 rfl rfl rfl hl.1 rfl (Nat.le_of_ble_eq_true rfl) d_M_operation_151 ⟨by decide, by decide⟩) hS (fun H locs hP hS => ?_)
              by_cases b249 : mFresh S
              · skip
                refine W.eq (g2 := F0 m 154 ls [.int 1, .ref o]) (by rw [if_pos b249]) ?_
                refine lv_if_eq (tgt := 169) F.1 F.2.1 d_M_operation_154 (by decide) (fun c250 => absurd c250 (by decide)) (fun c250 => ?_)
                refine lv_aload_n F.1 F.2.1 d_M_operation_157 rfl (lv_at hl 2 rfl) ?_
                refine pw_get F I_M hK.1 hP f225 rfl 4 (by decide) L_M_17 (fun _ z => z) rfl d_M_operation_158 ?_
                refine lv_iload F.1 F.2.1 d_M_operation_161 (lv_at hl 1 rfl) ?_
                refine pw_ialdN F hK.1 hP 0 f245 rfl (k := 0 + f) (by omega) (by decide) d_M_operation_163 ?_
                refine W.eq (g2 := F0 m 164 ls [.int (nI z), .ref o]) (by rw [hz]) ?_
                refine lv_bipush (v := 12) F.1 F.2.1 d_M_operation_164 (by decide) ?_
                refine lv_icmp_ne (tgt := 173) F.1 F.2.1 d_M_operation_166 (by decide) (fun c251 => ?_) (fun c251 => ?_)
                · skip
                  refine lv_iconst (v := 0) F.1 F.2.1 d_M_operation_173 (by decide) ?_
                  refine pw_put F I_M ty_M k_M n_M hK.1 hP hS f225 rfl 0 (by decide) L_M_63 (fun _ z => z) rfl rfl rfl (Nat.le_of_ble_eq_true rfl) d_M_operation_174 (fun H locs hP hS => ?_)
                  have hP : pw D vwCl A (pu h o (.inr (7, (mfs ad S).set (mpos 0) (.int 0)))) H := hP
                  have hR := hR.num (show 0 < 6 by decide) 0
                  obtain ⟨h252, e253⟩ : ∃ z9 : pw_H, z9 = pu h o (.inr (7, (mfs ad S).set (mpos 0) (.int 0))) := ⟨_, rfl⟩
                  rw [← e253] at hP
                  obtain ⟨S254, t255⟩ : ∃ z9 : St, z9 = sp S 16 0 0 := ⟨_, rfl⟩
                  have hR : RM cs h252 o ad S254 := by rw [e253, t255]; exact hR
                  refine lv_aload_n F.1 F.2.1 d_M_operation_177 rfl (lv_at hl 2 rfl) ?_
                  have f256 : h252 o = some (.inr (7, [.int (S254 16 0), .int (S254 16 1), .ref (ad 0), .ref (ad 1), .ref (ad 2), .ref (ad 3), .ref (ad 4), .int (S254 16 2), .int (S254 16 3), .int (S254 16 4), .int (S254 16 5), .ref (ad 5), .ref (ad 6), .ref (ad 7), .ref (ad 8), .ref (ad 9), .ref (ad 10), .ref (ad 11), .ref (ad 12), .ref (ad 13), .ref (ad 14), .ref (ad 15)])) := hR.1
                  refine pw_get F I_M hK.1 hP f256 rfl 0 (by decide) L_M_63 (fun _ z => z) rfl d_M_operation_178 ?_
                  refine W.eq (g2 := F0 m 181 ls [.int 0]) (by rw [show S254 16 0 = 0 from by rw [t255]; exact sp_s]) ?_
                  refine lv_if_le (tgt := 186) F.1 F.2.1 d_M_operation_181 (by decide) (fun c257 => ?_) (fun c257 => absurd (by decide) c257)
                  have hlt : z < 12 := by
                    rcases Nat.lt_or_ge z 12 with h9 | h9
                    · exact h9
                    · exact absurd (show nI z = 12 by rw [show z = 12 by omega]; rfl) c251
                  refine lv_aload_n F.1 F.2.1 d_M_operation_186 rfl (lv_at hl 2 rfl) ?_
                  refine pw_get F I_M hK.1 hP f256 rfl 5 (by decide) L_M_20 (fun _ z => z) rfl d_M_operation_187 ?_
                  refine lv_bipush (v := 12) F.1 F.2.1 d_M_operation_190 (by decide) ?_
                  refine lv_iload F.1 F.2.1 d_M_operation_192 (lv_at hl 1 rfl) ?_
                  refine lv_imul F.1 F.2.1 d_M_operation_194 ?_
                  refine W.eq (g2 := F0 m 195 ls [.int (nI (12 * (0 + f))), .ref (ad 3)]) (by rw [show (12 : Int32) = nI 12 from rfl, pk_mul]) ?_
                  refine lv_aload_n F.1 F.2.1 d_M_operation_195 rfl (lv_at hl 2 rfl) ?_
                  refine pw_get F I_M hK.1 hP f256 rfl 4 (by decide) L_M_17 (fun _ z => z) rfl d_M_operation_196 ?_
                  refine lv_iload F.1 F.2.1 d_M_operation_199 (lv_at hl 1 rfl) ?_
                  have f258 : h252 (ad 2) = some (.inl (cs 0, 56, .inl (S254 2))) := hR.2.1 2 (by decide)
                  refine pw_ialdN F hK.1 hP 0 f258 rfl (k := 0 + f) (by omega) (by decide) d_M_operation_201 ?_
                  refine W.eq (g2 := F0 m 202 ls [.int (nI z), .int (nI (12 * (0 + f))), .ref (ad 3)]) (by rw [show S254 2 (0 + f) = S 2 (0 + f) from by rw [t255]; exact sp_k (by decide), hz]) ?_
                  refine lv_iadd F.1 F.2.1 d_M_operation_202 ?_
                  refine W.eq (g2 := F0 m 203 ls [.int (nI ((12 * (0 + f)) + z)), .ref (ad 3)]) (by rw [nI_add]) ?_
                  refine lv_iload_n F.1 F.2.1 d_M_operation_203 rfl (lv_at hl 5 rfl) ?_
                  have f259 : h252 (ad 3) = some (.inl (cs 0, 672, .inl (S254 3))) := hR.2.1 3 (by decide)
                  refine pw_iastN F hK.1 hP hS 0 f259 rfl (k := (12 * (0 + f)) + z) (by omega) (by decide) d_M_operation_204 (fun H locs hP hS => ?_)
                  have hP : pw D vwCl A (pu h252 (ad 3) (.inl (cs 0, 672, .inl (upd (S254 3) ((12 * (0 + f)) + z) 3)))) H := hP
                  have hR := hR.arr (show 3 < 16 by decide) ((12 * (0 + f)) + z) 3
                  obtain ⟨h260, e261⟩ : ∃ z9 : pw_H, z9 = pu h252 (ad 3) (.inl (cs 0, 672, .inl (upd (S254 3) ((12 * (0 + f)) + z) 3))) := ⟨_, rfl⟩
                  rw [← e261] at hP
                  obtain ⟨S262, t263⟩ : ∃ z9 : St, z9 = sp S254 3 ((12 * (0 + f)) + z) 3 := ⟨_, rfl⟩
                  have hR : RM cs h260 o ad S262 := by rw [e261, t263]; exact hR
                  refine lv_aload_n F.1 F.2.1 d_M_operation_205 rfl (lv_at hl 2 rfl) ?_
                  have f264 : h260 o = some (.inr (7, [.int (S262 16 0), .int (S262 16 1), .ref (ad 0), .ref (ad 1), .ref (ad 2), .ref (ad 3), .ref (ad 4), .int (S262 16 2), .int (S262 16 3), .int (S262 16 4), .int (S262 16 5), .ref (ad 5), .ref (ad 6), .ref (ad 7), .ref (ad 8), .ref (ad 9), .ref (ad 10), .ref (ad 11), .ref (ad 12), .ref (ad 13), .ref (ad 14), .ref (ad 15)])) := hR.1
                  refine pw_get F I_M hK.1 hP f264 rfl 6 (by decide) L_M_23 (fun _ z => z) rfl d_M_operation_206 ?_
                  refine lv_bipush (v := 12) F.1 F.2.1 d_M_operation_209 (by decide) ?_
                  refine lv_iload F.1 F.2.1 d_M_operation_211 (lv_at hl 1 rfl) ?_
                  refine lv_imul F.1 F.2.1 d_M_operation_213 ?_
                  refine W.eq (g2 := F0 m 214 ls [.int (nI (12 * (0 + f))), .ref (ad 4)]) (by rw [show (12 : Int32) = nI 12 from rfl, pk_mul]) ?_
                  refine lv_aload_n F.1 F.2.1 d_M_operation_214 rfl (lv_at hl 2 rfl) ?_
                  refine pw_get F I_M hK.1 hP f264 rfl 4 (by decide) L_M_17 (fun _ z => z) rfl d_M_operation_215 ?_
                  refine lv_iload F.1 F.2.1 d_M_operation_218 (lv_at hl 1 rfl) ?_
                  have f265 : h260 (ad 2) = some (.inl (cs 0, 56, .inl (S262 2))) := hR.2.1 2 (by decide)
                  refine pw_ialdN F hK.1 hP 0 f265 rfl (k := 0 + f) (by omega) (by decide) d_M_operation_220 ?_
                  refine W.eq (g2 := F0 m 221 ls [.int (nI z), .int (nI (12 * (0 + f))), .ref (ad 4)]) (by rw [show S262 2 (0 + f) = S254 2 (0 + f) from by rw [t263]; exact sp_k (by decide), show S254 2 (0 + f) = S 2 (0 + f) from by rw [t255]; exact sp_k (by decide), hz]) ?_
                  refine lv_iadd F.1 F.2.1 d_M_operation_221 ?_
                  refine W.eq (g2 := F0 m 222 ls [.int (nI ((12 * (0 + f)) + z)), .ref (ad 4)]) (by rw [nI_add]) ?_
                  refine lv_iload F.1 F.2.1 d_M_operation_222 (lv_at hl 6 rfl) ?_
                  have f266 : h260 (ad 4) = some (.inl (cs 0, 672, .inl (S262 4))) := hR.2.1 4 (by decide)
                  refine pw_iastN F hK.1 hP hS 0 f266 rfl (k := (12 * (0 + f)) + z) (by omega) (by decide) d_M_operation_224 (fun H locs hP hS => ?_)
                  have hP : pw D vwCl A (pu h260 (ad 4) (.inl (cs 0, 672, .inl (upd (S262 4) ((12 * (0 + f)) + z) n)))) H := hP
                  have hR := hR.arr (show 4 < 16 by decide) ((12 * (0 + f)) + z) n
                  obtain ⟨h267, e268⟩ : ∃ z9 : pw_H, z9 = pu h260 (ad 4) (.inl (cs 0, 672, .inl (upd (S262 4) ((12 * (0 + f)) + z) n))) := ⟨_, rfl⟩
                  rw [← e268] at hP
                  obtain ⟨S269, t270⟩ : ∃ z9 : St, z9 = sp S262 4 ((12 * (0 + f)) + z) n := ⟨_, rfl⟩
                  have hR : RM cs h267 o ad S269 := by rw [e268, t270]; exact hR
                  refine lv_aload_n F.1 F.2.1 d_M_operation_225 rfl (lv_at hl 2 rfl) ?_
                  have f271 : h267 o = some (.inr (7, [.int (S269 16 0), .int (S269 16 1), .ref (ad 0), .ref (ad 1), .ref (ad 2), .ref (ad 3), .ref (ad 4), .int (S269 16 2), .int (S269 16 3), .int (S269 16 4), .int (S269 16 5), .ref (ad 5), .ref (ad 6), .ref (ad 7), .ref (ad 8), .ref (ad 9), .ref (ad 10), .ref (ad 11), .ref (ad 12), .ref (ad 13), .ref (ad 14), .ref (ad 15)])) := hR.1
                  refine pw_get F I_M hK.1 hP f271 rfl 4 (by decide) L_M_17 (fun _ z => z) rfl d_M_operation_226 ?_
                  refine lv_iload F.1 F.2.1 d_M_operation_229 (lv_at hl 1 rfl) ?_
                  refine lv_dup2_11 F.1 F.2.1 d_M_operation_231 rfl rfl ?_
                  have f272 : h267 (ad 2) = some (.inl (cs 0, 56, .inl (S269 2))) := hR.2.1 2 (by decide)
                  refine pw_ialdN F hK.1 hP 0 f272 rfl (k := 0 + f) (by omega) (by decide) d_M_operation_232 ?_
                  refine W.eq (g2 := F0 m 233 ls [.int (nI z), .int (nI (0 + f)), .ref (ad 2)]) (by rw [show S269 2 (0 + f) = S262 2 (0 + f) from by rw [t270]; exact sp_k (by decide), show S262 2 (0 + f) = S254 2 (0 + f) from by rw [t263]; exact sp_k (by decide), show S254 2 (0 + f) = S 2 (0 + f) from by rw [t255]; exact sp_k (by decide), hz]) ?_
                  refine lv_iconst (v := 1) F.1 F.2.1 d_M_operation_233 (by decide) ?_
                  refine lv_iadd F.1 F.2.1 d_M_operation_234 ?_
                  refine W.eq (g2 := F0 m 235 ls [.int (nI (z + 1)), .int (nI (0 + f)), .ref (ad 2)]) (by rw [show (1 : Int32) = nI 1 from rfl, nI_add]) ?_
                  refine pw_iastN F hK.1 hP hS 0 f272 rfl (k := 0 + f) (by omega) (by decide) d_M_operation_235 (fun H locs hP hS => ?_)
                  have hP : pw D vwCl A (pu h267 (ad 2) (.inl (cs 0, 56, .inl (upd (S269 2) (0 + f) (nI (z + 1)))))) H := hP
                  have hR := hR.arr (show 2 < 16 by decide) (0 + f) (nI (z + 1))
                  obtain ⟨h273, e274⟩ : ∃ z9 : pw_H, z9 = pu h267 (ad 2) (.inl (cs 0, 56, .inl (upd (S269 2) (0 + f) (nI (z + 1))))) := ⟨_, rfl⟩
                  rw [← e274] at hP
                  obtain ⟨S275, t276⟩ : ∃ z9 : St, z9 = sp S269 2 (0 + f) (nI (z + 1)) := ⟨_, rfl⟩
                  have hR : RM cs h273 o ad S275 := by rw [e274, t276]; exact hR
                  refine lv_aload_n F.1 F.2.1 d_M_operation_236 rfl (lv_at hl 2 rfl) ?_
                  have f277 : h273 o = some (.inr (7, [.int (S275 16 0), .int (S275 16 1), .ref (ad 0), .ref (ad 1), .ref (ad 2), .ref (ad 3), .ref (ad 4), .int (S275 16 2), .int (S275 16 3), .int (S275 16 4), .int (S275 16 5), .ref (ad 5), .ref (ad 6), .ref (ad 7), .ref (ad 8), .ref (ad 9), .ref (ad 10), .ref (ad 11), .ref (ad 12), .ref (ad 13), .ref (ad 14), .ref (ad 15)])) := hR.1
                  refine pw_get F I_M hK.1 hP f277 rfl 4 (by decide) L_M_17 (fun _ z => z) rfl d_M_operation_237 ?_
                  refine lv_iload F.1 F.2.1 d_M_operation_240 (lv_at hl 1 rfl) ?_
                  have f278 : h273 (ad 2) = some (.inl (cs 0, 56, .inl (S275 2))) := hR.2.1 2 (by decide)
                  refine pw_ialdN F hK.1 hP 0 f278 rfl (k := 0 + f) (by omega) (by decide) d_M_operation_242 ?_
                  refine W.eq (g2 := F0 m 243 ls [.int (nI (z + 1))]) (by rw [show S275 2 (0 + f) = nI (z + 1) from by rw [t276]; exact sp_s]) ?_
                  exact pw_iret F hr hlk hP hA hK hS (by decide) (by decide) d_M_operation_243 (by have hgd := (show gdOperation S (nI f) dr 3 n from ⟨hin, by decide, by rw [hor]; exact c227, fun z9 => absurd z9 (by decide), fun z9 => absurd z9 (by decide), fun _ => by rw [hor, hz]; exact b246⟩); have hth : thOperation S (nI f) dr 3 n = 0 := (by unfold thOperation; rw [if_neg (fun z9 => z9 hgd), if_neg (fun z9 => z9.elim (fun z8 => z8.2 b249) (fun z8 => c251 (by rw [hor, hz] at z8; exact z8)))]); unfold stOperation rOperation; rw [if_pos hth, if_pos hth, hor, hz, tn_nI (by omega), nI_1]; rw [t276, t270, t263, t255] at hR; exact ⟨hR, rfl⟩)
                · skip
                  refine lv_iconst (v := 2) F.1 F.2.1 d_M_operation_169 (by decide) ?_
                  refine lv_goto (tgt := 174) F.1 F.2.1 d_M_operation_170 (by decide) ?_
                  refine pw_put F I_M ty_M k_M n_M hK.1 hP hS f225 rfl 0 (by decide) L_M_63 (fun _ z => z) rfl rfl rfl (Nat.le_of_ble_eq_true rfl) d_M_operation_174 (fun H locs hP hS => ?_)
                  have hP : pw D vwCl A (pu h o (.inr (7, (mfs ad S).set (mpos 0) (.int 2)))) H := hP
                  have hR := hR.num (show 0 < 6 by decide) 2
                  obtain ⟨h279, e280⟩ : ∃ z9 : pw_H, z9 = pu h o (.inr (7, (mfs ad S).set (mpos 0) (.int 2))) := ⟨_, rfl⟩
                  rw [← e280] at hP
                  obtain ⟨S281, t282⟩ : ∃ z9 : St, z9 = sp S 16 0 2 := ⟨_, rfl⟩
                  have hR : RM cs h279 o ad S281 := by rw [e280, t282]; exact hR
                  refine lv_aload_n F.1 F.2.1 d_M_operation_177 rfl (lv_at hl 2 rfl) ?_
                  have f283 : h279 o = some (.inr (7, [.int (S281 16 0), .int (S281 16 1), .ref (ad 0), .ref (ad 1), .ref (ad 2), .ref (ad 3), .ref (ad 4), .int (S281 16 2), .int (S281 16 3), .int (S281 16 4), .int (S281 16 5), .ref (ad 5), .ref (ad 6), .ref (ad 7), .ref (ad 8), .ref (ad 9), .ref (ad 10), .ref (ad 11), .ref (ad 12), .ref (ad 13), .ref (ad 14), .ref (ad 15)])) := hR.1
                  refine pw_get F I_M hK.1 hP f283 rfl 0 (by decide) L_M_63 (fun _ z => z) rfl d_M_operation_178 ?_
                  refine W.eq (g2 := F0 m 181 ls [.int 2]) (by rw [show S281 16 0 = 2 from by rw [t282]; exact sp_s]) ?_
                  refine lv_if_le (tgt := 186) F.1 F.2.1 d_M_operation_181 (by decide) (fun c284 => absurd c284 (by decide)) (fun c284 => ?_)
                  refine lv_iconst (v := 0) F.1 F.2.1 d_M_operation_184 (by decide) ?_
                  exact pw_iret F hr hlk hP hA hK hS (by decide) (by decide) d_M_operation_185 (by have hgd := (show gdOperation S (nI f) dr 3 n from ⟨hin, by decide, by rw [hor]; exact c227, fun z9 => absurd z9 (by decide), fun z9 => absurd z9 (by decide), fun _ => by rw [hor, hz]; exact b246⟩); have hth : thOperation S (nI f) dr 3 n = 2 := (by unfold thOperation; rw [if_neg (fun z9 => z9 hgd), if_pos (Or.inr (by rw [hor, hz]; exact c251))]); unfold stOperation rOperation; rw [hth, if_neg (by decide), if_neg (by decide)]; rw [t282] at hR; exact ⟨hR, rfl⟩)
              · skip
                refine W.eq (g2 := F0 m 154 ls [.int 0, .ref o]) (by rw [if_neg b249]) ?_
                refine lv_if_eq (tgt := 169) F.1 F.2.1 d_M_operation_154 (by decide) (fun c285 => ?_) (fun c285 => absurd (by decide) c285)
                refine lv_iconst (v := 2) F.1 F.2.1 d_M_operation_169 (by decide) ?_
                refine lv_goto (tgt := 174) F.1 F.2.1 d_M_operation_170 (by decide) ?_
                refine pw_put F I_M ty_M k_M n_M hK.1 hP hS f225 rfl 0 (by decide) L_M_63 (fun _ z => z) rfl rfl rfl (Nat.le_of_ble_eq_true rfl) d_M_operation_174 (fun H locs hP hS => ?_)
                have hP : pw D vwCl A (pu h o (.inr (7, (mfs ad S).set (mpos 0) (.int 2)))) H := hP
                have hR := hR.num (show 0 < 6 by decide) 2
                obtain ⟨h286, e287⟩ : ∃ z9 : pw_H, z9 = pu h o (.inr (7, (mfs ad S).set (mpos 0) (.int 2))) := ⟨_, rfl⟩
                rw [← e287] at hP
                obtain ⟨S288, t289⟩ : ∃ z9 : St, z9 = sp S 16 0 2 := ⟨_, rfl⟩
                have hR : RM cs h286 o ad S288 := by rw [e287, t289]; exact hR
                refine lv_aload_n F.1 F.2.1 d_M_operation_177 rfl (lv_at hl 2 rfl) ?_
                have f290 : h286 o = some (.inr (7, [.int (S288 16 0), .int (S288 16 1), .ref (ad 0), .ref (ad 1), .ref (ad 2), .ref (ad 3), .ref (ad 4), .int (S288 16 2), .int (S288 16 3), .int (S288 16 4), .int (S288 16 5), .ref (ad 5), .ref (ad 6), .ref (ad 7), .ref (ad 8), .ref (ad 9), .ref (ad 10), .ref (ad 11), .ref (ad 12), .ref (ad 13), .ref (ad 14), .ref (ad 15)])) := hR.1
                refine pw_get F I_M hK.1 hP f290 rfl 0 (by decide) L_M_63 (fun _ z => z) rfl d_M_operation_178 ?_
                refine W.eq (g2 := F0 m 181 ls [.int 2]) (by rw [show S288 16 0 = 2 from by rw [t289]; exact sp_s]) ?_
                refine lv_if_le (tgt := 186) F.1 F.2.1 d_M_operation_181 (by decide) (fun c291 => absurd c291 (by decide)) (fun c291 => ?_)
                refine lv_iconst (v := 0) F.1 F.2.1 d_M_operation_184 (by decide) ?_
                exact pw_iret F hr hlk hP hA hK hS (by decide) (by decide) d_M_operation_185 (by have hgd := (show gdOperation S (nI f) dr 3 n from ⟨hin, by decide, by rw [hor]; exact c227, fun z9 => absurd z9 (by decide), fun z9 => absurd z9 (by decide), fun _ => by rw [hor, hz]; exact b246⟩); have hth : thOperation S (nI f) dr 3 n = 2 := (by unfold thOperation; rw [if_neg (fun z9 => z9 hgd), if_pos (Or.inl ⟨c1, b249⟩)]); unfold stOperation rOperation; rw [hth, if_neg (by decide), if_neg (by decide)]; rw [t289] at hR; exact ⟨hR, rfl⟩)
            · skip
              refine W.eq (g2 := F0 m 134 ls [.int 0]) (by rw [if_neg b246]) ?_
              refine lv_istore F.1 F.2.1 d_M_operation_134 hl (by decide) rfl (fun ls hl => ?_)
              replace hl : lv_has ls 7 [(6, .int 0), (5, .int (nI (0 + f))), (0, .ref o), (1, .int (nI f)), (2, .int dr), (3, .int 3), (4, .int n)] := hl
              refine lv_aload_n F.1 F.2.1 d_M_operation_136 rfl (lv_at hl 2 rfl) ?_
              refine lv_iload F.1 F.2.1 d_M_operation_137 (lv_at hl 0 rfl) ?_
              refine lv_if_ne (tgt := 146) F.1 F.2.1 d_M_operation_139 (by decide) (fun c292 => absurd (by decide) c292) (fun c292 => ?_)
              refine lv_iconst (v := 1) F.1 F.2.1 d_M_operation_142 (by decide) ?_
              refine lv_goto (tgt := 174) F.1 F.2.1 d_M_operation_143 (by decide) ?_
              refine pw_put F I_M ty_M k_M n_M hK.1 hP hS f225 rfl 0 (by decide) L_M_63 (fun _ z => z) rfl rfl rfl (Nat.le_of_ble_eq_true rfl) d_M_operation_174 (fun H locs hP hS => ?_)
              have hP : pw D vwCl A (pu h o (.inr (7, (mfs ad S).set (mpos 0) (.int 1)))) H := hP
              have hR := hR.num (show 0 < 6 by decide) 1
              obtain ⟨h293, e294⟩ : ∃ z9 : pw_H, z9 = pu h o (.inr (7, (mfs ad S).set (mpos 0) (.int 1))) := ⟨_, rfl⟩
              rw [← e294] at hP
              obtain ⟨S295, t296⟩ : ∃ z9 : St, z9 = sp S 16 0 1 := ⟨_, rfl⟩
              have hR : RM cs h293 o ad S295 := by rw [e294, t296]; exact hR
              refine lv_aload_n F.1 F.2.1 d_M_operation_177 rfl (lv_at hl 2 rfl) ?_
              have f297 : h293 o = some (.inr (7, [.int (S295 16 0), .int (S295 16 1), .ref (ad 0), .ref (ad 1), .ref (ad 2), .ref (ad 3), .ref (ad 4), .int (S295 16 2), .int (S295 16 3), .int (S295 16 4), .int (S295 16 5), .ref (ad 5), .ref (ad 6), .ref (ad 7), .ref (ad 8), .ref (ad 9), .ref (ad 10), .ref (ad 11), .ref (ad 12), .ref (ad 13), .ref (ad 14), .ref (ad 15)])) := hR.1
              refine pw_get F I_M hK.1 hP f297 rfl 0 (by decide) L_M_63 (fun _ z => z) rfl d_M_operation_178 ?_
              refine W.eq (g2 := F0 m 181 ls [.int 1]) (by rw [show S295 16 0 = 1 from by rw [t296]; exact sp_s]) ?_
              refine lv_if_le (tgt := 186) F.1 F.2.1 d_M_operation_181 (by decide) (fun c298 => absurd c298 (by decide)) (fun c298 => ?_)
              refine lv_iconst (v := 0) F.1 F.2.1 d_M_operation_184 (by decide) ?_
              exact pw_iret F hr hlk hP hA hK hS (by decide) (by decide) d_M_operation_185 (by have hth : thOperation S (nI f) dr 3 n = 1 := (by unfold thOperation; rw [if_pos (show ¬ gdOperation S (nI f) dr 3 n from fun z9 => b246 ((by have h9 := z9.2.2.2.2.2 rfl; rw [hor, hz] at h9; exact h9)))]); unfold stOperation rOperation; rw [hth, if_neg (by decide), if_neg (by decide)]; rw [t296] at hR; exact ⟨hR, rfl⟩)
        · skip
          refine lv_iconst (v := 1) F.1 F.2.1 d_M_operation_33 (by decide) ?_
          refine lv_goto (tgt := 38) F.1 F.2.1 d_M_operation_34 (by decide) ?_
          refine lv_istore F.1 F.2.1 d_M_operation_38 hl (by decide) rfl (fun ls hl => ?_)
          replace hl : lv_has ls 7 [(6, .int 1), (5, .int (nI (0 + f))), (0, .ref o), (1, .int (nI f)), (2, .int dr), (3, .int 4), (4, .int n)] := hl
          refine lv_iload F.1 F.2.1 d_M_operation_40 (lv_at hl 0 rfl) ?_
          refine lv_if_eq (tgt := 59) F.1 F.2.1 d_M_operation_42 (by decide) (fun c299 => absurd c299 (by decide)) (fun c299 => ?_)
          refine lv_aload_n F.1 F.2.1 d_M_operation_45 rfl (lv_at hl 2 rfl) ?_
          have f300 : h o = some (.inr (7, [.int (S 16 0), .int (S 16 1), .ref (ad 0), .ref (ad 1), .ref (ad 2), .ref (ad 3), .ref (ad 4), .int (S 16 2), .int (S 16 3), .int (S 16 4), .int (S 16 5), .ref (ad 5), .ref (ad 6), .ref (ad 7), .ref (ad 8), .ref (ad 9), .ref (ad 10), .ref (ad 11), .ref (ad 12), .ref (ad 13), .ref (ad 14), .ref (ad 15)])) := hR.1
          refine pw_get F I_M hK.1 hP f300 rfl 2 (by decide) L_M_7 (fun _ z => z) rfl d_M_operation_46 ?_
          refine lv_iload F.1 F.2.1 d_M_operation_49 (lv_at hl 1 rfl) ?_
          have f301 : h (ad 0) = some (.inl (cs 1, 56, .inl (S 0))) := hR.2.1 0 (by decide)
          refine pw_zaldN F hK.1 hP 1 f301 rfl (k := 0 + f) (by omega) (by decide) d_M_operation_51 ?_
          refine lv_if_eq (tgt := 59) F.1 F.2.1 d_M_operation_52 (by decide) (fun c302 => ?_) (fun c302 => ?_)
          · skip
            refine lv_iconst (v := 0) F.1 F.2.1 d_M_operation_59 (by decide) ?_
            refine lv_istore F.1 F.2.1 d_M_operation_60 hl (by decide) rfl (fun ls hl => ?_)
            replace hl : lv_has ls 7 [(6, .int 0), (5, .int (nI (0 + f))), (0, .ref o), (1, .int (nI f)), (2, .int dr), (3, .int 4), (4, .int n)] := hl
            refine lv_iload F.1 F.2.1 d_M_operation_62 (lv_at hl 0 rfl) ?_
            refine lv_if_eq (tgt := 82) F.1 F.2.1 d_M_operation_64 (by decide) (fun c303 => ?_) (fun c303 => absurd (by decide) c303)
            refine lv_iload F.1 F.2.1 d_M_operation_82 (lv_at hl 0 rfl) ?_
            refine lv_if_eq (tgt := 111) F.1 F.2.1 d_M_operation_84 (by decide) (fun c304 => ?_) (fun c304 => absurd (by decide) c304)
            refine lv_iload F.1 F.2.1 d_M_operation_111 (lv_at hl 0 rfl) ?_
            refine lv_if_eq (tgt := 136) F.1 F.2.1 d_M_operation_113 (by decide) (fun c305 => ?_) (fun c305 => absurd (by decide) c305)
            refine lv_aload_n F.1 F.2.1 d_M_operation_136 rfl (lv_at hl 2 rfl) ?_
            refine lv_iload F.1 F.2.1 d_M_operation_137 (lv_at hl 0 rfl) ?_
            refine lv_if_ne (tgt := 146) F.1 F.2.1 d_M_operation_139 (by decide) (fun c306 => absurd (by decide) c306) (fun c306 => ?_)
            refine lv_iconst (v := 1) F.1 F.2.1 d_M_operation_142 (by decide) ?_
            refine lv_goto (tgt := 174) F.1 F.2.1 d_M_operation_143 (by decide) ?_
            refine pw_put F I_M ty_M k_M n_M hK.1 hP hS f300 rfl 0 (by decide) L_M_63 (fun _ z => z) rfl rfl rfl (Nat.le_of_ble_eq_true rfl) d_M_operation_174 (fun H locs hP hS => ?_)
            have hP : pw D vwCl A (pu h o (.inr (7, (mfs ad S).set (mpos 0) (.int 1)))) H := hP
            have hR := hR.num (show 0 < 6 by decide) 1
            obtain ⟨h307, e308⟩ : ∃ z9 : pw_H, z9 = pu h o (.inr (7, (mfs ad S).set (mpos 0) (.int 1))) := ⟨_, rfl⟩
            rw [← e308] at hP
            obtain ⟨S309, t310⟩ : ∃ z9 : St, z9 = sp S 16 0 1 := ⟨_, rfl⟩
            have hR : RM cs h307 o ad S309 := by rw [e308, t310]; exact hR
            refine lv_aload_n F.1 F.2.1 d_M_operation_177 rfl (lv_at hl 2 rfl) ?_
            have f311 : h307 o = some (.inr (7, [.int (S309 16 0), .int (S309 16 1), .ref (ad 0), .ref (ad 1), .ref (ad 2), .ref (ad 3), .ref (ad 4), .int (S309 16 2), .int (S309 16 3), .int (S309 16 4), .int (S309 16 5), .ref (ad 5), .ref (ad 6), .ref (ad 7), .ref (ad 8), .ref (ad 9), .ref (ad 10), .ref (ad 11), .ref (ad 12), .ref (ad 13), .ref (ad 14), .ref (ad 15)])) := hR.1
            refine pw_get F I_M hK.1 hP f311 rfl 0 (by decide) L_M_63 (fun _ z => z) rfl d_M_operation_178 ?_
            refine W.eq (g2 := F0 m 181 ls [.int 1]) (by rw [show S309 16 0 = 1 from by rw [t310]; exact sp_s]) ?_
            refine lv_if_le (tgt := 186) F.1 F.2.1 d_M_operation_181 (by decide) (fun c312 => absurd c312 (by decide)) (fun c312 => ?_)
            refine lv_iconst (v := 0) F.1 F.2.1 d_M_operation_184 (by decide) ?_
            exact pw_iret F hr hlk hP hA hK hS (by decide) (by decide) d_M_operation_185 (by have hth : thOperation S (nI f) dr 4 n = 1 := (by unfold thOperation; rw [if_pos (show ¬ gdOperation S (nI f) dr 4 n from fun z9 => z9.2.2.1 (by rw [oRow_0 hf c1]; exact c302))]); unfold stOperation rOperation; rw [hth, if_neg (by decide), if_neg (by decide)]; rw [t310] at hR; exact ⟨hR, rfl⟩)
          · skip
            obtain ⟨z, hz12, hz⟩ := hB (0 + f) (by omega) c302
            have hor : oRow (nI f) dr = 0 + f := oRow_0 hf c1
            refine lv_iconst (v := 1) F.1 F.2.1 d_M_operation_55 (by decide) ?_
            refine lv_goto (tgt := 60) F.1 F.2.1 d_M_operation_56 (by decide) ?_
            refine lv_istore F.1 F.2.1 d_M_operation_60 hl (by decide) rfl (fun ls hl => ?_)
            replace hl : lv_has ls 7 [(6, .int 1), (5, .int (nI (0 + f))), (0, .ref o), (1, .int (nI f)), (2, .int dr), (3, .int 4), (4, .int n)] := hl
            refine lv_iload F.1 F.2.1 d_M_operation_62 (lv_at hl 0 rfl) ?_
            refine lv_if_eq (tgt := 82) F.1 F.2.1 d_M_operation_64 (by decide) (fun c313 => absurd c313 (by decide)) (fun c313 => ?_)
            refine lv_iload_n F.1 F.2.1 d_M_operation_67 rfl (lv_at hl 5 rfl) ?_
            refine lv_if_ne (tgt := 82) F.1 F.2.1 d_M_operation_68 (by decide) (fun c314 => ?_) (fun c314 => absurd c314 (by decide))
            refine lv_iload F.1 F.2.1 d_M_operation_82 (lv_at hl 0 rfl) ?_
            refine lv_if_eq (tgt := 111) F.1 F.2.1 d_M_operation_84 (by decide) (fun c315 => absurd c315 (by decide)) (fun c315 => ?_)
            refine lv_iload_n F.1 F.2.1 d_M_operation_87 rfl (lv_at hl 5 rfl) ?_
            refine lv_iconst (v := 1) F.1 F.2.1 d_M_operation_88 (by decide) ?_
            refine lv_icmp_eq (tgt := 97) F.1 F.2.1 d_M_operation_89 (by decide) (fun c316 => absurd c316 (by decide)) (fun c316 => ?_)
            refine lv_iload_n F.1 F.2.1 d_M_operation_92 rfl (lv_at hl 5 rfl) ?_
            refine lv_iconst (v := 5) F.1 F.2.1 d_M_operation_93 (by decide) ?_
            refine lv_icmp_ne (tgt := 111) F.1 F.2.1 d_M_operation_94 (by decide) (fun c317 => ?_) (fun c317 => absurd c317 (by decide))
            refine lv_iload F.1 F.2.1 d_M_operation_111 (lv_at hl 0 rfl) ?_
            refine lv_if_eq (tgt := 136) F.1 F.2.1 d_M_operation_113 (by decide) (fun c318 => absurd c318 (by decide)) (fun c318 => ?_)
            refine lv_iload_n F.1 F.2.1 d_M_operation_116 rfl (lv_at hl 5 rfl) ?_
            refine lv_iconst (v := 3) F.1 F.2.1 d_M_operation_117 (by decide) ?_
            refine lv_icmp_ne (tgt := 136) F.1 F.2.1 d_M_operation_118 (by decide) (fun c319 => ?_) (fun c319 => absurd c319 (by decide))
            refine lv_aload_n F.1 F.2.1 d_M_operation_136 rfl (lv_at hl 2 rfl) ?_
            refine lv_iload F.1 F.2.1 d_M_operation_137 (lv_at hl 0 rfl) ?_
            refine lv_if_ne (tgt := 146) F.1 F.2.1 d_M_operation_139 (by decide) (fun c320 => ?_) (fun c320 => absurd c320 (by decide))
            refine lv_iload_n F.1 F.2.1 d_M_operation_146 rfl (lv_at hl 4 rfl) ?_
            refine lv_if_ne (tgt := 157) F.1 F.2.1 d_M_operation_147 (by decide) (fun c321 => absurd c1 c321) (fun c321 => ?_)
            refine lv_aload_n F.1 F.2.1 d_M_operation_150 rfl (lv_at hl 2 rfl) ?_
            refine pw_ciE (pr_V F (c_M_fresh l D cs A h o ad S hR) X_M_79 rfl rfl ⟨by decide, by decide⟩ hP hA hK hS f300 rfl rfl rfl hl.1 rfl (Nat.le_of_ble_eq_true rfl) d_M_operation_151 ⟨by decide, by decide⟩) hS (fun H locs hP hS => ?_)
            by_cases b322 : mFresh S
            · skip
              refine W.eq (g2 := F0 m 154 ls [.int 1, .ref o]) (by rw [if_pos b322]) ?_
              refine lv_if_eq (tgt := 169) F.1 F.2.1 d_M_operation_154 (by decide) (fun c323 => absurd c323 (by decide)) (fun c323 => ?_)
              refine lv_aload_n F.1 F.2.1 d_M_operation_157 rfl (lv_at hl 2 rfl) ?_
              refine pw_get F I_M hK.1 hP f300 rfl 4 (by decide) L_M_17 (fun _ z => z) rfl d_M_operation_158 ?_
              refine lv_iload F.1 F.2.1 d_M_operation_161 (lv_at hl 1 rfl) ?_
              have f324 : h (ad 2) = some (.inl (cs 0, 56, .inl (S 2))) := hR.2.1 2 (by decide)
              refine pw_ialdN F hK.1 hP 0 f324 rfl (k := 0 + f) (by omega) (by decide) d_M_operation_163 ?_
              refine W.eq (g2 := F0 m 164 ls [.int (nI z), .ref o]) (by rw [hz]) ?_
              refine lv_bipush (v := 12) F.1 F.2.1 d_M_operation_164 (by decide) ?_
              refine lv_icmp_ne (tgt := 173) F.1 F.2.1 d_M_operation_166 (by decide) (fun c325 => ?_) (fun c325 => ?_)
              · skip
                refine lv_iconst (v := 0) F.1 F.2.1 d_M_operation_173 (by decide) ?_
                refine pw_put F I_M ty_M k_M n_M hK.1 hP hS f300 rfl 0 (by decide) L_M_63 (fun _ z => z) rfl rfl rfl (Nat.le_of_ble_eq_true rfl) d_M_operation_174 (fun H locs hP hS => ?_)
                have hP : pw D vwCl A (pu h o (.inr (7, (mfs ad S).set (mpos 0) (.int 0)))) H := hP
                have hR := hR.num (show 0 < 6 by decide) 0
                obtain ⟨h326, e327⟩ : ∃ z9 : pw_H, z9 = pu h o (.inr (7, (mfs ad S).set (mpos 0) (.int 0))) := ⟨_, rfl⟩
                rw [← e327] at hP
                obtain ⟨S328, t329⟩ : ∃ z9 : St, z9 = sp S 16 0 0 := ⟨_, rfl⟩
                have hR : RM cs h326 o ad S328 := by rw [e327, t329]; exact hR
                refine lv_aload_n F.1 F.2.1 d_M_operation_177 rfl (lv_at hl 2 rfl) ?_
                have f330 : h326 o = some (.inr (7, [.int (S328 16 0), .int (S328 16 1), .ref (ad 0), .ref (ad 1), .ref (ad 2), .ref (ad 3), .ref (ad 4), .int (S328 16 2), .int (S328 16 3), .int (S328 16 4), .int (S328 16 5), .ref (ad 5), .ref (ad 6), .ref (ad 7), .ref (ad 8), .ref (ad 9), .ref (ad 10), .ref (ad 11), .ref (ad 12), .ref (ad 13), .ref (ad 14), .ref (ad 15)])) := hR.1
                refine pw_get F I_M hK.1 hP f330 rfl 0 (by decide) L_M_63 (fun _ z => z) rfl d_M_operation_178 ?_
                refine W.eq (g2 := F0 m 181 ls [.int 0]) (by rw [show S328 16 0 = 0 from by rw [t329]; exact sp_s]) ?_
                refine lv_if_le (tgt := 186) F.1 F.2.1 d_M_operation_181 (by decide) (fun c331 => ?_) (fun c331 => absurd (by decide) c331)
                have hlt : z < 12 := by
                  rcases Nat.lt_or_ge z 12 with h9 | h9
                  · exact h9
                  · exact absurd (show nI z = 12 by rw [show z = 12 by omega]; rfl) c325
                refine lv_aload_n F.1 F.2.1 d_M_operation_186 rfl (lv_at hl 2 rfl) ?_
                refine pw_get F I_M hK.1 hP f330 rfl 5 (by decide) L_M_20 (fun _ z => z) rfl d_M_operation_187 ?_
                refine lv_bipush (v := 12) F.1 F.2.1 d_M_operation_190 (by decide) ?_
                refine lv_iload F.1 F.2.1 d_M_operation_192 (lv_at hl 1 rfl) ?_
                refine lv_imul F.1 F.2.1 d_M_operation_194 ?_
                refine W.eq (g2 := F0 m 195 ls [.int (nI (12 * (0 + f))), .ref (ad 3)]) (by rw [show (12 : Int32) = nI 12 from rfl, pk_mul]) ?_
                refine lv_aload_n F.1 F.2.1 d_M_operation_195 rfl (lv_at hl 2 rfl) ?_
                refine pw_get F I_M hK.1 hP f330 rfl 4 (by decide) L_M_17 (fun _ z => z) rfl d_M_operation_196 ?_
                refine lv_iload F.1 F.2.1 d_M_operation_199 (lv_at hl 1 rfl) ?_
                have f332 : h326 (ad 2) = some (.inl (cs 0, 56, .inl (S328 2))) := hR.2.1 2 (by decide)
                refine pw_ialdN F hK.1 hP 0 f332 rfl (k := 0 + f) (by omega) (by decide) d_M_operation_201 ?_
                refine W.eq (g2 := F0 m 202 ls [.int (nI z), .int (nI (12 * (0 + f))), .ref (ad 3)]) (by rw [show S328 2 (0 + f) = S 2 (0 + f) from by rw [t329]; exact sp_k (by decide), hz]) ?_
                refine lv_iadd F.1 F.2.1 d_M_operation_202 ?_
                refine W.eq (g2 := F0 m 203 ls [.int (nI ((12 * (0 + f)) + z)), .ref (ad 3)]) (by rw [nI_add]) ?_
                refine lv_iload_n F.1 F.2.1 d_M_operation_203 rfl (lv_at hl 5 rfl) ?_
                have f333 : h326 (ad 3) = some (.inl (cs 0, 672, .inl (S328 3))) := hR.2.1 3 (by decide)
                refine pw_iastN F hK.1 hP hS 0 f333 rfl (k := (12 * (0 + f)) + z) (by omega) (by decide) d_M_operation_204 (fun H locs hP hS => ?_)
                have hP : pw D vwCl A (pu h326 (ad 3) (.inl (cs 0, 672, .inl (upd (S328 3) ((12 * (0 + f)) + z) 4)))) H := hP
                have hR := hR.arr (show 3 < 16 by decide) ((12 * (0 + f)) + z) 4
                obtain ⟨h334, e335⟩ : ∃ z9 : pw_H, z9 = pu h326 (ad 3) (.inl (cs 0, 672, .inl (upd (S328 3) ((12 * (0 + f)) + z) 4))) := ⟨_, rfl⟩
                rw [← e335] at hP
                obtain ⟨S336, t337⟩ : ∃ z9 : St, z9 = sp S328 3 ((12 * (0 + f)) + z) 4 := ⟨_, rfl⟩
                have hR : RM cs h334 o ad S336 := by rw [e335, t337]; exact hR
                refine lv_aload_n F.1 F.2.1 d_M_operation_205 rfl (lv_at hl 2 rfl) ?_
                have f338 : h334 o = some (.inr (7, [.int (S336 16 0), .int (S336 16 1), .ref (ad 0), .ref (ad 1), .ref (ad 2), .ref (ad 3), .ref (ad 4), .int (S336 16 2), .int (S336 16 3), .int (S336 16 4), .int (S336 16 5), .ref (ad 5), .ref (ad 6), .ref (ad 7), .ref (ad 8), .ref (ad 9), .ref (ad 10), .ref (ad 11), .ref (ad 12), .ref (ad 13), .ref (ad 14), .ref (ad 15)])) := hR.1
                refine pw_get F I_M hK.1 hP f338 rfl 6 (by decide) L_M_23 (fun _ z => z) rfl d_M_operation_206 ?_
                refine lv_bipush (v := 12) F.1 F.2.1 d_M_operation_209 (by decide) ?_
                refine lv_iload F.1 F.2.1 d_M_operation_211 (lv_at hl 1 rfl) ?_
                refine lv_imul F.1 F.2.1 d_M_operation_213 ?_
                refine W.eq (g2 := F0 m 214 ls [.int (nI (12 * (0 + f))), .ref (ad 4)]) (by rw [show (12 : Int32) = nI 12 from rfl, pk_mul]) ?_
                refine lv_aload_n F.1 F.2.1 d_M_operation_214 rfl (lv_at hl 2 rfl) ?_
                refine pw_get F I_M hK.1 hP f338 rfl 4 (by decide) L_M_17 (fun _ z => z) rfl d_M_operation_215 ?_
                refine lv_iload F.1 F.2.1 d_M_operation_218 (lv_at hl 1 rfl) ?_
                have f339 : h334 (ad 2) = some (.inl (cs 0, 56, .inl (S336 2))) := hR.2.1 2 (by decide)
                refine pw_ialdN F hK.1 hP 0 f339 rfl (k := 0 + f) (by omega) (by decide) d_M_operation_220 ?_
                refine W.eq (g2 := F0 m 221 ls [.int (nI z), .int (nI (12 * (0 + f))), .ref (ad 4)]) (by rw [show S336 2 (0 + f) = S328 2 (0 + f) from by rw [t337]; exact sp_k (by decide), show S328 2 (0 + f) = S 2 (0 + f) from by rw [t329]; exact sp_k (by decide), hz]) ?_
                refine lv_iadd F.1 F.2.1 d_M_operation_221 ?_
                refine W.eq (g2 := F0 m 222 ls [.int (nI ((12 * (0 + f)) + z)), .ref (ad 4)]) (by rw [nI_add]) ?_
                refine lv_iload F.1 F.2.1 d_M_operation_222 (lv_at hl 6 rfl) ?_
                have f340 : h334 (ad 4) = some (.inl (cs 0, 672, .inl (S336 4))) := hR.2.1 4 (by decide)
                refine pw_iastN F hK.1 hP hS 0 f340 rfl (k := (12 * (0 + f)) + z) (by omega) (by decide) d_M_operation_224 (fun H locs hP hS => ?_)
                have hP : pw D vwCl A (pu h334 (ad 4) (.inl (cs 0, 672, .inl (upd (S336 4) ((12 * (0 + f)) + z) n)))) H := hP
                have hR := hR.arr (show 4 < 16 by decide) ((12 * (0 + f)) + z) n
                obtain ⟨h341, e342⟩ : ∃ z9 : pw_H, z9 = pu h334 (ad 4) (.inl (cs 0, 672, .inl (upd (S336 4) ((12 * (0 + f)) + z) n))) := ⟨_, rfl⟩
                rw [← e342] at hP
                obtain ⟨S343, t344⟩ : ∃ z9 : St, z9 = sp S336 4 ((12 * (0 + f)) + z) n := ⟨_, rfl⟩
                have hR : RM cs h341 o ad S343 := by rw [e342, t344]; exact hR
                refine lv_aload_n F.1 F.2.1 d_M_operation_225 rfl (lv_at hl 2 rfl) ?_
                have f345 : h341 o = some (.inr (7, [.int (S343 16 0), .int (S343 16 1), .ref (ad 0), .ref (ad 1), .ref (ad 2), .ref (ad 3), .ref (ad 4), .int (S343 16 2), .int (S343 16 3), .int (S343 16 4), .int (S343 16 5), .ref (ad 5), .ref (ad 6), .ref (ad 7), .ref (ad 8), .ref (ad 9), .ref (ad 10), .ref (ad 11), .ref (ad 12), .ref (ad 13), .ref (ad 14), .ref (ad 15)])) := hR.1
                refine pw_get F I_M hK.1 hP f345 rfl 4 (by decide) L_M_17 (fun _ z => z) rfl d_M_operation_226 ?_
                refine lv_iload F.1 F.2.1 d_M_operation_229 (lv_at hl 1 rfl) ?_
                refine lv_dup2_11 F.1 F.2.1 d_M_operation_231 rfl rfl ?_
                have f346 : h341 (ad 2) = some (.inl (cs 0, 56, .inl (S343 2))) := hR.2.1 2 (by decide)
                refine pw_ialdN F hK.1 hP 0 f346 rfl (k := 0 + f) (by omega) (by decide) d_M_operation_232 ?_
                refine W.eq (g2 := F0 m 233 ls [.int (nI z), .int (nI (0 + f)), .ref (ad 2)]) (by rw [show S343 2 (0 + f) = S336 2 (0 + f) from by rw [t344]; exact sp_k (by decide), show S336 2 (0 + f) = S328 2 (0 + f) from by rw [t337]; exact sp_k (by decide), show S328 2 (0 + f) = S 2 (0 + f) from by rw [t329]; exact sp_k (by decide), hz]) ?_
                refine lv_iconst (v := 1) F.1 F.2.1 d_M_operation_233 (by decide) ?_
                refine lv_iadd F.1 F.2.1 d_M_operation_234 ?_
                refine W.eq (g2 := F0 m 235 ls [.int (nI (z + 1)), .int (nI (0 + f)), .ref (ad 2)]) (by rw [show (1 : Int32) = nI 1 from rfl, nI_add]) ?_
                refine pw_iastN F hK.1 hP hS 0 f346 rfl (k := 0 + f) (by omega) (by decide) d_M_operation_235 (fun H locs hP hS => ?_)
                have hP : pw D vwCl A (pu h341 (ad 2) (.inl (cs 0, 56, .inl (upd (S343 2) (0 + f) (nI (z + 1)))))) H := hP
                have hR := hR.arr (show 2 < 16 by decide) (0 + f) (nI (z + 1))
                obtain ⟨h347, e348⟩ : ∃ z9 : pw_H, z9 = pu h341 (ad 2) (.inl (cs 0, 56, .inl (upd (S343 2) (0 + f) (nI (z + 1))))) := ⟨_, rfl⟩
                rw [← e348] at hP
                obtain ⟨S349, t350⟩ : ∃ z9 : St, z9 = sp S343 2 (0 + f) (nI (z + 1)) := ⟨_, rfl⟩
                have hR : RM cs h347 o ad S349 := by rw [e348, t350]; exact hR
                refine lv_aload_n F.1 F.2.1 d_M_operation_236 rfl (lv_at hl 2 rfl) ?_
                have f351 : h347 o = some (.inr (7, [.int (S349 16 0), .int (S349 16 1), .ref (ad 0), .ref (ad 1), .ref (ad 2), .ref (ad 3), .ref (ad 4), .int (S349 16 2), .int (S349 16 3), .int (S349 16 4), .int (S349 16 5), .ref (ad 5), .ref (ad 6), .ref (ad 7), .ref (ad 8), .ref (ad 9), .ref (ad 10), .ref (ad 11), .ref (ad 12), .ref (ad 13), .ref (ad 14), .ref (ad 15)])) := hR.1
                refine pw_get F I_M hK.1 hP f351 rfl 4 (by decide) L_M_17 (fun _ z => z) rfl d_M_operation_237 ?_
                refine lv_iload F.1 F.2.1 d_M_operation_240 (lv_at hl 1 rfl) ?_
                have f352 : h347 (ad 2) = some (.inl (cs 0, 56, .inl (S349 2))) := hR.2.1 2 (by decide)
                refine pw_ialdN F hK.1 hP 0 f352 rfl (k := 0 + f) (by omega) (by decide) d_M_operation_242 ?_
                refine W.eq (g2 := F0 m 243 ls [.int (nI (z + 1))]) (by rw [show S349 2 (0 + f) = nI (z + 1) from by rw [t350]; exact sp_s]) ?_
                exact pw_iret F hr hlk hP hA hK hS (by decide) (by decide) d_M_operation_243 (by have hgd := (show gdOperation S (nI f) dr 4 n from ⟨hin, by decide, by rw [hor]; exact c302, fun z9 => absurd z9 (by decide), fun z9 => absurd z9 (by decide), fun z9 => absurd z9 (by decide)⟩); have hth : thOperation S (nI f) dr 4 n = 0 := (by unfold thOperation; rw [if_neg (fun z9 => z9 hgd), if_neg (fun z9 => z9.elim (fun z8 => z8.2 b322) (fun z8 => c325 (by rw [hor, hz] at z8; exact z8)))]); unfold stOperation rOperation; rw [if_pos hth, if_pos hth, hor, hz, tn_nI (by omega), nI_1]; rw [t350, t344, t337, t329] at hR; exact ⟨hR, rfl⟩)
              · skip
                refine lv_iconst (v := 2) F.1 F.2.1 d_M_operation_169 (by decide) ?_
                refine lv_goto (tgt := 174) F.1 F.2.1 d_M_operation_170 (by decide) ?_
                refine pw_put F I_M ty_M k_M n_M hK.1 hP hS f300 rfl 0 (by decide) L_M_63 (fun _ z => z) rfl rfl rfl (Nat.le_of_ble_eq_true rfl) d_M_operation_174 (fun H locs hP hS => ?_)
                have hP : pw D vwCl A (pu h o (.inr (7, (mfs ad S).set (mpos 0) (.int 2)))) H := hP
                have hR := hR.num (show 0 < 6 by decide) 2
                obtain ⟨h353, e354⟩ : ∃ z9 : pw_H, z9 = pu h o (.inr (7, (mfs ad S).set (mpos 0) (.int 2))) := ⟨_, rfl⟩
                rw [← e354] at hP
                obtain ⟨S355, t356⟩ : ∃ z9 : St, z9 = sp S 16 0 2 := ⟨_, rfl⟩
                have hR : RM cs h353 o ad S355 := by rw [e354, t356]; exact hR
                refine lv_aload_n F.1 F.2.1 d_M_operation_177 rfl (lv_at hl 2 rfl) ?_
                have f357 : h353 o = some (.inr (7, [.int (S355 16 0), .int (S355 16 1), .ref (ad 0), .ref (ad 1), .ref (ad 2), .ref (ad 3), .ref (ad 4), .int (S355 16 2), .int (S355 16 3), .int (S355 16 4), .int (S355 16 5), .ref (ad 5), .ref (ad 6), .ref (ad 7), .ref (ad 8), .ref (ad 9), .ref (ad 10), .ref (ad 11), .ref (ad 12), .ref (ad 13), .ref (ad 14), .ref (ad 15)])) := hR.1
                refine pw_get F I_M hK.1 hP f357 rfl 0 (by decide) L_M_63 (fun _ z => z) rfl d_M_operation_178 ?_
                refine W.eq (g2 := F0 m 181 ls [.int 2]) (by rw [show S355 16 0 = 2 from by rw [t356]; exact sp_s]) ?_
                refine lv_if_le (tgt := 186) F.1 F.2.1 d_M_operation_181 (by decide) (fun c358 => absurd c358 (by decide)) (fun c358 => ?_)
                refine lv_iconst (v := 0) F.1 F.2.1 d_M_operation_184 (by decide) ?_
                exact pw_iret F hr hlk hP hA hK hS (by decide) (by decide) d_M_operation_185 (by have hgd := (show gdOperation S (nI f) dr 4 n from ⟨hin, by decide, by rw [hor]; exact c302, fun z9 => absurd z9 (by decide), fun z9 => absurd z9 (by decide), fun z9 => absurd z9 (by decide)⟩); have hth : thOperation S (nI f) dr 4 n = 2 := (by unfold thOperation; rw [if_neg (fun z9 => z9 hgd), if_pos (Or.inr (by rw [hor, hz]; exact c325))]); unfold stOperation rOperation; rw [hth, if_neg (by decide), if_neg (by decide)]; rw [t356] at hR; exact ⟨hR, rfl⟩)
            · skip
              refine W.eq (g2 := F0 m 154 ls [.int 0, .ref o]) (by rw [if_neg b322]) ?_
              refine lv_if_eq (tgt := 169) F.1 F.2.1 d_M_operation_154 (by decide) (fun c359 => ?_) (fun c359 => absurd (by decide) c359)
              refine lv_iconst (v := 2) F.1 F.2.1 d_M_operation_169 (by decide) ?_
              refine lv_goto (tgt := 174) F.1 F.2.1 d_M_operation_170 (by decide) ?_
              refine pw_put F I_M ty_M k_M n_M hK.1 hP hS f300 rfl 0 (by decide) L_M_63 (fun _ z => z) rfl rfl rfl (Nat.le_of_ble_eq_true rfl) d_M_operation_174 (fun H locs hP hS => ?_)
              have hP : pw D vwCl A (pu h o (.inr (7, (mfs ad S).set (mpos 0) (.int 2)))) H := hP
              have hR := hR.num (show 0 < 6 by decide) 2
              obtain ⟨h360, e361⟩ : ∃ z9 : pw_H, z9 = pu h o (.inr (7, (mfs ad S).set (mpos 0) (.int 2))) := ⟨_, rfl⟩
              rw [← e361] at hP
              obtain ⟨S362, t363⟩ : ∃ z9 : St, z9 = sp S 16 0 2 := ⟨_, rfl⟩
              have hR : RM cs h360 o ad S362 := by rw [e361, t363]; exact hR
              refine lv_aload_n F.1 F.2.1 d_M_operation_177 rfl (lv_at hl 2 rfl) ?_
              have f364 : h360 o = some (.inr (7, [.int (S362 16 0), .int (S362 16 1), .ref (ad 0), .ref (ad 1), .ref (ad 2), .ref (ad 3), .ref (ad 4), .int (S362 16 2), .int (S362 16 3), .int (S362 16 4), .int (S362 16 5), .ref (ad 5), .ref (ad 6), .ref (ad 7), .ref (ad 8), .ref (ad 9), .ref (ad 10), .ref (ad 11), .ref (ad 12), .ref (ad 13), .ref (ad 14), .ref (ad 15)])) := hR.1
              refine pw_get F I_M hK.1 hP f364 rfl 0 (by decide) L_M_63 (fun _ z => z) rfl d_M_operation_178 ?_
              refine W.eq (g2 := F0 m 181 ls [.int 2]) (by rw [show S362 16 0 = 2 from by rw [t363]; exact sp_s]) ?_
              refine lv_if_le (tgt := 186) F.1 F.2.1 d_M_operation_181 (by decide) (fun c365 => absurd c365 (by decide)) (fun c365 => ?_)
              refine lv_iconst (v := 0) F.1 F.2.1 d_M_operation_184 (by decide) ?_
              exact pw_iret F hr hlk hP hA hK hS (by decide) (by decide) d_M_operation_185 (by have hgd := (show gdOperation S (nI f) dr 4 n from ⟨hin, by decide, by rw [hor]; exact c302, fun z9 => absurd z9 (by decide), fun z9 => absurd z9 (by decide), fun z9 => absurd z9 (by decide)⟩); have hth : thOperation S (nI f) dr 4 n = 2 := (by unfold thOperation; rw [if_neg (fun z9 => z9 hgd), if_pos (Or.inl ⟨c1, b322⟩)]); unfold stOperation rOperation; rw [hth, if_neg (by decide), if_neg (by decide)]; rw [t363] at hR; exact ⟨hR, rfl⟩)
        · skip
          refine lv_iconst (v := 1) F.1 F.2.1 d_M_operation_33 (by decide) ?_
          refine lv_goto (tgt := 38) F.1 F.2.1 d_M_operation_34 (by decide) ?_
          refine lv_istore F.1 F.2.1 d_M_operation_38 hl (by decide) rfl (fun ls hl => ?_)
          replace hl : lv_has ls 7 [(6, .int 1), (5, .int (nI (0 + f))), (0, .ref o), (1, .int (nI f)), (2, .int dr), (3, .int 5), (4, .int n)] := hl
          refine lv_iload F.1 F.2.1 d_M_operation_40 (lv_at hl 0 rfl) ?_
          refine lv_if_eq (tgt := 59) F.1 F.2.1 d_M_operation_42 (by decide) (fun c366 => absurd c366 (by decide)) (fun c366 => ?_)
          refine lv_aload_n F.1 F.2.1 d_M_operation_45 rfl (lv_at hl 2 rfl) ?_
          have f367 : h o = some (.inr (7, [.int (S 16 0), .int (S 16 1), .ref (ad 0), .ref (ad 1), .ref (ad 2), .ref (ad 3), .ref (ad 4), .int (S 16 2), .int (S 16 3), .int (S 16 4), .int (S 16 5), .ref (ad 5), .ref (ad 6), .ref (ad 7), .ref (ad 8), .ref (ad 9), .ref (ad 10), .ref (ad 11), .ref (ad 12), .ref (ad 13), .ref (ad 14), .ref (ad 15)])) := hR.1
          refine pw_get F I_M hK.1 hP f367 rfl 2 (by decide) L_M_7 (fun _ z => z) rfl d_M_operation_46 ?_
          refine lv_iload F.1 F.2.1 d_M_operation_49 (lv_at hl 1 rfl) ?_
          have f368 : h (ad 0) = some (.inl (cs 1, 56, .inl (S 0))) := hR.2.1 0 (by decide)
          refine pw_zaldN F hK.1 hP 1 f368 rfl (k := 0 + f) (by omega) (by decide) d_M_operation_51 ?_
          refine lv_if_eq (tgt := 59) F.1 F.2.1 d_M_operation_52 (by decide) (fun c369 => ?_) (fun c369 => ?_)
          · skip
            refine lv_iconst (v := 0) F.1 F.2.1 d_M_operation_59 (by decide) ?_
            refine lv_istore F.1 F.2.1 d_M_operation_60 hl (by decide) rfl (fun ls hl => ?_)
            replace hl : lv_has ls 7 [(6, .int 0), (5, .int (nI (0 + f))), (0, .ref o), (1, .int (nI f)), (2, .int dr), (3, .int 5), (4, .int n)] := hl
            refine lv_iload F.1 F.2.1 d_M_operation_62 (lv_at hl 0 rfl) ?_
            refine lv_if_eq (tgt := 82) F.1 F.2.1 d_M_operation_64 (by decide) (fun c370 => ?_) (fun c370 => absurd (by decide) c370)
            refine lv_iload F.1 F.2.1 d_M_operation_82 (lv_at hl 0 rfl) ?_
            refine lv_if_eq (tgt := 111) F.1 F.2.1 d_M_operation_84 (by decide) (fun c371 => ?_) (fun c371 => absurd (by decide) c371)
            refine lv_iload F.1 F.2.1 d_M_operation_111 (lv_at hl 0 rfl) ?_
            refine lv_if_eq (tgt := 136) F.1 F.2.1 d_M_operation_113 (by decide) (fun c372 => ?_) (fun c372 => absurd (by decide) c372)
            refine lv_aload_n F.1 F.2.1 d_M_operation_136 rfl (lv_at hl 2 rfl) ?_
            refine lv_iload F.1 F.2.1 d_M_operation_137 (lv_at hl 0 rfl) ?_
            refine lv_if_ne (tgt := 146) F.1 F.2.1 d_M_operation_139 (by decide) (fun c373 => absurd (by decide) c373) (fun c373 => ?_)
            refine lv_iconst (v := 1) F.1 F.2.1 d_M_operation_142 (by decide) ?_
            refine lv_goto (tgt := 174) F.1 F.2.1 d_M_operation_143 (by decide) ?_
            refine pw_put F I_M ty_M k_M n_M hK.1 hP hS f367 rfl 0 (by decide) L_M_63 (fun _ z => z) rfl rfl rfl (Nat.le_of_ble_eq_true rfl) d_M_operation_174 (fun H locs hP hS => ?_)
            have hP : pw D vwCl A (pu h o (.inr (7, (mfs ad S).set (mpos 0) (.int 1)))) H := hP
            have hR := hR.num (show 0 < 6 by decide) 1
            obtain ⟨h374, e375⟩ : ∃ z9 : pw_H, z9 = pu h o (.inr (7, (mfs ad S).set (mpos 0) (.int 1))) := ⟨_, rfl⟩
            rw [← e375] at hP
            obtain ⟨S376, t377⟩ : ∃ z9 : St, z9 = sp S 16 0 1 := ⟨_, rfl⟩
            have hR : RM cs h374 o ad S376 := by rw [e375, t377]; exact hR
            refine lv_aload_n F.1 F.2.1 d_M_operation_177 rfl (lv_at hl 2 rfl) ?_
            have f378 : h374 o = some (.inr (7, [.int (S376 16 0), .int (S376 16 1), .ref (ad 0), .ref (ad 1), .ref (ad 2), .ref (ad 3), .ref (ad 4), .int (S376 16 2), .int (S376 16 3), .int (S376 16 4), .int (S376 16 5), .ref (ad 5), .ref (ad 6), .ref (ad 7), .ref (ad 8), .ref (ad 9), .ref (ad 10), .ref (ad 11), .ref (ad 12), .ref (ad 13), .ref (ad 14), .ref (ad 15)])) := hR.1
            refine pw_get F I_M hK.1 hP f378 rfl 0 (by decide) L_M_63 (fun _ z => z) rfl d_M_operation_178 ?_
            refine W.eq (g2 := F0 m 181 ls [.int 1]) (by rw [show S376 16 0 = 1 from by rw [t377]; exact sp_s]) ?_
            refine lv_if_le (tgt := 186) F.1 F.2.1 d_M_operation_181 (by decide) (fun c379 => absurd c379 (by decide)) (fun c379 => ?_)
            refine lv_iconst (v := 0) F.1 F.2.1 d_M_operation_184 (by decide) ?_
            exact pw_iret F hr hlk hP hA hK hS (by decide) (by decide) d_M_operation_185 (by have hth : thOperation S (nI f) dr 5 n = 1 := (by unfold thOperation; rw [if_pos (show ¬ gdOperation S (nI f) dr 5 n from fun z9 => z9.2.2.1 (by rw [oRow_0 hf c1]; exact c369))]); unfold stOperation rOperation; rw [hth, if_neg (by decide), if_neg (by decide)]; rw [t377] at hR; exact ⟨hR, rfl⟩)
          · skip
            obtain ⟨z, hz12, hz⟩ := hB (0 + f) (by omega) c369
            have hor : oRow (nI f) dr = 0 + f := oRow_0 hf c1
            refine lv_iconst (v := 1) F.1 F.2.1 d_M_operation_55 (by decide) ?_
            refine lv_goto (tgt := 60) F.1 F.2.1 d_M_operation_56 (by decide) ?_
            refine lv_istore F.1 F.2.1 d_M_operation_60 hl (by decide) rfl (fun ls hl => ?_)
            replace hl : lv_has ls 7 [(6, .int 1), (5, .int (nI (0 + f))), (0, .ref o), (1, .int (nI f)), (2, .int dr), (3, .int 5), (4, .int n)] := hl
            refine lv_iload F.1 F.2.1 d_M_operation_62 (lv_at hl 0 rfl) ?_
            refine lv_if_eq (tgt := 82) F.1 F.2.1 d_M_operation_64 (by decide) (fun c380 => absurd c380 (by decide)) (fun c380 => ?_)
            refine lv_iload_n F.1 F.2.1 d_M_operation_67 rfl (lv_at hl 5 rfl) ?_
            refine lv_if_ne (tgt := 82) F.1 F.2.1 d_M_operation_68 (by decide) (fun c381 => ?_) (fun c381 => absurd c381 (by decide))
            refine lv_iload F.1 F.2.1 d_M_operation_82 (lv_at hl 0 rfl) ?_
            refine lv_if_eq (tgt := 111) F.1 F.2.1 d_M_operation_84 (by decide) (fun c382 => absurd c382 (by decide)) (fun c382 => ?_)
            refine lv_iload_n F.1 F.2.1 d_M_operation_87 rfl (lv_at hl 5 rfl) ?_
            refine lv_iconst (v := 1) F.1 F.2.1 d_M_operation_88 (by decide) ?_
            refine lv_icmp_eq (tgt := 97) F.1 F.2.1 d_M_operation_89 (by decide) (fun c383 => absurd c383 (by decide)) (fun c383 => ?_)
            refine lv_iload_n F.1 F.2.1 d_M_operation_92 rfl (lv_at hl 5 rfl) ?_
            refine lv_iconst (v := 5) F.1 F.2.1 d_M_operation_93 (by decide) ?_
            refine lv_icmp_ne (tgt := 111) F.1 F.2.1 d_M_operation_94 (by decide) (fun c384 => absurd (by decide) c384) (fun c384 => ?_)
            refine lv_iload F.1 F.2.1 d_M_operation_97 (lv_at hl 6 rfl) ?_
            refine lv_iconst (v := 0) F.1 F.2.1 d_M_operation_99 (by decide) ?_
            refine lv_aload_n F.1 F.2.1 d_M_operation_100 rfl (lv_at hl 2 rfl) ?_
            refine pw_get F I_M hK.1 hP f367 rfl 1 (by decide) L_M_76 (fun _ z => z) rfl d_M_operation_101 ?_
            refine lv_iconst (v := 1) F.1 F.2.1 d_M_operation_104 (by decide) ?_
            refine lv_isub F.1 F.2.1 d_M_operation_105 ?_
            refine pw_ciE (pr_S F (c_M_inn l D cs A h n 0 ((S 16 1) - 1)) X_M_72 rfl rfl ⟨by decide, by decide⟩ hP hA hK hS rfl hl.1 rfl (Nat.le_of_ble_eq_true rfl) d_M_operation_106 ⟨by decide, by decide⟩) hS (fun H locs hP hS => ?_)
            by_cases b385 : 0 ≤ n ∧ n ≤ ((S 16 1) - 1)
            · skip
              refine W.eq (g2 := F0 m 109 ls [.int 1]) (by rw [if_pos b385]) ?_
              refine lv_istore F.1 F.2.1 d_M_operation_109 hl (by decide) rfl (fun ls hl => ?_)
              replace hl : lv_has ls 7 [(6, .int 1), (5, .int (nI (0 + f))), (0, .ref o), (1, .int (nI f)), (2, .int dr), (3, .int 5), (4, .int n)] := hl
              refine lv_iload F.1 F.2.1 d_M_operation_111 (lv_at hl 0 rfl) ?_
              refine lv_if_eq (tgt := 136) F.1 F.2.1 d_M_operation_113 (by decide) (fun c386 => absurd c386 (by decide)) (fun c386 => ?_)
              refine lv_iload_n F.1 F.2.1 d_M_operation_116 rfl (lv_at hl 5 rfl) ?_
              refine lv_iconst (v := 3) F.1 F.2.1 d_M_operation_117 (by decide) ?_
              refine lv_icmp_ne (tgt := 136) F.1 F.2.1 d_M_operation_118 (by decide) (fun c387 => ?_) (fun c387 => absurd c387 (by decide))
              refine lv_aload_n F.1 F.2.1 d_M_operation_136 rfl (lv_at hl 2 rfl) ?_
              refine lv_iload F.1 F.2.1 d_M_operation_137 (lv_at hl 0 rfl) ?_
              refine lv_if_ne (tgt := 146) F.1 F.2.1 d_M_operation_139 (by decide) (fun c388 => ?_) (fun c388 => absurd c388 (by decide))
              refine lv_iload_n F.1 F.2.1 d_M_operation_146 rfl (lv_at hl 4 rfl) ?_
              refine lv_if_ne (tgt := 157) F.1 F.2.1 d_M_operation_147 (by decide) (fun c389 => absurd c1 c389) (fun c389 => ?_)
              refine lv_aload_n F.1 F.2.1 d_M_operation_150 rfl (lv_at hl 2 rfl) ?_
              refine pw_ciE (pr_V F (c_M_fresh l D cs A h o ad S hR) X_M_79 rfl rfl ⟨by decide, by decide⟩ hP hA hK hS f367 rfl rfl rfl hl.1 rfl (Nat.le_of_ble_eq_true rfl) d_M_operation_151 ⟨by decide, by decide⟩) hS (fun H locs hP hS => ?_)
              by_cases b390 : mFresh S
              · skip
                refine W.eq (g2 := F0 m 154 ls [.int 1, .ref o]) (by rw [if_pos b390]) ?_
                refine lv_if_eq (tgt := 169) F.1 F.2.1 d_M_operation_154 (by decide) (fun c391 => absurd c391 (by decide)) (fun c391 => ?_)
                refine lv_aload_n F.1 F.2.1 d_M_operation_157 rfl (lv_at hl 2 rfl) ?_
                refine pw_get F I_M hK.1 hP f367 rfl 4 (by decide) L_M_17 (fun _ z => z) rfl d_M_operation_158 ?_
                refine lv_iload F.1 F.2.1 d_M_operation_161 (lv_at hl 1 rfl) ?_
                have f392 : h (ad 2) = some (.inl (cs 0, 56, .inl (S 2))) := hR.2.1 2 (by decide)
                refine pw_ialdN F hK.1 hP 0 f392 rfl (k := 0 + f) (by omega) (by decide) d_M_operation_163 ?_
                refine W.eq (g2 := F0 m 164 ls [.int (nI z), .ref o]) (by rw [hz]) ?_
                refine lv_bipush (v := 12) F.1 F.2.1 d_M_operation_164 (by decide) ?_
                refine lv_icmp_ne (tgt := 173) F.1 F.2.1 d_M_operation_166 (by decide) (fun c393 => ?_) (fun c393 => ?_)
                · skip
                  refine lv_iconst (v := 0) F.1 F.2.1 d_M_operation_173 (by decide) ?_
                  refine pw_put F I_M ty_M k_M n_M hK.1 hP hS f367 rfl 0 (by decide) L_M_63 (fun _ z => z) rfl rfl rfl (Nat.le_of_ble_eq_true rfl) d_M_operation_174 (fun H locs hP hS => ?_)
                  have hP : pw D vwCl A (pu h o (.inr (7, (mfs ad S).set (mpos 0) (.int 0)))) H := hP
                  have hR := hR.num (show 0 < 6 by decide) 0
                  obtain ⟨h394, e395⟩ : ∃ z9 : pw_H, z9 = pu h o (.inr (7, (mfs ad S).set (mpos 0) (.int 0))) := ⟨_, rfl⟩
                  rw [← e395] at hP
                  obtain ⟨S396, t397⟩ : ∃ z9 : St, z9 = sp S 16 0 0 := ⟨_, rfl⟩
                  have hR : RM cs h394 o ad S396 := by rw [e395, t397]; exact hR
                  refine lv_aload_n F.1 F.2.1 d_M_operation_177 rfl (lv_at hl 2 rfl) ?_
                  have f398 : h394 o = some (.inr (7, [.int (S396 16 0), .int (S396 16 1), .ref (ad 0), .ref (ad 1), .ref (ad 2), .ref (ad 3), .ref (ad 4), .int (S396 16 2), .int (S396 16 3), .int (S396 16 4), .int (S396 16 5), .ref (ad 5), .ref (ad 6), .ref (ad 7), .ref (ad 8), .ref (ad 9), .ref (ad 10), .ref (ad 11), .ref (ad 12), .ref (ad 13), .ref (ad 14), .ref (ad 15)])) := hR.1
                  refine pw_get F I_M hK.1 hP f398 rfl 0 (by decide) L_M_63 (fun _ z => z) rfl d_M_operation_178 ?_
                  refine W.eq (g2 := F0 m 181 ls [.int 0]) (by rw [show S396 16 0 = 0 from by rw [t397]; exact sp_s]) ?_
                  refine lv_if_le (tgt := 186) F.1 F.2.1 d_M_operation_181 (by decide) (fun c399 => ?_) (fun c399 => absurd (by decide) c399)
                  have hlt : z < 12 := by
                    rcases Nat.lt_or_ge z 12 with h9 | h9
                    · exact h9
                    · exact absurd (show nI z = 12 by rw [show z = 12 by omega]; rfl) c393
                  refine lv_aload_n F.1 F.2.1 d_M_operation_186 rfl (lv_at hl 2 rfl) ?_
                  refine pw_get F I_M hK.1 hP f398 rfl 5 (by decide) L_M_20 (fun _ z => z) rfl d_M_operation_187 ?_
                  refine lv_bipush (v := 12) F.1 F.2.1 d_M_operation_190 (by decide) ?_
                  refine lv_iload F.1 F.2.1 d_M_operation_192 (lv_at hl 1 rfl) ?_
                  refine lv_imul F.1 F.2.1 d_M_operation_194 ?_
                  refine W.eq (g2 := F0 m 195 ls [.int (nI (12 * (0 + f))), .ref (ad 3)]) (by rw [show (12 : Int32) = nI 12 from rfl, pk_mul]) ?_
                  refine lv_aload_n F.1 F.2.1 d_M_operation_195 rfl (lv_at hl 2 rfl) ?_
                  refine pw_get F I_M hK.1 hP f398 rfl 4 (by decide) L_M_17 (fun _ z => z) rfl d_M_operation_196 ?_
                  refine lv_iload F.1 F.2.1 d_M_operation_199 (lv_at hl 1 rfl) ?_
                  have f400 : h394 (ad 2) = some (.inl (cs 0, 56, .inl (S396 2))) := hR.2.1 2 (by decide)
                  refine pw_ialdN F hK.1 hP 0 f400 rfl (k := 0 + f) (by omega) (by decide) d_M_operation_201 ?_
                  refine W.eq (g2 := F0 m 202 ls [.int (nI z), .int (nI (12 * (0 + f))), .ref (ad 3)]) (by rw [show S396 2 (0 + f) = S 2 (0 + f) from by rw [t397]; exact sp_k (by decide), hz]) ?_
                  refine lv_iadd F.1 F.2.1 d_M_operation_202 ?_
                  refine W.eq (g2 := F0 m 203 ls [.int (nI ((12 * (0 + f)) + z)), .ref (ad 3)]) (by rw [nI_add]) ?_
                  refine lv_iload_n F.1 F.2.1 d_M_operation_203 rfl (lv_at hl 5 rfl) ?_
                  have f401 : h394 (ad 3) = some (.inl (cs 0, 672, .inl (S396 3))) := hR.2.1 3 (by decide)
                  refine pw_iastN F hK.1 hP hS 0 f401 rfl (k := (12 * (0 + f)) + z) (by omega) (by decide) d_M_operation_204 (fun H locs hP hS => ?_)
                  have hP : pw D vwCl A (pu h394 (ad 3) (.inl (cs 0, 672, .inl (upd (S396 3) ((12 * (0 + f)) + z) 5)))) H := hP
                  have hR := hR.arr (show 3 < 16 by decide) ((12 * (0 + f)) + z) 5
                  obtain ⟨h402, e403⟩ : ∃ z9 : pw_H, z9 = pu h394 (ad 3) (.inl (cs 0, 672, .inl (upd (S396 3) ((12 * (0 + f)) + z) 5))) := ⟨_, rfl⟩
                  rw [← e403] at hP
                  obtain ⟨S404, t405⟩ : ∃ z9 : St, z9 = sp S396 3 ((12 * (0 + f)) + z) 5 := ⟨_, rfl⟩
                  have hR : RM cs h402 o ad S404 := by rw [e403, t405]; exact hR
                  refine lv_aload_n F.1 F.2.1 d_M_operation_205 rfl (lv_at hl 2 rfl) ?_
                  have f406 : h402 o = some (.inr (7, [.int (S404 16 0), .int (S404 16 1), .ref (ad 0), .ref (ad 1), .ref (ad 2), .ref (ad 3), .ref (ad 4), .int (S404 16 2), .int (S404 16 3), .int (S404 16 4), .int (S404 16 5), .ref (ad 5), .ref (ad 6), .ref (ad 7), .ref (ad 8), .ref (ad 9), .ref (ad 10), .ref (ad 11), .ref (ad 12), .ref (ad 13), .ref (ad 14), .ref (ad 15)])) := hR.1
                  refine pw_get F I_M hK.1 hP f406 rfl 6 (by decide) L_M_23 (fun _ z => z) rfl d_M_operation_206 ?_
                  refine lv_bipush (v := 12) F.1 F.2.1 d_M_operation_209 (by decide) ?_
                  refine lv_iload F.1 F.2.1 d_M_operation_211 (lv_at hl 1 rfl) ?_
                  refine lv_imul F.1 F.2.1 d_M_operation_213 ?_
                  refine W.eq (g2 := F0 m 214 ls [.int (nI (12 * (0 + f))), .ref (ad 4)]) (by rw [show (12 : Int32) = nI 12 from rfl, pk_mul]) ?_
                  refine lv_aload_n F.1 F.2.1 d_M_operation_214 rfl (lv_at hl 2 rfl) ?_
                  refine pw_get F I_M hK.1 hP f406 rfl 4 (by decide) L_M_17 (fun _ z => z) rfl d_M_operation_215 ?_
                  refine lv_iload F.1 F.2.1 d_M_operation_218 (lv_at hl 1 rfl) ?_
                  have f407 : h402 (ad 2) = some (.inl (cs 0, 56, .inl (S404 2))) := hR.2.1 2 (by decide)
                  refine pw_ialdN F hK.1 hP 0 f407 rfl (k := 0 + f) (by omega) (by decide) d_M_operation_220 ?_
                  refine W.eq (g2 := F0 m 221 ls [.int (nI z), .int (nI (12 * (0 + f))), .ref (ad 4)]) (by rw [show S404 2 (0 + f) = S396 2 (0 + f) from by rw [t405]; exact sp_k (by decide), show S396 2 (0 + f) = S 2 (0 + f) from by rw [t397]; exact sp_k (by decide), hz]) ?_
                  refine lv_iadd F.1 F.2.1 d_M_operation_221 ?_
                  refine W.eq (g2 := F0 m 222 ls [.int (nI ((12 * (0 + f)) + z)), .ref (ad 4)]) (by rw [nI_add]) ?_
                  refine lv_iload F.1 F.2.1 d_M_operation_222 (lv_at hl 6 rfl) ?_
                  have f408 : h402 (ad 4) = some (.inl (cs 0, 672, .inl (S404 4))) := hR.2.1 4 (by decide)
                  refine pw_iastN F hK.1 hP hS 0 f408 rfl (k := (12 * (0 + f)) + z) (by omega) (by decide) d_M_operation_224 (fun H locs hP hS => ?_)
                  have hP : pw D vwCl A (pu h402 (ad 4) (.inl (cs 0, 672, .inl (upd (S404 4) ((12 * (0 + f)) + z) n)))) H := hP
                  have hR := hR.arr (show 4 < 16 by decide) ((12 * (0 + f)) + z) n
                  obtain ⟨h409, e410⟩ : ∃ z9 : pw_H, z9 = pu h402 (ad 4) (.inl (cs 0, 672, .inl (upd (S404 4) ((12 * (0 + f)) + z) n))) := ⟨_, rfl⟩
                  rw [← e410] at hP
                  obtain ⟨S411, t412⟩ : ∃ z9 : St, z9 = sp S404 4 ((12 * (0 + f)) + z) n := ⟨_, rfl⟩
                  have hR : RM cs h409 o ad S411 := by rw [e410, t412]; exact hR
                  refine lv_aload_n F.1 F.2.1 d_M_operation_225 rfl (lv_at hl 2 rfl) ?_
                  have f413 : h409 o = some (.inr (7, [.int (S411 16 0), .int (S411 16 1), .ref (ad 0), .ref (ad 1), .ref (ad 2), .ref (ad 3), .ref (ad 4), .int (S411 16 2), .int (S411 16 3), .int (S411 16 4), .int (S411 16 5), .ref (ad 5), .ref (ad 6), .ref (ad 7), .ref (ad 8), .ref (ad 9), .ref (ad 10), .ref (ad 11), .ref (ad 12), .ref (ad 13), .ref (ad 14), .ref (ad 15)])) := hR.1
                  refine pw_get F I_M hK.1 hP f413 rfl 4 (by decide) L_M_17 (fun _ z => z) rfl d_M_operation_226 ?_
                  refine lv_iload F.1 F.2.1 d_M_operation_229 (lv_at hl 1 rfl) ?_
                  refine lv_dup2_11 F.1 F.2.1 d_M_operation_231 rfl rfl ?_
                  have f414 : h409 (ad 2) = some (.inl (cs 0, 56, .inl (S411 2))) := hR.2.1 2 (by decide)
                  refine pw_ialdN F hK.1 hP 0 f414 rfl (k := 0 + f) (by omega) (by decide) d_M_operation_232 ?_
                  refine W.eq (g2 := F0 m 233 ls [.int (nI z), .int (nI (0 + f)), .ref (ad 2)]) (by rw [show S411 2 (0 + f) = S404 2 (0 + f) from by rw [t412]; exact sp_k (by decide), show S404 2 (0 + f) = S396 2 (0 + f) from by rw [t405]; exact sp_k (by decide), show S396 2 (0 + f) = S 2 (0 + f) from by rw [t397]; exact sp_k (by decide), hz]) ?_
                  refine lv_iconst (v := 1) F.1 F.2.1 d_M_operation_233 (by decide) ?_
                  refine lv_iadd F.1 F.2.1 d_M_operation_234 ?_
                  refine W.eq (g2 := F0 m 235 ls [.int (nI (z + 1)), .int (nI (0 + f)), .ref (ad 2)]) (by rw [show (1 : Int32) = nI 1 from rfl, nI_add]) ?_
                  refine pw_iastN F hK.1 hP hS 0 f414 rfl (k := 0 + f) (by omega) (by decide) d_M_operation_235 (fun H locs hP hS => ?_)
                  have hP : pw D vwCl A (pu h409 (ad 2) (.inl (cs 0, 56, .inl (upd (S411 2) (0 + f) (nI (z + 1)))))) H := hP
                  have hR := hR.arr (show 2 < 16 by decide) (0 + f) (nI (z + 1))
                  obtain ⟨h415, e416⟩ : ∃ z9 : pw_H, z9 = pu h409 (ad 2) (.inl (cs 0, 56, .inl (upd (S411 2) (0 + f) (nI (z + 1))))) := ⟨_, rfl⟩
                  rw [← e416] at hP
                  obtain ⟨S417, t418⟩ : ∃ z9 : St, z9 = sp S411 2 (0 + f) (nI (z + 1)) := ⟨_, rfl⟩
                  have hR : RM cs h415 o ad S417 := by rw [e416, t418]; exact hR
                  refine lv_aload_n F.1 F.2.1 d_M_operation_236 rfl (lv_at hl 2 rfl) ?_
                  have f419 : h415 o = some (.inr (7, [.int (S417 16 0), .int (S417 16 1), .ref (ad 0), .ref (ad 1), .ref (ad 2), .ref (ad 3), .ref (ad 4), .int (S417 16 2), .int (S417 16 3), .int (S417 16 4), .int (S417 16 5), .ref (ad 5), .ref (ad 6), .ref (ad 7), .ref (ad 8), .ref (ad 9), .ref (ad 10), .ref (ad 11), .ref (ad 12), .ref (ad 13), .ref (ad 14), .ref (ad 15)])) := hR.1
                  refine pw_get F I_M hK.1 hP f419 rfl 4 (by decide) L_M_17 (fun _ z => z) rfl d_M_operation_237 ?_
                  refine lv_iload F.1 F.2.1 d_M_operation_240 (lv_at hl 1 rfl) ?_
                  have f420 : h415 (ad 2) = some (.inl (cs 0, 56, .inl (S417 2))) := hR.2.1 2 (by decide)
                  refine pw_ialdN F hK.1 hP 0 f420 rfl (k := 0 + f) (by omega) (by decide) d_M_operation_242 ?_
                  refine W.eq (g2 := F0 m 243 ls [.int (nI (z + 1))]) (by rw [show S417 2 (0 + f) = nI (z + 1) from by rw [t418]; exact sp_s]) ?_
                  exact pw_iret F hr hlk hP hA hK hS (by decide) (by decide) d_M_operation_243 (by have hgd := (show gdOperation S (nI f) dr 5 n from ⟨hin, by decide, by rw [hor]; exact c369, fun z9 => absurd z9 (by decide), fun _ => b385, fun z9 => absurd z9 (by decide)⟩); have hth : thOperation S (nI f) dr 5 n = 0 := (by unfold thOperation; rw [if_neg (fun z9 => z9 hgd), if_neg (fun z9 => z9.elim (fun z8 => z8.2 b390) (fun z8 => c393 (by rw [hor, hz] at z8; exact z8)))]); unfold stOperation rOperation; rw [if_pos hth, if_pos hth, hor, hz, tn_nI (by omega), nI_1]; rw [t418, t412, t405, t397] at hR; exact ⟨hR, rfl⟩)
                · skip
                  refine lv_iconst (v := 2) F.1 F.2.1 d_M_operation_169 (by decide) ?_
                  refine lv_goto (tgt := 174) F.1 F.2.1 d_M_operation_170 (by decide) ?_
                  refine pw_put F I_M ty_M k_M n_M hK.1 hP hS f367 rfl 0 (by decide) L_M_63 (fun _ z => z) rfl rfl rfl (Nat.le_of_ble_eq_true rfl) d_M_operation_174 (fun H locs hP hS => ?_)
                  have hP : pw D vwCl A (pu h o (.inr (7, (mfs ad S).set (mpos 0) (.int 2)))) H := hP
                  have hR := hR.num (show 0 < 6 by decide) 2
                  obtain ⟨h421, e422⟩ : ∃ z9 : pw_H, z9 = pu h o (.inr (7, (mfs ad S).set (mpos 0) (.int 2))) := ⟨_, rfl⟩
                  rw [← e422] at hP
                  obtain ⟨S423, t424⟩ : ∃ z9 : St, z9 = sp S 16 0 2 := ⟨_, rfl⟩
                  have hR : RM cs h421 o ad S423 := by rw [e422, t424]; exact hR
                  refine lv_aload_n F.1 F.2.1 d_M_operation_177 rfl (lv_at hl 2 rfl) ?_
                  have f425 : h421 o = some (.inr (7, [.int (S423 16 0), .int (S423 16 1), .ref (ad 0), .ref (ad 1), .ref (ad 2), .ref (ad 3), .ref (ad 4), .int (S423 16 2), .int (S423 16 3), .int (S423 16 4), .int (S423 16 5), .ref (ad 5), .ref (ad 6), .ref (ad 7), .ref (ad 8), .ref (ad 9), .ref (ad 10), .ref (ad 11), .ref (ad 12), .ref (ad 13), .ref (ad 14), .ref (ad 15)])) := hR.1
                  refine pw_get F I_M hK.1 hP f425 rfl 0 (by decide) L_M_63 (fun _ z => z) rfl d_M_operation_178 ?_
                  refine W.eq (g2 := F0 m 181 ls [.int 2]) (by rw [show S423 16 0 = 2 from by rw [t424]; exact sp_s]) ?_
                  refine lv_if_le (tgt := 186) F.1 F.2.1 d_M_operation_181 (by decide) (fun c426 => absurd c426 (by decide)) (fun c426 => ?_)
                  refine lv_iconst (v := 0) F.1 F.2.1 d_M_operation_184 (by decide) ?_
                  exact pw_iret F hr hlk hP hA hK hS (by decide) (by decide) d_M_operation_185 (by have hgd := (show gdOperation S (nI f) dr 5 n from ⟨hin, by decide, by rw [hor]; exact c369, fun z9 => absurd z9 (by decide), fun _ => b385, fun z9 => absurd z9 (by decide)⟩); have hth : thOperation S (nI f) dr 5 n = 2 := (by unfold thOperation; rw [if_neg (fun z9 => z9 hgd), if_pos (Or.inr (by rw [hor, hz]; exact c393))]); unfold stOperation rOperation; rw [hth, if_neg (by decide), if_neg (by decide)]; rw [t424] at hR; exact ⟨hR, rfl⟩)
              · skip
                refine W.eq (g2 := F0 m 154 ls [.int 0, .ref o]) (by rw [if_neg b390]) ?_
                refine lv_if_eq (tgt := 169) F.1 F.2.1 d_M_operation_154 (by decide) (fun c427 => ?_) (fun c427 => absurd (by decide) c427)
                refine lv_iconst (v := 2) F.1 F.2.1 d_M_operation_169 (by decide) ?_
                refine lv_goto (tgt := 174) F.1 F.2.1 d_M_operation_170 (by decide) ?_
                refine pw_put F I_M ty_M k_M n_M hK.1 hP hS f367 rfl 0 (by decide) L_M_63 (fun _ z => z) rfl rfl rfl (Nat.le_of_ble_eq_true rfl) d_M_operation_174 (fun H locs hP hS => ?_)
                have hP : pw D vwCl A (pu h o (.inr (7, (mfs ad S).set (mpos 0) (.int 2)))) H := hP
                have hR := hR.num (show 0 < 6 by decide) 2
                obtain ⟨h428, e429⟩ : ∃ z9 : pw_H, z9 = pu h o (.inr (7, (mfs ad S).set (mpos 0) (.int 2))) := ⟨_, rfl⟩
                rw [← e429] at hP
                obtain ⟨S430, t431⟩ : ∃ z9 : St, z9 = sp S 16 0 2 := ⟨_, rfl⟩
                have hR : RM cs h428 o ad S430 := by rw [e429, t431]; exact hR
                refine lv_aload_n F.1 F.2.1 d_M_operation_177 rfl (lv_at hl 2 rfl) ?_
                have f432 : h428 o = some (.inr (7, [.int (S430 16 0), .int (S430 16 1), .ref (ad 0), .ref (ad 1), .ref (ad 2), .ref (ad 3), .ref (ad 4), .int (S430 16 2), .int (S430 16 3), .int (S430 16 4), .int (S430 16 5), .ref (ad 5), .ref (ad 6), .ref (ad 7), .ref (ad 8), .ref (ad 9), .ref (ad 10), .ref (ad 11), .ref (ad 12), .ref (ad 13), .ref (ad 14), .ref (ad 15)])) := hR.1
                refine pw_get F I_M hK.1 hP f432 rfl 0 (by decide) L_M_63 (fun _ z => z) rfl d_M_operation_178 ?_
                refine W.eq (g2 := F0 m 181 ls [.int 2]) (by rw [show S430 16 0 = 2 from by rw [t431]; exact sp_s]) ?_
                refine lv_if_le (tgt := 186) F.1 F.2.1 d_M_operation_181 (by decide) (fun c433 => absurd c433 (by decide)) (fun c433 => ?_)
                refine lv_iconst (v := 0) F.1 F.2.1 d_M_operation_184 (by decide) ?_
                exact pw_iret F hr hlk hP hA hK hS (by decide) (by decide) d_M_operation_185 (by have hgd := (show gdOperation S (nI f) dr 5 n from ⟨hin, by decide, by rw [hor]; exact c369, fun z9 => absurd z9 (by decide), fun _ => b385, fun z9 => absurd z9 (by decide)⟩); have hth : thOperation S (nI f) dr 5 n = 2 := (by unfold thOperation; rw [if_neg (fun z9 => z9 hgd), if_pos (Or.inl ⟨c1, b390⟩)]); unfold stOperation rOperation; rw [hth, if_neg (by decide), if_neg (by decide)]; rw [t431] at hR; exact ⟨hR, rfl⟩)
            · skip
              refine W.eq (g2 := F0 m 109 ls [.int 0]) (by rw [if_neg b385]) ?_
              refine lv_istore F.1 F.2.1 d_M_operation_109 hl (by decide) rfl (fun ls hl => ?_)
              replace hl : lv_has ls 7 [(6, .int 0), (5, .int (nI (0 + f))), (0, .ref o), (1, .int (nI f)), (2, .int dr), (3, .int 5), (4, .int n)] := hl
              refine lv_iload F.1 F.2.1 d_M_operation_111 (lv_at hl 0 rfl) ?_
              refine lv_if_eq (tgt := 136) F.1 F.2.1 d_M_operation_113 (by decide) (fun c434 => ?_) (fun c434 => absurd (by decide) c434)
              refine lv_aload_n F.1 F.2.1 d_M_operation_136 rfl (lv_at hl 2 rfl) ?_
              refine lv_iload F.1 F.2.1 d_M_operation_137 (lv_at hl 0 rfl) ?_
              refine lv_if_ne (tgt := 146) F.1 F.2.1 d_M_operation_139 (by decide) (fun c435 => absurd (by decide) c435) (fun c435 => ?_)
              refine lv_iconst (v := 1) F.1 F.2.1 d_M_operation_142 (by decide) ?_
              refine lv_goto (tgt := 174) F.1 F.2.1 d_M_operation_143 (by decide) ?_
              refine pw_put F I_M ty_M k_M n_M hK.1 hP hS f367 rfl 0 (by decide) L_M_63 (fun _ z => z) rfl rfl rfl (Nat.le_of_ble_eq_true rfl) d_M_operation_174 (fun H locs hP hS => ?_)
              have hP : pw D vwCl A (pu h o (.inr (7, (mfs ad S).set (mpos 0) (.int 1)))) H := hP
              have hR := hR.num (show 0 < 6 by decide) 1
              obtain ⟨h436, e437⟩ : ∃ z9 : pw_H, z9 = pu h o (.inr (7, (mfs ad S).set (mpos 0) (.int 1))) := ⟨_, rfl⟩
              rw [← e437] at hP
              obtain ⟨S438, t439⟩ : ∃ z9 : St, z9 = sp S 16 0 1 := ⟨_, rfl⟩
              have hR : RM cs h436 o ad S438 := by rw [e437, t439]; exact hR
              refine lv_aload_n F.1 F.2.1 d_M_operation_177 rfl (lv_at hl 2 rfl) ?_
              have f440 : h436 o = some (.inr (7, [.int (S438 16 0), .int (S438 16 1), .ref (ad 0), .ref (ad 1), .ref (ad 2), .ref (ad 3), .ref (ad 4), .int (S438 16 2), .int (S438 16 3), .int (S438 16 4), .int (S438 16 5), .ref (ad 5), .ref (ad 6), .ref (ad 7), .ref (ad 8), .ref (ad 9), .ref (ad 10), .ref (ad 11), .ref (ad 12), .ref (ad 13), .ref (ad 14), .ref (ad 15)])) := hR.1
              refine pw_get F I_M hK.1 hP f440 rfl 0 (by decide) L_M_63 (fun _ z => z) rfl d_M_operation_178 ?_
              refine W.eq (g2 := F0 m 181 ls [.int 1]) (by rw [show S438 16 0 = 1 from by rw [t439]; exact sp_s]) ?_
              refine lv_if_le (tgt := 186) F.1 F.2.1 d_M_operation_181 (by decide) (fun c441 => absurd c441 (by decide)) (fun c441 => ?_)
              refine lv_iconst (v := 0) F.1 F.2.1 d_M_operation_184 (by decide) ?_
              exact pw_iret F hr hlk hP hA hK hS (by decide) (by decide) d_M_operation_185 (by have hth : thOperation S (nI f) dr 5 n = 1 := (by unfold thOperation; rw [if_pos (show ¬ gdOperation S (nI f) dr 5 n from fun z9 => b385 (z9.2.2.2.2.1 (Or.inr rfl)))]); unfold stOperation rOperation; rw [hth, if_neg (by decide), if_neg (by decide)]; rw [t439] at hR; exact ⟨hR, rfl⟩)
      · skip
        refine W.eq (g2 := F0 m 30 ls [.int 0]) (by rw [if_neg b3]) ?_
        refine lv_if_eq (tgt := 37) F.1 F.2.1 d_M_operation_30 (by decide) (fun c442 => ?_) (fun c442 => absurd (by decide) c442)
        refine lv_iconst (v := 0) F.1 F.2.1 d_M_operation_37 (by decide) ?_
        refine lv_istore F.1 F.2.1 d_M_operation_38 hl (by decide) rfl (fun ls hl => ?_)
        replace hl : lv_has ls 7 [(6, .int 0), (5, .int (nI (0 + f))), (0, .ref o), (1, .int (nI f)), (2, .int dr), (3, .int kd), (4, .int n)] := hl
        refine lv_iload F.1 F.2.1 d_M_operation_40 (lv_at hl 0 rfl) ?_
        refine lv_if_eq (tgt := 59) F.1 F.2.1 d_M_operation_42 (by decide) (fun c443 => ?_) (fun c443 => absurd (by decide) c443)
        refine lv_iconst (v := 0) F.1 F.2.1 d_M_operation_59 (by decide) ?_
        refine lv_istore F.1 F.2.1 d_M_operation_60 hl (by decide) rfl (fun ls hl => ?_)
        replace hl : lv_has ls 7 [(6, .int 0), (5, .int (nI (0 + f))), (0, .ref o), (1, .int (nI f)), (2, .int dr), (3, .int kd), (4, .int n)] := hl
        refine lv_iload F.1 F.2.1 d_M_operation_62 (lv_at hl 0 rfl) ?_
        refine lv_if_eq (tgt := 82) F.1 F.2.1 d_M_operation_64 (by decide) (fun c444 => ?_) (fun c444 => absurd (by decide) c444)
        refine lv_iload F.1 F.2.1 d_M_operation_82 (lv_at hl 0 rfl) ?_
        refine lv_if_eq (tgt := 111) F.1 F.2.1 d_M_operation_84 (by decide) (fun c445 => ?_) (fun c445 => absurd (by decide) c445)
        refine lv_iload F.1 F.2.1 d_M_operation_111 (lv_at hl 0 rfl) ?_
        refine lv_if_eq (tgt := 136) F.1 F.2.1 d_M_operation_113 (by decide) (fun c446 => ?_) (fun c446 => absurd (by decide) c446)
        refine lv_aload_n F.1 F.2.1 d_M_operation_136 rfl (lv_at hl 2 rfl) ?_
        refine lv_iload F.1 F.2.1 d_M_operation_137 (lv_at hl 0 rfl) ?_
        refine lv_if_ne (tgt := 146) F.1 F.2.1 d_M_operation_139 (by decide) (fun c447 => absurd (by decide) c447) (fun c447 => ?_)
        refine lv_iconst (v := 1) F.1 F.2.1 d_M_operation_142 (by decide) ?_
        refine lv_goto (tgt := 174) F.1 F.2.1 d_M_operation_143 (by decide) ?_
        have f448 : h o = some (.inr (7, [.int (S 16 0), .int (S 16 1), .ref (ad 0), .ref (ad 1), .ref (ad 2), .ref (ad 3), .ref (ad 4), .int (S 16 2), .int (S 16 3), .int (S 16 4), .int (S 16 5), .ref (ad 5), .ref (ad 6), .ref (ad 7), .ref (ad 8), .ref (ad 9), .ref (ad 10), .ref (ad 11), .ref (ad 12), .ref (ad 13), .ref (ad 14), .ref (ad 15)])) := hR.1
        refine pw_put F I_M ty_M k_M n_M hK.1 hP hS f448 rfl 0 (by decide) L_M_63 (fun _ z => z) rfl rfl rfl (Nat.le_of_ble_eq_true rfl) d_M_operation_174 (fun H locs hP hS => ?_)
        have hP : pw D vwCl A (pu h o (.inr (7, (mfs ad S).set (mpos 0) (.int 1)))) H := hP
        have hR := hR.num (show 0 < 6 by decide) 1
        obtain ⟨h449, e450⟩ : ∃ z9 : pw_H, z9 = pu h o (.inr (7, (mfs ad S).set (mpos 0) (.int 1))) := ⟨_, rfl⟩
        rw [← e450] at hP
        obtain ⟨S451, t452⟩ : ∃ z9 : St, z9 = sp S 16 0 1 := ⟨_, rfl⟩
        have hR : RM cs h449 o ad S451 := by rw [e450, t452]; exact hR
        refine lv_aload_n F.1 F.2.1 d_M_operation_177 rfl (lv_at hl 2 rfl) ?_
        have f453 : h449 o = some (.inr (7, [.int (S451 16 0), .int (S451 16 1), .ref (ad 0), .ref (ad 1), .ref (ad 2), .ref (ad 3), .ref (ad 4), .int (S451 16 2), .int (S451 16 3), .int (S451 16 4), .int (S451 16 5), .ref (ad 5), .ref (ad 6), .ref (ad 7), .ref (ad 8), .ref (ad 9), .ref (ad 10), .ref (ad 11), .ref (ad 12), .ref (ad 13), .ref (ad 14), .ref (ad 15)])) := hR.1
        refine pw_get F I_M hK.1 hP f453 rfl 0 (by decide) L_M_63 (fun _ z => z) rfl d_M_operation_178 ?_
        refine W.eq (g2 := F0 m 181 ls [.int 1]) (by rw [show S451 16 0 = 1 from by rw [t452]; exact sp_s]) ?_
        refine lv_if_le (tgt := 186) F.1 F.2.1 d_M_operation_181 (by decide) (fun c454 => absurd c454 (by decide)) (fun c454 => ?_)
        refine lv_iconst (v := 0) F.1 F.2.1 d_M_operation_184 (by decide) ?_
        exact pw_iret F hr hlk hP hA hK hS (by decide) (by decide) d_M_operation_185 (by have hth : thOperation S (nI f) dr kd n = 1 := (by unfold thOperation; rw [if_pos (show ¬ gdOperation S (nI f) dr kd n from fun z9 => b3 z9.2.1)]); unfold stOperation rOperation; rw [hth, if_neg (by decide), if_neg (by decide)]; rw [t452] at hR; exact ⟨hR, rfl⟩)
    · skip
      refine lv_bipush (v := 48) F.1 F.2.1 d_M_operation_4 (by decide) ?_
      refine lv_goto (tgt := 10) F.1 F.2.1 d_M_operation_6 (by decide) ?_
      refine lv_iload_n F.1 F.2.1 d_M_operation_10 rfl (lv_at hl 1 rfl) ?_
      refine lv_iadd F.1 F.2.1 d_M_operation_11 ?_
      refine W.eq (g2 := F0 m 12 ls [.int (nI (48 + f))]) (by rw [show (48 : Int32) = nI 48 from rfl, nI_add]) ?_
      refine lv_istore F.1 F.2.1 d_M_operation_12 hl (by decide) rfl (fun ls hl => ?_)
      replace hl : lv_has ls 7 [(5, .int (nI (48 + f))), (0, .ref o), (1, .int (nI f)), (2, .int dr), (3, .int kd), (4, .int n)] := hl
      refine lv_iload_n F.1 F.2.1 d_M_operation_14 rfl (lv_at hl 2 rfl) ?_
      refine lv_iconst (v := 0) F.1 F.2.1 d_M_operation_15 (by decide) ?_
      refine lv_bipush (v := 7) F.1 F.2.1 d_M_operation_16 (by decide) ?_
      refine pw_ciE (pr_S F (c_M_inn l D cs A h (nI f) 0 7) X_M_72 rfl rfl ⟨by decide, by decide⟩ hP hA hK hS rfl hl.1 rfl (Nat.le_of_ble_eq_true rfl) d_M_operation_18 ⟨by decide, by decide⟩) hS (fun H locs hP hS => ?_)
      refine W.eq (g2 := F0 m 21 ls [.int 1]) (by rw [if_pos hin]) ?_
      refine lv_if_eq (tgt := 37) F.1 F.2.1 d_M_operation_21 (by decide) (fun c455 => absurd c455 (by decide)) (fun c455 => ?_)
      refine lv_iload_n F.1 F.2.1 d_M_operation_24 rfl (lv_at hl 4 rfl) ?_
      refine lv_iconst (v := 0) F.1 F.2.1 d_M_operation_25 (by decide) ?_
      refine lv_iconst (v := 5) F.1 F.2.1 d_M_operation_26 (by decide) ?_
      refine pw_ciE (pr_S F (c_M_inn l D cs A h kd 0 5) X_M_72 rfl rfl ⟨by decide, by decide⟩ hP hA hK hS rfl hl.1 rfl (Nat.le_of_ble_eq_true rfl) d_M_operation_27 ⟨by decide, by decide⟩) hS (fun H locs hP hS => ?_)
      by_cases b456 : 0 ≤ kd ∧ kd ≤ 5
      · skip
        refine W.eq (g2 := F0 m 30 ls [.int 1]) (by rw [if_pos b456]) ?_
        refine lv_if_eq (tgt := 37) F.1 F.2.1 d_M_operation_30 (by decide) (fun c457 => absurd c457 (by decide)) (fun c457 => ?_)
        rcases mIn5 b456 with rfl | rfl | rfl | rfl | rfl | rfl
        · skip
          refine lv_iconst (v := 1) F.1 F.2.1 d_M_operation_33 (by decide) ?_
          refine lv_goto (tgt := 38) F.1 F.2.1 d_M_operation_34 (by decide) ?_
          refine lv_istore F.1 F.2.1 d_M_operation_38 hl (by decide) rfl (fun ls hl => ?_)
          replace hl : lv_has ls 7 [(6, .int 1), (5, .int (nI (48 + f))), (0, .ref o), (1, .int (nI f)), (2, .int dr), (3, .int 0), (4, .int n)] := hl
          refine lv_iload F.1 F.2.1 d_M_operation_40 (lv_at hl 0 rfl) ?_
          refine lv_if_eq (tgt := 59) F.1 F.2.1 d_M_operation_42 (by decide) (fun c458 => absurd c458 (by decide)) (fun c458 => ?_)
          refine lv_aload_n F.1 F.2.1 d_M_operation_45 rfl (lv_at hl 2 rfl) ?_
          have f459 : h o = some (.inr (7, [.int (S 16 0), .int (S 16 1), .ref (ad 0), .ref (ad 1), .ref (ad 2), .ref (ad 3), .ref (ad 4), .int (S 16 2), .int (S 16 3), .int (S 16 4), .int (S 16 5), .ref (ad 5), .ref (ad 6), .ref (ad 7), .ref (ad 8), .ref (ad 9), .ref (ad 10), .ref (ad 11), .ref (ad 12), .ref (ad 13), .ref (ad 14), .ref (ad 15)])) := hR.1
          refine pw_get F I_M hK.1 hP f459 rfl 2 (by decide) L_M_7 (fun _ z => z) rfl d_M_operation_46 ?_
          refine lv_iload F.1 F.2.1 d_M_operation_49 (lv_at hl 1 rfl) ?_
          have f460 : h (ad 0) = some (.inl (cs 1, 56, .inl (S 0))) := hR.2.1 0 (by decide)
          refine pw_zaldN F hK.1 hP 1 f460 rfl (k := 48 + f) (by omega) (by decide) d_M_operation_51 ?_
          refine lv_if_eq (tgt := 59) F.1 F.2.1 d_M_operation_52 (by decide) (fun c461 => ?_) (fun c461 => ?_)
          · skip
            refine lv_iconst (v := 0) F.1 F.2.1 d_M_operation_59 (by decide) ?_
            refine lv_istore F.1 F.2.1 d_M_operation_60 hl (by decide) rfl (fun ls hl => ?_)
            replace hl : lv_has ls 7 [(6, .int 0), (5, .int (nI (48 + f))), (0, .ref o), (1, .int (nI f)), (2, .int dr), (3, .int 0), (4, .int n)] := hl
            refine lv_iload F.1 F.2.1 d_M_operation_62 (lv_at hl 0 rfl) ?_
            refine lv_if_eq (tgt := 82) F.1 F.2.1 d_M_operation_64 (by decide) (fun c462 => ?_) (fun c462 => absurd (by decide) c462)
            refine lv_iload F.1 F.2.1 d_M_operation_82 (lv_at hl 0 rfl) ?_
            refine lv_if_eq (tgt := 111) F.1 F.2.1 d_M_operation_84 (by decide) (fun c463 => ?_) (fun c463 => absurd (by decide) c463)
            refine lv_iload F.1 F.2.1 d_M_operation_111 (lv_at hl 0 rfl) ?_
            refine lv_if_eq (tgt := 136) F.1 F.2.1 d_M_operation_113 (by decide) (fun c464 => ?_) (fun c464 => absurd (by decide) c464)
            refine lv_aload_n F.1 F.2.1 d_M_operation_136 rfl (lv_at hl 2 rfl) ?_
            refine lv_iload F.1 F.2.1 d_M_operation_137 (lv_at hl 0 rfl) ?_
            refine lv_if_ne (tgt := 146) F.1 F.2.1 d_M_operation_139 (by decide) (fun c465 => absurd (by decide) c465) (fun c465 => ?_)
            refine lv_iconst (v := 1) F.1 F.2.1 d_M_operation_142 (by decide) ?_
            refine lv_goto (tgt := 174) F.1 F.2.1 d_M_operation_143 (by decide) ?_
            refine pw_put F I_M ty_M k_M n_M hK.1 hP hS f459 rfl 0 (by decide) L_M_63 (fun _ z => z) rfl rfl rfl (Nat.le_of_ble_eq_true rfl) d_M_operation_174 (fun H locs hP hS => ?_)
            have hP : pw D vwCl A (pu h o (.inr (7, (mfs ad S).set (mpos 0) (.int 1)))) H := hP
            have hR := hR.num (show 0 < 6 by decide) 1
            obtain ⟨h466, e467⟩ : ∃ z9 : pw_H, z9 = pu h o (.inr (7, (mfs ad S).set (mpos 0) (.int 1))) := ⟨_, rfl⟩
            rw [← e467] at hP
            obtain ⟨S468, t469⟩ : ∃ z9 : St, z9 = sp S 16 0 1 := ⟨_, rfl⟩
            have hR : RM cs h466 o ad S468 := by rw [e467, t469]; exact hR
            refine lv_aload_n F.1 F.2.1 d_M_operation_177 rfl (lv_at hl 2 rfl) ?_
            have f470 : h466 o = some (.inr (7, [.int (S468 16 0), .int (S468 16 1), .ref (ad 0), .ref (ad 1), .ref (ad 2), .ref (ad 3), .ref (ad 4), .int (S468 16 2), .int (S468 16 3), .int (S468 16 4), .int (S468 16 5), .ref (ad 5), .ref (ad 6), .ref (ad 7), .ref (ad 8), .ref (ad 9), .ref (ad 10), .ref (ad 11), .ref (ad 12), .ref (ad 13), .ref (ad 14), .ref (ad 15)])) := hR.1
            refine pw_get F I_M hK.1 hP f470 rfl 0 (by decide) L_M_63 (fun _ z => z) rfl d_M_operation_178 ?_
            refine W.eq (g2 := F0 m 181 ls [.int 1]) (by rw [show S468 16 0 = 1 from by rw [t469]; exact sp_s]) ?_
            refine lv_if_le (tgt := 186) F.1 F.2.1 d_M_operation_181 (by decide) (fun c471 => absurd c471 (by decide)) (fun c471 => ?_)
            refine lv_iconst (v := 0) F.1 F.2.1 d_M_operation_184 (by decide) ?_
            exact pw_iret F hr hlk hP hA hK hS (by decide) (by decide) d_M_operation_185 (by have hth : thOperation S (nI f) dr 0 n = 1 := (by unfold thOperation; rw [if_pos (show ¬ gdOperation S (nI f) dr 0 n from fun z9 => z9.2.2.1 (by rw [oRow_1 hf c1]; exact c461))]); unfold stOperation rOperation; rw [hth, if_neg (by decide), if_neg (by decide)]; rw [t469] at hR; exact ⟨hR, rfl⟩)
          · skip
            obtain ⟨z, hz12, hz⟩ := hB (48 + f) (by omega) c461
            have hor : oRow (nI f) dr = 48 + f := oRow_1 hf c1
            refine lv_iconst (v := 1) F.1 F.2.1 d_M_operation_55 (by decide) ?_
            refine lv_goto (tgt := 60) F.1 F.2.1 d_M_operation_56 (by decide) ?_
            refine lv_istore F.1 F.2.1 d_M_operation_60 hl (by decide) rfl (fun ls hl => ?_)
            replace hl : lv_has ls 7 [(6, .int 1), (5, .int (nI (48 + f))), (0, .ref o), (1, .int (nI f)), (2, .int dr), (3, .int 0), (4, .int n)] := hl
            refine lv_iload F.1 F.2.1 d_M_operation_62 (lv_at hl 0 rfl) ?_
            refine lv_if_eq (tgt := 82) F.1 F.2.1 d_M_operation_64 (by decide) (fun c472 => absurd c472 (by decide)) (fun c472 => ?_)
            refine lv_iload_n F.1 F.2.1 d_M_operation_67 rfl (lv_at hl 5 rfl) ?_
            refine lv_if_ne (tgt := 82) F.1 F.2.1 d_M_operation_68 (by decide) (fun c473 => absurd (by decide) c473) (fun c473 => ?_)
            refine lv_iload F.1 F.2.1 d_M_operation_71 (lv_at hl 6 rfl) ?_
            refine lv_bipush (v := (-99)) F.1 F.2.1 d_M_operation_73 (by decide) ?_
            refine lv_bipush (v := 99) F.1 F.2.1 d_M_operation_75 (by decide) ?_
            refine pw_ciE (pr_S F (c_M_inn l D cs A h n (-99) 99) X_M_72 rfl rfl ⟨by decide, by decide⟩ hP hA hK hS rfl hl.1 rfl (Nat.le_of_ble_eq_true rfl) d_M_operation_77 ⟨by decide, by decide⟩) hS (fun H locs hP hS => ?_)
            by_cases b474 : (-99) ≤ n ∧ n ≤ 99
            · skip
              refine W.eq (g2 := F0 m 80 ls [.int 1]) (by rw [if_pos b474]) ?_
              refine lv_istore F.1 F.2.1 d_M_operation_80 hl (by decide) rfl (fun ls hl => ?_)
              replace hl : lv_has ls 7 [(6, .int 1), (5, .int (nI (48 + f))), (0, .ref o), (1, .int (nI f)), (2, .int dr), (3, .int 0), (4, .int n)] := hl
              refine lv_iload F.1 F.2.1 d_M_operation_82 (lv_at hl 0 rfl) ?_
              refine lv_if_eq (tgt := 111) F.1 F.2.1 d_M_operation_84 (by decide) (fun c475 => absurd c475 (by decide)) (fun c475 => ?_)
              refine lv_iload_n F.1 F.2.1 d_M_operation_87 rfl (lv_at hl 5 rfl) ?_
              refine lv_iconst (v := 1) F.1 F.2.1 d_M_operation_88 (by decide) ?_
              refine lv_icmp_eq (tgt := 97) F.1 F.2.1 d_M_operation_89 (by decide) (fun c476 => absurd c476 (by decide)) (fun c476 => ?_)
              refine lv_iload_n F.1 F.2.1 d_M_operation_92 rfl (lv_at hl 5 rfl) ?_
              refine lv_iconst (v := 5) F.1 F.2.1 d_M_operation_93 (by decide) ?_
              refine lv_icmp_ne (tgt := 111) F.1 F.2.1 d_M_operation_94 (by decide) (fun c477 => ?_) (fun c477 => absurd c477 (by decide))
              refine lv_iload F.1 F.2.1 d_M_operation_111 (lv_at hl 0 rfl) ?_
              refine lv_if_eq (tgt := 136) F.1 F.2.1 d_M_operation_113 (by decide) (fun c478 => absurd c478 (by decide)) (fun c478 => ?_)
              refine lv_iload_n F.1 F.2.1 d_M_operation_116 rfl (lv_at hl 5 rfl) ?_
              refine lv_iconst (v := 3) F.1 F.2.1 d_M_operation_117 (by decide) ?_
              refine lv_icmp_ne (tgt := 136) F.1 F.2.1 d_M_operation_118 (by decide) (fun c479 => ?_) (fun c479 => absurd c479 (by decide))
              refine lv_aload_n F.1 F.2.1 d_M_operation_136 rfl (lv_at hl 2 rfl) ?_
              refine lv_iload F.1 F.2.1 d_M_operation_137 (lv_at hl 0 rfl) ?_
              refine lv_if_ne (tgt := 146) F.1 F.2.1 d_M_operation_139 (by decide) (fun c480 => ?_) (fun c480 => absurd c480 (by decide))
              refine lv_iload_n F.1 F.2.1 d_M_operation_146 rfl (lv_at hl 4 rfl) ?_
              refine lv_if_ne (tgt := 157) F.1 F.2.1 d_M_operation_147 (by decide) (fun c481 => ?_) (fun c481 => absurd c481 c1)
              refine lv_aload_n F.1 F.2.1 d_M_operation_157 rfl (lv_at hl 2 rfl) ?_
              refine pw_get F I_M hK.1 hP f459 rfl 4 (by decide) L_M_17 (fun _ z => z) rfl d_M_operation_158 ?_
              refine lv_iload F.1 F.2.1 d_M_operation_161 (lv_at hl 1 rfl) ?_
              have f482 : h (ad 2) = some (.inl (cs 0, 56, .inl (S 2))) := hR.2.1 2 (by decide)
              refine pw_ialdN F hK.1 hP 0 f482 rfl (k := 48 + f) (by omega) (by decide) d_M_operation_163 ?_
              refine W.eq (g2 := F0 m 164 ls [.int (nI z), .ref o]) (by rw [hz]) ?_
              refine lv_bipush (v := 12) F.1 F.2.1 d_M_operation_164 (by decide) ?_
              refine lv_icmp_ne (tgt := 173) F.1 F.2.1 d_M_operation_166 (by decide) (fun c483 => ?_) (fun c483 => ?_)
              · skip
                refine lv_iconst (v := 0) F.1 F.2.1 d_M_operation_173 (by decide) ?_
                refine pw_put F I_M ty_M k_M n_M hK.1 hP hS f459 rfl 0 (by decide) L_M_63 (fun _ z => z) rfl rfl rfl (Nat.le_of_ble_eq_true rfl) d_M_operation_174 (fun H locs hP hS => ?_)
                have hP : pw D vwCl A (pu h o (.inr (7, (mfs ad S).set (mpos 0) (.int 0)))) H := hP
                have hR := hR.num (show 0 < 6 by decide) 0
                obtain ⟨h484, e485⟩ : ∃ z9 : pw_H, z9 = pu h o (.inr (7, (mfs ad S).set (mpos 0) (.int 0))) := ⟨_, rfl⟩
                rw [← e485] at hP
                obtain ⟨S486, t487⟩ : ∃ z9 : St, z9 = sp S 16 0 0 := ⟨_, rfl⟩
                have hR : RM cs h484 o ad S486 := by rw [e485, t487]; exact hR
                refine lv_aload_n F.1 F.2.1 d_M_operation_177 rfl (lv_at hl 2 rfl) ?_
                have f488 : h484 o = some (.inr (7, [.int (S486 16 0), .int (S486 16 1), .ref (ad 0), .ref (ad 1), .ref (ad 2), .ref (ad 3), .ref (ad 4), .int (S486 16 2), .int (S486 16 3), .int (S486 16 4), .int (S486 16 5), .ref (ad 5), .ref (ad 6), .ref (ad 7), .ref (ad 8), .ref (ad 9), .ref (ad 10), .ref (ad 11), .ref (ad 12), .ref (ad 13), .ref (ad 14), .ref (ad 15)])) := hR.1
                refine pw_get F I_M hK.1 hP f488 rfl 0 (by decide) L_M_63 (fun _ z => z) rfl d_M_operation_178 ?_
                refine W.eq (g2 := F0 m 181 ls [.int 0]) (by rw [show S486 16 0 = 0 from by rw [t487]; exact sp_s]) ?_
                refine lv_if_le (tgt := 186) F.1 F.2.1 d_M_operation_181 (by decide) (fun c489 => ?_) (fun c489 => absurd (by decide) c489)
                have hlt : z < 12 := by
                  rcases Nat.lt_or_ge z 12 with h9 | h9
                  · exact h9
                  · exact absurd (show nI z = 12 by rw [show z = 12 by omega]; rfl) c483
                refine lv_aload_n F.1 F.2.1 d_M_operation_186 rfl (lv_at hl 2 rfl) ?_
                refine pw_get F I_M hK.1 hP f488 rfl 5 (by decide) L_M_20 (fun _ z => z) rfl d_M_operation_187 ?_
                refine lv_bipush (v := 12) F.1 F.2.1 d_M_operation_190 (by decide) ?_
                refine lv_iload F.1 F.2.1 d_M_operation_192 (lv_at hl 1 rfl) ?_
                refine lv_imul F.1 F.2.1 d_M_operation_194 ?_
                refine W.eq (g2 := F0 m 195 ls [.int (nI (12 * (48 + f))), .ref (ad 3)]) (by rw [show (12 : Int32) = nI 12 from rfl, pk_mul]) ?_
                refine lv_aload_n F.1 F.2.1 d_M_operation_195 rfl (lv_at hl 2 rfl) ?_
                refine pw_get F I_M hK.1 hP f488 rfl 4 (by decide) L_M_17 (fun _ z => z) rfl d_M_operation_196 ?_
                refine lv_iload F.1 F.2.1 d_M_operation_199 (lv_at hl 1 rfl) ?_
                have f490 : h484 (ad 2) = some (.inl (cs 0, 56, .inl (S486 2))) := hR.2.1 2 (by decide)
                refine pw_ialdN F hK.1 hP 0 f490 rfl (k := 48 + f) (by omega) (by decide) d_M_operation_201 ?_
                refine W.eq (g2 := F0 m 202 ls [.int (nI z), .int (nI (12 * (48 + f))), .ref (ad 3)]) (by rw [show S486 2 (48 + f) = S 2 (48 + f) from by rw [t487]; exact sp_k (by decide), hz]) ?_
                refine lv_iadd F.1 F.2.1 d_M_operation_202 ?_
                refine W.eq (g2 := F0 m 203 ls [.int (nI ((12 * (48 + f)) + z)), .ref (ad 3)]) (by rw [nI_add]) ?_
                refine lv_iload_n F.1 F.2.1 d_M_operation_203 rfl (lv_at hl 5 rfl) ?_
                have f491 : h484 (ad 3) = some (.inl (cs 0, 672, .inl (S486 3))) := hR.2.1 3 (by decide)
                refine pw_iastN F hK.1 hP hS 0 f491 rfl (k := (12 * (48 + f)) + z) (by omega) (by decide) d_M_operation_204 (fun H locs hP hS => ?_)
                have hP : pw D vwCl A (pu h484 (ad 3) (.inl (cs 0, 672, .inl (upd (S486 3) ((12 * (48 + f)) + z) 0)))) H := hP
                have hR := hR.arr (show 3 < 16 by decide) ((12 * (48 + f)) + z) 0
                obtain ⟨h492, e493⟩ : ∃ z9 : pw_H, z9 = pu h484 (ad 3) (.inl (cs 0, 672, .inl (upd (S486 3) ((12 * (48 + f)) + z) 0))) := ⟨_, rfl⟩
                rw [← e493] at hP
                obtain ⟨S494, t495⟩ : ∃ z9 : St, z9 = sp S486 3 ((12 * (48 + f)) + z) 0 := ⟨_, rfl⟩
                have hR : RM cs h492 o ad S494 := by rw [e493, t495]; exact hR
                refine lv_aload_n F.1 F.2.1 d_M_operation_205 rfl (lv_at hl 2 rfl) ?_
                have f496 : h492 o = some (.inr (7, [.int (S494 16 0), .int (S494 16 1), .ref (ad 0), .ref (ad 1), .ref (ad 2), .ref (ad 3), .ref (ad 4), .int (S494 16 2), .int (S494 16 3), .int (S494 16 4), .int (S494 16 5), .ref (ad 5), .ref (ad 6), .ref (ad 7), .ref (ad 8), .ref (ad 9), .ref (ad 10), .ref (ad 11), .ref (ad 12), .ref (ad 13), .ref (ad 14), .ref (ad 15)])) := hR.1
                refine pw_get F I_M hK.1 hP f496 rfl 6 (by decide) L_M_23 (fun _ z => z) rfl d_M_operation_206 ?_
                refine lv_bipush (v := 12) F.1 F.2.1 d_M_operation_209 (by decide) ?_
                refine lv_iload F.1 F.2.1 d_M_operation_211 (lv_at hl 1 rfl) ?_
                refine lv_imul F.1 F.2.1 d_M_operation_213 ?_
                refine W.eq (g2 := F0 m 214 ls [.int (nI (12 * (48 + f))), .ref (ad 4)]) (by rw [show (12 : Int32) = nI 12 from rfl, pk_mul]) ?_
                refine lv_aload_n F.1 F.2.1 d_M_operation_214 rfl (lv_at hl 2 rfl) ?_
                refine pw_get F I_M hK.1 hP f496 rfl 4 (by decide) L_M_17 (fun _ z => z) rfl d_M_operation_215 ?_
                refine lv_iload F.1 F.2.1 d_M_operation_218 (lv_at hl 1 rfl) ?_
                have f497 : h492 (ad 2) = some (.inl (cs 0, 56, .inl (S494 2))) := hR.2.1 2 (by decide)
                refine pw_ialdN F hK.1 hP 0 f497 rfl (k := 48 + f) (by omega) (by decide) d_M_operation_220 ?_
                refine W.eq (g2 := F0 m 221 ls [.int (nI z), .int (nI (12 * (48 + f))), .ref (ad 4)]) (by rw [show S494 2 (48 + f) = S486 2 (48 + f) from by rw [t495]; exact sp_k (by decide), show S486 2 (48 + f) = S 2 (48 + f) from by rw [t487]; exact sp_k (by decide), hz]) ?_
                refine lv_iadd F.1 F.2.1 d_M_operation_221 ?_
                refine W.eq (g2 := F0 m 222 ls [.int (nI ((12 * (48 + f)) + z)), .ref (ad 4)]) (by rw [nI_add]) ?_
                refine lv_iload F.1 F.2.1 d_M_operation_222 (lv_at hl 6 rfl) ?_
                have f498 : h492 (ad 4) = some (.inl (cs 0, 672, .inl (S494 4))) := hR.2.1 4 (by decide)
                refine pw_iastN F hK.1 hP hS 0 f498 rfl (k := (12 * (48 + f)) + z) (by omega) (by decide) d_M_operation_224 (fun H locs hP hS => ?_)
                have hP : pw D vwCl A (pu h492 (ad 4) (.inl (cs 0, 672, .inl (upd (S494 4) ((12 * (48 + f)) + z) n)))) H := hP
                have hR := hR.arr (show 4 < 16 by decide) ((12 * (48 + f)) + z) n
                obtain ⟨h499, e500⟩ : ∃ z9 : pw_H, z9 = pu h492 (ad 4) (.inl (cs 0, 672, .inl (upd (S494 4) ((12 * (48 + f)) + z) n))) := ⟨_, rfl⟩
                rw [← e500] at hP
                obtain ⟨S501, t502⟩ : ∃ z9 : St, z9 = sp S494 4 ((12 * (48 + f)) + z) n := ⟨_, rfl⟩
                have hR : RM cs h499 o ad S501 := by rw [e500, t502]; exact hR
                refine lv_aload_n F.1 F.2.1 d_M_operation_225 rfl (lv_at hl 2 rfl) ?_
                have f503 : h499 o = some (.inr (7, [.int (S501 16 0), .int (S501 16 1), .ref (ad 0), .ref (ad 1), .ref (ad 2), .ref (ad 3), .ref (ad 4), .int (S501 16 2), .int (S501 16 3), .int (S501 16 4), .int (S501 16 5), .ref (ad 5), .ref (ad 6), .ref (ad 7), .ref (ad 8), .ref (ad 9), .ref (ad 10), .ref (ad 11), .ref (ad 12), .ref (ad 13), .ref (ad 14), .ref (ad 15)])) := hR.1
                refine pw_get F I_M hK.1 hP f503 rfl 4 (by decide) L_M_17 (fun _ z => z) rfl d_M_operation_226 ?_
                refine lv_iload F.1 F.2.1 d_M_operation_229 (lv_at hl 1 rfl) ?_
                refine lv_dup2_11 F.1 F.2.1 d_M_operation_231 rfl rfl ?_
                have f504 : h499 (ad 2) = some (.inl (cs 0, 56, .inl (S501 2))) := hR.2.1 2 (by decide)
                refine pw_ialdN F hK.1 hP 0 f504 rfl (k := 48 + f) (by omega) (by decide) d_M_operation_232 ?_
                refine W.eq (g2 := F0 m 233 ls [.int (nI z), .int (nI (48 + f)), .ref (ad 2)]) (by rw [show S501 2 (48 + f) = S494 2 (48 + f) from by rw [t502]; exact sp_k (by decide), show S494 2 (48 + f) = S486 2 (48 + f) from by rw [t495]; exact sp_k (by decide), show S486 2 (48 + f) = S 2 (48 + f) from by rw [t487]; exact sp_k (by decide), hz]) ?_
                refine lv_iconst (v := 1) F.1 F.2.1 d_M_operation_233 (by decide) ?_
                refine lv_iadd F.1 F.2.1 d_M_operation_234 ?_
                refine W.eq (g2 := F0 m 235 ls [.int (nI (z + 1)), .int (nI (48 + f)), .ref (ad 2)]) (by rw [show (1 : Int32) = nI 1 from rfl, nI_add]) ?_
                refine pw_iastN F hK.1 hP hS 0 f504 rfl (k := 48 + f) (by omega) (by decide) d_M_operation_235 (fun H locs hP hS => ?_)
                have hP : pw D vwCl A (pu h499 (ad 2) (.inl (cs 0, 56, .inl (upd (S501 2) (48 + f) (nI (z + 1)))))) H := hP
                have hR := hR.arr (show 2 < 16 by decide) (48 + f) (nI (z + 1))
                obtain ⟨h505, e506⟩ : ∃ z9 : pw_H, z9 = pu h499 (ad 2) (.inl (cs 0, 56, .inl (upd (S501 2) (48 + f) (nI (z + 1))))) := ⟨_, rfl⟩
                rw [← e506] at hP
                obtain ⟨S507, t508⟩ : ∃ z9 : St, z9 = sp S501 2 (48 + f) (nI (z + 1)) := ⟨_, rfl⟩
                have hR : RM cs h505 o ad S507 := by rw [e506, t508]; exact hR
                refine lv_aload_n F.1 F.2.1 d_M_operation_236 rfl (lv_at hl 2 rfl) ?_
                have f509 : h505 o = some (.inr (7, [.int (S507 16 0), .int (S507 16 1), .ref (ad 0), .ref (ad 1), .ref (ad 2), .ref (ad 3), .ref (ad 4), .int (S507 16 2), .int (S507 16 3), .int (S507 16 4), .int (S507 16 5), .ref (ad 5), .ref (ad 6), .ref (ad 7), .ref (ad 8), .ref (ad 9), .ref (ad 10), .ref (ad 11), .ref (ad 12), .ref (ad 13), .ref (ad 14), .ref (ad 15)])) := hR.1
                refine pw_get F I_M hK.1 hP f509 rfl 4 (by decide) L_M_17 (fun _ z => z) rfl d_M_operation_237 ?_
                refine lv_iload F.1 F.2.1 d_M_operation_240 (lv_at hl 1 rfl) ?_
                have f510 : h505 (ad 2) = some (.inl (cs 0, 56, .inl (S507 2))) := hR.2.1 2 (by decide)
                refine pw_ialdN F hK.1 hP 0 f510 rfl (k := 48 + f) (by omega) (by decide) d_M_operation_242 ?_
                refine W.eq (g2 := F0 m 243 ls [.int (nI (z + 1))]) (by rw [show S507 2 (48 + f) = nI (z + 1) from by rw [t508]; exact sp_s]) ?_
                exact pw_iret F hr hlk hP hA hK hS (by decide) (by decide) d_M_operation_243 (by have hgd := (show gdOperation S (nI f) dr 0 n from ⟨hin, by decide, by rw [hor]; exact c461, fun _ => b474, fun z9 => absurd z9 (by decide), fun z9 => absurd z9 (by decide)⟩); have hth : thOperation S (nI f) dr 0 n = 0 := (by unfold thOperation; rw [if_neg (fun z9 => z9 hgd), if_neg (fun z9 => z9.elim (fun z8 => c1 z8.1) (fun z8 => c483 (by rw [hor, hz] at z8; exact z8)))]); unfold stOperation rOperation; rw [if_pos hth, if_pos hth, hor, hz, tn_nI (by omega), nI_1]; rw [t508, t502, t495, t487] at hR; exact ⟨hR, rfl⟩)
              · skip
                refine lv_iconst (v := 2) F.1 F.2.1 d_M_operation_169 (by decide) ?_
                refine lv_goto (tgt := 174) F.1 F.2.1 d_M_operation_170 (by decide) ?_
                refine pw_put F I_M ty_M k_M n_M hK.1 hP hS f459 rfl 0 (by decide) L_M_63 (fun _ z => z) rfl rfl rfl (Nat.le_of_ble_eq_true rfl) d_M_operation_174 (fun H locs hP hS => ?_)
                have hP : pw D vwCl A (pu h o (.inr (7, (mfs ad S).set (mpos 0) (.int 2)))) H := hP
                have hR := hR.num (show 0 < 6 by decide) 2
                obtain ⟨h511, e512⟩ : ∃ z9 : pw_H, z9 = pu h o (.inr (7, (mfs ad S).set (mpos 0) (.int 2))) := ⟨_, rfl⟩
                rw [← e512] at hP
                obtain ⟨S513, t514⟩ : ∃ z9 : St, z9 = sp S 16 0 2 := ⟨_, rfl⟩
                have hR : RM cs h511 o ad S513 := by rw [e512, t514]; exact hR
                refine lv_aload_n F.1 F.2.1 d_M_operation_177 rfl (lv_at hl 2 rfl) ?_
                have f515 : h511 o = some (.inr (7, [.int (S513 16 0), .int (S513 16 1), .ref (ad 0), .ref (ad 1), .ref (ad 2), .ref (ad 3), .ref (ad 4), .int (S513 16 2), .int (S513 16 3), .int (S513 16 4), .int (S513 16 5), .ref (ad 5), .ref (ad 6), .ref (ad 7), .ref (ad 8), .ref (ad 9), .ref (ad 10), .ref (ad 11), .ref (ad 12), .ref (ad 13), .ref (ad 14), .ref (ad 15)])) := hR.1
                refine pw_get F I_M hK.1 hP f515 rfl 0 (by decide) L_M_63 (fun _ z => z) rfl d_M_operation_178 ?_
                refine W.eq (g2 := F0 m 181 ls [.int 2]) (by rw [show S513 16 0 = 2 from by rw [t514]; exact sp_s]) ?_
                refine lv_if_le (tgt := 186) F.1 F.2.1 d_M_operation_181 (by decide) (fun c516 => absurd c516 (by decide)) (fun c516 => ?_)
                refine lv_iconst (v := 0) F.1 F.2.1 d_M_operation_184 (by decide) ?_
                exact pw_iret F hr hlk hP hA hK hS (by decide) (by decide) d_M_operation_185 (by have hgd := (show gdOperation S (nI f) dr 0 n from ⟨hin, by decide, by rw [hor]; exact c461, fun _ => b474, fun z9 => absurd z9 (by decide), fun z9 => absurd z9 (by decide)⟩); have hth : thOperation S (nI f) dr 0 n = 2 := (by unfold thOperation; rw [if_neg (fun z9 => z9 hgd), if_pos (Or.inr (by rw [hor, hz]; exact c483))]); unfold stOperation rOperation; rw [hth, if_neg (by decide), if_neg (by decide)]; rw [t514] at hR; exact ⟨hR, rfl⟩)
            · skip
              refine W.eq (g2 := F0 m 80 ls [.int 0]) (by rw [if_neg b474]) ?_
              refine lv_istore F.1 F.2.1 d_M_operation_80 hl (by decide) rfl (fun ls hl => ?_)
              replace hl : lv_has ls 7 [(6, .int 0), (5, .int (nI (48 + f))), (0, .ref o), (1, .int (nI f)), (2, .int dr), (3, .int 0), (4, .int n)] := hl
              refine lv_iload F.1 F.2.1 d_M_operation_82 (lv_at hl 0 rfl) ?_
              refine lv_if_eq (tgt := 111) F.1 F.2.1 d_M_operation_84 (by decide) (fun c517 => ?_) (fun c517 => absurd (by decide) c517)
              refine lv_iload F.1 F.2.1 d_M_operation_111 (lv_at hl 0 rfl) ?_
              refine lv_if_eq (tgt := 136) F.1 F.2.1 d_M_operation_113 (by decide) (fun c518 => ?_) (fun c518 => absurd (by decide) c518)
              refine lv_aload_n F.1 F.2.1 d_M_operation_136 rfl (lv_at hl 2 rfl) ?_
              refine lv_iload F.1 F.2.1 d_M_operation_137 (lv_at hl 0 rfl) ?_
              refine lv_if_ne (tgt := 146) F.1 F.2.1 d_M_operation_139 (by decide) (fun c519 => absurd (by decide) c519) (fun c519 => ?_)
              refine lv_iconst (v := 1) F.1 F.2.1 d_M_operation_142 (by decide) ?_
              refine lv_goto (tgt := 174) F.1 F.2.1 d_M_operation_143 (by decide) ?_
              refine pw_put F I_M ty_M k_M n_M hK.1 hP hS f459 rfl 0 (by decide) L_M_63 (fun _ z => z) rfl rfl rfl (Nat.le_of_ble_eq_true rfl) d_M_operation_174 (fun H locs hP hS => ?_)
              have hP : pw D vwCl A (pu h o (.inr (7, (mfs ad S).set (mpos 0) (.int 1)))) H := hP
              have hR := hR.num (show 0 < 6 by decide) 1
              obtain ⟨h520, e521⟩ : ∃ z9 : pw_H, z9 = pu h o (.inr (7, (mfs ad S).set (mpos 0) (.int 1))) := ⟨_, rfl⟩
              rw [← e521] at hP
              obtain ⟨S522, t523⟩ : ∃ z9 : St, z9 = sp S 16 0 1 := ⟨_, rfl⟩
              have hR : RM cs h520 o ad S522 := by rw [e521, t523]; exact hR
              refine lv_aload_n F.1 F.2.1 d_M_operation_177 rfl (lv_at hl 2 rfl) ?_
              have f524 : h520 o = some (.inr (7, [.int (S522 16 0), .int (S522 16 1), .ref (ad 0), .ref (ad 1), .ref (ad 2), .ref (ad 3), .ref (ad 4), .int (S522 16 2), .int (S522 16 3), .int (S522 16 4), .int (S522 16 5), .ref (ad 5), .ref (ad 6), .ref (ad 7), .ref (ad 8), .ref (ad 9), .ref (ad 10), .ref (ad 11), .ref (ad 12), .ref (ad 13), .ref (ad 14), .ref (ad 15)])) := hR.1
              refine pw_get F I_M hK.1 hP f524 rfl 0 (by decide) L_M_63 (fun _ z => z) rfl d_M_operation_178 ?_
              refine W.eq (g2 := F0 m 181 ls [.int 1]) (by rw [show S522 16 0 = 1 from by rw [t523]; exact sp_s]) ?_
              refine lv_if_le (tgt := 186) F.1 F.2.1 d_M_operation_181 (by decide) (fun c525 => absurd c525 (by decide)) (fun c525 => ?_)
              refine lv_iconst (v := 0) F.1 F.2.1 d_M_operation_184 (by decide) ?_
              exact pw_iret F hr hlk hP hA hK hS (by decide) (by decide) d_M_operation_185 (by have hth : thOperation S (nI f) dr 0 n = 1 := (by unfold thOperation; rw [if_pos (show ¬ gdOperation S (nI f) dr 0 n from fun z9 => b474 (z9.2.2.2.1 rfl))]); unfold stOperation rOperation; rw [hth, if_neg (by decide), if_neg (by decide)]; rw [t523] at hR; exact ⟨hR, rfl⟩)
        · skip
          refine lv_iconst (v := 1) F.1 F.2.1 d_M_operation_33 (by decide) ?_
          refine lv_goto (tgt := 38) F.1 F.2.1 d_M_operation_34 (by decide) ?_
          refine lv_istore F.1 F.2.1 d_M_operation_38 hl (by decide) rfl (fun ls hl => ?_)
          replace hl : lv_has ls 7 [(6, .int 1), (5, .int (nI (48 + f))), (0, .ref o), (1, .int (nI f)), (2, .int dr), (3, .int 1), (4, .int n)] := hl
          refine lv_iload F.1 F.2.1 d_M_operation_40 (lv_at hl 0 rfl) ?_
          refine lv_if_eq (tgt := 59) F.1 F.2.1 d_M_operation_42 (by decide) (fun c526 => absurd c526 (by decide)) (fun c526 => ?_)
          refine lv_aload_n F.1 F.2.1 d_M_operation_45 rfl (lv_at hl 2 rfl) ?_
          have f527 : h o = some (.inr (7, [.int (S 16 0), .int (S 16 1), .ref (ad 0), .ref (ad 1), .ref (ad 2), .ref (ad 3), .ref (ad 4), .int (S 16 2), .int (S 16 3), .int (S 16 4), .int (S 16 5), .ref (ad 5), .ref (ad 6), .ref (ad 7), .ref (ad 8), .ref (ad 9), .ref (ad 10), .ref (ad 11), .ref (ad 12), .ref (ad 13), .ref (ad 14), .ref (ad 15)])) := hR.1
          refine pw_get F I_M hK.1 hP f527 rfl 2 (by decide) L_M_7 (fun _ z => z) rfl d_M_operation_46 ?_
          refine lv_iload F.1 F.2.1 d_M_operation_49 (lv_at hl 1 rfl) ?_
          have f528 : h (ad 0) = some (.inl (cs 1, 56, .inl (S 0))) := hR.2.1 0 (by decide)
          refine pw_zaldN F hK.1 hP 1 f528 rfl (k := 48 + f) (by omega) (by decide) d_M_operation_51 ?_
          refine lv_if_eq (tgt := 59) F.1 F.2.1 d_M_operation_52 (by decide) (fun c529 => ?_) (fun c529 => ?_)
          · skip
            refine lv_iconst (v := 0) F.1 F.2.1 d_M_operation_59 (by decide) ?_
            refine lv_istore F.1 F.2.1 d_M_operation_60 hl (by decide) rfl (fun ls hl => ?_)
            replace hl : lv_has ls 7 [(6, .int 0), (5, .int (nI (48 + f))), (0, .ref o), (1, .int (nI f)), (2, .int dr), (3, .int 1), (4, .int n)] := hl
            refine lv_iload F.1 F.2.1 d_M_operation_62 (lv_at hl 0 rfl) ?_
            refine lv_if_eq (tgt := 82) F.1 F.2.1 d_M_operation_64 (by decide) (fun c530 => ?_) (fun c530 => absurd (by decide) c530)
            refine lv_iload F.1 F.2.1 d_M_operation_82 (lv_at hl 0 rfl) ?_
            refine lv_if_eq (tgt := 111) F.1 F.2.1 d_M_operation_84 (by decide) (fun c531 => ?_) (fun c531 => absurd (by decide) c531)
            refine lv_iload F.1 F.2.1 d_M_operation_111 (lv_at hl 0 rfl) ?_
            refine lv_if_eq (tgt := 136) F.1 F.2.1 d_M_operation_113 (by decide) (fun c532 => ?_) (fun c532 => absurd (by decide) c532)
            refine lv_aload_n F.1 F.2.1 d_M_operation_136 rfl (lv_at hl 2 rfl) ?_
            refine lv_iload F.1 F.2.1 d_M_operation_137 (lv_at hl 0 rfl) ?_
            refine lv_if_ne (tgt := 146) F.1 F.2.1 d_M_operation_139 (by decide) (fun c533 => absurd (by decide) c533) (fun c533 => ?_)
            refine lv_iconst (v := 1) F.1 F.2.1 d_M_operation_142 (by decide) ?_
            refine lv_goto (tgt := 174) F.1 F.2.1 d_M_operation_143 (by decide) ?_
            refine pw_put F I_M ty_M k_M n_M hK.1 hP hS f527 rfl 0 (by decide) L_M_63 (fun _ z => z) rfl rfl rfl (Nat.le_of_ble_eq_true rfl) d_M_operation_174 (fun H locs hP hS => ?_)
            have hP : pw D vwCl A (pu h o (.inr (7, (mfs ad S).set (mpos 0) (.int 1)))) H := hP
            have hR := hR.num (show 0 < 6 by decide) 1
            obtain ⟨h534, e535⟩ : ∃ z9 : pw_H, z9 = pu h o (.inr (7, (mfs ad S).set (mpos 0) (.int 1))) := ⟨_, rfl⟩
            rw [← e535] at hP
            obtain ⟨S536, t537⟩ : ∃ z9 : St, z9 = sp S 16 0 1 := ⟨_, rfl⟩
            have hR : RM cs h534 o ad S536 := by rw [e535, t537]; exact hR
            refine lv_aload_n F.1 F.2.1 d_M_operation_177 rfl (lv_at hl 2 rfl) ?_
            have f538 : h534 o = some (.inr (7, [.int (S536 16 0), .int (S536 16 1), .ref (ad 0), .ref (ad 1), .ref (ad 2), .ref (ad 3), .ref (ad 4), .int (S536 16 2), .int (S536 16 3), .int (S536 16 4), .int (S536 16 5), .ref (ad 5), .ref (ad 6), .ref (ad 7), .ref (ad 8), .ref (ad 9), .ref (ad 10), .ref (ad 11), .ref (ad 12), .ref (ad 13), .ref (ad 14), .ref (ad 15)])) := hR.1
            refine pw_get F I_M hK.1 hP f538 rfl 0 (by decide) L_M_63 (fun _ z => z) rfl d_M_operation_178 ?_
            refine W.eq (g2 := F0 m 181 ls [.int 1]) (by rw [show S536 16 0 = 1 from by rw [t537]; exact sp_s]) ?_
            refine lv_if_le (tgt := 186) F.1 F.2.1 d_M_operation_181 (by decide) (fun c539 => absurd c539 (by decide)) (fun c539 => ?_)
            refine lv_iconst (v := 0) F.1 F.2.1 d_M_operation_184 (by decide) ?_
            exact pw_iret F hr hlk hP hA hK hS (by decide) (by decide) d_M_operation_185 (by have hth : thOperation S (nI f) dr 1 n = 1 := (by unfold thOperation; rw [if_pos (show ¬ gdOperation S (nI f) dr 1 n from fun z9 => z9.2.2.1 (by rw [oRow_1 hf c1]; exact c529))]); unfold stOperation rOperation; rw [hth, if_neg (by decide), if_neg (by decide)]; rw [t537] at hR; exact ⟨hR, rfl⟩)
          · skip
            obtain ⟨z, hz12, hz⟩ := hB (48 + f) (by omega) c529
            have hor : oRow (nI f) dr = 48 + f := oRow_1 hf c1
            refine lv_iconst (v := 1) F.1 F.2.1 d_M_operation_55 (by decide) ?_
            refine lv_goto (tgt := 60) F.1 F.2.1 d_M_operation_56 (by decide) ?_
            refine lv_istore F.1 F.2.1 d_M_operation_60 hl (by decide) rfl (fun ls hl => ?_)
            replace hl : lv_has ls 7 [(6, .int 1), (5, .int (nI (48 + f))), (0, .ref o), (1, .int (nI f)), (2, .int dr), (3, .int 1), (4, .int n)] := hl
            refine lv_iload F.1 F.2.1 d_M_operation_62 (lv_at hl 0 rfl) ?_
            refine lv_if_eq (tgt := 82) F.1 F.2.1 d_M_operation_64 (by decide) (fun c540 => absurd c540 (by decide)) (fun c540 => ?_)
            refine lv_iload_n F.1 F.2.1 d_M_operation_67 rfl (lv_at hl 5 rfl) ?_
            refine lv_if_ne (tgt := 82) F.1 F.2.1 d_M_operation_68 (by decide) (fun c541 => ?_) (fun c541 => absurd c541 (by decide))
            refine lv_iload F.1 F.2.1 d_M_operation_82 (lv_at hl 0 rfl) ?_
            refine lv_if_eq (tgt := 111) F.1 F.2.1 d_M_operation_84 (by decide) (fun c542 => absurd c542 (by decide)) (fun c542 => ?_)
            refine lv_iload_n F.1 F.2.1 d_M_operation_87 rfl (lv_at hl 5 rfl) ?_
            refine lv_iconst (v := 1) F.1 F.2.1 d_M_operation_88 (by decide) ?_
            refine lv_icmp_eq (tgt := 97) F.1 F.2.1 d_M_operation_89 (by decide) (fun c543 => ?_) (fun c543 => absurd (by decide) c543)
            refine lv_iload F.1 F.2.1 d_M_operation_97 (lv_at hl 6 rfl) ?_
            refine lv_iconst (v := 0) F.1 F.2.1 d_M_operation_99 (by decide) ?_
            refine lv_aload_n F.1 F.2.1 d_M_operation_100 rfl (lv_at hl 2 rfl) ?_
            refine pw_get F I_M hK.1 hP f527 rfl 1 (by decide) L_M_76 (fun _ z => z) rfl d_M_operation_101 ?_
            refine lv_iconst (v := 1) F.1 F.2.1 d_M_operation_104 (by decide) ?_
            refine lv_isub F.1 F.2.1 d_M_operation_105 ?_
            refine pw_ciE (pr_S F (c_M_inn l D cs A h n 0 ((S 16 1) - 1)) X_M_72 rfl rfl ⟨by decide, by decide⟩ hP hA hK hS rfl hl.1 rfl (Nat.le_of_ble_eq_true rfl) d_M_operation_106 ⟨by decide, by decide⟩) hS (fun H locs hP hS => ?_)
            by_cases b544 : 0 ≤ n ∧ n ≤ ((S 16 1) - 1)
            · skip
              refine W.eq (g2 := F0 m 109 ls [.int 1]) (by rw [if_pos b544]) ?_
              refine lv_istore F.1 F.2.1 d_M_operation_109 hl (by decide) rfl (fun ls hl => ?_)
              replace hl : lv_has ls 7 [(6, .int 1), (5, .int (nI (48 + f))), (0, .ref o), (1, .int (nI f)), (2, .int dr), (3, .int 1), (4, .int n)] := hl
              refine lv_iload F.1 F.2.1 d_M_operation_111 (lv_at hl 0 rfl) ?_
              refine lv_if_eq (tgt := 136) F.1 F.2.1 d_M_operation_113 (by decide) (fun c545 => absurd c545 (by decide)) (fun c545 => ?_)
              refine lv_iload_n F.1 F.2.1 d_M_operation_116 rfl (lv_at hl 5 rfl) ?_
              refine lv_iconst (v := 3) F.1 F.2.1 d_M_operation_117 (by decide) ?_
              refine lv_icmp_ne (tgt := 136) F.1 F.2.1 d_M_operation_118 (by decide) (fun c546 => ?_) (fun c546 => absurd c546 (by decide))
              refine lv_aload_n F.1 F.2.1 d_M_operation_136 rfl (lv_at hl 2 rfl) ?_
              refine lv_iload F.1 F.2.1 d_M_operation_137 (lv_at hl 0 rfl) ?_
              refine lv_if_ne (tgt := 146) F.1 F.2.1 d_M_operation_139 (by decide) (fun c547 => ?_) (fun c547 => absurd c547 (by decide))
              refine lv_iload_n F.1 F.2.1 d_M_operation_146 rfl (lv_at hl 4 rfl) ?_
              refine lv_if_ne (tgt := 157) F.1 F.2.1 d_M_operation_147 (by decide) (fun c548 => ?_) (fun c548 => absurd c548 c1)
              refine lv_aload_n F.1 F.2.1 d_M_operation_157 rfl (lv_at hl 2 rfl) ?_
              refine pw_get F I_M hK.1 hP f527 rfl 4 (by decide) L_M_17 (fun _ z => z) rfl d_M_operation_158 ?_
              refine lv_iload F.1 F.2.1 d_M_operation_161 (lv_at hl 1 rfl) ?_
              have f549 : h (ad 2) = some (.inl (cs 0, 56, .inl (S 2))) := hR.2.1 2 (by decide)
              refine pw_ialdN F hK.1 hP 0 f549 rfl (k := 48 + f) (by omega) (by decide) d_M_operation_163 ?_
              refine W.eq (g2 := F0 m 164 ls [.int (nI z), .ref o]) (by rw [hz]) ?_
              refine lv_bipush (v := 12) F.1 F.2.1 d_M_operation_164 (by decide) ?_
              refine lv_icmp_ne (tgt := 173) F.1 F.2.1 d_M_operation_166 (by decide) (fun c550 => ?_) (fun c550 => ?_)
              · skip
                refine lv_iconst (v := 0) F.1 F.2.1 d_M_operation_173 (by decide) ?_
                refine pw_put F I_M ty_M k_M n_M hK.1 hP hS f527 rfl 0 (by decide) L_M_63 (fun _ z => z) rfl rfl rfl (Nat.le_of_ble_eq_true rfl) d_M_operation_174 (fun H locs hP hS => ?_)
                have hP : pw D vwCl A (pu h o (.inr (7, (mfs ad S).set (mpos 0) (.int 0)))) H := hP
                have hR := hR.num (show 0 < 6 by decide) 0
                obtain ⟨h551, e552⟩ : ∃ z9 : pw_H, z9 = pu h o (.inr (7, (mfs ad S).set (mpos 0) (.int 0))) := ⟨_, rfl⟩
                rw [← e552] at hP
                obtain ⟨S553, t554⟩ : ∃ z9 : St, z9 = sp S 16 0 0 := ⟨_, rfl⟩
                have hR : RM cs h551 o ad S553 := by rw [e552, t554]; exact hR
                refine lv_aload_n F.1 F.2.1 d_M_operation_177 rfl (lv_at hl 2 rfl) ?_
                have f555 : h551 o = some (.inr (7, [.int (S553 16 0), .int (S553 16 1), .ref (ad 0), .ref (ad 1), .ref (ad 2), .ref (ad 3), .ref (ad 4), .int (S553 16 2), .int (S553 16 3), .int (S553 16 4), .int (S553 16 5), .ref (ad 5), .ref (ad 6), .ref (ad 7), .ref (ad 8), .ref (ad 9), .ref (ad 10), .ref (ad 11), .ref (ad 12), .ref (ad 13), .ref (ad 14), .ref (ad 15)])) := hR.1
                refine pw_get F I_M hK.1 hP f555 rfl 0 (by decide) L_M_63 (fun _ z => z) rfl d_M_operation_178 ?_
                refine W.eq (g2 := F0 m 181 ls [.int 0]) (by rw [show S553 16 0 = 0 from by rw [t554]; exact sp_s]) ?_
                refine lv_if_le (tgt := 186) F.1 F.2.1 d_M_operation_181 (by decide) (fun c556 => ?_) (fun c556 => absurd (by decide) c556)
                have hlt : z < 12 := by
                  rcases Nat.lt_or_ge z 12 with h9 | h9
                  · exact h9
                  · exact absurd (show nI z = 12 by rw [show z = 12 by omega]; rfl) c550
                refine lv_aload_n F.1 F.2.1 d_M_operation_186 rfl (lv_at hl 2 rfl) ?_
                refine pw_get F I_M hK.1 hP f555 rfl 5 (by decide) L_M_20 (fun _ z => z) rfl d_M_operation_187 ?_
                refine lv_bipush (v := 12) F.1 F.2.1 d_M_operation_190 (by decide) ?_
                refine lv_iload F.1 F.2.1 d_M_operation_192 (lv_at hl 1 rfl) ?_
                refine lv_imul F.1 F.2.1 d_M_operation_194 ?_
                refine W.eq (g2 := F0 m 195 ls [.int (nI (12 * (48 + f))), .ref (ad 3)]) (by rw [show (12 : Int32) = nI 12 from rfl, pk_mul]) ?_
                refine lv_aload_n F.1 F.2.1 d_M_operation_195 rfl (lv_at hl 2 rfl) ?_
                refine pw_get F I_M hK.1 hP f555 rfl 4 (by decide) L_M_17 (fun _ z => z) rfl d_M_operation_196 ?_
                refine lv_iload F.1 F.2.1 d_M_operation_199 (lv_at hl 1 rfl) ?_
                have f557 : h551 (ad 2) = some (.inl (cs 0, 56, .inl (S553 2))) := hR.2.1 2 (by decide)
                refine pw_ialdN F hK.1 hP 0 f557 rfl (k := 48 + f) (by omega) (by decide) d_M_operation_201 ?_
                refine W.eq (g2 := F0 m 202 ls [.int (nI z), .int (nI (12 * (48 + f))), .ref (ad 3)]) (by rw [show S553 2 (48 + f) = S 2 (48 + f) from by rw [t554]; exact sp_k (by decide), hz]) ?_
                refine lv_iadd F.1 F.2.1 d_M_operation_202 ?_
                refine W.eq (g2 := F0 m 203 ls [.int (nI ((12 * (48 + f)) + z)), .ref (ad 3)]) (by rw [nI_add]) ?_
                refine lv_iload_n F.1 F.2.1 d_M_operation_203 rfl (lv_at hl 5 rfl) ?_
                have f558 : h551 (ad 3) = some (.inl (cs 0, 672, .inl (S553 3))) := hR.2.1 3 (by decide)
                refine pw_iastN F hK.1 hP hS 0 f558 rfl (k := (12 * (48 + f)) + z) (by omega) (by decide) d_M_operation_204 (fun H locs hP hS => ?_)
                have hP : pw D vwCl A (pu h551 (ad 3) (.inl (cs 0, 672, .inl (upd (S553 3) ((12 * (48 + f)) + z) 1)))) H := hP
                have hR := hR.arr (show 3 < 16 by decide) ((12 * (48 + f)) + z) 1
                obtain ⟨h559, e560⟩ : ∃ z9 : pw_H, z9 = pu h551 (ad 3) (.inl (cs 0, 672, .inl (upd (S553 3) ((12 * (48 + f)) + z) 1))) := ⟨_, rfl⟩
                rw [← e560] at hP
                obtain ⟨S561, t562⟩ : ∃ z9 : St, z9 = sp S553 3 ((12 * (48 + f)) + z) 1 := ⟨_, rfl⟩
                have hR : RM cs h559 o ad S561 := by rw [e560, t562]; exact hR
                refine lv_aload_n F.1 F.2.1 d_M_operation_205 rfl (lv_at hl 2 rfl) ?_
                have f563 : h559 o = some (.inr (7, [.int (S561 16 0), .int (S561 16 1), .ref (ad 0), .ref (ad 1), .ref (ad 2), .ref (ad 3), .ref (ad 4), .int (S561 16 2), .int (S561 16 3), .int (S561 16 4), .int (S561 16 5), .ref (ad 5), .ref (ad 6), .ref (ad 7), .ref (ad 8), .ref (ad 9), .ref (ad 10), .ref (ad 11), .ref (ad 12), .ref (ad 13), .ref (ad 14), .ref (ad 15)])) := hR.1
                refine pw_get F I_M hK.1 hP f563 rfl 6 (by decide) L_M_23 (fun _ z => z) rfl d_M_operation_206 ?_
                refine lv_bipush (v := 12) F.1 F.2.1 d_M_operation_209 (by decide) ?_
                refine lv_iload F.1 F.2.1 d_M_operation_211 (lv_at hl 1 rfl) ?_
                refine lv_imul F.1 F.2.1 d_M_operation_213 ?_
                refine W.eq (g2 := F0 m 214 ls [.int (nI (12 * (48 + f))), .ref (ad 4)]) (by rw [show (12 : Int32) = nI 12 from rfl, pk_mul]) ?_
                refine lv_aload_n F.1 F.2.1 d_M_operation_214 rfl (lv_at hl 2 rfl) ?_
                refine pw_get F I_M hK.1 hP f563 rfl 4 (by decide) L_M_17 (fun _ z => z) rfl d_M_operation_215 ?_
                refine lv_iload F.1 F.2.1 d_M_operation_218 (lv_at hl 1 rfl) ?_
                have f564 : h559 (ad 2) = some (.inl (cs 0, 56, .inl (S561 2))) := hR.2.1 2 (by decide)
                refine pw_ialdN F hK.1 hP 0 f564 rfl (k := 48 + f) (by omega) (by decide) d_M_operation_220 ?_
                refine W.eq (g2 := F0 m 221 ls [.int (nI z), .int (nI (12 * (48 + f))), .ref (ad 4)]) (by rw [show S561 2 (48 + f) = S553 2 (48 + f) from by rw [t562]; exact sp_k (by decide), show S553 2 (48 + f) = S 2 (48 + f) from by rw [t554]; exact sp_k (by decide), hz]) ?_
                refine lv_iadd F.1 F.2.1 d_M_operation_221 ?_
                refine W.eq (g2 := F0 m 222 ls [.int (nI ((12 * (48 + f)) + z)), .ref (ad 4)]) (by rw [nI_add]) ?_
                refine lv_iload F.1 F.2.1 d_M_operation_222 (lv_at hl 6 rfl) ?_
                have f565 : h559 (ad 4) = some (.inl (cs 0, 672, .inl (S561 4))) := hR.2.1 4 (by decide)
                refine pw_iastN F hK.1 hP hS 0 f565 rfl (k := (12 * (48 + f)) + z) (by omega) (by decide) d_M_operation_224 (fun H locs hP hS => ?_)
                have hP : pw D vwCl A (pu h559 (ad 4) (.inl (cs 0, 672, .inl (upd (S561 4) ((12 * (48 + f)) + z) n)))) H := hP
                have hR := hR.arr (show 4 < 16 by decide) ((12 * (48 + f)) + z) n
                obtain ⟨h566, e567⟩ : ∃ z9 : pw_H, z9 = pu h559 (ad 4) (.inl (cs 0, 672, .inl (upd (S561 4) ((12 * (48 + f)) + z) n))) := ⟨_, rfl⟩
                rw [← e567] at hP
                obtain ⟨S568, t569⟩ : ∃ z9 : St, z9 = sp S561 4 ((12 * (48 + f)) + z) n := ⟨_, rfl⟩
                have hR : RM cs h566 o ad S568 := by rw [e567, t569]; exact hR
                refine lv_aload_n F.1 F.2.1 d_M_operation_225 rfl (lv_at hl 2 rfl) ?_
                have f570 : h566 o = some (.inr (7, [.int (S568 16 0), .int (S568 16 1), .ref (ad 0), .ref (ad 1), .ref (ad 2), .ref (ad 3), .ref (ad 4), .int (S568 16 2), .int (S568 16 3), .int (S568 16 4), .int (S568 16 5), .ref (ad 5), .ref (ad 6), .ref (ad 7), .ref (ad 8), .ref (ad 9), .ref (ad 10), .ref (ad 11), .ref (ad 12), .ref (ad 13), .ref (ad 14), .ref (ad 15)])) := hR.1
                refine pw_get F I_M hK.1 hP f570 rfl 4 (by decide) L_M_17 (fun _ z => z) rfl d_M_operation_226 ?_
                refine lv_iload F.1 F.2.1 d_M_operation_229 (lv_at hl 1 rfl) ?_
                refine lv_dup2_11 F.1 F.2.1 d_M_operation_231 rfl rfl ?_
                have f571 : h566 (ad 2) = some (.inl (cs 0, 56, .inl (S568 2))) := hR.2.1 2 (by decide)
                refine pw_ialdN F hK.1 hP 0 f571 rfl (k := 48 + f) (by omega) (by decide) d_M_operation_232 ?_
                refine W.eq (g2 := F0 m 233 ls [.int (nI z), .int (nI (48 + f)), .ref (ad 2)]) (by rw [show S568 2 (48 + f) = S561 2 (48 + f) from by rw [t569]; exact sp_k (by decide), show S561 2 (48 + f) = S553 2 (48 + f) from by rw [t562]; exact sp_k (by decide), show S553 2 (48 + f) = S 2 (48 + f) from by rw [t554]; exact sp_k (by decide), hz]) ?_
                refine lv_iconst (v := 1) F.1 F.2.1 d_M_operation_233 (by decide) ?_
                refine lv_iadd F.1 F.2.1 d_M_operation_234 ?_
                refine W.eq (g2 := F0 m 235 ls [.int (nI (z + 1)), .int (nI (48 + f)), .ref (ad 2)]) (by rw [show (1 : Int32) = nI 1 from rfl, nI_add]) ?_
                refine pw_iastN F hK.1 hP hS 0 f571 rfl (k := 48 + f) (by omega) (by decide) d_M_operation_235 (fun H locs hP hS => ?_)
                have hP : pw D vwCl A (pu h566 (ad 2) (.inl (cs 0, 56, .inl (upd (S568 2) (48 + f) (nI (z + 1)))))) H := hP
                have hR := hR.arr (show 2 < 16 by decide) (48 + f) (nI (z + 1))
                obtain ⟨h572, e573⟩ : ∃ z9 : pw_H, z9 = pu h566 (ad 2) (.inl (cs 0, 56, .inl (upd (S568 2) (48 + f) (nI (z + 1))))) := ⟨_, rfl⟩
                rw [← e573] at hP
                obtain ⟨S574, t575⟩ : ∃ z9 : St, z9 = sp S568 2 (48 + f) (nI (z + 1)) := ⟨_, rfl⟩
                have hR : RM cs h572 o ad S574 := by rw [e573, t575]; exact hR
                refine lv_aload_n F.1 F.2.1 d_M_operation_236 rfl (lv_at hl 2 rfl) ?_
                have f576 : h572 o = some (.inr (7, [.int (S574 16 0), .int (S574 16 1), .ref (ad 0), .ref (ad 1), .ref (ad 2), .ref (ad 3), .ref (ad 4), .int (S574 16 2), .int (S574 16 3), .int (S574 16 4), .int (S574 16 5), .ref (ad 5), .ref (ad 6), .ref (ad 7), .ref (ad 8), .ref (ad 9), .ref (ad 10), .ref (ad 11), .ref (ad 12), .ref (ad 13), .ref (ad 14), .ref (ad 15)])) := hR.1
                refine pw_get F I_M hK.1 hP f576 rfl 4 (by decide) L_M_17 (fun _ z => z) rfl d_M_operation_237 ?_
                refine lv_iload F.1 F.2.1 d_M_operation_240 (lv_at hl 1 rfl) ?_
                have f577 : h572 (ad 2) = some (.inl (cs 0, 56, .inl (S574 2))) := hR.2.1 2 (by decide)
                refine pw_ialdN F hK.1 hP 0 f577 rfl (k := 48 + f) (by omega) (by decide) d_M_operation_242 ?_
                refine W.eq (g2 := F0 m 243 ls [.int (nI (z + 1))]) (by rw [show S574 2 (48 + f) = nI (z + 1) from by rw [t575]; exact sp_s]) ?_
                exact pw_iret F hr hlk hP hA hK hS (by decide) (by decide) d_M_operation_243 (by have hgd := (show gdOperation S (nI f) dr 1 n from ⟨hin, by decide, by rw [hor]; exact c529, fun z9 => absurd z9 (by decide), fun _ => b544, fun z9 => absurd z9 (by decide)⟩); have hth : thOperation S (nI f) dr 1 n = 0 := (by unfold thOperation; rw [if_neg (fun z9 => z9 hgd), if_neg (fun z9 => z9.elim (fun z8 => c1 z8.1) (fun z8 => c550 (by rw [hor, hz] at z8; exact z8)))]); unfold stOperation rOperation; rw [if_pos hth, if_pos hth, hor, hz, tn_nI (by omega), nI_1]; rw [t575, t569, t562, t554] at hR; exact ⟨hR, rfl⟩)
              · skip
                refine lv_iconst (v := 2) F.1 F.2.1 d_M_operation_169 (by decide) ?_
                refine lv_goto (tgt := 174) F.1 F.2.1 d_M_operation_170 (by decide) ?_
                refine pw_put F I_M ty_M k_M n_M hK.1 hP hS f527 rfl 0 (by decide) L_M_63 (fun _ z => z) rfl rfl rfl (Nat.le_of_ble_eq_true rfl) d_M_operation_174 (fun H locs hP hS => ?_)
                have hP : pw D vwCl A (pu h o (.inr (7, (mfs ad S).set (mpos 0) (.int 2)))) H := hP
                have hR := hR.num (show 0 < 6 by decide) 2
                obtain ⟨h578, e579⟩ : ∃ z9 : pw_H, z9 = pu h o (.inr (7, (mfs ad S).set (mpos 0) (.int 2))) := ⟨_, rfl⟩
                rw [← e579] at hP
                obtain ⟨S580, t581⟩ : ∃ z9 : St, z9 = sp S 16 0 2 := ⟨_, rfl⟩
                have hR : RM cs h578 o ad S580 := by rw [e579, t581]; exact hR
                refine lv_aload_n F.1 F.2.1 d_M_operation_177 rfl (lv_at hl 2 rfl) ?_
                have f582 : h578 o = some (.inr (7, [.int (S580 16 0), .int (S580 16 1), .ref (ad 0), .ref (ad 1), .ref (ad 2), .ref (ad 3), .ref (ad 4), .int (S580 16 2), .int (S580 16 3), .int (S580 16 4), .int (S580 16 5), .ref (ad 5), .ref (ad 6), .ref (ad 7), .ref (ad 8), .ref (ad 9), .ref (ad 10), .ref (ad 11), .ref (ad 12), .ref (ad 13), .ref (ad 14), .ref (ad 15)])) := hR.1
                refine pw_get F I_M hK.1 hP f582 rfl 0 (by decide) L_M_63 (fun _ z => z) rfl d_M_operation_178 ?_
                refine W.eq (g2 := F0 m 181 ls [.int 2]) (by rw [show S580 16 0 = 2 from by rw [t581]; exact sp_s]) ?_
                refine lv_if_le (tgt := 186) F.1 F.2.1 d_M_operation_181 (by decide) (fun c583 => absurd c583 (by decide)) (fun c583 => ?_)
                refine lv_iconst (v := 0) F.1 F.2.1 d_M_operation_184 (by decide) ?_
                exact pw_iret F hr hlk hP hA hK hS (by decide) (by decide) d_M_operation_185 (by have hgd := (show gdOperation S (nI f) dr 1 n from ⟨hin, by decide, by rw [hor]; exact c529, fun z9 => absurd z9 (by decide), fun _ => b544, fun z9 => absurd z9 (by decide)⟩); have hth : thOperation S (nI f) dr 1 n = 2 := (by unfold thOperation; rw [if_neg (fun z9 => z9 hgd), if_pos (Or.inr (by rw [hor, hz]; exact c550))]); unfold stOperation rOperation; rw [hth, if_neg (by decide), if_neg (by decide)]; rw [t581] at hR; exact ⟨hR, rfl⟩)
            · skip
              refine W.eq (g2 := F0 m 109 ls [.int 0]) (by rw [if_neg b544]) ?_
              refine lv_istore F.1 F.2.1 d_M_operation_109 hl (by decide) rfl (fun ls hl => ?_)
              replace hl : lv_has ls 7 [(6, .int 0), (5, .int (nI (48 + f))), (0, .ref o), (1, .int (nI f)), (2, .int dr), (3, .int 1), (4, .int n)] := hl
              refine lv_iload F.1 F.2.1 d_M_operation_111 (lv_at hl 0 rfl) ?_
              refine lv_if_eq (tgt := 136) F.1 F.2.1 d_M_operation_113 (by decide) (fun c584 => ?_) (fun c584 => absurd (by decide) c584)
              refine lv_aload_n F.1 F.2.1 d_M_operation_136 rfl (lv_at hl 2 rfl) ?_
              refine lv_iload F.1 F.2.1 d_M_operation_137 (lv_at hl 0 rfl) ?_
              refine lv_if_ne (tgt := 146) F.1 F.2.1 d_M_operation_139 (by decide) (fun c585 => absurd (by decide) c585) (fun c585 => ?_)
              refine lv_iconst (v := 1) F.1 F.2.1 d_M_operation_142 (by decide) ?_
              refine lv_goto (tgt := 174) F.1 F.2.1 d_M_operation_143 (by decide) ?_
              refine pw_put F I_M ty_M k_M n_M hK.1 hP hS f527 rfl 0 (by decide) L_M_63 (fun _ z => z) rfl rfl rfl (Nat.le_of_ble_eq_true rfl) d_M_operation_174 (fun H locs hP hS => ?_)
              have hP : pw D vwCl A (pu h o (.inr (7, (mfs ad S).set (mpos 0) (.int 1)))) H := hP
              have hR := hR.num (show 0 < 6 by decide) 1
              obtain ⟨h586, e587⟩ : ∃ z9 : pw_H, z9 = pu h o (.inr (7, (mfs ad S).set (mpos 0) (.int 1))) := ⟨_, rfl⟩
              rw [← e587] at hP
              obtain ⟨S588, t589⟩ : ∃ z9 : St, z9 = sp S 16 0 1 := ⟨_, rfl⟩
              have hR : RM cs h586 o ad S588 := by rw [e587, t589]; exact hR
              refine lv_aload_n F.1 F.2.1 d_M_operation_177 rfl (lv_at hl 2 rfl) ?_
              have f590 : h586 o = some (.inr (7, [.int (S588 16 0), .int (S588 16 1), .ref (ad 0), .ref (ad 1), .ref (ad 2), .ref (ad 3), .ref (ad 4), .int (S588 16 2), .int (S588 16 3), .int (S588 16 4), .int (S588 16 5), .ref (ad 5), .ref (ad 6), .ref (ad 7), .ref (ad 8), .ref (ad 9), .ref (ad 10), .ref (ad 11), .ref (ad 12), .ref (ad 13), .ref (ad 14), .ref (ad 15)])) := hR.1
              refine pw_get F I_M hK.1 hP f590 rfl 0 (by decide) L_M_63 (fun _ z => z) rfl d_M_operation_178 ?_
              refine W.eq (g2 := F0 m 181 ls [.int 1]) (by rw [show S588 16 0 = 1 from by rw [t589]; exact sp_s]) ?_
              refine lv_if_le (tgt := 186) F.1 F.2.1 d_M_operation_181 (by decide) (fun c591 => absurd c591 (by decide)) (fun c591 => ?_)
              refine lv_iconst (v := 0) F.1 F.2.1 d_M_operation_184 (by decide) ?_
              exact pw_iret F hr hlk hP hA hK hS (by decide) (by decide) d_M_operation_185 (by have hth : thOperation S (nI f) dr 1 n = 1 := (by unfold thOperation; rw [if_pos (show ¬ gdOperation S (nI f) dr 1 n from fun z9 => b544 (z9.2.2.2.2.1 (Or.inl rfl)))]); unfold stOperation rOperation; rw [hth, if_neg (by decide), if_neg (by decide)]; rw [t589] at hR; exact ⟨hR, rfl⟩)
        · skip
          refine lv_iconst (v := 1) F.1 F.2.1 d_M_operation_33 (by decide) ?_
          refine lv_goto (tgt := 38) F.1 F.2.1 d_M_operation_34 (by decide) ?_
          refine lv_istore F.1 F.2.1 d_M_operation_38 hl (by decide) rfl (fun ls hl => ?_)
          replace hl : lv_has ls 7 [(6, .int 1), (5, .int (nI (48 + f))), (0, .ref o), (1, .int (nI f)), (2, .int dr), (3, .int 2), (4, .int n)] := hl
          refine lv_iload F.1 F.2.1 d_M_operation_40 (lv_at hl 0 rfl) ?_
          refine lv_if_eq (tgt := 59) F.1 F.2.1 d_M_operation_42 (by decide) (fun c592 => absurd c592 (by decide)) (fun c592 => ?_)
          refine lv_aload_n F.1 F.2.1 d_M_operation_45 rfl (lv_at hl 2 rfl) ?_
          have f593 : h o = some (.inr (7, [.int (S 16 0), .int (S 16 1), .ref (ad 0), .ref (ad 1), .ref (ad 2), .ref (ad 3), .ref (ad 4), .int (S 16 2), .int (S 16 3), .int (S 16 4), .int (S 16 5), .ref (ad 5), .ref (ad 6), .ref (ad 7), .ref (ad 8), .ref (ad 9), .ref (ad 10), .ref (ad 11), .ref (ad 12), .ref (ad 13), .ref (ad 14), .ref (ad 15)])) := hR.1
          refine pw_get F I_M hK.1 hP f593 rfl 2 (by decide) L_M_7 (fun _ z => z) rfl d_M_operation_46 ?_
          refine lv_iload F.1 F.2.1 d_M_operation_49 (lv_at hl 1 rfl) ?_
          have f594 : h (ad 0) = some (.inl (cs 1, 56, .inl (S 0))) := hR.2.1 0 (by decide)
          refine pw_zaldN F hK.1 hP 1 f594 rfl (k := 48 + f) (by omega) (by decide) d_M_operation_51 ?_
          refine lv_if_eq (tgt := 59) F.1 F.2.1 d_M_operation_52 (by decide) (fun c595 => ?_) (fun c595 => ?_)
          · skip
            refine lv_iconst (v := 0) F.1 F.2.1 d_M_operation_59 (by decide) ?_
            refine lv_istore F.1 F.2.1 d_M_operation_60 hl (by decide) rfl (fun ls hl => ?_)
            replace hl : lv_has ls 7 [(6, .int 0), (5, .int (nI (48 + f))), (0, .ref o), (1, .int (nI f)), (2, .int dr), (3, .int 2), (4, .int n)] := hl
            refine lv_iload F.1 F.2.1 d_M_operation_62 (lv_at hl 0 rfl) ?_
            refine lv_if_eq (tgt := 82) F.1 F.2.1 d_M_operation_64 (by decide) (fun c596 => ?_) (fun c596 => absurd (by decide) c596)
            refine lv_iload F.1 F.2.1 d_M_operation_82 (lv_at hl 0 rfl) ?_
            refine lv_if_eq (tgt := 111) F.1 F.2.1 d_M_operation_84 (by decide) (fun c597 => ?_) (fun c597 => absurd (by decide) c597)
            refine lv_iload F.1 F.2.1 d_M_operation_111 (lv_at hl 0 rfl) ?_
            refine lv_if_eq (tgt := 136) F.1 F.2.1 d_M_operation_113 (by decide) (fun c598 => ?_) (fun c598 => absurd (by decide) c598)
            refine lv_aload_n F.1 F.2.1 d_M_operation_136 rfl (lv_at hl 2 rfl) ?_
            refine lv_iload F.1 F.2.1 d_M_operation_137 (lv_at hl 0 rfl) ?_
            refine lv_if_ne (tgt := 146) F.1 F.2.1 d_M_operation_139 (by decide) (fun c599 => absurd (by decide) c599) (fun c599 => ?_)
            refine lv_iconst (v := 1) F.1 F.2.1 d_M_operation_142 (by decide) ?_
            refine lv_goto (tgt := 174) F.1 F.2.1 d_M_operation_143 (by decide) ?_
            refine pw_put F I_M ty_M k_M n_M hK.1 hP hS f593 rfl 0 (by decide) L_M_63 (fun _ z => z) rfl rfl rfl (Nat.le_of_ble_eq_true rfl) d_M_operation_174 (fun H locs hP hS => ?_)
            have hP : pw D vwCl A (pu h o (.inr (7, (mfs ad S).set (mpos 0) (.int 1)))) H := hP
            have hR := hR.num (show 0 < 6 by decide) 1
            obtain ⟨h600, e601⟩ : ∃ z9 : pw_H, z9 = pu h o (.inr (7, (mfs ad S).set (mpos 0) (.int 1))) := ⟨_, rfl⟩
            rw [← e601] at hP
            obtain ⟨S602, t603⟩ : ∃ z9 : St, z9 = sp S 16 0 1 := ⟨_, rfl⟩
            have hR : RM cs h600 o ad S602 := by rw [e601, t603]; exact hR
            refine lv_aload_n F.1 F.2.1 d_M_operation_177 rfl (lv_at hl 2 rfl) ?_
            have f604 : h600 o = some (.inr (7, [.int (S602 16 0), .int (S602 16 1), .ref (ad 0), .ref (ad 1), .ref (ad 2), .ref (ad 3), .ref (ad 4), .int (S602 16 2), .int (S602 16 3), .int (S602 16 4), .int (S602 16 5), .ref (ad 5), .ref (ad 6), .ref (ad 7), .ref (ad 8), .ref (ad 9), .ref (ad 10), .ref (ad 11), .ref (ad 12), .ref (ad 13), .ref (ad 14), .ref (ad 15)])) := hR.1
            refine pw_get F I_M hK.1 hP f604 rfl 0 (by decide) L_M_63 (fun _ z => z) rfl d_M_operation_178 ?_
            refine W.eq (g2 := F0 m 181 ls [.int 1]) (by rw [show S602 16 0 = 1 from by rw [t603]; exact sp_s]) ?_
            refine lv_if_le (tgt := 186) F.1 F.2.1 d_M_operation_181 (by decide) (fun c605 => absurd c605 (by decide)) (fun c605 => ?_)
            refine lv_iconst (v := 0) F.1 F.2.1 d_M_operation_184 (by decide) ?_
            exact pw_iret F hr hlk hP hA hK hS (by decide) (by decide) d_M_operation_185 (by have hth : thOperation S (nI f) dr 2 n = 1 := (by unfold thOperation; rw [if_pos (show ¬ gdOperation S (nI f) dr 2 n from fun z9 => z9.2.2.1 (by rw [oRow_1 hf c1]; exact c595))]); unfold stOperation rOperation; rw [hth, if_neg (by decide), if_neg (by decide)]; rw [t603] at hR; exact ⟨hR, rfl⟩)
          · skip
            obtain ⟨z, hz12, hz⟩ := hB (48 + f) (by omega) c595
            have hor : oRow (nI f) dr = 48 + f := oRow_1 hf c1
            refine lv_iconst (v := 1) F.1 F.2.1 d_M_operation_55 (by decide) ?_
            refine lv_goto (tgt := 60) F.1 F.2.1 d_M_operation_56 (by decide) ?_
            refine lv_istore F.1 F.2.1 d_M_operation_60 hl (by decide) rfl (fun ls hl => ?_)
            replace hl : lv_has ls 7 [(6, .int 1), (5, .int (nI (48 + f))), (0, .ref o), (1, .int (nI f)), (2, .int dr), (3, .int 2), (4, .int n)] := hl
            refine lv_iload F.1 F.2.1 d_M_operation_62 (lv_at hl 0 rfl) ?_
            refine lv_if_eq (tgt := 82) F.1 F.2.1 d_M_operation_64 (by decide) (fun c606 => absurd c606 (by decide)) (fun c606 => ?_)
            refine lv_iload_n F.1 F.2.1 d_M_operation_67 rfl (lv_at hl 5 rfl) ?_
            refine lv_if_ne (tgt := 82) F.1 F.2.1 d_M_operation_68 (by decide) (fun c607 => ?_) (fun c607 => absurd c607 (by decide))
            refine lv_iload F.1 F.2.1 d_M_operation_82 (lv_at hl 0 rfl) ?_
            refine lv_if_eq (tgt := 111) F.1 F.2.1 d_M_operation_84 (by decide) (fun c608 => absurd c608 (by decide)) (fun c608 => ?_)
            refine lv_iload_n F.1 F.2.1 d_M_operation_87 rfl (lv_at hl 5 rfl) ?_
            refine lv_iconst (v := 1) F.1 F.2.1 d_M_operation_88 (by decide) ?_
            refine lv_icmp_eq (tgt := 97) F.1 F.2.1 d_M_operation_89 (by decide) (fun c609 => absurd c609 (by decide)) (fun c609 => ?_)
            refine lv_iload_n F.1 F.2.1 d_M_operation_92 rfl (lv_at hl 5 rfl) ?_
            refine lv_iconst (v := 5) F.1 F.2.1 d_M_operation_93 (by decide) ?_
            refine lv_icmp_ne (tgt := 111) F.1 F.2.1 d_M_operation_94 (by decide) (fun c610 => ?_) (fun c610 => absurd c610 (by decide))
            refine lv_iload F.1 F.2.1 d_M_operation_111 (lv_at hl 0 rfl) ?_
            refine lv_if_eq (tgt := 136) F.1 F.2.1 d_M_operation_113 (by decide) (fun c611 => absurd c611 (by decide)) (fun c611 => ?_)
            refine lv_iload_n F.1 F.2.1 d_M_operation_116 rfl (lv_at hl 5 rfl) ?_
            refine lv_iconst (v := 3) F.1 F.2.1 d_M_operation_117 (by decide) ?_
            refine lv_icmp_ne (tgt := 136) F.1 F.2.1 d_M_operation_118 (by decide) (fun c612 => ?_) (fun c612 => absurd c612 (by decide))
            refine lv_aload_n F.1 F.2.1 d_M_operation_136 rfl (lv_at hl 2 rfl) ?_
            refine lv_iload F.1 F.2.1 d_M_operation_137 (lv_at hl 0 rfl) ?_
            refine lv_if_ne (tgt := 146) F.1 F.2.1 d_M_operation_139 (by decide) (fun c613 => ?_) (fun c613 => absurd c613 (by decide))
            refine lv_iload_n F.1 F.2.1 d_M_operation_146 rfl (lv_at hl 4 rfl) ?_
            refine lv_if_ne (tgt := 157) F.1 F.2.1 d_M_operation_147 (by decide) (fun c614 => ?_) (fun c614 => absurd c614 c1)
            refine lv_aload_n F.1 F.2.1 d_M_operation_157 rfl (lv_at hl 2 rfl) ?_
            refine pw_get F I_M hK.1 hP f593 rfl 4 (by decide) L_M_17 (fun _ z => z) rfl d_M_operation_158 ?_
            refine lv_iload F.1 F.2.1 d_M_operation_161 (lv_at hl 1 rfl) ?_
            have f615 : h (ad 2) = some (.inl (cs 0, 56, .inl (S 2))) := hR.2.1 2 (by decide)
            refine pw_ialdN F hK.1 hP 0 f615 rfl (k := 48 + f) (by omega) (by decide) d_M_operation_163 ?_
            refine W.eq (g2 := F0 m 164 ls [.int (nI z), .ref o]) (by rw [hz]) ?_
            refine lv_bipush (v := 12) F.1 F.2.1 d_M_operation_164 (by decide) ?_
            refine lv_icmp_ne (tgt := 173) F.1 F.2.1 d_M_operation_166 (by decide) (fun c616 => ?_) (fun c616 => ?_)
            · skip
              refine lv_iconst (v := 0) F.1 F.2.1 d_M_operation_173 (by decide) ?_
              refine pw_put F I_M ty_M k_M n_M hK.1 hP hS f593 rfl 0 (by decide) L_M_63 (fun _ z => z) rfl rfl rfl (Nat.le_of_ble_eq_true rfl) d_M_operation_174 (fun H locs hP hS => ?_)
              have hP : pw D vwCl A (pu h o (.inr (7, (mfs ad S).set (mpos 0) (.int 0)))) H := hP
              have hR := hR.num (show 0 < 6 by decide) 0
              obtain ⟨h617, e618⟩ : ∃ z9 : pw_H, z9 = pu h o (.inr (7, (mfs ad S).set (mpos 0) (.int 0))) := ⟨_, rfl⟩
              rw [← e618] at hP
              obtain ⟨S619, t620⟩ : ∃ z9 : St, z9 = sp S 16 0 0 := ⟨_, rfl⟩
              have hR : RM cs h617 o ad S619 := by rw [e618, t620]; exact hR
              refine lv_aload_n F.1 F.2.1 d_M_operation_177 rfl (lv_at hl 2 rfl) ?_
              have f621 : h617 o = some (.inr (7, [.int (S619 16 0), .int (S619 16 1), .ref (ad 0), .ref (ad 1), .ref (ad 2), .ref (ad 3), .ref (ad 4), .int (S619 16 2), .int (S619 16 3), .int (S619 16 4), .int (S619 16 5), .ref (ad 5), .ref (ad 6), .ref (ad 7), .ref (ad 8), .ref (ad 9), .ref (ad 10), .ref (ad 11), .ref (ad 12), .ref (ad 13), .ref (ad 14), .ref (ad 15)])) := hR.1
              refine pw_get F I_M hK.1 hP f621 rfl 0 (by decide) L_M_63 (fun _ z => z) rfl d_M_operation_178 ?_
              refine W.eq (g2 := F0 m 181 ls [.int 0]) (by rw [show S619 16 0 = 0 from by rw [t620]; exact sp_s]) ?_
              refine lv_if_le (tgt := 186) F.1 F.2.1 d_M_operation_181 (by decide) (fun c622 => ?_) (fun c622 => absurd (by decide) c622)
              have hlt : z < 12 := by
                rcases Nat.lt_or_ge z 12 with h9 | h9
                · exact h9
                · exact absurd (show nI z = 12 by rw [show z = 12 by omega]; rfl) c616
              refine lv_aload_n F.1 F.2.1 d_M_operation_186 rfl (lv_at hl 2 rfl) ?_
              refine pw_get F I_M hK.1 hP f621 rfl 5 (by decide) L_M_20 (fun _ z => z) rfl d_M_operation_187 ?_
              refine lv_bipush (v := 12) F.1 F.2.1 d_M_operation_190 (by decide) ?_
              refine lv_iload F.1 F.2.1 d_M_operation_192 (lv_at hl 1 rfl) ?_
              refine lv_imul F.1 F.2.1 d_M_operation_194 ?_
              refine W.eq (g2 := F0 m 195 ls [.int (nI (12 * (48 + f))), .ref (ad 3)]) (by rw [show (12 : Int32) = nI 12 from rfl, pk_mul]) ?_
              refine lv_aload_n F.1 F.2.1 d_M_operation_195 rfl (lv_at hl 2 rfl) ?_
              refine pw_get F I_M hK.1 hP f621 rfl 4 (by decide) L_M_17 (fun _ z => z) rfl d_M_operation_196 ?_
              refine lv_iload F.1 F.2.1 d_M_operation_199 (lv_at hl 1 rfl) ?_
              have f623 : h617 (ad 2) = some (.inl (cs 0, 56, .inl (S619 2))) := hR.2.1 2 (by decide)
              refine pw_ialdN F hK.1 hP 0 f623 rfl (k := 48 + f) (by omega) (by decide) d_M_operation_201 ?_
              refine W.eq (g2 := F0 m 202 ls [.int (nI z), .int (nI (12 * (48 + f))), .ref (ad 3)]) (by rw [show S619 2 (48 + f) = S 2 (48 + f) from by rw [t620]; exact sp_k (by decide), hz]) ?_
              refine lv_iadd F.1 F.2.1 d_M_operation_202 ?_
              refine W.eq (g2 := F0 m 203 ls [.int (nI ((12 * (48 + f)) + z)), .ref (ad 3)]) (by rw [nI_add]) ?_
              refine lv_iload_n F.1 F.2.1 d_M_operation_203 rfl (lv_at hl 5 rfl) ?_
              have f624 : h617 (ad 3) = some (.inl (cs 0, 672, .inl (S619 3))) := hR.2.1 3 (by decide)
              refine pw_iastN F hK.1 hP hS 0 f624 rfl (k := (12 * (48 + f)) + z) (by omega) (by decide) d_M_operation_204 (fun H locs hP hS => ?_)
              have hP : pw D vwCl A (pu h617 (ad 3) (.inl (cs 0, 672, .inl (upd (S619 3) ((12 * (48 + f)) + z) 2)))) H := hP
              have hR := hR.arr (show 3 < 16 by decide) ((12 * (48 + f)) + z) 2
              obtain ⟨h625, e626⟩ : ∃ z9 : pw_H, z9 = pu h617 (ad 3) (.inl (cs 0, 672, .inl (upd (S619 3) ((12 * (48 + f)) + z) 2))) := ⟨_, rfl⟩
              rw [← e626] at hP
              obtain ⟨S627, t628⟩ : ∃ z9 : St, z9 = sp S619 3 ((12 * (48 + f)) + z) 2 := ⟨_, rfl⟩
              have hR : RM cs h625 o ad S627 := by rw [e626, t628]; exact hR
              refine lv_aload_n F.1 F.2.1 d_M_operation_205 rfl (lv_at hl 2 rfl) ?_
              have f629 : h625 o = some (.inr (7, [.int (S627 16 0), .int (S627 16 1), .ref (ad 0), .ref (ad 1), .ref (ad 2), .ref (ad 3), .ref (ad 4), .int (S627 16 2), .int (S627 16 3), .int (S627 16 4), .int (S627 16 5), .ref (ad 5), .ref (ad 6), .ref (ad 7), .ref (ad 8), .ref (ad 9), .ref (ad 10), .ref (ad 11), .ref (ad 12), .ref (ad 13), .ref (ad 14), .ref (ad 15)])) := hR.1
              refine pw_get F I_M hK.1 hP f629 rfl 6 (by decide) L_M_23 (fun _ z => z) rfl d_M_operation_206 ?_
              refine lv_bipush (v := 12) F.1 F.2.1 d_M_operation_209 (by decide) ?_
              refine lv_iload F.1 F.2.1 d_M_operation_211 (lv_at hl 1 rfl) ?_
              refine lv_imul F.1 F.2.1 d_M_operation_213 ?_
              refine W.eq (g2 := F0 m 214 ls [.int (nI (12 * (48 + f))), .ref (ad 4)]) (by rw [show (12 : Int32) = nI 12 from rfl, pk_mul]) ?_
              refine lv_aload_n F.1 F.2.1 d_M_operation_214 rfl (lv_at hl 2 rfl) ?_
              refine pw_get F I_M hK.1 hP f629 rfl 4 (by decide) L_M_17 (fun _ z => z) rfl d_M_operation_215 ?_
              refine lv_iload F.1 F.2.1 d_M_operation_218 (lv_at hl 1 rfl) ?_
              have f630 : h625 (ad 2) = some (.inl (cs 0, 56, .inl (S627 2))) := hR.2.1 2 (by decide)
              refine pw_ialdN F hK.1 hP 0 f630 rfl (k := 48 + f) (by omega) (by decide) d_M_operation_220 ?_
              refine W.eq (g2 := F0 m 221 ls [.int (nI z), .int (nI (12 * (48 + f))), .ref (ad 4)]) (by rw [show S627 2 (48 + f) = S619 2 (48 + f) from by rw [t628]; exact sp_k (by decide), show S619 2 (48 + f) = S 2 (48 + f) from by rw [t620]; exact sp_k (by decide), hz]) ?_
              refine lv_iadd F.1 F.2.1 d_M_operation_221 ?_
              refine W.eq (g2 := F0 m 222 ls [.int (nI ((12 * (48 + f)) + z)), .ref (ad 4)]) (by rw [nI_add]) ?_
              refine lv_iload F.1 F.2.1 d_M_operation_222 (lv_at hl 6 rfl) ?_
              have f631 : h625 (ad 4) = some (.inl (cs 0, 672, .inl (S627 4))) := hR.2.1 4 (by decide)
              refine pw_iastN F hK.1 hP hS 0 f631 rfl (k := (12 * (48 + f)) + z) (by omega) (by decide) d_M_operation_224 (fun H locs hP hS => ?_)
              have hP : pw D vwCl A (pu h625 (ad 4) (.inl (cs 0, 672, .inl (upd (S627 4) ((12 * (48 + f)) + z) n)))) H := hP
              have hR := hR.arr (show 4 < 16 by decide) ((12 * (48 + f)) + z) n
              obtain ⟨h632, e633⟩ : ∃ z9 : pw_H, z9 = pu h625 (ad 4) (.inl (cs 0, 672, .inl (upd (S627 4) ((12 * (48 + f)) + z) n))) := ⟨_, rfl⟩
              rw [← e633] at hP
              obtain ⟨S634, t635⟩ : ∃ z9 : St, z9 = sp S627 4 ((12 * (48 + f)) + z) n := ⟨_, rfl⟩
              have hR : RM cs h632 o ad S634 := by rw [e633, t635]; exact hR
              refine lv_aload_n F.1 F.2.1 d_M_operation_225 rfl (lv_at hl 2 rfl) ?_
              have f636 : h632 o = some (.inr (7, [.int (S634 16 0), .int (S634 16 1), .ref (ad 0), .ref (ad 1), .ref (ad 2), .ref (ad 3), .ref (ad 4), .int (S634 16 2), .int (S634 16 3), .int (S634 16 4), .int (S634 16 5), .ref (ad 5), .ref (ad 6), .ref (ad 7), .ref (ad 8), .ref (ad 9), .ref (ad 10), .ref (ad 11), .ref (ad 12), .ref (ad 13), .ref (ad 14), .ref (ad 15)])) := hR.1
              refine pw_get F I_M hK.1 hP f636 rfl 4 (by decide) L_M_17 (fun _ z => z) rfl d_M_operation_226 ?_
              refine lv_iload F.1 F.2.1 d_M_operation_229 (lv_at hl 1 rfl) ?_
              refine lv_dup2_11 F.1 F.2.1 d_M_operation_231 rfl rfl ?_
              have f637 : h632 (ad 2) = some (.inl (cs 0, 56, .inl (S634 2))) := hR.2.1 2 (by decide)
              refine pw_ialdN F hK.1 hP 0 f637 rfl (k := 48 + f) (by omega) (by decide) d_M_operation_232 ?_
              refine W.eq (g2 := F0 m 233 ls [.int (nI z), .int (nI (48 + f)), .ref (ad 2)]) (by rw [show S634 2 (48 + f) = S627 2 (48 + f) from by rw [t635]; exact sp_k (by decide), show S627 2 (48 + f) = S619 2 (48 + f) from by rw [t628]; exact sp_k (by decide), show S619 2 (48 + f) = S 2 (48 + f) from by rw [t620]; exact sp_k (by decide), hz]) ?_
              refine lv_iconst (v := 1) F.1 F.2.1 d_M_operation_233 (by decide) ?_
              refine lv_iadd F.1 F.2.1 d_M_operation_234 ?_
              refine W.eq (g2 := F0 m 235 ls [.int (nI (z + 1)), .int (nI (48 + f)), .ref (ad 2)]) (by rw [show (1 : Int32) = nI 1 from rfl, nI_add]) ?_
              refine pw_iastN F hK.1 hP hS 0 f637 rfl (k := 48 + f) (by omega) (by decide) d_M_operation_235 (fun H locs hP hS => ?_)
              have hP : pw D vwCl A (pu h632 (ad 2) (.inl (cs 0, 56, .inl (upd (S634 2) (48 + f) (nI (z + 1)))))) H := hP
              have hR := hR.arr (show 2 < 16 by decide) (48 + f) (nI (z + 1))
              obtain ⟨h638, e639⟩ : ∃ z9 : pw_H, z9 = pu h632 (ad 2) (.inl (cs 0, 56, .inl (upd (S634 2) (48 + f) (nI (z + 1))))) := ⟨_, rfl⟩
              rw [← e639] at hP
              obtain ⟨S640, t641⟩ : ∃ z9 : St, z9 = sp S634 2 (48 + f) (nI (z + 1)) := ⟨_, rfl⟩
              have hR : RM cs h638 o ad S640 := by rw [e639, t641]; exact hR
              refine lv_aload_n F.1 F.2.1 d_M_operation_236 rfl (lv_at hl 2 rfl) ?_
              have f642 : h638 o = some (.inr (7, [.int (S640 16 0), .int (S640 16 1), .ref (ad 0), .ref (ad 1), .ref (ad 2), .ref (ad 3), .ref (ad 4), .int (S640 16 2), .int (S640 16 3), .int (S640 16 4), .int (S640 16 5), .ref (ad 5), .ref (ad 6), .ref (ad 7), .ref (ad 8), .ref (ad 9), .ref (ad 10), .ref (ad 11), .ref (ad 12), .ref (ad 13), .ref (ad 14), .ref (ad 15)])) := hR.1
              refine pw_get F I_M hK.1 hP f642 rfl 4 (by decide) L_M_17 (fun _ z => z) rfl d_M_operation_237 ?_
              refine lv_iload F.1 F.2.1 d_M_operation_240 (lv_at hl 1 rfl) ?_
              have f643 : h638 (ad 2) = some (.inl (cs 0, 56, .inl (S640 2))) := hR.2.1 2 (by decide)
              refine pw_ialdN F hK.1 hP 0 f643 rfl (k := 48 + f) (by omega) (by decide) d_M_operation_242 ?_
              refine W.eq (g2 := F0 m 243 ls [.int (nI (z + 1))]) (by rw [show S640 2 (48 + f) = nI (z + 1) from by rw [t641]; exact sp_s]) ?_
              exact pw_iret F hr hlk hP hA hK hS (by decide) (by decide) d_M_operation_243 (by have hgd := (show gdOperation S (nI f) dr 2 n from ⟨hin, by decide, by rw [hor]; exact c595, fun z9 => absurd z9 (by decide), fun z9 => absurd z9 (by decide), fun z9 => absurd z9 (by decide)⟩); have hth : thOperation S (nI f) dr 2 n = 0 := (by unfold thOperation; rw [if_neg (fun z9 => z9 hgd), if_neg (fun z9 => z9.elim (fun z8 => c1 z8.1) (fun z8 => c616 (by rw [hor, hz] at z8; exact z8)))]); unfold stOperation rOperation; rw [if_pos hth, if_pos hth, hor, hz, tn_nI (by omega), nI_1]; rw [t641, t635, t628, t620] at hR; exact ⟨hR, rfl⟩)
            · skip
              refine lv_iconst (v := 2) F.1 F.2.1 d_M_operation_169 (by decide) ?_
              refine lv_goto (tgt := 174) F.1 F.2.1 d_M_operation_170 (by decide) ?_
              refine pw_put F I_M ty_M k_M n_M hK.1 hP hS f593 rfl 0 (by decide) L_M_63 (fun _ z => z) rfl rfl rfl (Nat.le_of_ble_eq_true rfl) d_M_operation_174 (fun H locs hP hS => ?_)
              have hP : pw D vwCl A (pu h o (.inr (7, (mfs ad S).set (mpos 0) (.int 2)))) H := hP
              have hR := hR.num (show 0 < 6 by decide) 2
              obtain ⟨h644, e645⟩ : ∃ z9 : pw_H, z9 = pu h o (.inr (7, (mfs ad S).set (mpos 0) (.int 2))) := ⟨_, rfl⟩
              rw [← e645] at hP
              obtain ⟨S646, t647⟩ : ∃ z9 : St, z9 = sp S 16 0 2 := ⟨_, rfl⟩
              have hR : RM cs h644 o ad S646 := by rw [e645, t647]; exact hR
              refine lv_aload_n F.1 F.2.1 d_M_operation_177 rfl (lv_at hl 2 rfl) ?_
              have f648 : h644 o = some (.inr (7, [.int (S646 16 0), .int (S646 16 1), .ref (ad 0), .ref (ad 1), .ref (ad 2), .ref (ad 3), .ref (ad 4), .int (S646 16 2), .int (S646 16 3), .int (S646 16 4), .int (S646 16 5), .ref (ad 5), .ref (ad 6), .ref (ad 7), .ref (ad 8), .ref (ad 9), .ref (ad 10), .ref (ad 11), .ref (ad 12), .ref (ad 13), .ref (ad 14), .ref (ad 15)])) := hR.1
              refine pw_get F I_M hK.1 hP f648 rfl 0 (by decide) L_M_63 (fun _ z => z) rfl d_M_operation_178 ?_
              refine W.eq (g2 := F0 m 181 ls [.int 2]) (by rw [show S646 16 0 = 2 from by rw [t647]; exact sp_s]) ?_
              refine lv_if_le (tgt := 186) F.1 F.2.1 d_M_operation_181 (by decide) (fun c649 => absurd c649 (by decide)) (fun c649 => ?_)
              refine lv_iconst (v := 0) F.1 F.2.1 d_M_operation_184 (by decide) ?_
              exact pw_iret F hr hlk hP hA hK hS (by decide) (by decide) d_M_operation_185 (by have hgd := (show gdOperation S (nI f) dr 2 n from ⟨hin, by decide, by rw [hor]; exact c595, fun z9 => absurd z9 (by decide), fun z9 => absurd z9 (by decide), fun z9 => absurd z9 (by decide)⟩); have hth : thOperation S (nI f) dr 2 n = 2 := (by unfold thOperation; rw [if_neg (fun z9 => z9 hgd), if_pos (Or.inr (by rw [hor, hz]; exact c616))]); unfold stOperation rOperation; rw [hth, if_neg (by decide), if_neg (by decide)]; rw [t647] at hR; exact ⟨hR, rfl⟩)
        · skip
          refine lv_iconst (v := 1) F.1 F.2.1 d_M_operation_33 (by decide) ?_
          refine lv_goto (tgt := 38) F.1 F.2.1 d_M_operation_34 (by decide) ?_
          refine lv_istore F.1 F.2.1 d_M_operation_38 hl (by decide) rfl (fun ls hl => ?_)
          replace hl : lv_has ls 7 [(6, .int 1), (5, .int (nI (48 + f))), (0, .ref o), (1, .int (nI f)), (2, .int dr), (3, .int 3), (4, .int n)] := hl
          refine lv_iload F.1 F.2.1 d_M_operation_40 (lv_at hl 0 rfl) ?_
          refine lv_if_eq (tgt := 59) F.1 F.2.1 d_M_operation_42 (by decide) (fun c650 => absurd c650 (by decide)) (fun c650 => ?_)
          refine lv_aload_n F.1 F.2.1 d_M_operation_45 rfl (lv_at hl 2 rfl) ?_
          have f651 : h o = some (.inr (7, [.int (S 16 0), .int (S 16 1), .ref (ad 0), .ref (ad 1), .ref (ad 2), .ref (ad 3), .ref (ad 4), .int (S 16 2), .int (S 16 3), .int (S 16 4), .int (S 16 5), .ref (ad 5), .ref (ad 6), .ref (ad 7), .ref (ad 8), .ref (ad 9), .ref (ad 10), .ref (ad 11), .ref (ad 12), .ref (ad 13), .ref (ad 14), .ref (ad 15)])) := hR.1
          refine pw_get F I_M hK.1 hP f651 rfl 2 (by decide) L_M_7 (fun _ z => z) rfl d_M_operation_46 ?_
          refine lv_iload F.1 F.2.1 d_M_operation_49 (lv_at hl 1 rfl) ?_
          have f652 : h (ad 0) = some (.inl (cs 1, 56, .inl (S 0))) := hR.2.1 0 (by decide)
          refine pw_zaldN F hK.1 hP 1 f652 rfl (k := 48 + f) (by omega) (by decide) d_M_operation_51 ?_
          refine lv_if_eq (tgt := 59) F.1 F.2.1 d_M_operation_52 (by decide) (fun c653 => ?_) (fun c653 => ?_)
          · skip
            refine lv_iconst (v := 0) F.1 F.2.1 d_M_operation_59 (by decide) ?_
            refine lv_istore F.1 F.2.1 d_M_operation_60 hl (by decide) rfl (fun ls hl => ?_)
            replace hl : lv_has ls 7 [(6, .int 0), (5, .int (nI (48 + f))), (0, .ref o), (1, .int (nI f)), (2, .int dr), (3, .int 3), (4, .int n)] := hl
            refine lv_iload F.1 F.2.1 d_M_operation_62 (lv_at hl 0 rfl) ?_
            refine lv_if_eq (tgt := 82) F.1 F.2.1 d_M_operation_64 (by decide) (fun c654 => ?_) (fun c654 => absurd (by decide) c654)
            refine lv_iload F.1 F.2.1 d_M_operation_82 (lv_at hl 0 rfl) ?_
            refine lv_if_eq (tgt := 111) F.1 F.2.1 d_M_operation_84 (by decide) (fun c655 => ?_) (fun c655 => absurd (by decide) c655)
            refine lv_iload F.1 F.2.1 d_M_operation_111 (lv_at hl 0 rfl) ?_
            refine lv_if_eq (tgt := 136) F.1 F.2.1 d_M_operation_113 (by decide) (fun c656 => ?_) (fun c656 => absurd (by decide) c656)
            refine lv_aload_n F.1 F.2.1 d_M_operation_136 rfl (lv_at hl 2 rfl) ?_
            refine lv_iload F.1 F.2.1 d_M_operation_137 (lv_at hl 0 rfl) ?_
            refine lv_if_ne (tgt := 146) F.1 F.2.1 d_M_operation_139 (by decide) (fun c657 => absurd (by decide) c657) (fun c657 => ?_)
            refine lv_iconst (v := 1) F.1 F.2.1 d_M_operation_142 (by decide) ?_
            refine lv_goto (tgt := 174) F.1 F.2.1 d_M_operation_143 (by decide) ?_
            refine pw_put F I_M ty_M k_M n_M hK.1 hP hS f651 rfl 0 (by decide) L_M_63 (fun _ z => z) rfl rfl rfl (Nat.le_of_ble_eq_true rfl) d_M_operation_174 (fun H locs hP hS => ?_)
            have hP : pw D vwCl A (pu h o (.inr (7, (mfs ad S).set (mpos 0) (.int 1)))) H := hP
            have hR := hR.num (show 0 < 6 by decide) 1
            obtain ⟨h658, e659⟩ : ∃ z9 : pw_H, z9 = pu h o (.inr (7, (mfs ad S).set (mpos 0) (.int 1))) := ⟨_, rfl⟩
            rw [← e659] at hP
            obtain ⟨S660, t661⟩ : ∃ z9 : St, z9 = sp S 16 0 1 := ⟨_, rfl⟩
            have hR : RM cs h658 o ad S660 := by rw [e659, t661]; exact hR
            refine lv_aload_n F.1 F.2.1 d_M_operation_177 rfl (lv_at hl 2 rfl) ?_
            have f662 : h658 o = some (.inr (7, [.int (S660 16 0), .int (S660 16 1), .ref (ad 0), .ref (ad 1), .ref (ad 2), .ref (ad 3), .ref (ad 4), .int (S660 16 2), .int (S660 16 3), .int (S660 16 4), .int (S660 16 5), .ref (ad 5), .ref (ad 6), .ref (ad 7), .ref (ad 8), .ref (ad 9), .ref (ad 10), .ref (ad 11), .ref (ad 12), .ref (ad 13), .ref (ad 14), .ref (ad 15)])) := hR.1
            refine pw_get F I_M hK.1 hP f662 rfl 0 (by decide) L_M_63 (fun _ z => z) rfl d_M_operation_178 ?_
            refine W.eq (g2 := F0 m 181 ls [.int 1]) (by rw [show S660 16 0 = 1 from by rw [t661]; exact sp_s]) ?_
            refine lv_if_le (tgt := 186) F.1 F.2.1 d_M_operation_181 (by decide) (fun c663 => absurd c663 (by decide)) (fun c663 => ?_)
            refine lv_iconst (v := 0) F.1 F.2.1 d_M_operation_184 (by decide) ?_
            exact pw_iret F hr hlk hP hA hK hS (by decide) (by decide) d_M_operation_185 (by have hth : thOperation S (nI f) dr 3 n = 1 := (by unfold thOperation; rw [if_pos (show ¬ gdOperation S (nI f) dr 3 n from fun z9 => z9.2.2.1 (by rw [oRow_1 hf c1]; exact c653))]); unfold stOperation rOperation; rw [hth, if_neg (by decide), if_neg (by decide)]; rw [t661] at hR; exact ⟨hR, rfl⟩)
          · skip
            obtain ⟨z, hz12, hz⟩ := hB (48 + f) (by omega) c653
            have hor : oRow (nI f) dr = 48 + f := oRow_1 hf c1
            refine lv_iconst (v := 1) F.1 F.2.1 d_M_operation_55 (by decide) ?_
            refine lv_goto (tgt := 60) F.1 F.2.1 d_M_operation_56 (by decide) ?_
            refine lv_istore F.1 F.2.1 d_M_operation_60 hl (by decide) rfl (fun ls hl => ?_)
            replace hl : lv_has ls 7 [(6, .int 1), (5, .int (nI (48 + f))), (0, .ref o), (1, .int (nI f)), (2, .int dr), (3, .int 3), (4, .int n)] := hl
            refine lv_iload F.1 F.2.1 d_M_operation_62 (lv_at hl 0 rfl) ?_
            refine lv_if_eq (tgt := 82) F.1 F.2.1 d_M_operation_64 (by decide) (fun c664 => absurd c664 (by decide)) (fun c664 => ?_)
            refine lv_iload_n F.1 F.2.1 d_M_operation_67 rfl (lv_at hl 5 rfl) ?_
            refine lv_if_ne (tgt := 82) F.1 F.2.1 d_M_operation_68 (by decide) (fun c665 => ?_) (fun c665 => absurd c665 (by decide))
            refine lv_iload F.1 F.2.1 d_M_operation_82 (lv_at hl 0 rfl) ?_
            refine lv_if_eq (tgt := 111) F.1 F.2.1 d_M_operation_84 (by decide) (fun c666 => absurd c666 (by decide)) (fun c666 => ?_)
            refine lv_iload_n F.1 F.2.1 d_M_operation_87 rfl (lv_at hl 5 rfl) ?_
            refine lv_iconst (v := 1) F.1 F.2.1 d_M_operation_88 (by decide) ?_
            refine lv_icmp_eq (tgt := 97) F.1 F.2.1 d_M_operation_89 (by decide) (fun c667 => absurd c667 (by decide)) (fun c667 => ?_)
            refine lv_iload_n F.1 F.2.1 d_M_operation_92 rfl (lv_at hl 5 rfl) ?_
            refine lv_iconst (v := 5) F.1 F.2.1 d_M_operation_93 (by decide) ?_
            refine lv_icmp_ne (tgt := 111) F.1 F.2.1 d_M_operation_94 (by decide) (fun c668 => ?_) (fun c668 => absurd c668 (by decide))
            refine lv_iload F.1 F.2.1 d_M_operation_111 (lv_at hl 0 rfl) ?_
            refine lv_if_eq (tgt := 136) F.1 F.2.1 d_M_operation_113 (by decide) (fun c669 => absurd c669 (by decide)) (fun c669 => ?_)
            refine lv_iload_n F.1 F.2.1 d_M_operation_116 rfl (lv_at hl 5 rfl) ?_
            refine lv_iconst (v := 3) F.1 F.2.1 d_M_operation_117 (by decide) ?_
            refine lv_icmp_ne (tgt := 136) F.1 F.2.1 d_M_operation_118 (by decide) (fun c670 => absurd (by decide) c670) (fun c670 => ?_)
            refine lv_iload F.1 F.2.1 d_M_operation_121 (lv_at hl 6 rfl) ?_
            refine lv_iconst (v := 0) F.1 F.2.1 d_M_operation_123 (by decide) ?_
            refine lv_aload_n F.1 F.2.1 d_M_operation_124 rfl (lv_at hl 2 rfl) ?_
            refine pw_get F I_M hK.1 hP f651 rfl 4 (by decide) L_M_17 (fun _ z => z) rfl d_M_operation_125 ?_
            refine lv_iload F.1 F.2.1 d_M_operation_128 (lv_at hl 1 rfl) ?_
            have f671 : h (ad 2) = some (.inl (cs 0, 56, .inl (S 2))) := hR.2.1 2 (by decide)
            refine pw_ialdN F hK.1 hP 0 f671 rfl (k := 48 + f) (by omega) (by decide) d_M_operation_130 ?_
            refine W.eq (g2 := F0 m 131 ls [.int (nI z), .int 0, .int n]) (by rw [hz]) ?_
            refine pw_ciE (pr_S F (c_M_inn l D cs A h n 0 (nI z)) X_M_72 rfl rfl ⟨by decide, by decide⟩ hP hA hK hS rfl hl.1 rfl (Nat.le_of_ble_eq_true rfl) d_M_operation_131 ⟨by decide, by decide⟩) hS (fun H locs hP hS => ?_)
            by_cases b672 : 0 ≤ n ∧ n ≤ (nI z)
            · skip
              refine W.eq (g2 := F0 m 134 ls [.int 1]) (by rw [if_pos b672]) ?_
              refine lv_istore F.1 F.2.1 d_M_operation_134 hl (by decide) rfl (fun ls hl => ?_)
              replace hl : lv_has ls 7 [(6, .int 1), (5, .int (nI (48 + f))), (0, .ref o), (1, .int (nI f)), (2, .int dr), (3, .int 3), (4, .int n)] := hl
              refine lv_aload_n F.1 F.2.1 d_M_operation_136 rfl (lv_at hl 2 rfl) ?_
              refine lv_iload F.1 F.2.1 d_M_operation_137 (lv_at hl 0 rfl) ?_
              refine lv_if_ne (tgt := 146) F.1 F.2.1 d_M_operation_139 (by decide) (fun c673 => ?_) (fun c673 => absurd c673 (by decide))
              refine lv_iload_n F.1 F.2.1 d_M_operation_146 rfl (lv_at hl 4 rfl) ?_
              refine lv_if_ne (tgt := 157) F.1 F.2.1 d_M_operation_147 (by decide) (fun c674 => ?_) (fun c674 => absurd c674 c1)
              refine lv_aload_n F.1 F.2.1 d_M_operation_157 rfl (lv_at hl 2 rfl) ?_
              refine pw_get F I_M hK.1 hP f651 rfl 4 (by decide) L_M_17 (fun _ z => z) rfl d_M_operation_158 ?_
              refine lv_iload F.1 F.2.1 d_M_operation_161 (lv_at hl 1 rfl) ?_
              refine pw_ialdN F hK.1 hP 0 f671 rfl (k := 48 + f) (by omega) (by decide) d_M_operation_163 ?_
              refine W.eq (g2 := F0 m 164 ls [.int (nI z), .ref o]) (by rw [hz]) ?_
              refine lv_bipush (v := 12) F.1 F.2.1 d_M_operation_164 (by decide) ?_
              refine lv_icmp_ne (tgt := 173) F.1 F.2.1 d_M_operation_166 (by decide) (fun c675 => ?_) (fun c675 => ?_)
              · skip
                refine lv_iconst (v := 0) F.1 F.2.1 d_M_operation_173 (by decide) ?_
                refine pw_put F I_M ty_M k_M n_M hK.1 hP hS f651 rfl 0 (by decide) L_M_63 (fun _ z => z) rfl rfl rfl (Nat.le_of_ble_eq_true rfl) d_M_operation_174 (fun H locs hP hS => ?_)
                have hP : pw D vwCl A (pu h o (.inr (7, (mfs ad S).set (mpos 0) (.int 0)))) H := hP
                have hR := hR.num (show 0 < 6 by decide) 0
                obtain ⟨h676, e677⟩ : ∃ z9 : pw_H, z9 = pu h o (.inr (7, (mfs ad S).set (mpos 0) (.int 0))) := ⟨_, rfl⟩
                rw [← e677] at hP
                obtain ⟨S678, t679⟩ : ∃ z9 : St, z9 = sp S 16 0 0 := ⟨_, rfl⟩
                have hR : RM cs h676 o ad S678 := by rw [e677, t679]; exact hR
                refine lv_aload_n F.1 F.2.1 d_M_operation_177 rfl (lv_at hl 2 rfl) ?_
                have f680 : h676 o = some (.inr (7, [.int (S678 16 0), .int (S678 16 1), .ref (ad 0), .ref (ad 1), .ref (ad 2), .ref (ad 3), .ref (ad 4), .int (S678 16 2), .int (S678 16 3), .int (S678 16 4), .int (S678 16 5), .ref (ad 5), .ref (ad 6), .ref (ad 7), .ref (ad 8), .ref (ad 9), .ref (ad 10), .ref (ad 11), .ref (ad 12), .ref (ad 13), .ref (ad 14), .ref (ad 15)])) := hR.1
                refine pw_get F I_M hK.1 hP f680 rfl 0 (by decide) L_M_63 (fun _ z => z) rfl d_M_operation_178 ?_
                refine W.eq (g2 := F0 m 181 ls [.int 0]) (by rw [show S678 16 0 = 0 from by rw [t679]; exact sp_s]) ?_
                refine lv_if_le (tgt := 186) F.1 F.2.1 d_M_operation_181 (by decide) (fun c681 => ?_) (fun c681 => absurd (by decide) c681)
                have hlt : z < 12 := by
                  rcases Nat.lt_or_ge z 12 with h9 | h9
                  · exact h9
                  · exact absurd (show nI z = 12 by rw [show z = 12 by omega]; rfl) c675
                refine lv_aload_n F.1 F.2.1 d_M_operation_186 rfl (lv_at hl 2 rfl) ?_
                refine pw_get F I_M hK.1 hP f680 rfl 5 (by decide) L_M_20 (fun _ z => z) rfl d_M_operation_187 ?_
                refine lv_bipush (v := 12) F.1 F.2.1 d_M_operation_190 (by decide) ?_
                refine lv_iload F.1 F.2.1 d_M_operation_192 (lv_at hl 1 rfl) ?_
                refine lv_imul F.1 F.2.1 d_M_operation_194 ?_
                refine W.eq (g2 := F0 m 195 ls [.int (nI (12 * (48 + f))), .ref (ad 3)]) (by rw [show (12 : Int32) = nI 12 from rfl, pk_mul]) ?_
                refine lv_aload_n F.1 F.2.1 d_M_operation_195 rfl (lv_at hl 2 rfl) ?_
                refine pw_get F I_M hK.1 hP f680 rfl 4 (by decide) L_M_17 (fun _ z => z) rfl d_M_operation_196 ?_
                refine lv_iload F.1 F.2.1 d_M_operation_199 (lv_at hl 1 rfl) ?_
                have f682 : h676 (ad 2) = some (.inl (cs 0, 56, .inl (S678 2))) := hR.2.1 2 (by decide)
                refine pw_ialdN F hK.1 hP 0 f682 rfl (k := 48 + f) (by omega) (by decide) d_M_operation_201 ?_
                refine W.eq (g2 := F0 m 202 ls [.int (nI z), .int (nI (12 * (48 + f))), .ref (ad 3)]) (by rw [show S678 2 (48 + f) = S 2 (48 + f) from by rw [t679]; exact sp_k (by decide), hz]) ?_
                refine lv_iadd F.1 F.2.1 d_M_operation_202 ?_
                refine W.eq (g2 := F0 m 203 ls [.int (nI ((12 * (48 + f)) + z)), .ref (ad 3)]) (by rw [nI_add]) ?_
                refine lv_iload_n F.1 F.2.1 d_M_operation_203 rfl (lv_at hl 5 rfl) ?_
                have f683 : h676 (ad 3) = some (.inl (cs 0, 672, .inl (S678 3))) := hR.2.1 3 (by decide)
                refine pw_iastN F hK.1 hP hS 0 f683 rfl (k := (12 * (48 + f)) + z) (by omega) (by decide) d_M_operation_204 (fun H locs hP hS => ?_)
                have hP : pw D vwCl A (pu h676 (ad 3) (.inl (cs 0, 672, .inl (upd (S678 3) ((12 * (48 + f)) + z) 3)))) H := hP
                have hR := hR.arr (show 3 < 16 by decide) ((12 * (48 + f)) + z) 3
                obtain ⟨h684, e685⟩ : ∃ z9 : pw_H, z9 = pu h676 (ad 3) (.inl (cs 0, 672, .inl (upd (S678 3) ((12 * (48 + f)) + z) 3))) := ⟨_, rfl⟩
                rw [← e685] at hP
                obtain ⟨S686, t687⟩ : ∃ z9 : St, z9 = sp S678 3 ((12 * (48 + f)) + z) 3 := ⟨_, rfl⟩
                have hR : RM cs h684 o ad S686 := by rw [e685, t687]; exact hR
                refine lv_aload_n F.1 F.2.1 d_M_operation_205 rfl (lv_at hl 2 rfl) ?_
                have f688 : h684 o = some (.inr (7, [.int (S686 16 0), .int (S686 16 1), .ref (ad 0), .ref (ad 1), .ref (ad 2), .ref (ad 3), .ref (ad 4), .int (S686 16 2), .int (S686 16 3), .int (S686 16 4), .int (S686 16 5), .ref (ad 5), .ref (ad 6), .ref (ad 7), .ref (ad 8), .ref (ad 9), .ref (ad 10), .ref (ad 11), .ref (ad 12), .ref (ad 13), .ref (ad 14), .ref (ad 15)])) := hR.1
                refine pw_get F I_M hK.1 hP f688 rfl 6 (by decide) L_M_23 (fun _ z => z) rfl d_M_operation_206 ?_
                refine lv_bipush (v := 12) F.1 F.2.1 d_M_operation_209 (by decide) ?_
                refine lv_iload F.1 F.2.1 d_M_operation_211 (lv_at hl 1 rfl) ?_
                refine lv_imul F.1 F.2.1 d_M_operation_213 ?_
                refine W.eq (g2 := F0 m 214 ls [.int (nI (12 * (48 + f))), .ref (ad 4)]) (by rw [show (12 : Int32) = nI 12 from rfl, pk_mul]) ?_
                refine lv_aload_n F.1 F.2.1 d_M_operation_214 rfl (lv_at hl 2 rfl) ?_
                refine pw_get F I_M hK.1 hP f688 rfl 4 (by decide) L_M_17 (fun _ z => z) rfl d_M_operation_215 ?_
                refine lv_iload F.1 F.2.1 d_M_operation_218 (lv_at hl 1 rfl) ?_
                have f689 : h684 (ad 2) = some (.inl (cs 0, 56, .inl (S686 2))) := hR.2.1 2 (by decide)
                refine pw_ialdN F hK.1 hP 0 f689 rfl (k := 48 + f) (by omega) (by decide) d_M_operation_220 ?_
                refine W.eq (g2 := F0 m 221 ls [.int (nI z), .int (nI (12 * (48 + f))), .ref (ad 4)]) (by rw [show S686 2 (48 + f) = S678 2 (48 + f) from by rw [t687]; exact sp_k (by decide), show S678 2 (48 + f) = S 2 (48 + f) from by rw [t679]; exact sp_k (by decide), hz]) ?_
                refine lv_iadd F.1 F.2.1 d_M_operation_221 ?_
                refine W.eq (g2 := F0 m 222 ls [.int (nI ((12 * (48 + f)) + z)), .ref (ad 4)]) (by rw [nI_add]) ?_
                refine lv_iload F.1 F.2.1 d_M_operation_222 (lv_at hl 6 rfl) ?_
                have f690 : h684 (ad 4) = some (.inl (cs 0, 672, .inl (S686 4))) := hR.2.1 4 (by decide)
                refine pw_iastN F hK.1 hP hS 0 f690 rfl (k := (12 * (48 + f)) + z) (by omega) (by decide) d_M_operation_224 (fun H locs hP hS => ?_)
                have hP : pw D vwCl A (pu h684 (ad 4) (.inl (cs 0, 672, .inl (upd (S686 4) ((12 * (48 + f)) + z) n)))) H := hP
                have hR := hR.arr (show 4 < 16 by decide) ((12 * (48 + f)) + z) n
                obtain ⟨h691, e692⟩ : ∃ z9 : pw_H, z9 = pu h684 (ad 4) (.inl (cs 0, 672, .inl (upd (S686 4) ((12 * (48 + f)) + z) n))) := ⟨_, rfl⟩
                rw [← e692] at hP
                obtain ⟨S693, t694⟩ : ∃ z9 : St, z9 = sp S686 4 ((12 * (48 + f)) + z) n := ⟨_, rfl⟩
                have hR : RM cs h691 o ad S693 := by rw [e692, t694]; exact hR
                refine lv_aload_n F.1 F.2.1 d_M_operation_225 rfl (lv_at hl 2 rfl) ?_
                have f695 : h691 o = some (.inr (7, [.int (S693 16 0), .int (S693 16 1), .ref (ad 0), .ref (ad 1), .ref (ad 2), .ref (ad 3), .ref (ad 4), .int (S693 16 2), .int (S693 16 3), .int (S693 16 4), .int (S693 16 5), .ref (ad 5), .ref (ad 6), .ref (ad 7), .ref (ad 8), .ref (ad 9), .ref (ad 10), .ref (ad 11), .ref (ad 12), .ref (ad 13), .ref (ad 14), .ref (ad 15)])) := hR.1
                refine pw_get F I_M hK.1 hP f695 rfl 4 (by decide) L_M_17 (fun _ z => z) rfl d_M_operation_226 ?_
                refine lv_iload F.1 F.2.1 d_M_operation_229 (lv_at hl 1 rfl) ?_
                refine lv_dup2_11 F.1 F.2.1 d_M_operation_231 rfl rfl ?_
                have f696 : h691 (ad 2) = some (.inl (cs 0, 56, .inl (S693 2))) := hR.2.1 2 (by decide)
                refine pw_ialdN F hK.1 hP 0 f696 rfl (k := 48 + f) (by omega) (by decide) d_M_operation_232 ?_
                refine W.eq (g2 := F0 m 233 ls [.int (nI z), .int (nI (48 + f)), .ref (ad 2)]) (by rw [show S693 2 (48 + f) = S686 2 (48 + f) from by rw [t694]; exact sp_k (by decide), show S686 2 (48 + f) = S678 2 (48 + f) from by rw [t687]; exact sp_k (by decide), show S678 2 (48 + f) = S 2 (48 + f) from by rw [t679]; exact sp_k (by decide), hz]) ?_
                refine lv_iconst (v := 1) F.1 F.2.1 d_M_operation_233 (by decide) ?_
                refine lv_iadd F.1 F.2.1 d_M_operation_234 ?_
                refine W.eq (g2 := F0 m 235 ls [.int (nI (z + 1)), .int (nI (48 + f)), .ref (ad 2)]) (by rw [show (1 : Int32) = nI 1 from rfl, nI_add]) ?_
                refine pw_iastN F hK.1 hP hS 0 f696 rfl (k := 48 + f) (by omega) (by decide) d_M_operation_235 (fun H locs hP hS => ?_)
                have hP : pw D vwCl A (pu h691 (ad 2) (.inl (cs 0, 56, .inl (upd (S693 2) (48 + f) (nI (z + 1)))))) H := hP
                have hR := hR.arr (show 2 < 16 by decide) (48 + f) (nI (z + 1))
                obtain ⟨h697, e698⟩ : ∃ z9 : pw_H, z9 = pu h691 (ad 2) (.inl (cs 0, 56, .inl (upd (S693 2) (48 + f) (nI (z + 1))))) := ⟨_, rfl⟩
                rw [← e698] at hP
                obtain ⟨S699, t700⟩ : ∃ z9 : St, z9 = sp S693 2 (48 + f) (nI (z + 1)) := ⟨_, rfl⟩
                have hR : RM cs h697 o ad S699 := by rw [e698, t700]; exact hR
                refine lv_aload_n F.1 F.2.1 d_M_operation_236 rfl (lv_at hl 2 rfl) ?_
                have f701 : h697 o = some (.inr (7, [.int (S699 16 0), .int (S699 16 1), .ref (ad 0), .ref (ad 1), .ref (ad 2), .ref (ad 3), .ref (ad 4), .int (S699 16 2), .int (S699 16 3), .int (S699 16 4), .int (S699 16 5), .ref (ad 5), .ref (ad 6), .ref (ad 7), .ref (ad 8), .ref (ad 9), .ref (ad 10), .ref (ad 11), .ref (ad 12), .ref (ad 13), .ref (ad 14), .ref (ad 15)])) := hR.1
                refine pw_get F I_M hK.1 hP f701 rfl 4 (by decide) L_M_17 (fun _ z => z) rfl d_M_operation_237 ?_
                refine lv_iload F.1 F.2.1 d_M_operation_240 (lv_at hl 1 rfl) ?_
                have f702 : h697 (ad 2) = some (.inl (cs 0, 56, .inl (S699 2))) := hR.2.1 2 (by decide)
                refine pw_ialdN F hK.1 hP 0 f702 rfl (k := 48 + f) (by omega) (by decide) d_M_operation_242 ?_
                refine W.eq (g2 := F0 m 243 ls [.int (nI (z + 1))]) (by rw [show S699 2 (48 + f) = nI (z + 1) from by rw [t700]; exact sp_s]) ?_
                exact pw_iret F hr hlk hP hA hK hS (by decide) (by decide) d_M_operation_243 (by have hgd := (show gdOperation S (nI f) dr 3 n from ⟨hin, by decide, by rw [hor]; exact c653, fun z9 => absurd z9 (by decide), fun z9 => absurd z9 (by decide), fun _ => by rw [hor, hz]; exact b672⟩); have hth : thOperation S (nI f) dr 3 n = 0 := (by unfold thOperation; rw [if_neg (fun z9 => z9 hgd), if_neg (fun z9 => z9.elim (fun z8 => c1 z8.1) (fun z8 => c675 (by rw [hor, hz] at z8; exact z8)))]); unfold stOperation rOperation; rw [if_pos hth, if_pos hth, hor, hz, tn_nI (by omega), nI_1]; rw [t700, t694, t687, t679] at hR; exact ⟨hR, rfl⟩)
              · skip
                refine lv_iconst (v := 2) F.1 F.2.1 d_M_operation_169 (by decide) ?_
                refine lv_goto (tgt := 174) F.1 F.2.1 d_M_operation_170 (by decide) ?_
                refine pw_put F I_M ty_M k_M n_M hK.1 hP hS f651 rfl 0 (by decide) L_M_63 (fun _ z => z) rfl rfl rfl (Nat.le_of_ble_eq_true rfl) d_M_operation_174 (fun H locs hP hS => ?_)
                have hP : pw D vwCl A (pu h o (.inr (7, (mfs ad S).set (mpos 0) (.int 2)))) H := hP
                have hR := hR.num (show 0 < 6 by decide) 2
                obtain ⟨h703, e704⟩ : ∃ z9 : pw_H, z9 = pu h o (.inr (7, (mfs ad S).set (mpos 0) (.int 2))) := ⟨_, rfl⟩
                rw [← e704] at hP
                obtain ⟨S705, t706⟩ : ∃ z9 : St, z9 = sp S 16 0 2 := ⟨_, rfl⟩
                have hR : RM cs h703 o ad S705 := by rw [e704, t706]; exact hR
                refine lv_aload_n F.1 F.2.1 d_M_operation_177 rfl (lv_at hl 2 rfl) ?_
                have f707 : h703 o = some (.inr (7, [.int (S705 16 0), .int (S705 16 1), .ref (ad 0), .ref (ad 1), .ref (ad 2), .ref (ad 3), .ref (ad 4), .int (S705 16 2), .int (S705 16 3), .int (S705 16 4), .int (S705 16 5), .ref (ad 5), .ref (ad 6), .ref (ad 7), .ref (ad 8), .ref (ad 9), .ref (ad 10), .ref (ad 11), .ref (ad 12), .ref (ad 13), .ref (ad 14), .ref (ad 15)])) := hR.1
                refine pw_get F I_M hK.1 hP f707 rfl 0 (by decide) L_M_63 (fun _ z => z) rfl d_M_operation_178 ?_
                refine W.eq (g2 := F0 m 181 ls [.int 2]) (by rw [show S705 16 0 = 2 from by rw [t706]; exact sp_s]) ?_
                refine lv_if_le (tgt := 186) F.1 F.2.1 d_M_operation_181 (by decide) (fun c708 => absurd c708 (by decide)) (fun c708 => ?_)
                refine lv_iconst (v := 0) F.1 F.2.1 d_M_operation_184 (by decide) ?_
                exact pw_iret F hr hlk hP hA hK hS (by decide) (by decide) d_M_operation_185 (by have hgd := (show gdOperation S (nI f) dr 3 n from ⟨hin, by decide, by rw [hor]; exact c653, fun z9 => absurd z9 (by decide), fun z9 => absurd z9 (by decide), fun _ => by rw [hor, hz]; exact b672⟩); have hth : thOperation S (nI f) dr 3 n = 2 := (by unfold thOperation; rw [if_neg (fun z9 => z9 hgd), if_pos (Or.inr (by rw [hor, hz]; exact c675))]); unfold stOperation rOperation; rw [hth, if_neg (by decide), if_neg (by decide)]; rw [t706] at hR; exact ⟨hR, rfl⟩)
            · skip
              refine W.eq (g2 := F0 m 134 ls [.int 0]) (by rw [if_neg b672]) ?_
              refine lv_istore F.1 F.2.1 d_M_operation_134 hl (by decide) rfl (fun ls hl => ?_)
              replace hl : lv_has ls 7 [(6, .int 0), (5, .int (nI (48 + f))), (0, .ref o), (1, .int (nI f)), (2, .int dr), (3, .int 3), (4, .int n)] := hl
              refine lv_aload_n F.1 F.2.1 d_M_operation_136 rfl (lv_at hl 2 rfl) ?_
              refine lv_iload F.1 F.2.1 d_M_operation_137 (lv_at hl 0 rfl) ?_
              refine lv_if_ne (tgt := 146) F.1 F.2.1 d_M_operation_139 (by decide) (fun c709 => absurd (by decide) c709) (fun c709 => ?_)
              refine lv_iconst (v := 1) F.1 F.2.1 d_M_operation_142 (by decide) ?_
              refine lv_goto (tgt := 174) F.1 F.2.1 d_M_operation_143 (by decide) ?_
              refine pw_put F I_M ty_M k_M n_M hK.1 hP hS f651 rfl 0 (by decide) L_M_63 (fun _ z => z) rfl rfl rfl (Nat.le_of_ble_eq_true rfl) d_M_operation_174 (fun H locs hP hS => ?_)
              have hP : pw D vwCl A (pu h o (.inr (7, (mfs ad S).set (mpos 0) (.int 1)))) H := hP
              have hR := hR.num (show 0 < 6 by decide) 1
              obtain ⟨h710, e711⟩ : ∃ z9 : pw_H, z9 = pu h o (.inr (7, (mfs ad S).set (mpos 0) (.int 1))) := ⟨_, rfl⟩
              rw [← e711] at hP
              obtain ⟨S712, t713⟩ : ∃ z9 : St, z9 = sp S 16 0 1 := ⟨_, rfl⟩
              have hR : RM cs h710 o ad S712 := by rw [e711, t713]; exact hR
              refine lv_aload_n F.1 F.2.1 d_M_operation_177 rfl (lv_at hl 2 rfl) ?_
              have f714 : h710 o = some (.inr (7, [.int (S712 16 0), .int (S712 16 1), .ref (ad 0), .ref (ad 1), .ref (ad 2), .ref (ad 3), .ref (ad 4), .int (S712 16 2), .int (S712 16 3), .int (S712 16 4), .int (S712 16 5), .ref (ad 5), .ref (ad 6), .ref (ad 7), .ref (ad 8), .ref (ad 9), .ref (ad 10), .ref (ad 11), .ref (ad 12), .ref (ad 13), .ref (ad 14), .ref (ad 15)])) := hR.1
              refine pw_get F I_M hK.1 hP f714 rfl 0 (by decide) L_M_63 (fun _ z => z) rfl d_M_operation_178 ?_
              refine W.eq (g2 := F0 m 181 ls [.int 1]) (by rw [show S712 16 0 = 1 from by rw [t713]; exact sp_s]) ?_
              refine lv_if_le (tgt := 186) F.1 F.2.1 d_M_operation_181 (by decide) (fun c715 => absurd c715 (by decide)) (fun c715 => ?_)
              refine lv_iconst (v := 0) F.1 F.2.1 d_M_operation_184 (by decide) ?_
              exact pw_iret F hr hlk hP hA hK hS (by decide) (by decide) d_M_operation_185 (by have hth : thOperation S (nI f) dr 3 n = 1 := (by unfold thOperation; rw [if_pos (show ¬ gdOperation S (nI f) dr 3 n from fun z9 => b672 ((by have h9 := z9.2.2.2.2.2 rfl; rw [hor, hz] at h9; exact h9)))]); unfold stOperation rOperation; rw [hth, if_neg (by decide), if_neg (by decide)]; rw [t713] at hR; exact ⟨hR, rfl⟩)
        · skip
          refine lv_iconst (v := 1) F.1 F.2.1 d_M_operation_33 (by decide) ?_
          refine lv_goto (tgt := 38) F.1 F.2.1 d_M_operation_34 (by decide) ?_
          refine lv_istore F.1 F.2.1 d_M_operation_38 hl (by decide) rfl (fun ls hl => ?_)
          replace hl : lv_has ls 7 [(6, .int 1), (5, .int (nI (48 + f))), (0, .ref o), (1, .int (nI f)), (2, .int dr), (3, .int 4), (4, .int n)] := hl
          refine lv_iload F.1 F.2.1 d_M_operation_40 (lv_at hl 0 rfl) ?_
          refine lv_if_eq (tgt := 59) F.1 F.2.1 d_M_operation_42 (by decide) (fun c716 => absurd c716 (by decide)) (fun c716 => ?_)
          refine lv_aload_n F.1 F.2.1 d_M_operation_45 rfl (lv_at hl 2 rfl) ?_
          have f717 : h o = some (.inr (7, [.int (S 16 0), .int (S 16 1), .ref (ad 0), .ref (ad 1), .ref (ad 2), .ref (ad 3), .ref (ad 4), .int (S 16 2), .int (S 16 3), .int (S 16 4), .int (S 16 5), .ref (ad 5), .ref (ad 6), .ref (ad 7), .ref (ad 8), .ref (ad 9), .ref (ad 10), .ref (ad 11), .ref (ad 12), .ref (ad 13), .ref (ad 14), .ref (ad 15)])) := hR.1
          refine pw_get F I_M hK.1 hP f717 rfl 2 (by decide) L_M_7 (fun _ z => z) rfl d_M_operation_46 ?_
          refine lv_iload F.1 F.2.1 d_M_operation_49 (lv_at hl 1 rfl) ?_
          have f718 : h (ad 0) = some (.inl (cs 1, 56, .inl (S 0))) := hR.2.1 0 (by decide)
          refine pw_zaldN F hK.1 hP 1 f718 rfl (k := 48 + f) (by omega) (by decide) d_M_operation_51 ?_
          refine lv_if_eq (tgt := 59) F.1 F.2.1 d_M_operation_52 (by decide) (fun c719 => ?_) (fun c719 => ?_)
          · skip
            refine lv_iconst (v := 0) F.1 F.2.1 d_M_operation_59 (by decide) ?_
            refine lv_istore F.1 F.2.1 d_M_operation_60 hl (by decide) rfl (fun ls hl => ?_)
            replace hl : lv_has ls 7 [(6, .int 0), (5, .int (nI (48 + f))), (0, .ref o), (1, .int (nI f)), (2, .int dr), (3, .int 4), (4, .int n)] := hl
            refine lv_iload F.1 F.2.1 d_M_operation_62 (lv_at hl 0 rfl) ?_
            refine lv_if_eq (tgt := 82) F.1 F.2.1 d_M_operation_64 (by decide) (fun c720 => ?_) (fun c720 => absurd (by decide) c720)
            refine lv_iload F.1 F.2.1 d_M_operation_82 (lv_at hl 0 rfl) ?_
            refine lv_if_eq (tgt := 111) F.1 F.2.1 d_M_operation_84 (by decide) (fun c721 => ?_) (fun c721 => absurd (by decide) c721)
            refine lv_iload F.1 F.2.1 d_M_operation_111 (lv_at hl 0 rfl) ?_
            refine lv_if_eq (tgt := 136) F.1 F.2.1 d_M_operation_113 (by decide) (fun c722 => ?_) (fun c722 => absurd (by decide) c722)
            refine lv_aload_n F.1 F.2.1 d_M_operation_136 rfl (lv_at hl 2 rfl) ?_
            refine lv_iload F.1 F.2.1 d_M_operation_137 (lv_at hl 0 rfl) ?_
            refine lv_if_ne (tgt := 146) F.1 F.2.1 d_M_operation_139 (by decide) (fun c723 => absurd (by decide) c723) (fun c723 => ?_)
            refine lv_iconst (v := 1) F.1 F.2.1 d_M_operation_142 (by decide) ?_
            refine lv_goto (tgt := 174) F.1 F.2.1 d_M_operation_143 (by decide) ?_
            refine pw_put F I_M ty_M k_M n_M hK.1 hP hS f717 rfl 0 (by decide) L_M_63 (fun _ z => z) rfl rfl rfl (Nat.le_of_ble_eq_true rfl) d_M_operation_174 (fun H locs hP hS => ?_)
            have hP : pw D vwCl A (pu h o (.inr (7, (mfs ad S).set (mpos 0) (.int 1)))) H := hP
            have hR := hR.num (show 0 < 6 by decide) 1
            obtain ⟨h724, e725⟩ : ∃ z9 : pw_H, z9 = pu h o (.inr (7, (mfs ad S).set (mpos 0) (.int 1))) := ⟨_, rfl⟩
            rw [← e725] at hP
            obtain ⟨S726, t727⟩ : ∃ z9 : St, z9 = sp S 16 0 1 := ⟨_, rfl⟩
            have hR : RM cs h724 o ad S726 := by rw [e725, t727]; exact hR
            refine lv_aload_n F.1 F.2.1 d_M_operation_177 rfl (lv_at hl 2 rfl) ?_
            have f728 : h724 o = some (.inr (7, [.int (S726 16 0), .int (S726 16 1), .ref (ad 0), .ref (ad 1), .ref (ad 2), .ref (ad 3), .ref (ad 4), .int (S726 16 2), .int (S726 16 3), .int (S726 16 4), .int (S726 16 5), .ref (ad 5), .ref (ad 6), .ref (ad 7), .ref (ad 8), .ref (ad 9), .ref (ad 10), .ref (ad 11), .ref (ad 12), .ref (ad 13), .ref (ad 14), .ref (ad 15)])) := hR.1
            refine pw_get F I_M hK.1 hP f728 rfl 0 (by decide) L_M_63 (fun _ z => z) rfl d_M_operation_178 ?_
            refine W.eq (g2 := F0 m 181 ls [.int 1]) (by rw [show S726 16 0 = 1 from by rw [t727]; exact sp_s]) ?_
            refine lv_if_le (tgt := 186) F.1 F.2.1 d_M_operation_181 (by decide) (fun c729 => absurd c729 (by decide)) (fun c729 => ?_)
            refine lv_iconst (v := 0) F.1 F.2.1 d_M_operation_184 (by decide) ?_
            exact pw_iret F hr hlk hP hA hK hS (by decide) (by decide) d_M_operation_185 (by have hth : thOperation S (nI f) dr 4 n = 1 := (by unfold thOperation; rw [if_pos (show ¬ gdOperation S (nI f) dr 4 n from fun z9 => z9.2.2.1 (by rw [oRow_1 hf c1]; exact c719))]); unfold stOperation rOperation; rw [hth, if_neg (by decide), if_neg (by decide)]; rw [t727] at hR; exact ⟨hR, rfl⟩)
          · skip
            obtain ⟨z, hz12, hz⟩ := hB (48 + f) (by omega) c719
            have hor : oRow (nI f) dr = 48 + f := oRow_1 hf c1
            refine lv_iconst (v := 1) F.1 F.2.1 d_M_operation_55 (by decide) ?_
            refine lv_goto (tgt := 60) F.1 F.2.1 d_M_operation_56 (by decide) ?_
            refine lv_istore F.1 F.2.1 d_M_operation_60 hl (by decide) rfl (fun ls hl => ?_)
            replace hl : lv_has ls 7 [(6, .int 1), (5, .int (nI (48 + f))), (0, .ref o), (1, .int (nI f)), (2, .int dr), (3, .int 4), (4, .int n)] := hl
            refine lv_iload F.1 F.2.1 d_M_operation_62 (lv_at hl 0 rfl) ?_
            refine lv_if_eq (tgt := 82) F.1 F.2.1 d_M_operation_64 (by decide) (fun c730 => absurd c730 (by decide)) (fun c730 => ?_)
            refine lv_iload_n F.1 F.2.1 d_M_operation_67 rfl (lv_at hl 5 rfl) ?_
            refine lv_if_ne (tgt := 82) F.1 F.2.1 d_M_operation_68 (by decide) (fun c731 => ?_) (fun c731 => absurd c731 (by decide))
            refine lv_iload F.1 F.2.1 d_M_operation_82 (lv_at hl 0 rfl) ?_
            refine lv_if_eq (tgt := 111) F.1 F.2.1 d_M_operation_84 (by decide) (fun c732 => absurd c732 (by decide)) (fun c732 => ?_)
            refine lv_iload_n F.1 F.2.1 d_M_operation_87 rfl (lv_at hl 5 rfl) ?_
            refine lv_iconst (v := 1) F.1 F.2.1 d_M_operation_88 (by decide) ?_
            refine lv_icmp_eq (tgt := 97) F.1 F.2.1 d_M_operation_89 (by decide) (fun c733 => absurd c733 (by decide)) (fun c733 => ?_)
            refine lv_iload_n F.1 F.2.1 d_M_operation_92 rfl (lv_at hl 5 rfl) ?_
            refine lv_iconst (v := 5) F.1 F.2.1 d_M_operation_93 (by decide) ?_
            refine lv_icmp_ne (tgt := 111) F.1 F.2.1 d_M_operation_94 (by decide) (fun c734 => ?_) (fun c734 => absurd c734 (by decide))
            refine lv_iload F.1 F.2.1 d_M_operation_111 (lv_at hl 0 rfl) ?_
            refine lv_if_eq (tgt := 136) F.1 F.2.1 d_M_operation_113 (by decide) (fun c735 => absurd c735 (by decide)) (fun c735 => ?_)
            refine lv_iload_n F.1 F.2.1 d_M_operation_116 rfl (lv_at hl 5 rfl) ?_
            refine lv_iconst (v := 3) F.1 F.2.1 d_M_operation_117 (by decide) ?_
            refine lv_icmp_ne (tgt := 136) F.1 F.2.1 d_M_operation_118 (by decide) (fun c736 => ?_) (fun c736 => absurd c736 (by decide))
            refine lv_aload_n F.1 F.2.1 d_M_operation_136 rfl (lv_at hl 2 rfl) ?_
            refine lv_iload F.1 F.2.1 d_M_operation_137 (lv_at hl 0 rfl) ?_
            refine lv_if_ne (tgt := 146) F.1 F.2.1 d_M_operation_139 (by decide) (fun c737 => ?_) (fun c737 => absurd c737 (by decide))
            refine lv_iload_n F.1 F.2.1 d_M_operation_146 rfl (lv_at hl 4 rfl) ?_
            refine lv_if_ne (tgt := 157) F.1 F.2.1 d_M_operation_147 (by decide) (fun c738 => ?_) (fun c738 => absurd c738 c1)
            refine lv_aload_n F.1 F.2.1 d_M_operation_157 rfl (lv_at hl 2 rfl) ?_
            refine pw_get F I_M hK.1 hP f717 rfl 4 (by decide) L_M_17 (fun _ z => z) rfl d_M_operation_158 ?_
            refine lv_iload F.1 F.2.1 d_M_operation_161 (lv_at hl 1 rfl) ?_
            have f739 : h (ad 2) = some (.inl (cs 0, 56, .inl (S 2))) := hR.2.1 2 (by decide)
            refine pw_ialdN F hK.1 hP 0 f739 rfl (k := 48 + f) (by omega) (by decide) d_M_operation_163 ?_
            refine W.eq (g2 := F0 m 164 ls [.int (nI z), .ref o]) (by rw [hz]) ?_
            refine lv_bipush (v := 12) F.1 F.2.1 d_M_operation_164 (by decide) ?_
            refine lv_icmp_ne (tgt := 173) F.1 F.2.1 d_M_operation_166 (by decide) (fun c740 => ?_) (fun c740 => ?_)
            · skip
              refine lv_iconst (v := 0) F.1 F.2.1 d_M_operation_173 (by decide) ?_
              refine pw_put F I_M ty_M k_M n_M hK.1 hP hS f717 rfl 0 (by decide) L_M_63 (fun _ z => z) rfl rfl rfl (Nat.le_of_ble_eq_true rfl) d_M_operation_174 (fun H locs hP hS => ?_)
              have hP : pw D vwCl A (pu h o (.inr (7, (mfs ad S).set (mpos 0) (.int 0)))) H := hP
              have hR := hR.num (show 0 < 6 by decide) 0
              obtain ⟨h741, e742⟩ : ∃ z9 : pw_H, z9 = pu h o (.inr (7, (mfs ad S).set (mpos 0) (.int 0))) := ⟨_, rfl⟩
              rw [← e742] at hP
              obtain ⟨S743, t744⟩ : ∃ z9 : St, z9 = sp S 16 0 0 := ⟨_, rfl⟩
              have hR : RM cs h741 o ad S743 := by rw [e742, t744]; exact hR
              refine lv_aload_n F.1 F.2.1 d_M_operation_177 rfl (lv_at hl 2 rfl) ?_
              have f745 : h741 o = some (.inr (7, [.int (S743 16 0), .int (S743 16 1), .ref (ad 0), .ref (ad 1), .ref (ad 2), .ref (ad 3), .ref (ad 4), .int (S743 16 2), .int (S743 16 3), .int (S743 16 4), .int (S743 16 5), .ref (ad 5), .ref (ad 6), .ref (ad 7), .ref (ad 8), .ref (ad 9), .ref (ad 10), .ref (ad 11), .ref (ad 12), .ref (ad 13), .ref (ad 14), .ref (ad 15)])) := hR.1
              refine pw_get F I_M hK.1 hP f745 rfl 0 (by decide) L_M_63 (fun _ z => z) rfl d_M_operation_178 ?_
              refine W.eq (g2 := F0 m 181 ls [.int 0]) (by rw [show S743 16 0 = 0 from by rw [t744]; exact sp_s]) ?_
              refine lv_if_le (tgt := 186) F.1 F.2.1 d_M_operation_181 (by decide) (fun c746 => ?_) (fun c746 => absurd (by decide) c746)
              have hlt : z < 12 := by
                rcases Nat.lt_or_ge z 12 with h9 | h9
                · exact h9
                · exact absurd (show nI z = 12 by rw [show z = 12 by omega]; rfl) c740
              refine lv_aload_n F.1 F.2.1 d_M_operation_186 rfl (lv_at hl 2 rfl) ?_
              refine pw_get F I_M hK.1 hP f745 rfl 5 (by decide) L_M_20 (fun _ z => z) rfl d_M_operation_187 ?_
              refine lv_bipush (v := 12) F.1 F.2.1 d_M_operation_190 (by decide) ?_
              refine lv_iload F.1 F.2.1 d_M_operation_192 (lv_at hl 1 rfl) ?_
              refine lv_imul F.1 F.2.1 d_M_operation_194 ?_
              refine W.eq (g2 := F0 m 195 ls [.int (nI (12 * (48 + f))), .ref (ad 3)]) (by rw [show (12 : Int32) = nI 12 from rfl, pk_mul]) ?_
              refine lv_aload_n F.1 F.2.1 d_M_operation_195 rfl (lv_at hl 2 rfl) ?_
              refine pw_get F I_M hK.1 hP f745 rfl 4 (by decide) L_M_17 (fun _ z => z) rfl d_M_operation_196 ?_
              refine lv_iload F.1 F.2.1 d_M_operation_199 (lv_at hl 1 rfl) ?_
              have f747 : h741 (ad 2) = some (.inl (cs 0, 56, .inl (S743 2))) := hR.2.1 2 (by decide)
              refine pw_ialdN F hK.1 hP 0 f747 rfl (k := 48 + f) (by omega) (by decide) d_M_operation_201 ?_
              refine W.eq (g2 := F0 m 202 ls [.int (nI z), .int (nI (12 * (48 + f))), .ref (ad 3)]) (by rw [show S743 2 (48 + f) = S 2 (48 + f) from by rw [t744]; exact sp_k (by decide), hz]) ?_
              refine lv_iadd F.1 F.2.1 d_M_operation_202 ?_
              refine W.eq (g2 := F0 m 203 ls [.int (nI ((12 * (48 + f)) + z)), .ref (ad 3)]) (by rw [nI_add]) ?_
              refine lv_iload_n F.1 F.2.1 d_M_operation_203 rfl (lv_at hl 5 rfl) ?_
              have f748 : h741 (ad 3) = some (.inl (cs 0, 672, .inl (S743 3))) := hR.2.1 3 (by decide)
              refine pw_iastN F hK.1 hP hS 0 f748 rfl (k := (12 * (48 + f)) + z) (by omega) (by decide) d_M_operation_204 (fun H locs hP hS => ?_)
              have hP : pw D vwCl A (pu h741 (ad 3) (.inl (cs 0, 672, .inl (upd (S743 3) ((12 * (48 + f)) + z) 4)))) H := hP
              have hR := hR.arr (show 3 < 16 by decide) ((12 * (48 + f)) + z) 4
              obtain ⟨h749, e750⟩ : ∃ z9 : pw_H, z9 = pu h741 (ad 3) (.inl (cs 0, 672, .inl (upd (S743 3) ((12 * (48 + f)) + z) 4))) := ⟨_, rfl⟩
              rw [← e750] at hP
              obtain ⟨S751, t752⟩ : ∃ z9 : St, z9 = sp S743 3 ((12 * (48 + f)) + z) 4 := ⟨_, rfl⟩
              have hR : RM cs h749 o ad S751 := by rw [e750, t752]; exact hR
              refine lv_aload_n F.1 F.2.1 d_M_operation_205 rfl (lv_at hl 2 rfl) ?_
              have f753 : h749 o = some (.inr (7, [.int (S751 16 0), .int (S751 16 1), .ref (ad 0), .ref (ad 1), .ref (ad 2), .ref (ad 3), .ref (ad 4), .int (S751 16 2), .int (S751 16 3), .int (S751 16 4), .int (S751 16 5), .ref (ad 5), .ref (ad 6), .ref (ad 7), .ref (ad 8), .ref (ad 9), .ref (ad 10), .ref (ad 11), .ref (ad 12), .ref (ad 13), .ref (ad 14), .ref (ad 15)])) := hR.1
              refine pw_get F I_M hK.1 hP f753 rfl 6 (by decide) L_M_23 (fun _ z => z) rfl d_M_operation_206 ?_
              refine lv_bipush (v := 12) F.1 F.2.1 d_M_operation_209 (by decide) ?_
              refine lv_iload F.1 F.2.1 d_M_operation_211 (lv_at hl 1 rfl) ?_
              refine lv_imul F.1 F.2.1 d_M_operation_213 ?_
              refine W.eq (g2 := F0 m 214 ls [.int (nI (12 * (48 + f))), .ref (ad 4)]) (by rw [show (12 : Int32) = nI 12 from rfl, pk_mul]) ?_
              refine lv_aload_n F.1 F.2.1 d_M_operation_214 rfl (lv_at hl 2 rfl) ?_
              refine pw_get F I_M hK.1 hP f753 rfl 4 (by decide) L_M_17 (fun _ z => z) rfl d_M_operation_215 ?_
              refine lv_iload F.1 F.2.1 d_M_operation_218 (lv_at hl 1 rfl) ?_
              have f754 : h749 (ad 2) = some (.inl (cs 0, 56, .inl (S751 2))) := hR.2.1 2 (by decide)
              refine pw_ialdN F hK.1 hP 0 f754 rfl (k := 48 + f) (by omega) (by decide) d_M_operation_220 ?_
              refine W.eq (g2 := F0 m 221 ls [.int (nI z), .int (nI (12 * (48 + f))), .ref (ad 4)]) (by rw [show S751 2 (48 + f) = S743 2 (48 + f) from by rw [t752]; exact sp_k (by decide), show S743 2 (48 + f) = S 2 (48 + f) from by rw [t744]; exact sp_k (by decide), hz]) ?_
              refine lv_iadd F.1 F.2.1 d_M_operation_221 ?_
              refine W.eq (g2 := F0 m 222 ls [.int (nI ((12 * (48 + f)) + z)), .ref (ad 4)]) (by rw [nI_add]) ?_
              refine lv_iload F.1 F.2.1 d_M_operation_222 (lv_at hl 6 rfl) ?_
              have f755 : h749 (ad 4) = some (.inl (cs 0, 672, .inl (S751 4))) := hR.2.1 4 (by decide)
              refine pw_iastN F hK.1 hP hS 0 f755 rfl (k := (12 * (48 + f)) + z) (by omega) (by decide) d_M_operation_224 (fun H locs hP hS => ?_)
              have hP : pw D vwCl A (pu h749 (ad 4) (.inl (cs 0, 672, .inl (upd (S751 4) ((12 * (48 + f)) + z) n)))) H := hP
              have hR := hR.arr (show 4 < 16 by decide) ((12 * (48 + f)) + z) n
              obtain ⟨h756, e757⟩ : ∃ z9 : pw_H, z9 = pu h749 (ad 4) (.inl (cs 0, 672, .inl (upd (S751 4) ((12 * (48 + f)) + z) n))) := ⟨_, rfl⟩
              rw [← e757] at hP
              obtain ⟨S758, t759⟩ : ∃ z9 : St, z9 = sp S751 4 ((12 * (48 + f)) + z) n := ⟨_, rfl⟩
              have hR : RM cs h756 o ad S758 := by rw [e757, t759]; exact hR
              refine lv_aload_n F.1 F.2.1 d_M_operation_225 rfl (lv_at hl 2 rfl) ?_
              have f760 : h756 o = some (.inr (7, [.int (S758 16 0), .int (S758 16 1), .ref (ad 0), .ref (ad 1), .ref (ad 2), .ref (ad 3), .ref (ad 4), .int (S758 16 2), .int (S758 16 3), .int (S758 16 4), .int (S758 16 5), .ref (ad 5), .ref (ad 6), .ref (ad 7), .ref (ad 8), .ref (ad 9), .ref (ad 10), .ref (ad 11), .ref (ad 12), .ref (ad 13), .ref (ad 14), .ref (ad 15)])) := hR.1
              refine pw_get F I_M hK.1 hP f760 rfl 4 (by decide) L_M_17 (fun _ z => z) rfl d_M_operation_226 ?_
              refine lv_iload F.1 F.2.1 d_M_operation_229 (lv_at hl 1 rfl) ?_
              refine lv_dup2_11 F.1 F.2.1 d_M_operation_231 rfl rfl ?_
              have f761 : h756 (ad 2) = some (.inl (cs 0, 56, .inl (S758 2))) := hR.2.1 2 (by decide)
              refine pw_ialdN F hK.1 hP 0 f761 rfl (k := 48 + f) (by omega) (by decide) d_M_operation_232 ?_
              refine W.eq (g2 := F0 m 233 ls [.int (nI z), .int (nI (48 + f)), .ref (ad 2)]) (by rw [show S758 2 (48 + f) = S751 2 (48 + f) from by rw [t759]; exact sp_k (by decide), show S751 2 (48 + f) = S743 2 (48 + f) from by rw [t752]; exact sp_k (by decide), show S743 2 (48 + f) = S 2 (48 + f) from by rw [t744]; exact sp_k (by decide), hz]) ?_
              refine lv_iconst (v := 1) F.1 F.2.1 d_M_operation_233 (by decide) ?_
              refine lv_iadd F.1 F.2.1 d_M_operation_234 ?_
              refine W.eq (g2 := F0 m 235 ls [.int (nI (z + 1)), .int (nI (48 + f)), .ref (ad 2)]) (by rw [show (1 : Int32) = nI 1 from rfl, nI_add]) ?_
              refine pw_iastN F hK.1 hP hS 0 f761 rfl (k := 48 + f) (by omega) (by decide) d_M_operation_235 (fun H locs hP hS => ?_)
              have hP : pw D vwCl A (pu h756 (ad 2) (.inl (cs 0, 56, .inl (upd (S758 2) (48 + f) (nI (z + 1)))))) H := hP
              have hR := hR.arr (show 2 < 16 by decide) (48 + f) (nI (z + 1))
              obtain ⟨h762, e763⟩ : ∃ z9 : pw_H, z9 = pu h756 (ad 2) (.inl (cs 0, 56, .inl (upd (S758 2) (48 + f) (nI (z + 1))))) := ⟨_, rfl⟩
              rw [← e763] at hP
              obtain ⟨S764, t765⟩ : ∃ z9 : St, z9 = sp S758 2 (48 + f) (nI (z + 1)) := ⟨_, rfl⟩
              have hR : RM cs h762 o ad S764 := by rw [e763, t765]; exact hR
              refine lv_aload_n F.1 F.2.1 d_M_operation_236 rfl (lv_at hl 2 rfl) ?_
              have f766 : h762 o = some (.inr (7, [.int (S764 16 0), .int (S764 16 1), .ref (ad 0), .ref (ad 1), .ref (ad 2), .ref (ad 3), .ref (ad 4), .int (S764 16 2), .int (S764 16 3), .int (S764 16 4), .int (S764 16 5), .ref (ad 5), .ref (ad 6), .ref (ad 7), .ref (ad 8), .ref (ad 9), .ref (ad 10), .ref (ad 11), .ref (ad 12), .ref (ad 13), .ref (ad 14), .ref (ad 15)])) := hR.1
              refine pw_get F I_M hK.1 hP f766 rfl 4 (by decide) L_M_17 (fun _ z => z) rfl d_M_operation_237 ?_
              refine lv_iload F.1 F.2.1 d_M_operation_240 (lv_at hl 1 rfl) ?_
              have f767 : h762 (ad 2) = some (.inl (cs 0, 56, .inl (S764 2))) := hR.2.1 2 (by decide)
              refine pw_ialdN F hK.1 hP 0 f767 rfl (k := 48 + f) (by omega) (by decide) d_M_operation_242 ?_
              refine W.eq (g2 := F0 m 243 ls [.int (nI (z + 1))]) (by rw [show S764 2 (48 + f) = nI (z + 1) from by rw [t765]; exact sp_s]) ?_
              exact pw_iret F hr hlk hP hA hK hS (by decide) (by decide) d_M_operation_243 (by have hgd := (show gdOperation S (nI f) dr 4 n from ⟨hin, by decide, by rw [hor]; exact c719, fun z9 => absurd z9 (by decide), fun z9 => absurd z9 (by decide), fun z9 => absurd z9 (by decide)⟩); have hth : thOperation S (nI f) dr 4 n = 0 := (by unfold thOperation; rw [if_neg (fun z9 => z9 hgd), if_neg (fun z9 => z9.elim (fun z8 => c1 z8.1) (fun z8 => c740 (by rw [hor, hz] at z8; exact z8)))]); unfold stOperation rOperation; rw [if_pos hth, if_pos hth, hor, hz, tn_nI (by omega), nI_1]; rw [t765, t759, t752, t744] at hR; exact ⟨hR, rfl⟩)
            · skip
              refine lv_iconst (v := 2) F.1 F.2.1 d_M_operation_169 (by decide) ?_
              refine lv_goto (tgt := 174) F.1 F.2.1 d_M_operation_170 (by decide) ?_
              refine pw_put F I_M ty_M k_M n_M hK.1 hP hS f717 rfl 0 (by decide) L_M_63 (fun _ z => z) rfl rfl rfl (Nat.le_of_ble_eq_true rfl) d_M_operation_174 (fun H locs hP hS => ?_)
              have hP : pw D vwCl A (pu h o (.inr (7, (mfs ad S).set (mpos 0) (.int 2)))) H := hP
              have hR := hR.num (show 0 < 6 by decide) 2
              obtain ⟨h768, e769⟩ : ∃ z9 : pw_H, z9 = pu h o (.inr (7, (mfs ad S).set (mpos 0) (.int 2))) := ⟨_, rfl⟩
              rw [← e769] at hP
              obtain ⟨S770, t771⟩ : ∃ z9 : St, z9 = sp S 16 0 2 := ⟨_, rfl⟩
              have hR : RM cs h768 o ad S770 := by rw [e769, t771]; exact hR
              refine lv_aload_n F.1 F.2.1 d_M_operation_177 rfl (lv_at hl 2 rfl) ?_
              have f772 : h768 o = some (.inr (7, [.int (S770 16 0), .int (S770 16 1), .ref (ad 0), .ref (ad 1), .ref (ad 2), .ref (ad 3), .ref (ad 4), .int (S770 16 2), .int (S770 16 3), .int (S770 16 4), .int (S770 16 5), .ref (ad 5), .ref (ad 6), .ref (ad 7), .ref (ad 8), .ref (ad 9), .ref (ad 10), .ref (ad 11), .ref (ad 12), .ref (ad 13), .ref (ad 14), .ref (ad 15)])) := hR.1
              refine pw_get F I_M hK.1 hP f772 rfl 0 (by decide) L_M_63 (fun _ z => z) rfl d_M_operation_178 ?_
              refine W.eq (g2 := F0 m 181 ls [.int 2]) (by rw [show S770 16 0 = 2 from by rw [t771]; exact sp_s]) ?_
              refine lv_if_le (tgt := 186) F.1 F.2.1 d_M_operation_181 (by decide) (fun c773 => absurd c773 (by decide)) (fun c773 => ?_)
              refine lv_iconst (v := 0) F.1 F.2.1 d_M_operation_184 (by decide) ?_
              exact pw_iret F hr hlk hP hA hK hS (by decide) (by decide) d_M_operation_185 (by have hgd := (show gdOperation S (nI f) dr 4 n from ⟨hin, by decide, by rw [hor]; exact c719, fun z9 => absurd z9 (by decide), fun z9 => absurd z9 (by decide), fun z9 => absurd z9 (by decide)⟩); have hth : thOperation S (nI f) dr 4 n = 2 := (by unfold thOperation; rw [if_neg (fun z9 => z9 hgd), if_pos (Or.inr (by rw [hor, hz]; exact c740))]); unfold stOperation rOperation; rw [hth, if_neg (by decide), if_neg (by decide)]; rw [t771] at hR; exact ⟨hR, rfl⟩)
        · skip
          refine lv_iconst (v := 1) F.1 F.2.1 d_M_operation_33 (by decide) ?_
          refine lv_goto (tgt := 38) F.1 F.2.1 d_M_operation_34 (by decide) ?_
          refine lv_istore F.1 F.2.1 d_M_operation_38 hl (by decide) rfl (fun ls hl => ?_)
          replace hl : lv_has ls 7 [(6, .int 1), (5, .int (nI (48 + f))), (0, .ref o), (1, .int (nI f)), (2, .int dr), (3, .int 5), (4, .int n)] := hl
          refine lv_iload F.1 F.2.1 d_M_operation_40 (lv_at hl 0 rfl) ?_
          refine lv_if_eq (tgt := 59) F.1 F.2.1 d_M_operation_42 (by decide) (fun c774 => absurd c774 (by decide)) (fun c774 => ?_)
          refine lv_aload_n F.1 F.2.1 d_M_operation_45 rfl (lv_at hl 2 rfl) ?_
          have f775 : h o = some (.inr (7, [.int (S 16 0), .int (S 16 1), .ref (ad 0), .ref (ad 1), .ref (ad 2), .ref (ad 3), .ref (ad 4), .int (S 16 2), .int (S 16 3), .int (S 16 4), .int (S 16 5), .ref (ad 5), .ref (ad 6), .ref (ad 7), .ref (ad 8), .ref (ad 9), .ref (ad 10), .ref (ad 11), .ref (ad 12), .ref (ad 13), .ref (ad 14), .ref (ad 15)])) := hR.1
          refine pw_get F I_M hK.1 hP f775 rfl 2 (by decide) L_M_7 (fun _ z => z) rfl d_M_operation_46 ?_
          refine lv_iload F.1 F.2.1 d_M_operation_49 (lv_at hl 1 rfl) ?_
          have f776 : h (ad 0) = some (.inl (cs 1, 56, .inl (S 0))) := hR.2.1 0 (by decide)
          refine pw_zaldN F hK.1 hP 1 f776 rfl (k := 48 + f) (by omega) (by decide) d_M_operation_51 ?_
          refine lv_if_eq (tgt := 59) F.1 F.2.1 d_M_operation_52 (by decide) (fun c777 => ?_) (fun c777 => ?_)
          · skip
            refine lv_iconst (v := 0) F.1 F.2.1 d_M_operation_59 (by decide) ?_
            refine lv_istore F.1 F.2.1 d_M_operation_60 hl (by decide) rfl (fun ls hl => ?_)
            replace hl : lv_has ls 7 [(6, .int 0), (5, .int (nI (48 + f))), (0, .ref o), (1, .int (nI f)), (2, .int dr), (3, .int 5), (4, .int n)] := hl
            refine lv_iload F.1 F.2.1 d_M_operation_62 (lv_at hl 0 rfl) ?_
            refine lv_if_eq (tgt := 82) F.1 F.2.1 d_M_operation_64 (by decide) (fun c778 => ?_) (fun c778 => absurd (by decide) c778)
            refine lv_iload F.1 F.2.1 d_M_operation_82 (lv_at hl 0 rfl) ?_
            refine lv_if_eq (tgt := 111) F.1 F.2.1 d_M_operation_84 (by decide) (fun c779 => ?_) (fun c779 => absurd (by decide) c779)
            refine lv_iload F.1 F.2.1 d_M_operation_111 (lv_at hl 0 rfl) ?_
            refine lv_if_eq (tgt := 136) F.1 F.2.1 d_M_operation_113 (by decide) (fun c780 => ?_) (fun c780 => absurd (by decide) c780)
            refine lv_aload_n F.1 F.2.1 d_M_operation_136 rfl (lv_at hl 2 rfl) ?_
            refine lv_iload F.1 F.2.1 d_M_operation_137 (lv_at hl 0 rfl) ?_
            refine lv_if_ne (tgt := 146) F.1 F.2.1 d_M_operation_139 (by decide) (fun c781 => absurd (by decide) c781) (fun c781 => ?_)
            refine lv_iconst (v := 1) F.1 F.2.1 d_M_operation_142 (by decide) ?_
            refine lv_goto (tgt := 174) F.1 F.2.1 d_M_operation_143 (by decide) ?_
            refine pw_put F I_M ty_M k_M n_M hK.1 hP hS f775 rfl 0 (by decide) L_M_63 (fun _ z => z) rfl rfl rfl (Nat.le_of_ble_eq_true rfl) d_M_operation_174 (fun H locs hP hS => ?_)
            have hP : pw D vwCl A (pu h o (.inr (7, (mfs ad S).set (mpos 0) (.int 1)))) H := hP
            have hR := hR.num (show 0 < 6 by decide) 1
            obtain ⟨h782, e783⟩ : ∃ z9 : pw_H, z9 = pu h o (.inr (7, (mfs ad S).set (mpos 0) (.int 1))) := ⟨_, rfl⟩
            rw [← e783] at hP
            obtain ⟨S784, t785⟩ : ∃ z9 : St, z9 = sp S 16 0 1 := ⟨_, rfl⟩
            have hR : RM cs h782 o ad S784 := by rw [e783, t785]; exact hR
            refine lv_aload_n F.1 F.2.1 d_M_operation_177 rfl (lv_at hl 2 rfl) ?_
            have f786 : h782 o = some (.inr (7, [.int (S784 16 0), .int (S784 16 1), .ref (ad 0), .ref (ad 1), .ref (ad 2), .ref (ad 3), .ref (ad 4), .int (S784 16 2), .int (S784 16 3), .int (S784 16 4), .int (S784 16 5), .ref (ad 5), .ref (ad 6), .ref (ad 7), .ref (ad 8), .ref (ad 9), .ref (ad 10), .ref (ad 11), .ref (ad 12), .ref (ad 13), .ref (ad 14), .ref (ad 15)])) := hR.1
            refine pw_get F I_M hK.1 hP f786 rfl 0 (by decide) L_M_63 (fun _ z => z) rfl d_M_operation_178 ?_
            refine W.eq (g2 := F0 m 181 ls [.int 1]) (by rw [show S784 16 0 = 1 from by rw [t785]; exact sp_s]) ?_
            refine lv_if_le (tgt := 186) F.1 F.2.1 d_M_operation_181 (by decide) (fun c787 => absurd c787 (by decide)) (fun c787 => ?_)
            refine lv_iconst (v := 0) F.1 F.2.1 d_M_operation_184 (by decide) ?_
            exact pw_iret F hr hlk hP hA hK hS (by decide) (by decide) d_M_operation_185 (by have hth : thOperation S (nI f) dr 5 n = 1 := (by unfold thOperation; rw [if_pos (show ¬ gdOperation S (nI f) dr 5 n from fun z9 => z9.2.2.1 (by rw [oRow_1 hf c1]; exact c777))]); unfold stOperation rOperation; rw [hth, if_neg (by decide), if_neg (by decide)]; rw [t785] at hR; exact ⟨hR, rfl⟩)
          · skip
            obtain ⟨z, hz12, hz⟩ := hB (48 + f) (by omega) c777
            have hor : oRow (nI f) dr = 48 + f := oRow_1 hf c1
            refine lv_iconst (v := 1) F.1 F.2.1 d_M_operation_55 (by decide) ?_
            refine lv_goto (tgt := 60) F.1 F.2.1 d_M_operation_56 (by decide) ?_
            refine lv_istore F.1 F.2.1 d_M_operation_60 hl (by decide) rfl (fun ls hl => ?_)
            replace hl : lv_has ls 7 [(6, .int 1), (5, .int (nI (48 + f))), (0, .ref o), (1, .int (nI f)), (2, .int dr), (3, .int 5), (4, .int n)] := hl
            refine lv_iload F.1 F.2.1 d_M_operation_62 (lv_at hl 0 rfl) ?_
            refine lv_if_eq (tgt := 82) F.1 F.2.1 d_M_operation_64 (by decide) (fun c788 => absurd c788 (by decide)) (fun c788 => ?_)
            refine lv_iload_n F.1 F.2.1 d_M_operation_67 rfl (lv_at hl 5 rfl) ?_
            refine lv_if_ne (tgt := 82) F.1 F.2.1 d_M_operation_68 (by decide) (fun c789 => ?_) (fun c789 => absurd c789 (by decide))
            refine lv_iload F.1 F.2.1 d_M_operation_82 (lv_at hl 0 rfl) ?_
            refine lv_if_eq (tgt := 111) F.1 F.2.1 d_M_operation_84 (by decide) (fun c790 => absurd c790 (by decide)) (fun c790 => ?_)
            refine lv_iload_n F.1 F.2.1 d_M_operation_87 rfl (lv_at hl 5 rfl) ?_
            refine lv_iconst (v := 1) F.1 F.2.1 d_M_operation_88 (by decide) ?_
            refine lv_icmp_eq (tgt := 97) F.1 F.2.1 d_M_operation_89 (by decide) (fun c791 => absurd c791 (by decide)) (fun c791 => ?_)
            refine lv_iload_n F.1 F.2.1 d_M_operation_92 rfl (lv_at hl 5 rfl) ?_
            refine lv_iconst (v := 5) F.1 F.2.1 d_M_operation_93 (by decide) ?_
            refine lv_icmp_ne (tgt := 111) F.1 F.2.1 d_M_operation_94 (by decide) (fun c792 => absurd (by decide) c792) (fun c792 => ?_)
            refine lv_iload F.1 F.2.1 d_M_operation_97 (lv_at hl 6 rfl) ?_
            refine lv_iconst (v := 0) F.1 F.2.1 d_M_operation_99 (by decide) ?_
            refine lv_aload_n F.1 F.2.1 d_M_operation_100 rfl (lv_at hl 2 rfl) ?_
            refine pw_get F I_M hK.1 hP f775 rfl 1 (by decide) L_M_76 (fun _ z => z) rfl d_M_operation_101 ?_
            refine lv_iconst (v := 1) F.1 F.2.1 d_M_operation_104 (by decide) ?_
            refine lv_isub F.1 F.2.1 d_M_operation_105 ?_
            refine pw_ciE (pr_S F (c_M_inn l D cs A h n 0 ((S 16 1) - 1)) X_M_72 rfl rfl ⟨by decide, by decide⟩ hP hA hK hS rfl hl.1 rfl (Nat.le_of_ble_eq_true rfl) d_M_operation_106 ⟨by decide, by decide⟩) hS (fun H locs hP hS => ?_)
            by_cases b793 : 0 ≤ n ∧ n ≤ ((S 16 1) - 1)
            · skip
              refine W.eq (g2 := F0 m 109 ls [.int 1]) (by rw [if_pos b793]) ?_
              refine lv_istore F.1 F.2.1 d_M_operation_109 hl (by decide) rfl (fun ls hl => ?_)
              replace hl : lv_has ls 7 [(6, .int 1), (5, .int (nI (48 + f))), (0, .ref o), (1, .int (nI f)), (2, .int dr), (3, .int 5), (4, .int n)] := hl
              refine lv_iload F.1 F.2.1 d_M_operation_111 (lv_at hl 0 rfl) ?_
              refine lv_if_eq (tgt := 136) F.1 F.2.1 d_M_operation_113 (by decide) (fun c794 => absurd c794 (by decide)) (fun c794 => ?_)
              refine lv_iload_n F.1 F.2.1 d_M_operation_116 rfl (lv_at hl 5 rfl) ?_
              refine lv_iconst (v := 3) F.1 F.2.1 d_M_operation_117 (by decide) ?_
              refine lv_icmp_ne (tgt := 136) F.1 F.2.1 d_M_operation_118 (by decide) (fun c795 => ?_) (fun c795 => absurd c795 (by decide))
              refine lv_aload_n F.1 F.2.1 d_M_operation_136 rfl (lv_at hl 2 rfl) ?_
              refine lv_iload F.1 F.2.1 d_M_operation_137 (lv_at hl 0 rfl) ?_
              refine lv_if_ne (tgt := 146) F.1 F.2.1 d_M_operation_139 (by decide) (fun c796 => ?_) (fun c796 => absurd c796 (by decide))
              refine lv_iload_n F.1 F.2.1 d_M_operation_146 rfl (lv_at hl 4 rfl) ?_
              refine lv_if_ne (tgt := 157) F.1 F.2.1 d_M_operation_147 (by decide) (fun c797 => ?_) (fun c797 => absurd c797 c1)
              refine lv_aload_n F.1 F.2.1 d_M_operation_157 rfl (lv_at hl 2 rfl) ?_
              refine pw_get F I_M hK.1 hP f775 rfl 4 (by decide) L_M_17 (fun _ z => z) rfl d_M_operation_158 ?_
              refine lv_iload F.1 F.2.1 d_M_operation_161 (lv_at hl 1 rfl) ?_
              have f798 : h (ad 2) = some (.inl (cs 0, 56, .inl (S 2))) := hR.2.1 2 (by decide)
              refine pw_ialdN F hK.1 hP 0 f798 rfl (k := 48 + f) (by omega) (by decide) d_M_operation_163 ?_
              refine W.eq (g2 := F0 m 164 ls [.int (nI z), .ref o]) (by rw [hz]) ?_
              refine lv_bipush (v := 12) F.1 F.2.1 d_M_operation_164 (by decide) ?_
              refine lv_icmp_ne (tgt := 173) F.1 F.2.1 d_M_operation_166 (by decide) (fun c799 => ?_) (fun c799 => ?_)
              · skip
                refine lv_iconst (v := 0) F.1 F.2.1 d_M_operation_173 (by decide) ?_
                refine pw_put F I_M ty_M k_M n_M hK.1 hP hS f775 rfl 0 (by decide) L_M_63 (fun _ z => z) rfl rfl rfl (Nat.le_of_ble_eq_true rfl) d_M_operation_174 (fun H locs hP hS => ?_)
                have hP : pw D vwCl A (pu h o (.inr (7, (mfs ad S).set (mpos 0) (.int 0)))) H := hP
                have hR := hR.num (show 0 < 6 by decide) 0
                obtain ⟨h800, e801⟩ : ∃ z9 : pw_H, z9 = pu h o (.inr (7, (mfs ad S).set (mpos 0) (.int 0))) := ⟨_, rfl⟩
                rw [← e801] at hP
                obtain ⟨S802, t803⟩ : ∃ z9 : St, z9 = sp S 16 0 0 := ⟨_, rfl⟩
                have hR : RM cs h800 o ad S802 := by rw [e801, t803]; exact hR
                refine lv_aload_n F.1 F.2.1 d_M_operation_177 rfl (lv_at hl 2 rfl) ?_
                have f804 : h800 o = some (.inr (7, [.int (S802 16 0), .int (S802 16 1), .ref (ad 0), .ref (ad 1), .ref (ad 2), .ref (ad 3), .ref (ad 4), .int (S802 16 2), .int (S802 16 3), .int (S802 16 4), .int (S802 16 5), .ref (ad 5), .ref (ad 6), .ref (ad 7), .ref (ad 8), .ref (ad 9), .ref (ad 10), .ref (ad 11), .ref (ad 12), .ref (ad 13), .ref (ad 14), .ref (ad 15)])) := hR.1
                refine pw_get F I_M hK.1 hP f804 rfl 0 (by decide) L_M_63 (fun _ z => z) rfl d_M_operation_178 ?_
                refine W.eq (g2 := F0 m 181 ls [.int 0]) (by rw [show S802 16 0 = 0 from by rw [t803]; exact sp_s]) ?_
                refine lv_if_le (tgt := 186) F.1 F.2.1 d_M_operation_181 (by decide) (fun c805 => ?_) (fun c805 => absurd (by decide) c805)
                have hlt : z < 12 := by
                  rcases Nat.lt_or_ge z 12 with h9 | h9
                  · exact h9
                  · exact absurd (show nI z = 12 by rw [show z = 12 by omega]; rfl) c799
                refine lv_aload_n F.1 F.2.1 d_M_operation_186 rfl (lv_at hl 2 rfl) ?_
                refine pw_get F I_M hK.1 hP f804 rfl 5 (by decide) L_M_20 (fun _ z => z) rfl d_M_operation_187 ?_
                refine lv_bipush (v := 12) F.1 F.2.1 d_M_operation_190 (by decide) ?_
                refine lv_iload F.1 F.2.1 d_M_operation_192 (lv_at hl 1 rfl) ?_
                refine lv_imul F.1 F.2.1 d_M_operation_194 ?_
                refine W.eq (g2 := F0 m 195 ls [.int (nI (12 * (48 + f))), .ref (ad 3)]) (by rw [show (12 : Int32) = nI 12 from rfl, pk_mul]) ?_
                refine lv_aload_n F.1 F.2.1 d_M_operation_195 rfl (lv_at hl 2 rfl) ?_
                refine pw_get F I_M hK.1 hP f804 rfl 4 (by decide) L_M_17 (fun _ z => z) rfl d_M_operation_196 ?_
                refine lv_iload F.1 F.2.1 d_M_operation_199 (lv_at hl 1 rfl) ?_
                have f806 : h800 (ad 2) = some (.inl (cs 0, 56, .inl (S802 2))) := hR.2.1 2 (by decide)
                refine pw_ialdN F hK.1 hP 0 f806 rfl (k := 48 + f) (by omega) (by decide) d_M_operation_201 ?_
                refine W.eq (g2 := F0 m 202 ls [.int (nI z), .int (nI (12 * (48 + f))), .ref (ad 3)]) (by rw [show S802 2 (48 + f) = S 2 (48 + f) from by rw [t803]; exact sp_k (by decide), hz]) ?_
                refine lv_iadd F.1 F.2.1 d_M_operation_202 ?_
                refine W.eq (g2 := F0 m 203 ls [.int (nI ((12 * (48 + f)) + z)), .ref (ad 3)]) (by rw [nI_add]) ?_
                refine lv_iload_n F.1 F.2.1 d_M_operation_203 rfl (lv_at hl 5 rfl) ?_
                have f807 : h800 (ad 3) = some (.inl (cs 0, 672, .inl (S802 3))) := hR.2.1 3 (by decide)
                refine pw_iastN F hK.1 hP hS 0 f807 rfl (k := (12 * (48 + f)) + z) (by omega) (by decide) d_M_operation_204 (fun H locs hP hS => ?_)
                have hP : pw D vwCl A (pu h800 (ad 3) (.inl (cs 0, 672, .inl (upd (S802 3) ((12 * (48 + f)) + z) 5)))) H := hP
                have hR := hR.arr (show 3 < 16 by decide) ((12 * (48 + f)) + z) 5
                obtain ⟨h808, e809⟩ : ∃ z9 : pw_H, z9 = pu h800 (ad 3) (.inl (cs 0, 672, .inl (upd (S802 3) ((12 * (48 + f)) + z) 5))) := ⟨_, rfl⟩
                rw [← e809] at hP
                obtain ⟨S810, t811⟩ : ∃ z9 : St, z9 = sp S802 3 ((12 * (48 + f)) + z) 5 := ⟨_, rfl⟩
                have hR : RM cs h808 o ad S810 := by rw [e809, t811]; exact hR
                refine lv_aload_n F.1 F.2.1 d_M_operation_205 rfl (lv_at hl 2 rfl) ?_
                have f812 : h808 o = some (.inr (7, [.int (S810 16 0), .int (S810 16 1), .ref (ad 0), .ref (ad 1), .ref (ad 2), .ref (ad 3), .ref (ad 4), .int (S810 16 2), .int (S810 16 3), .int (S810 16 4), .int (S810 16 5), .ref (ad 5), .ref (ad 6), .ref (ad 7), .ref (ad 8), .ref (ad 9), .ref (ad 10), .ref (ad 11), .ref (ad 12), .ref (ad 13), .ref (ad 14), .ref (ad 15)])) := hR.1
                refine pw_get F I_M hK.1 hP f812 rfl 6 (by decide) L_M_23 (fun _ z => z) rfl d_M_operation_206 ?_
                refine lv_bipush (v := 12) F.1 F.2.1 d_M_operation_209 (by decide) ?_
                refine lv_iload F.1 F.2.1 d_M_operation_211 (lv_at hl 1 rfl) ?_
                refine lv_imul F.1 F.2.1 d_M_operation_213 ?_
                refine W.eq (g2 := F0 m 214 ls [.int (nI (12 * (48 + f))), .ref (ad 4)]) (by rw [show (12 : Int32) = nI 12 from rfl, pk_mul]) ?_
                refine lv_aload_n F.1 F.2.1 d_M_operation_214 rfl (lv_at hl 2 rfl) ?_
                refine pw_get F I_M hK.1 hP f812 rfl 4 (by decide) L_M_17 (fun _ z => z) rfl d_M_operation_215 ?_
                refine lv_iload F.1 F.2.1 d_M_operation_218 (lv_at hl 1 rfl) ?_
                have f813 : h808 (ad 2) = some (.inl (cs 0, 56, .inl (S810 2))) := hR.2.1 2 (by decide)
                refine pw_ialdN F hK.1 hP 0 f813 rfl (k := 48 + f) (by omega) (by decide) d_M_operation_220 ?_
                refine W.eq (g2 := F0 m 221 ls [.int (nI z), .int (nI (12 * (48 + f))), .ref (ad 4)]) (by rw [show S810 2 (48 + f) = S802 2 (48 + f) from by rw [t811]; exact sp_k (by decide), show S802 2 (48 + f) = S 2 (48 + f) from by rw [t803]; exact sp_k (by decide), hz]) ?_
                refine lv_iadd F.1 F.2.1 d_M_operation_221 ?_
                refine W.eq (g2 := F0 m 222 ls [.int (nI ((12 * (48 + f)) + z)), .ref (ad 4)]) (by rw [nI_add]) ?_
                refine lv_iload F.1 F.2.1 d_M_operation_222 (lv_at hl 6 rfl) ?_
                have f814 : h808 (ad 4) = some (.inl (cs 0, 672, .inl (S810 4))) := hR.2.1 4 (by decide)
                refine pw_iastN F hK.1 hP hS 0 f814 rfl (k := (12 * (48 + f)) + z) (by omega) (by decide) d_M_operation_224 (fun H locs hP hS => ?_)
                have hP : pw D vwCl A (pu h808 (ad 4) (.inl (cs 0, 672, .inl (upd (S810 4) ((12 * (48 + f)) + z) n)))) H := hP
                have hR := hR.arr (show 4 < 16 by decide) ((12 * (48 + f)) + z) n
                obtain ⟨h815, e816⟩ : ∃ z9 : pw_H, z9 = pu h808 (ad 4) (.inl (cs 0, 672, .inl (upd (S810 4) ((12 * (48 + f)) + z) n))) := ⟨_, rfl⟩
                rw [← e816] at hP
                obtain ⟨S817, t818⟩ : ∃ z9 : St, z9 = sp S810 4 ((12 * (48 + f)) + z) n := ⟨_, rfl⟩
                have hR : RM cs h815 o ad S817 := by rw [e816, t818]; exact hR
                refine lv_aload_n F.1 F.2.1 d_M_operation_225 rfl (lv_at hl 2 rfl) ?_
                have f819 : h815 o = some (.inr (7, [.int (S817 16 0), .int (S817 16 1), .ref (ad 0), .ref (ad 1), .ref (ad 2), .ref (ad 3), .ref (ad 4), .int (S817 16 2), .int (S817 16 3), .int (S817 16 4), .int (S817 16 5), .ref (ad 5), .ref (ad 6), .ref (ad 7), .ref (ad 8), .ref (ad 9), .ref (ad 10), .ref (ad 11), .ref (ad 12), .ref (ad 13), .ref (ad 14), .ref (ad 15)])) := hR.1
                refine pw_get F I_M hK.1 hP f819 rfl 4 (by decide) L_M_17 (fun _ z => z) rfl d_M_operation_226 ?_
                refine lv_iload F.1 F.2.1 d_M_operation_229 (lv_at hl 1 rfl) ?_
                refine lv_dup2_11 F.1 F.2.1 d_M_operation_231 rfl rfl ?_
                have f820 : h815 (ad 2) = some (.inl (cs 0, 56, .inl (S817 2))) := hR.2.1 2 (by decide)
                refine pw_ialdN F hK.1 hP 0 f820 rfl (k := 48 + f) (by omega) (by decide) d_M_operation_232 ?_
                refine W.eq (g2 := F0 m 233 ls [.int (nI z), .int (nI (48 + f)), .ref (ad 2)]) (by rw [show S817 2 (48 + f) = S810 2 (48 + f) from by rw [t818]; exact sp_k (by decide), show S810 2 (48 + f) = S802 2 (48 + f) from by rw [t811]; exact sp_k (by decide), show S802 2 (48 + f) = S 2 (48 + f) from by rw [t803]; exact sp_k (by decide), hz]) ?_
                refine lv_iconst (v := 1) F.1 F.2.1 d_M_operation_233 (by decide) ?_
                refine lv_iadd F.1 F.2.1 d_M_operation_234 ?_
                refine W.eq (g2 := F0 m 235 ls [.int (nI (z + 1)), .int (nI (48 + f)), .ref (ad 2)]) (by rw [show (1 : Int32) = nI 1 from rfl, nI_add]) ?_
                refine pw_iastN F hK.1 hP hS 0 f820 rfl (k := 48 + f) (by omega) (by decide) d_M_operation_235 (fun H locs hP hS => ?_)
                have hP : pw D vwCl A (pu h815 (ad 2) (.inl (cs 0, 56, .inl (upd (S817 2) (48 + f) (nI (z + 1)))))) H := hP
                have hR := hR.arr (show 2 < 16 by decide) (48 + f) (nI (z + 1))
                obtain ⟨h821, e822⟩ : ∃ z9 : pw_H, z9 = pu h815 (ad 2) (.inl (cs 0, 56, .inl (upd (S817 2) (48 + f) (nI (z + 1))))) := ⟨_, rfl⟩
                rw [← e822] at hP
                obtain ⟨S823, t824⟩ : ∃ z9 : St, z9 = sp S817 2 (48 + f) (nI (z + 1)) := ⟨_, rfl⟩
                have hR : RM cs h821 o ad S823 := by rw [e822, t824]; exact hR
                refine lv_aload_n F.1 F.2.1 d_M_operation_236 rfl (lv_at hl 2 rfl) ?_
                have f825 : h821 o = some (.inr (7, [.int (S823 16 0), .int (S823 16 1), .ref (ad 0), .ref (ad 1), .ref (ad 2), .ref (ad 3), .ref (ad 4), .int (S823 16 2), .int (S823 16 3), .int (S823 16 4), .int (S823 16 5), .ref (ad 5), .ref (ad 6), .ref (ad 7), .ref (ad 8), .ref (ad 9), .ref (ad 10), .ref (ad 11), .ref (ad 12), .ref (ad 13), .ref (ad 14), .ref (ad 15)])) := hR.1
                refine pw_get F I_M hK.1 hP f825 rfl 4 (by decide) L_M_17 (fun _ z => z) rfl d_M_operation_237 ?_
                refine lv_iload F.1 F.2.1 d_M_operation_240 (lv_at hl 1 rfl) ?_
                have f826 : h821 (ad 2) = some (.inl (cs 0, 56, .inl (S823 2))) := hR.2.1 2 (by decide)
                refine pw_ialdN F hK.1 hP 0 f826 rfl (k := 48 + f) (by omega) (by decide) d_M_operation_242 ?_
                refine W.eq (g2 := F0 m 243 ls [.int (nI (z + 1))]) (by rw [show S823 2 (48 + f) = nI (z + 1) from by rw [t824]; exact sp_s]) ?_
                exact pw_iret F hr hlk hP hA hK hS (by decide) (by decide) d_M_operation_243 (by have hgd := (show gdOperation S (nI f) dr 5 n from ⟨hin, by decide, by rw [hor]; exact c777, fun z9 => absurd z9 (by decide), fun _ => b793, fun z9 => absurd z9 (by decide)⟩); have hth : thOperation S (nI f) dr 5 n = 0 := (by unfold thOperation; rw [if_neg (fun z9 => z9 hgd), if_neg (fun z9 => z9.elim (fun z8 => c1 z8.1) (fun z8 => c799 (by rw [hor, hz] at z8; exact z8)))]); unfold stOperation rOperation; rw [if_pos hth, if_pos hth, hor, hz, tn_nI (by omega), nI_1]; rw [t824, t818, t811, t803] at hR; exact ⟨hR, rfl⟩)
              · skip
                refine lv_iconst (v := 2) F.1 F.2.1 d_M_operation_169 (by decide) ?_
                refine lv_goto (tgt := 174) F.1 F.2.1 d_M_operation_170 (by decide) ?_
                refine pw_put F I_M ty_M k_M n_M hK.1 hP hS f775 rfl 0 (by decide) L_M_63 (fun _ z => z) rfl rfl rfl (Nat.le_of_ble_eq_true rfl) d_M_operation_174 (fun H locs hP hS => ?_)
                have hP : pw D vwCl A (pu h o (.inr (7, (mfs ad S).set (mpos 0) (.int 2)))) H := hP
                have hR := hR.num (show 0 < 6 by decide) 2
                obtain ⟨h827, e828⟩ : ∃ z9 : pw_H, z9 = pu h o (.inr (7, (mfs ad S).set (mpos 0) (.int 2))) := ⟨_, rfl⟩
                rw [← e828] at hP
                obtain ⟨S829, t830⟩ : ∃ z9 : St, z9 = sp S 16 0 2 := ⟨_, rfl⟩
                have hR : RM cs h827 o ad S829 := by rw [e828, t830]; exact hR
                refine lv_aload_n F.1 F.2.1 d_M_operation_177 rfl (lv_at hl 2 rfl) ?_
                have f831 : h827 o = some (.inr (7, [.int (S829 16 0), .int (S829 16 1), .ref (ad 0), .ref (ad 1), .ref (ad 2), .ref (ad 3), .ref (ad 4), .int (S829 16 2), .int (S829 16 3), .int (S829 16 4), .int (S829 16 5), .ref (ad 5), .ref (ad 6), .ref (ad 7), .ref (ad 8), .ref (ad 9), .ref (ad 10), .ref (ad 11), .ref (ad 12), .ref (ad 13), .ref (ad 14), .ref (ad 15)])) := hR.1
                refine pw_get F I_M hK.1 hP f831 rfl 0 (by decide) L_M_63 (fun _ z => z) rfl d_M_operation_178 ?_
                refine W.eq (g2 := F0 m 181 ls [.int 2]) (by rw [show S829 16 0 = 2 from by rw [t830]; exact sp_s]) ?_
                refine lv_if_le (tgt := 186) F.1 F.2.1 d_M_operation_181 (by decide) (fun c832 => absurd c832 (by decide)) (fun c832 => ?_)
                refine lv_iconst (v := 0) F.1 F.2.1 d_M_operation_184 (by decide) ?_
                exact pw_iret F hr hlk hP hA hK hS (by decide) (by decide) d_M_operation_185 (by have hgd := (show gdOperation S (nI f) dr 5 n from ⟨hin, by decide, by rw [hor]; exact c777, fun z9 => absurd z9 (by decide), fun _ => b793, fun z9 => absurd z9 (by decide)⟩); have hth : thOperation S (nI f) dr 5 n = 2 := (by unfold thOperation; rw [if_neg (fun z9 => z9 hgd), if_pos (Or.inr (by rw [hor, hz]; exact c799))]); unfold stOperation rOperation; rw [hth, if_neg (by decide), if_neg (by decide)]; rw [t830] at hR; exact ⟨hR, rfl⟩)
            · skip
              refine W.eq (g2 := F0 m 109 ls [.int 0]) (by rw [if_neg b793]) ?_
              refine lv_istore F.1 F.2.1 d_M_operation_109 hl (by decide) rfl (fun ls hl => ?_)
              replace hl : lv_has ls 7 [(6, .int 0), (5, .int (nI (48 + f))), (0, .ref o), (1, .int (nI f)), (2, .int dr), (3, .int 5), (4, .int n)] := hl
              refine lv_iload F.1 F.2.1 d_M_operation_111 (lv_at hl 0 rfl) ?_
              refine lv_if_eq (tgt := 136) F.1 F.2.1 d_M_operation_113 (by decide) (fun c833 => ?_) (fun c833 => absurd (by decide) c833)
              refine lv_aload_n F.1 F.2.1 d_M_operation_136 rfl (lv_at hl 2 rfl) ?_
              refine lv_iload F.1 F.2.1 d_M_operation_137 (lv_at hl 0 rfl) ?_
              refine lv_if_ne (tgt := 146) F.1 F.2.1 d_M_operation_139 (by decide) (fun c834 => absurd (by decide) c834) (fun c834 => ?_)
              refine lv_iconst (v := 1) F.1 F.2.1 d_M_operation_142 (by decide) ?_
              refine lv_goto (tgt := 174) F.1 F.2.1 d_M_operation_143 (by decide) ?_
              refine pw_put F I_M ty_M k_M n_M hK.1 hP hS f775 rfl 0 (by decide) L_M_63 (fun _ z => z) rfl rfl rfl (Nat.le_of_ble_eq_true rfl) d_M_operation_174 (fun H locs hP hS => ?_)
              have hP : pw D vwCl A (pu h o (.inr (7, (mfs ad S).set (mpos 0) (.int 1)))) H := hP
              have hR := hR.num (show 0 < 6 by decide) 1
              obtain ⟨h835, e836⟩ : ∃ z9 : pw_H, z9 = pu h o (.inr (7, (mfs ad S).set (mpos 0) (.int 1))) := ⟨_, rfl⟩
              rw [← e836] at hP
              obtain ⟨S837, t838⟩ : ∃ z9 : St, z9 = sp S 16 0 1 := ⟨_, rfl⟩
              have hR : RM cs h835 o ad S837 := by rw [e836, t838]; exact hR
              refine lv_aload_n F.1 F.2.1 d_M_operation_177 rfl (lv_at hl 2 rfl) ?_
              have f839 : h835 o = some (.inr (7, [.int (S837 16 0), .int (S837 16 1), .ref (ad 0), .ref (ad 1), .ref (ad 2), .ref (ad 3), .ref (ad 4), .int (S837 16 2), .int (S837 16 3), .int (S837 16 4), .int (S837 16 5), .ref (ad 5), .ref (ad 6), .ref (ad 7), .ref (ad 8), .ref (ad 9), .ref (ad 10), .ref (ad 11), .ref (ad 12), .ref (ad 13), .ref (ad 14), .ref (ad 15)])) := hR.1
              refine pw_get F I_M hK.1 hP f839 rfl 0 (by decide) L_M_63 (fun _ z => z) rfl d_M_operation_178 ?_
              refine W.eq (g2 := F0 m 181 ls [.int 1]) (by rw [show S837 16 0 = 1 from by rw [t838]; exact sp_s]) ?_
              refine lv_if_le (tgt := 186) F.1 F.2.1 d_M_operation_181 (by decide) (fun c840 => absurd c840 (by decide)) (fun c840 => ?_)
              refine lv_iconst (v := 0) F.1 F.2.1 d_M_operation_184 (by decide) ?_
              exact pw_iret F hr hlk hP hA hK hS (by decide) (by decide) d_M_operation_185 (by have hth : thOperation S (nI f) dr 5 n = 1 := (by unfold thOperation; rw [if_pos (show ¬ gdOperation S (nI f) dr 5 n from fun z9 => b793 (z9.2.2.2.2.1 (Or.inr rfl)))]); unfold stOperation rOperation; rw [hth, if_neg (by decide), if_neg (by decide)]; rw [t838] at hR; exact ⟨hR, rfl⟩)
      · skip
        refine W.eq (g2 := F0 m 30 ls [.int 0]) (by rw [if_neg b456]) ?_
        refine lv_if_eq (tgt := 37) F.1 F.2.1 d_M_operation_30 (by decide) (fun c841 => ?_) (fun c841 => absurd (by decide) c841)
        refine lv_iconst (v := 0) F.1 F.2.1 d_M_operation_37 (by decide) ?_
        refine lv_istore F.1 F.2.1 d_M_operation_38 hl (by decide) rfl (fun ls hl => ?_)
        replace hl : lv_has ls 7 [(6, .int 0), (5, .int (nI (48 + f))), (0, .ref o), (1, .int (nI f)), (2, .int dr), (3, .int kd), (4, .int n)] := hl
        refine lv_iload F.1 F.2.1 d_M_operation_40 (lv_at hl 0 rfl) ?_
        refine lv_if_eq (tgt := 59) F.1 F.2.1 d_M_operation_42 (by decide) (fun c842 => ?_) (fun c842 => absurd (by decide) c842)
        refine lv_iconst (v := 0) F.1 F.2.1 d_M_operation_59 (by decide) ?_
        refine lv_istore F.1 F.2.1 d_M_operation_60 hl (by decide) rfl (fun ls hl => ?_)
        replace hl : lv_has ls 7 [(6, .int 0), (5, .int (nI (48 + f))), (0, .ref o), (1, .int (nI f)), (2, .int dr), (3, .int kd), (4, .int n)] := hl
        refine lv_iload F.1 F.2.1 d_M_operation_62 (lv_at hl 0 rfl) ?_
        refine lv_if_eq (tgt := 82) F.1 F.2.1 d_M_operation_64 (by decide) (fun c843 => ?_) (fun c843 => absurd (by decide) c843)
        refine lv_iload F.1 F.2.1 d_M_operation_82 (lv_at hl 0 rfl) ?_
        refine lv_if_eq (tgt := 111) F.1 F.2.1 d_M_operation_84 (by decide) (fun c844 => ?_) (fun c844 => absurd (by decide) c844)
        refine lv_iload F.1 F.2.1 d_M_operation_111 (lv_at hl 0 rfl) ?_
        refine lv_if_eq (tgt := 136) F.1 F.2.1 d_M_operation_113 (by decide) (fun c845 => ?_) (fun c845 => absurd (by decide) c845)
        refine lv_aload_n F.1 F.2.1 d_M_operation_136 rfl (lv_at hl 2 rfl) ?_
        refine lv_iload F.1 F.2.1 d_M_operation_137 (lv_at hl 0 rfl) ?_
        refine lv_if_ne (tgt := 146) F.1 F.2.1 d_M_operation_139 (by decide) (fun c846 => absurd (by decide) c846) (fun c846 => ?_)
        refine lv_iconst (v := 1) F.1 F.2.1 d_M_operation_142 (by decide) ?_
        refine lv_goto (tgt := 174) F.1 F.2.1 d_M_operation_143 (by decide) ?_
        have f847 : h o = some (.inr (7, [.int (S 16 0), .int (S 16 1), .ref (ad 0), .ref (ad 1), .ref (ad 2), .ref (ad 3), .ref (ad 4), .int (S 16 2), .int (S 16 3), .int (S 16 4), .int (S 16 5), .ref (ad 5), .ref (ad 6), .ref (ad 7), .ref (ad 8), .ref (ad 9), .ref (ad 10), .ref (ad 11), .ref (ad 12), .ref (ad 13), .ref (ad 14), .ref (ad 15)])) := hR.1
        refine pw_put F I_M ty_M k_M n_M hK.1 hP hS f847 rfl 0 (by decide) L_M_63 (fun _ z => z) rfl rfl rfl (Nat.le_of_ble_eq_true rfl) d_M_operation_174 (fun H locs hP hS => ?_)
        have hP : pw D vwCl A (pu h o (.inr (7, (mfs ad S).set (mpos 0) (.int 1)))) H := hP
        have hR := hR.num (show 0 < 6 by decide) 1
        obtain ⟨h848, e849⟩ : ∃ z9 : pw_H, z9 = pu h o (.inr (7, (mfs ad S).set (mpos 0) (.int 1))) := ⟨_, rfl⟩
        rw [← e849] at hP
        obtain ⟨S850, t851⟩ : ∃ z9 : St, z9 = sp S 16 0 1 := ⟨_, rfl⟩
        have hR : RM cs h848 o ad S850 := by rw [e849, t851]; exact hR
        refine lv_aload_n F.1 F.2.1 d_M_operation_177 rfl (lv_at hl 2 rfl) ?_
        have f852 : h848 o = some (.inr (7, [.int (S850 16 0), .int (S850 16 1), .ref (ad 0), .ref (ad 1), .ref (ad 2), .ref (ad 3), .ref (ad 4), .int (S850 16 2), .int (S850 16 3), .int (S850 16 4), .int (S850 16 5), .ref (ad 5), .ref (ad 6), .ref (ad 7), .ref (ad 8), .ref (ad 9), .ref (ad 10), .ref (ad 11), .ref (ad 12), .ref (ad 13), .ref (ad 14), .ref (ad 15)])) := hR.1
        refine pw_get F I_M hK.1 hP f852 rfl 0 (by decide) L_M_63 (fun _ z => z) rfl d_M_operation_178 ?_
        refine W.eq (g2 := F0 m 181 ls [.int 1]) (by rw [show S850 16 0 = 1 from by rw [t851]; exact sp_s]) ?_
        refine lv_if_le (tgt := 186) F.1 F.2.1 d_M_operation_181 (by decide) (fun c853 => absurd c853 (by decide)) (fun c853 => ?_)
        refine lv_iconst (v := 0) F.1 F.2.1 d_M_operation_184 (by decide) ?_
        exact pw_iret F hr hlk hP hA hK hS (by decide) (by decide) d_M_operation_185 (by have hth : thOperation S (nI f) dr kd n = 1 := (by unfold thOperation; rw [if_pos (show ¬ gdOperation S (nI f) dr kd n from fun z9 => b456 z9.2.1)]); unfold stOperation rOperation; rw [hth, if_neg (by decide), if_neg (by decide)]; rw [t851] at hR; exact ⟨hR, rfl⟩)
  · skip
    refine lv_iload_n F.1 F.2.1 d_M_operation_0 rfl (lv_at hl 2 rfl) ?_
    refine lv_if_eq (tgt := 9) F.1 F.2.1 d_M_operation_1 (by decide) (fun c854 => ?_) (fun c854 => ?_)
    · skip
      refine lv_iconst (v := 0) F.1 F.2.1 d_M_operation_9 (by decide) ?_
      refine lv_iload_n F.1 F.2.1 d_M_operation_10 rfl (lv_at hl 1 rfl) ?_
      refine lv_iadd F.1 F.2.1 d_M_operation_11 ?_
      refine lv_istore F.1 F.2.1 d_M_operation_12 hl (by decide) rfl (fun ls hl => ?_)
      replace hl : lv_has ls 7 [(5, .int (0 + fn)), (0, .ref o), (1, .int fn), (2, .int dr), (3, .int kd), (4, .int n)] := hl
      refine lv_iload_n F.1 F.2.1 d_M_operation_14 rfl (lv_at hl 2 rfl) ?_
      refine lv_iconst (v := 0) F.1 F.2.1 d_M_operation_15 (by decide) ?_
      refine lv_bipush (v := 7) F.1 F.2.1 d_M_operation_16 (by decide) ?_
      refine pw_ciE (pr_S F (c_M_inn l D cs A h fn 0 7) X_M_72 rfl rfl ⟨by decide, by decide⟩ hP hA hK hS rfl hl.1 rfl (Nat.le_of_ble_eq_true rfl) d_M_operation_18 ⟨by decide, by decide⟩) hS (fun H locs hP hS => ?_)
      refine W.eq (g2 := F0 m 21 ls [.int 0]) (by rw [if_neg hin]) ?_
      refine lv_if_eq (tgt := 37) F.1 F.2.1 d_M_operation_21 (by decide) (fun c855 => ?_) (fun c855 => absurd (by decide) c855)
      refine lv_iconst (v := 0) F.1 F.2.1 d_M_operation_37 (by decide) ?_
      refine lv_istore F.1 F.2.1 d_M_operation_38 hl (by decide) rfl (fun ls hl => ?_)
      replace hl : lv_has ls 7 [(6, .int 0), (5, .int (0 + fn)), (0, .ref o), (1, .int fn), (2, .int dr), (3, .int kd), (4, .int n)] := hl
      refine lv_iload F.1 F.2.1 d_M_operation_40 (lv_at hl 0 rfl) ?_
      refine lv_if_eq (tgt := 59) F.1 F.2.1 d_M_operation_42 (by decide) (fun c856 => ?_) (fun c856 => absurd (by decide) c856)
      refine lv_iconst (v := 0) F.1 F.2.1 d_M_operation_59 (by decide) ?_
      refine lv_istore F.1 F.2.1 d_M_operation_60 hl (by decide) rfl (fun ls hl => ?_)
      replace hl : lv_has ls 7 [(6, .int 0), (5, .int (0 + fn)), (0, .ref o), (1, .int fn), (2, .int dr), (3, .int kd), (4, .int n)] := hl
      refine lv_iload F.1 F.2.1 d_M_operation_62 (lv_at hl 0 rfl) ?_
      refine lv_if_eq (tgt := 82) F.1 F.2.1 d_M_operation_64 (by decide) (fun c857 => ?_) (fun c857 => absurd (by decide) c857)
      refine lv_iload F.1 F.2.1 d_M_operation_82 (lv_at hl 0 rfl) ?_
      refine lv_if_eq (tgt := 111) F.1 F.2.1 d_M_operation_84 (by decide) (fun c858 => ?_) (fun c858 => absurd (by decide) c858)
      refine lv_iload F.1 F.2.1 d_M_operation_111 (lv_at hl 0 rfl) ?_
      refine lv_if_eq (tgt := 136) F.1 F.2.1 d_M_operation_113 (by decide) (fun c859 => ?_) (fun c859 => absurd (by decide) c859)
      refine lv_aload_n F.1 F.2.1 d_M_operation_136 rfl (lv_at hl 2 rfl) ?_
      refine lv_iload F.1 F.2.1 d_M_operation_137 (lv_at hl 0 rfl) ?_
      refine lv_if_ne (tgt := 146) F.1 F.2.1 d_M_operation_139 (by decide) (fun c860 => absurd (by decide) c860) (fun c860 => ?_)
      refine lv_iconst (v := 1) F.1 F.2.1 d_M_operation_142 (by decide) ?_
      refine lv_goto (tgt := 174) F.1 F.2.1 d_M_operation_143 (by decide) ?_
      have f861 : h o = some (.inr (7, [.int (S 16 0), .int (S 16 1), .ref (ad 0), .ref (ad 1), .ref (ad 2), .ref (ad 3), .ref (ad 4), .int (S 16 2), .int (S 16 3), .int (S 16 4), .int (S 16 5), .ref (ad 5), .ref (ad 6), .ref (ad 7), .ref (ad 8), .ref (ad 9), .ref (ad 10), .ref (ad 11), .ref (ad 12), .ref (ad 13), .ref (ad 14), .ref (ad 15)])) := hR.1
      refine pw_put F I_M ty_M k_M n_M hK.1 hP hS f861 rfl 0 (by decide) L_M_63 (fun _ z => z) rfl rfl rfl (Nat.le_of_ble_eq_true rfl) d_M_operation_174 (fun H locs hP hS => ?_)
      have hP : pw D vwCl A (pu h o (.inr (7, (mfs ad S).set (mpos 0) (.int 1)))) H := hP
      have hR := hR.num (show 0 < 6 by decide) 1
      obtain ⟨h862, e863⟩ : ∃ z9 : pw_H, z9 = pu h o (.inr (7, (mfs ad S).set (mpos 0) (.int 1))) := ⟨_, rfl⟩
      rw [← e863] at hP
      obtain ⟨S864, t865⟩ : ∃ z9 : St, z9 = sp S 16 0 1 := ⟨_, rfl⟩
      have hR : RM cs h862 o ad S864 := by rw [e863, t865]; exact hR
      refine lv_aload_n F.1 F.2.1 d_M_operation_177 rfl (lv_at hl 2 rfl) ?_
      have f866 : h862 o = some (.inr (7, [.int (S864 16 0), .int (S864 16 1), .ref (ad 0), .ref (ad 1), .ref (ad 2), .ref (ad 3), .ref (ad 4), .int (S864 16 2), .int (S864 16 3), .int (S864 16 4), .int (S864 16 5), .ref (ad 5), .ref (ad 6), .ref (ad 7), .ref (ad 8), .ref (ad 9), .ref (ad 10), .ref (ad 11), .ref (ad 12), .ref (ad 13), .ref (ad 14), .ref (ad 15)])) := hR.1
      refine pw_get F I_M hK.1 hP f866 rfl 0 (by decide) L_M_63 (fun _ z => z) rfl d_M_operation_178 ?_
      refine W.eq (g2 := F0 m 181 ls [.int 1]) (by rw [show S864 16 0 = 1 from by rw [t865]; exact sp_s]) ?_
      refine lv_if_le (tgt := 186) F.1 F.2.1 d_M_operation_181 (by decide) (fun c867 => absurd c867 (by decide)) (fun c867 => ?_)
      refine lv_iconst (v := 0) F.1 F.2.1 d_M_operation_184 (by decide) ?_
      exact pw_iret F hr hlk hP hA hK hS (by decide) (by decide) d_M_operation_185 (by have hth : thOperation S fn dr kd n = 1 := (by unfold thOperation; rw [if_pos (show ¬ gdOperation S fn dr kd n from fun z9 => hin z9.1)]); unfold stOperation rOperation; rw [hth, if_neg (by decide), if_neg (by decide)]; rw [t865] at hR; exact ⟨hR, rfl⟩)
    · skip
      refine lv_bipush (v := 48) F.1 F.2.1 d_M_operation_4 (by decide) ?_
      refine lv_goto (tgt := 10) F.1 F.2.1 d_M_operation_6 (by decide) ?_
      refine lv_iload_n F.1 F.2.1 d_M_operation_10 rfl (lv_at hl 1 rfl) ?_
      refine lv_iadd F.1 F.2.1 d_M_operation_11 ?_
      refine lv_istore F.1 F.2.1 d_M_operation_12 hl (by decide) rfl (fun ls hl => ?_)
      replace hl : lv_has ls 7 [(5, .int (48 + fn)), (0, .ref o), (1, .int fn), (2, .int dr), (3, .int kd), (4, .int n)] := hl
      refine lv_iload_n F.1 F.2.1 d_M_operation_14 rfl (lv_at hl 2 rfl) ?_
      refine lv_iconst (v := 0) F.1 F.2.1 d_M_operation_15 (by decide) ?_
      refine lv_bipush (v := 7) F.1 F.2.1 d_M_operation_16 (by decide) ?_
      refine pw_ciE (pr_S F (c_M_inn l D cs A h fn 0 7) X_M_72 rfl rfl ⟨by decide, by decide⟩ hP hA hK hS rfl hl.1 rfl (Nat.le_of_ble_eq_true rfl) d_M_operation_18 ⟨by decide, by decide⟩) hS (fun H locs hP hS => ?_)
      refine W.eq (g2 := F0 m 21 ls [.int 0]) (by rw [if_neg hin]) ?_
      refine lv_if_eq (tgt := 37) F.1 F.2.1 d_M_operation_21 (by decide) (fun c868 => ?_) (fun c868 => absurd (by decide) c868)
      refine lv_iconst (v := 0) F.1 F.2.1 d_M_operation_37 (by decide) ?_
      refine lv_istore F.1 F.2.1 d_M_operation_38 hl (by decide) rfl (fun ls hl => ?_)
      replace hl : lv_has ls 7 [(6, .int 0), (5, .int (48 + fn)), (0, .ref o), (1, .int fn), (2, .int dr), (3, .int kd), (4, .int n)] := hl
      refine lv_iload F.1 F.2.1 d_M_operation_40 (lv_at hl 0 rfl) ?_
      refine lv_if_eq (tgt := 59) F.1 F.2.1 d_M_operation_42 (by decide) (fun c869 => ?_) (fun c869 => absurd (by decide) c869)
      refine lv_iconst (v := 0) F.1 F.2.1 d_M_operation_59 (by decide) ?_
      refine lv_istore F.1 F.2.1 d_M_operation_60 hl (by decide) rfl (fun ls hl => ?_)
      replace hl : lv_has ls 7 [(6, .int 0), (5, .int (48 + fn)), (0, .ref o), (1, .int fn), (2, .int dr), (3, .int kd), (4, .int n)] := hl
      refine lv_iload F.1 F.2.1 d_M_operation_62 (lv_at hl 0 rfl) ?_
      refine lv_if_eq (tgt := 82) F.1 F.2.1 d_M_operation_64 (by decide) (fun c870 => ?_) (fun c870 => absurd (by decide) c870)
      refine lv_iload F.1 F.2.1 d_M_operation_82 (lv_at hl 0 rfl) ?_
      refine lv_if_eq (tgt := 111) F.1 F.2.1 d_M_operation_84 (by decide) (fun c871 => ?_) (fun c871 => absurd (by decide) c871)
      refine lv_iload F.1 F.2.1 d_M_operation_111 (lv_at hl 0 rfl) ?_
      refine lv_if_eq (tgt := 136) F.1 F.2.1 d_M_operation_113 (by decide) (fun c872 => ?_) (fun c872 => absurd (by decide) c872)
      refine lv_aload_n F.1 F.2.1 d_M_operation_136 rfl (lv_at hl 2 rfl) ?_
      refine lv_iload F.1 F.2.1 d_M_operation_137 (lv_at hl 0 rfl) ?_
      refine lv_if_ne (tgt := 146) F.1 F.2.1 d_M_operation_139 (by decide) (fun c873 => absurd (by decide) c873) (fun c873 => ?_)
      refine lv_iconst (v := 1) F.1 F.2.1 d_M_operation_142 (by decide) ?_
      refine lv_goto (tgt := 174) F.1 F.2.1 d_M_operation_143 (by decide) ?_
      have f874 : h o = some (.inr (7, [.int (S 16 0), .int (S 16 1), .ref (ad 0), .ref (ad 1), .ref (ad 2), .ref (ad 3), .ref (ad 4), .int (S 16 2), .int (S 16 3), .int (S 16 4), .int (S 16 5), .ref (ad 5), .ref (ad 6), .ref (ad 7), .ref (ad 8), .ref (ad 9), .ref (ad 10), .ref (ad 11), .ref (ad 12), .ref (ad 13), .ref (ad 14), .ref (ad 15)])) := hR.1
      refine pw_put F I_M ty_M k_M n_M hK.1 hP hS f874 rfl 0 (by decide) L_M_63 (fun _ z => z) rfl rfl rfl (Nat.le_of_ble_eq_true rfl) d_M_operation_174 (fun H locs hP hS => ?_)
      have hP : pw D vwCl A (pu h o (.inr (7, (mfs ad S).set (mpos 0) (.int 1)))) H := hP
      have hR := hR.num (show 0 < 6 by decide) 1
      obtain ⟨h875, e876⟩ : ∃ z9 : pw_H, z9 = pu h o (.inr (7, (mfs ad S).set (mpos 0) (.int 1))) := ⟨_, rfl⟩
      rw [← e876] at hP
      obtain ⟨S877, t878⟩ : ∃ z9 : St, z9 = sp S 16 0 1 := ⟨_, rfl⟩
      have hR : RM cs h875 o ad S877 := by rw [e876, t878]; exact hR
      refine lv_aload_n F.1 F.2.1 d_M_operation_177 rfl (lv_at hl 2 rfl) ?_
      have f879 : h875 o = some (.inr (7, [.int (S877 16 0), .int (S877 16 1), .ref (ad 0), .ref (ad 1), .ref (ad 2), .ref (ad 3), .ref (ad 4), .int (S877 16 2), .int (S877 16 3), .int (S877 16 4), .int (S877 16 5), .ref (ad 5), .ref (ad 6), .ref (ad 7), .ref (ad 8), .ref (ad 9), .ref (ad 10), .ref (ad 11), .ref (ad 12), .ref (ad 13), .ref (ad 14), .ref (ad 15)])) := hR.1
      refine pw_get F I_M hK.1 hP f879 rfl 0 (by decide) L_M_63 (fun _ z => z) rfl d_M_operation_178 ?_
      refine W.eq (g2 := F0 m 181 ls [.int 1]) (by rw [show S877 16 0 = 1 from by rw [t878]; exact sp_s]) ?_
      refine lv_if_le (tgt := 186) F.1 F.2.1 d_M_operation_181 (by decide) (fun c880 => absurd c880 (by decide)) (fun c880 => ?_)
      refine lv_iconst (v := 0) F.1 F.2.1 d_M_operation_184 (by decide) ?_
      exact pw_iret F hr hlk hP hA hK hS (by decide) (by decide) d_M_operation_185 (by have hth : thOperation S fn dr kd n = 1 := (by unfold thOperation; rw [if_pos (show ¬ gdOperation S fn dr kd n from fun z9 => hin z9.1)]); unfold stOperation rOperation; rw [hth, if_neg (by decide), if_neg (by decide)]; rw [t878] at hR; exact ⟨hR, rfl⟩)
abbrev rm_M_task : Room := { frames := 2, cells := 0, slots := 0, locals := 47 }
set_option maxHeartbeats 4000000 in
set_option maxRecDepth 100000 in
theorem c_M_task (l : Launch) (D : va_G) (cs : Nat → Nat) (A : Nat → Prop) (h : pw_H) (o : Nat) (ad : Nat → Nat) (S : St) (hR : RM cs h o ad S) (nf : Nat) (hnf8 : nf ≤ 8) (hnf : S 16 1 = nI nf) (nt : Nat) (hnt : nt ≤ 4) (hT : S 16 5 = nI nt) (L : Nat) (hL5 : L ≤ 5) (hLv : (if S 16 4 < 0 then S 16 3 else S 16 4) = nI L) (hd0 : nt < 4 → S 11 nt = nI 0) (fn : Int32) : pm l y_M_task b_M_task 2 (some .int) rm_M_task [.ref o, .int fn] D cs A h (va_Qi (fun (r : Int32) (h' : pw_H) => RM cs h' o ad (stTask S fn) ∧ r = rTask S fn) (ww D cs A) A) 0 0 := by
  refine pm_of R_M rfl (by decide) (Nat.le_of_ble_eq_true rfl) (fun p e s m below meth c ls F hr hlk hnm hP hA hK hl => ?_)
  have hS : va_S A s.heap s.heap [] := va_S.rf
  replace hl : lv_has ls 2 [(0, .ref o), (1, .int fn)] := hl
  refine lv_aload_n F.1 F.2.1 d_M_task_0 rfl (lv_at hl 0 rfl) ?_
  refine lv_iload_n F.1 F.2.1 d_M_task_1 rfl (lv_at hl 1 rfl) ?_
  refine lv_iconst (v := 0) F.1 F.2.1 d_M_task_2 (by decide) ?_
  refine lv_aload_n F.1 F.2.1 d_M_task_3 rfl (lv_at hl 0 rfl) ?_
  have f1 : h o = some (.inr (7, [.int (S 16 0), .int (S 16 1), .ref (ad 0), .ref (ad 1), .ref (ad 2), .ref (ad 3), .ref (ad 4), .int (S 16 2), .int (S 16 3), .int (S 16 4), .int (S 16 5), .ref (ad 5), .ref (ad 6), .ref (ad 7), .ref (ad 8), .ref (ad 9), .ref (ad 10), .ref (ad 11), .ref (ad 12), .ref (ad 13), .ref (ad 14), .ref (ad 15)])) := hR.1
  refine pw_get F I_M hK.1 hP f1 rfl 1 (by decide) L_M_76 (fun _ z => z) rfl d_M_task_4 ?_
  refine W.eq (g2 := F0 m 7 ls [.int (nI nf), .int 0, .int fn, .ref o]) (by rw [hnf]) ?_
  refine lv_iconst (v := 1) F.1 F.2.1 d_M_task_7 (by decide) ?_
  refine lv_isub F.1 F.2.1 d_M_task_8 ?_
  refine pw_ciE (pr_S F (c_M_inn l D cs A h fn 0 ((nI nf) - 1)) X_M_72 rfl rfl ⟨by decide, by decide⟩ hP hA hK hS rfl hl.1 rfl (Nat.le_of_ble_eq_true rfl) d_M_task_9 ⟨by decide, by decide⟩) hS (fun H locs hP hS => ?_)
  by_cases b2 : 0 ≤ fn ∧ fn ≤ ((nI nf) - 1)
  · skip
    refine W.eq (g2 := F0 m 12 ls [.int 1, .ref o]) (by rw [if_pos b2]) ?_
    refine lv_if_ne (tgt := 19) F.1 F.2.1 d_M_task_12 (by decide) (fun c3 => ?_) (fun c3 => absurd c3 (by decide))
    refine lv_aload_n F.1 F.2.1 d_M_task_19 rfl (lv_at hl 0 rfl) ?_
    refine pw_get F I_M hK.1 hP f1 rfl 10 (by decide) L_M_66 (fun _ z => z) rfl d_M_task_20 ?_
    refine W.eq (g2 := F0 m 23 ls [.int (nI nt), .ref o]) (by rw [hT]) ?_
    refine lv_iconst (v := 4) F.1 F.2.1 d_M_task_23 (by decide) ?_
    refine lv_icmp_ne (tgt := 31) F.1 F.2.1 d_M_task_24 (by decide) (fun c4 => ?_) (fun c4 => ?_)
    · skip
      refine lv_iconst (v := 0) F.1 F.2.1 d_M_task_31 (by decide) ?_
      refine pw_put F I_M ty_M k_M n_M hK.1 hP hS f1 rfl 0 (by decide) L_M_63 (fun _ z => z) rfl rfl rfl (Nat.le_of_ble_eq_true rfl) d_M_task_32 (fun H locs hP hS => ?_)
      have hP : pw D vwCl A (pu h o (.inr (7, (mfs ad S).set (mpos 0) (.int 0)))) H := hP
      have hR := hR.num (show 0 < 6 by decide) 0
      obtain ⟨h5, e6⟩ : ∃ z9 : pw_H, z9 = pu h o (.inr (7, (mfs ad S).set (mpos 0) (.int 0))) := ⟨_, rfl⟩
      rw [← e6] at hP
      obtain ⟨S7, t8⟩ : ∃ z9 : St, z9 = sp S 16 0 0 := ⟨_, rfl⟩
      have hR : RM cs h5 o ad S7 := by rw [e6, t8]; exact hR
      refine lv_aload_n F.1 F.2.1 d_M_task_35 rfl (lv_at hl 0 rfl) ?_
      have f9 : h5 o = some (.inr (7, [.int (S7 16 0), .int (S7 16 1), .ref (ad 0), .ref (ad 1), .ref (ad 2), .ref (ad 3), .ref (ad 4), .int (S7 16 2), .int (S7 16 3), .int (S7 16 4), .int (S7 16 5), .ref (ad 5), .ref (ad 6), .ref (ad 7), .ref (ad 8), .ref (ad 9), .ref (ad 10), .ref (ad 11), .ref (ad 12), .ref (ad 13), .ref (ad 14), .ref (ad 15)])) := hR.1
      refine pw_get F I_M hK.1 hP f9 rfl 0 (by decide) L_M_63 (fun _ z => z) rfl d_M_task_36 ?_
      refine W.eq (g2 := F0 m 39 ls [.int 0]) (by rw [show S7 16 0 = 0 from by rw [t8]; exact sp_s]) ?_
      refine lv_if_le (tgt := 44) F.1 F.2.1 d_M_task_39 (by decide) (fun c10 => ?_) (fun c10 => absurd (by decide) c10)
      obtain ⟨f, hltf, rfl⟩ := mIn_nat (by omega) b2.1 b2.2
      have hlt : nt < 4 := by
        rcases Nat.lt_or_ge nt 4 with h9 | h9
        · exact h9
        · exact absurd (show nI nt = 4 by rw [show nt = 4 by omega]; rfl) c4
      refine lv_aload_n F.1 F.2.1 d_M_task_44 rfl (lv_at hl 0 rfl) ?_
      refine pw_get F I_M hK.1 hP f9 rfl 11 (by decide) L_M_30 (fun _ z => z) rfl d_M_task_45 ?_
      refine lv_aload_n F.1 F.2.1 d_M_task_48 rfl (lv_at hl 0 rfl) ?_
      refine pw_get F I_M hK.1 hP f9 rfl 10 (by decide) L_M_66 (fun _ z => z) rfl d_M_task_49 ?_
      refine W.eq (g2 := F0 m 52 ls [.int (nI nt), .ref (ad 5)]) (by rw [show S7 16 5 = S 16 5 from by rw [t8]; exact sp_j (by decide), hT]) ?_
      refine lv_iload_n F.1 F.2.1 d_M_task_52 rfl (lv_at hl 1 rfl) ?_
      have f11 : h5 (ad 5) = some (.inl (cs 0, 4, .inl (S7 5))) := hR.2.1 5 (by decide)
      refine pw_iastN F hK.1 hP hS 0 f11 rfl (k := nt) (by omega) (by decide) d_M_task_53 (fun H locs hP hS => ?_)
      have hP : pw D vwCl A (pu h5 (ad 5) (.inl (cs 0, 4, .inl (upd (S7 5) nt (nI f))))) H := hP
      have hR := hR.arr (show 5 < 16 by decide) nt (nI f)
      obtain ⟨h12, e13⟩ : ∃ z9 : pw_H, z9 = pu h5 (ad 5) (.inl (cs 0, 4, .inl (upd (S7 5) nt (nI f)))) := ⟨_, rfl⟩
      rw [← e13] at hP
      obtain ⟨S14, t15⟩ : ∃ z9 : St, z9 = sp S7 5 nt (nI f) := ⟨_, rfl⟩
      have hR : RM cs h12 o ad S14 := by rw [e13, t15]; exact hR
      refine lv_aload_n F.1 F.2.1 d_M_task_54 rfl (lv_at hl 0 rfl) ?_
      have f16 : h12 o = some (.inr (7, [.int (S14 16 0), .int (S14 16 1), .ref (ad 0), .ref (ad 1), .ref (ad 2), .ref (ad 3), .ref (ad 4), .int (S14 16 2), .int (S14 16 3), .int (S14 16 4), .int (S14 16 5), .ref (ad 5), .ref (ad 6), .ref (ad 7), .ref (ad 8), .ref (ad 9), .ref (ad 10), .ref (ad 11), .ref (ad 12), .ref (ad 13), .ref (ad 14), .ref (ad 15)])) := hR.1
      refine pw_get F I_M hK.1 hP f16 rfl 12 (by decide) L_M_33 (fun _ z => z) rfl d_M_task_55 ?_
      refine lv_aload_n F.1 F.2.1 d_M_task_58 rfl (lv_at hl 0 rfl) ?_
      refine pw_get F I_M hK.1 hP f16 rfl 10 (by decide) L_M_66 (fun _ z => z) rfl d_M_task_59 ?_
      refine W.eq (g2 := F0 m 62 ls [.int (nI nt), .ref (ad 6)]) (by rw [show S14 16 5 = S7 16 5 from by rw [t15]; exact sp_k (by decide), show S7 16 5 = S 16 5 from by rw [t8]; exact sp_j (by decide), hT]) ?_
      refine lv_aload_n F.1 F.2.1 d_M_task_62 rfl (lv_at hl 0 rfl) ?_
      refine pw_get F I_M hK.1 hP f16 rfl 9 (by decide) L_M_26 (fun _ z => z) rfl d_M_task_63 ?_
      refine W.eq (g2 := F0 m 66 ls [.int (S 16 4), .int (nI nt), .ref (ad 6)]) (by rw [show S14 16 4 = S7 16 4 from by rw [t15]; exact sp_k (by decide), show S7 16 4 = S 16 4 from by rw [t8]; exact sp_j (by decide)]) ?_
      refine lv_if_ge (tgt := 76) F.1 F.2.1 d_M_task_66 (by decide) (fun c17 => ?_) (fun c17 => ?_)
      · skip
        refine lv_aload_n F.1 F.2.1 d_M_task_76 rfl (lv_at hl 0 rfl) ?_
        refine pw_get F I_M hK.1 hP f16 rfl 9 (by decide) L_M_26 (fun _ z => z) rfl d_M_task_77 ?_
        refine W.eq (g2 := F0 m 80 ls [.int (S 16 4), .int (nI nt), .ref (ad 6)]) (by rw [show S14 16 4 = S7 16 4 from by rw [t15]; exact sp_k (by decide), show S7 16 4 = S 16 4 from by rw [t8]; exact sp_j (by decide)]) ?_
        refine W.eq (g2 := F0 m 80 ls [.int (nI L), .int (nI nt), .ref (ad 6)]) (by rw [show S 16 4 = nI L from by have h9 := hLv; rw [if_neg (Int32.not_lt.mpr c17)] at h9; exact h9]) ?_
        have f18 : h12 (ad 6) = some (.inl (cs 0, 4, .inl (S14 6))) := hR.2.1 6 (by decide)
        refine pw_iastN F hK.1 hP hS 0 f18 rfl (k := nt) (by omega) (by decide) d_M_task_80 (fun H locs hP hS => ?_)
        have hP : pw D vwCl A (pu h12 (ad 6) (.inl (cs 0, 4, .inl (upd (S14 6) nt (nI L))))) H := hP
        have hR := hR.arr (show 6 < 16 by decide) nt (nI L)
        obtain ⟨h19, e20⟩ : ∃ z9 : pw_H, z9 = pu h12 (ad 6) (.inl (cs 0, 4, .inl (upd (S14 6) nt (nI L)))) := ⟨_, rfl⟩
        rw [← e20] at hP
        obtain ⟨S21, t22⟩ : ∃ z9 : St, z9 = sp S14 6 nt (nI L) := ⟨_, rfl⟩
        have hR : RM cs h19 o ad S21 := by rw [e20, t22]; exact hR
        refine lv_aload_n F.1 F.2.1 d_M_task_81 rfl (lv_at hl 0 rfl) ?_
        refine lv_dup F.1 F.2.1 d_M_task_82 rfl ?_
        have f23 : h19 o = some (.inr (7, [.int (S21 16 0), .int (S21 16 1), .ref (ad 0), .ref (ad 1), .ref (ad 2), .ref (ad 3), .ref (ad 4), .int (S21 16 2), .int (S21 16 3), .int (S21 16 4), .int (S21 16 5), .ref (ad 5), .ref (ad 6), .ref (ad 7), .ref (ad 8), .ref (ad 9), .ref (ad 10), .ref (ad 11), .ref (ad 12), .ref (ad 13), .ref (ad 14), .ref (ad 15)])) := hR.1
        refine pw_get F I_M hK.1 hP f23 rfl 10 (by decide) L_M_66 (fun _ z => z) rfl d_M_task_83 ?_
        refine W.eq (g2 := F0 m 86 ls [.int (nI nt), .ref o]) (by rw [show S21 16 5 = S14 16 5 from by rw [t22]; exact sp_k (by decide), show S14 16 5 = S7 16 5 from by rw [t15]; exact sp_k (by decide), show S7 16 5 = S 16 5 from by rw [t8]; exact sp_j (by decide), hT]) ?_
        refine lv_iconst (v := 1) F.1 F.2.1 d_M_task_86 (by decide) ?_
        refine lv_iadd F.1 F.2.1 d_M_task_87 ?_
        refine W.eq (g2 := F0 m 88 ls [.int (nI (nt + 1)), .ref o]) (by rw [show (1 : Int32) = nI 1 from rfl, nI_add]) ?_
        refine pw_put F I_M ty_M k_M n_M hK.1 hP hS f23 rfl 10 (by decide) L_M_66 (fun _ z => z) rfl rfl rfl (Nat.le_of_ble_eq_true rfl) d_M_task_88 (fun H locs hP hS => ?_)
        have hP : pw D vwCl A (pu h19 o (.inr (7, (mfs ad S21).set (mpos 5) (.int (nI (nt + 1)))))) H := hP
        have hR := hR.num (show 5 < 6 by decide) (nI (nt + 1))
        obtain ⟨h24, e25⟩ : ∃ z9 : pw_H, z9 = pu h19 o (.inr (7, (mfs ad S21).set (mpos 5) (.int (nI (nt + 1))))) := ⟨_, rfl⟩
        rw [← e25] at hP
        obtain ⟨S26, t27⟩ : ∃ z9 : St, z9 = sp S21 16 5 (nI (nt + 1)) := ⟨_, rfl⟩
        have hR : RM cs h24 o ad S26 := by rw [e25, t27]; exact hR
        refine lv_aload_n F.1 F.2.1 d_M_task_91 rfl (lv_at hl 0 rfl) ?_
        refine lv_aload_n F.1 F.2.1 d_M_task_92 rfl (lv_at hl 0 rfl) ?_
        have f28 : h24 o = some (.inr (7, [.int (S26 16 0), .int (S26 16 1), .ref (ad 0), .ref (ad 1), .ref (ad 2), .ref (ad 3), .ref (ad 4), .int (S26 16 2), .int (S26 16 3), .int (S26 16 4), .int (S26 16 5), .ref (ad 5), .ref (ad 6), .ref (ad 7), .ref (ad 8), .ref (ad 9), .ref (ad 10), .ref (ad 11), .ref (ad 12), .ref (ad 13), .ref (ad 14), .ref (ad 15)])) := hR.1
        refine pw_get F I_M hK.1 hP f28 rfl 10 (by decide) L_M_66 (fun _ z => z) rfl d_M_task_93 ?_
        refine W.eq (g2 := F0 m 96 ls [.int (nI (nt + 1)), .ref o]) (by rw [show S26 16 5 = nI (nt + 1) from by rw [t27]; exact sp_s]) ?_
        refine lv_iconst (v := 1) F.1 F.2.1 d_M_task_96 (by decide) ?_
        refine lv_isub F.1 F.2.1 d_M_task_97 ?_
        refine W.eq (g2 := F0 m 98 ls [.int (nI (nt)), .ref o]) (by rw [show (1 : Int32) = nI 1 from rfl, show nI (nt + 1) - nI 1 = nI nt from nI_pred nt]) ?_
        refine lv_iload_n F.1 F.2.1 d_M_task_98 rfl (lv_at hl 1 rfl) ?_
        refine pw_cv (pr_V F (c_M_enter l D cs A h24 o ad S26 hR nt f 0 L hlt (by omega) (by decide) hL5 (by rw [t27, sp_k (by decide), t22, sp_k (by decide), t15, sp_k (by decide), t8, sp_k (by decide)]; exact (hd0 hlt)) (by rw [t27, sp_k (by decide), t22, sp_s])) X_M_97 rfl rfl ⟨by decide, by decide⟩ hP hA hK hS f28 rfl rfl rfl hl.1 rfl (Nat.le_of_ble_eq_true rfl) d_M_task_99 ⟨by decide, by decide⟩) hS (fun h29 H locs hq hP hS => ?_)
        obtain ⟨S30, t31⟩ : ∃ z9 : St, z9 = mEnter S26 nt f := ⟨_, rfl⟩
        have hR : RM cs h29 o ad S30 := by rw [t31]; exact hq
        refine lv_aload_n F.1 F.2.1 d_M_task_102 rfl (lv_at hl 0 rfl) ?_
        have f32 : h29 o = some (.inr (7, [.int (S30 16 0), .int (S30 16 1), .ref (ad 0), .ref (ad 1), .ref (ad 2), .ref (ad 3), .ref (ad 4), .int (S30 16 2), .int (S30 16 3), .int (S30 16 4), .int (S30 16 5), .ref (ad 5), .ref (ad 6), .ref (ad 7), .ref (ad 8), .ref (ad 9), .ref (ad 10), .ref (ad 11), .ref (ad 12), .ref (ad 13), .ref (ad 14), .ref (ad 15)])) := hR.1
        refine pw_get F I_M hK.1 hP f32 rfl 10 (by decide) L_M_66 (fun _ z => z) rfl d_M_task_103 ?_
        refine W.eq (g2 := F0 m 106 ls [.int (nI (nt + 1))]) (by rw [show S30 16 5 = S26 16 5 from by rw [t31]; exact mEnter_o, show S26 16 5 = nI (nt + 1) from by rw [t27]; exact sp_s]) ?_
        refine lv_iconst (v := 1) F.1 F.2.1 d_M_task_106 (by decide) ?_
        refine lv_isub F.1 F.2.1 d_M_task_107 ?_
        exact pw_iret F hr hlk hP hA hK hS (by decide) (by decide) d_M_task_108 (by have hth : thTask S (nI f) = 0 := (by unfold thTask; rw [if_neg (fun z9 => z9 (hnf ▸ b2)), if_neg (fun z9 => c4 (hT.symm.trans z9))]); unfold stTask rTask; rw [if_pos hth, if_pos hth, hT, hLv, tn_nI (by omega), tn_nI (by omega), nI_1]; rw [t31, t27, t22, t15, t8] at hR; exact ⟨hR, nI_pred _⟩)
      · skip
        refine lv_aload_n F.1 F.2.1 d_M_task_69 rfl (lv_at hl 0 rfl) ?_
        refine pw_get F I_M hK.1 hP f16 rfl 8 (by decide) L_M_69 (fun _ z => z) rfl d_M_task_70 ?_
        refine W.eq (g2 := F0 m 73 ls [.int (S 16 3), .int (nI nt), .ref (ad 6)]) (by rw [show S14 16 3 = S7 16 3 from by rw [t15]; exact sp_k (by decide), show S7 16 3 = S 16 3 from by rw [t8]; exact sp_j (by decide)]) ?_
        refine lv_goto (tgt := 80) F.1 F.2.1 d_M_task_73 (by decide) ?_
        refine W.eq (g2 := F0 m 80 ls [.int (nI L), .int (nI nt), .ref (ad 6)]) (by rw [show S 16 3 = nI L from by have h9 := hLv; rw [if_pos (Int32.not_le.mp c17)] at h9; exact h9]) ?_
        have f33 : h12 (ad 6) = some (.inl (cs 0, 4, .inl (S14 6))) := hR.2.1 6 (by decide)
        refine pw_iastN F hK.1 hP hS 0 f33 rfl (k := nt) (by omega) (by decide) d_M_task_80 (fun H locs hP hS => ?_)
        have hP : pw D vwCl A (pu h12 (ad 6) (.inl (cs 0, 4, .inl (upd (S14 6) nt (nI L))))) H := hP
        have hR := hR.arr (show 6 < 16 by decide) nt (nI L)
        obtain ⟨h34, e35⟩ : ∃ z9 : pw_H, z9 = pu h12 (ad 6) (.inl (cs 0, 4, .inl (upd (S14 6) nt (nI L)))) := ⟨_, rfl⟩
        rw [← e35] at hP
        obtain ⟨S36, t37⟩ : ∃ z9 : St, z9 = sp S14 6 nt (nI L) := ⟨_, rfl⟩
        have hR : RM cs h34 o ad S36 := by rw [e35, t37]; exact hR
        refine lv_aload_n F.1 F.2.1 d_M_task_81 rfl (lv_at hl 0 rfl) ?_
        refine lv_dup F.1 F.2.1 d_M_task_82 rfl ?_
        have f38 : h34 o = some (.inr (7, [.int (S36 16 0), .int (S36 16 1), .ref (ad 0), .ref (ad 1), .ref (ad 2), .ref (ad 3), .ref (ad 4), .int (S36 16 2), .int (S36 16 3), .int (S36 16 4), .int (S36 16 5), .ref (ad 5), .ref (ad 6), .ref (ad 7), .ref (ad 8), .ref (ad 9), .ref (ad 10), .ref (ad 11), .ref (ad 12), .ref (ad 13), .ref (ad 14), .ref (ad 15)])) := hR.1
        refine pw_get F I_M hK.1 hP f38 rfl 10 (by decide) L_M_66 (fun _ z => z) rfl d_M_task_83 ?_
        refine W.eq (g2 := F0 m 86 ls [.int (nI nt), .ref o]) (by rw [show S36 16 5 = S14 16 5 from by rw [t37]; exact sp_k (by decide), show S14 16 5 = S7 16 5 from by rw [t15]; exact sp_k (by decide), show S7 16 5 = S 16 5 from by rw [t8]; exact sp_j (by decide), hT]) ?_
        refine lv_iconst (v := 1) F.1 F.2.1 d_M_task_86 (by decide) ?_
        refine lv_iadd F.1 F.2.1 d_M_task_87 ?_
        refine W.eq (g2 := F0 m 88 ls [.int (nI (nt + 1)), .ref o]) (by rw [show (1 : Int32) = nI 1 from rfl, nI_add]) ?_
        refine pw_put F I_M ty_M k_M n_M hK.1 hP hS f38 rfl 10 (by decide) L_M_66 (fun _ z => z) rfl rfl rfl (Nat.le_of_ble_eq_true rfl) d_M_task_88 (fun H locs hP hS => ?_)
        have hP : pw D vwCl A (pu h34 o (.inr (7, (mfs ad S36).set (mpos 5) (.int (nI (nt + 1)))))) H := hP
        have hR := hR.num (show 5 < 6 by decide) (nI (nt + 1))
        obtain ⟨h39, e40⟩ : ∃ z9 : pw_H, z9 = pu h34 o (.inr (7, (mfs ad S36).set (mpos 5) (.int (nI (nt + 1))))) := ⟨_, rfl⟩
        rw [← e40] at hP
        obtain ⟨S41, t42⟩ : ∃ z9 : St, z9 = sp S36 16 5 (nI (nt + 1)) := ⟨_, rfl⟩
        have hR : RM cs h39 o ad S41 := by rw [e40, t42]; exact hR
        refine lv_aload_n F.1 F.2.1 d_M_task_91 rfl (lv_at hl 0 rfl) ?_
        refine lv_aload_n F.1 F.2.1 d_M_task_92 rfl (lv_at hl 0 rfl) ?_
        have f43 : h39 o = some (.inr (7, [.int (S41 16 0), .int (S41 16 1), .ref (ad 0), .ref (ad 1), .ref (ad 2), .ref (ad 3), .ref (ad 4), .int (S41 16 2), .int (S41 16 3), .int (S41 16 4), .int (S41 16 5), .ref (ad 5), .ref (ad 6), .ref (ad 7), .ref (ad 8), .ref (ad 9), .ref (ad 10), .ref (ad 11), .ref (ad 12), .ref (ad 13), .ref (ad 14), .ref (ad 15)])) := hR.1
        refine pw_get F I_M hK.1 hP f43 rfl 10 (by decide) L_M_66 (fun _ z => z) rfl d_M_task_93 ?_
        refine W.eq (g2 := F0 m 96 ls [.int (nI (nt + 1)), .ref o]) (by rw [show S41 16 5 = nI (nt + 1) from by rw [t42]; exact sp_s]) ?_
        refine lv_iconst (v := 1) F.1 F.2.1 d_M_task_96 (by decide) ?_
        refine lv_isub F.1 F.2.1 d_M_task_97 ?_
        refine W.eq (g2 := F0 m 98 ls [.int (nI (nt)), .ref o]) (by rw [show (1 : Int32) = nI 1 from rfl, show nI (nt + 1) - nI 1 = nI nt from nI_pred nt]) ?_
        refine lv_iload_n F.1 F.2.1 d_M_task_98 rfl (lv_at hl 1 rfl) ?_
        refine pw_cv (pr_V F (c_M_enter l D cs A h39 o ad S41 hR nt f 0 L hlt (by omega) (by decide) hL5 (by rw [t42, sp_k (by decide), t37, sp_k (by decide), t15, sp_k (by decide), t8, sp_k (by decide)]; exact (hd0 hlt)) (by rw [t42, sp_k (by decide), t37, sp_s])) X_M_97 rfl rfl ⟨by decide, by decide⟩ hP hA hK hS f43 rfl rfl rfl hl.1 rfl (Nat.le_of_ble_eq_true rfl) d_M_task_99 ⟨by decide, by decide⟩) hS (fun h44 H locs hq hP hS => ?_)
        obtain ⟨S45, t46⟩ : ∃ z9 : St, z9 = mEnter S41 nt f := ⟨_, rfl⟩
        have hR : RM cs h44 o ad S45 := by rw [t46]; exact hq
        refine lv_aload_n F.1 F.2.1 d_M_task_102 rfl (lv_at hl 0 rfl) ?_
        have f47 : h44 o = some (.inr (7, [.int (S45 16 0), .int (S45 16 1), .ref (ad 0), .ref (ad 1), .ref (ad 2), .ref (ad 3), .ref (ad 4), .int (S45 16 2), .int (S45 16 3), .int (S45 16 4), .int (S45 16 5), .ref (ad 5), .ref (ad 6), .ref (ad 7), .ref (ad 8), .ref (ad 9), .ref (ad 10), .ref (ad 11), .ref (ad 12), .ref (ad 13), .ref (ad 14), .ref (ad 15)])) := hR.1
        refine pw_get F I_M hK.1 hP f47 rfl 10 (by decide) L_M_66 (fun _ z => z) rfl d_M_task_103 ?_
        refine W.eq (g2 := F0 m 106 ls [.int (nI (nt + 1))]) (by rw [show S45 16 5 = S41 16 5 from by rw [t46]; exact mEnter_o, show S41 16 5 = nI (nt + 1) from by rw [t42]; exact sp_s]) ?_
        refine lv_iconst (v := 1) F.1 F.2.1 d_M_task_106 (by decide) ?_
        refine lv_isub F.1 F.2.1 d_M_task_107 ?_
        exact pw_iret F hr hlk hP hA hK hS (by decide) (by decide) d_M_task_108 (by have hth : thTask S (nI f) = 0 := (by unfold thTask; rw [if_neg (fun z9 => z9 (hnf ▸ b2)), if_neg (fun z9 => c4 (hT.symm.trans z9))]); unfold stTask rTask; rw [if_pos hth, if_pos hth, hT, hLv, tn_nI (by omega), tn_nI (by omega), nI_1]; rw [t46, t42, t37, t15, t8] at hR; exact ⟨hR, nI_pred _⟩)
    · skip
      refine lv_iconst (v := 2) F.1 F.2.1 d_M_task_27 (by decide) ?_
      refine lv_goto (tgt := 32) F.1 F.2.1 d_M_task_28 (by decide) ?_
      refine pw_put F I_M ty_M k_M n_M hK.1 hP hS f1 rfl 0 (by decide) L_M_63 (fun _ z => z) rfl rfl rfl (Nat.le_of_ble_eq_true rfl) d_M_task_32 (fun H locs hP hS => ?_)
      have hP : pw D vwCl A (pu h o (.inr (7, (mfs ad S).set (mpos 0) (.int 2)))) H := hP
      have hR := hR.num (show 0 < 6 by decide) 2
      obtain ⟨h48, e49⟩ : ∃ z9 : pw_H, z9 = pu h o (.inr (7, (mfs ad S).set (mpos 0) (.int 2))) := ⟨_, rfl⟩
      rw [← e49] at hP
      obtain ⟨S50, t51⟩ : ∃ z9 : St, z9 = sp S 16 0 2 := ⟨_, rfl⟩
      have hR : RM cs h48 o ad S50 := by rw [e49, t51]; exact hR
      refine lv_aload_n F.1 F.2.1 d_M_task_35 rfl (lv_at hl 0 rfl) ?_
      have f52 : h48 o = some (.inr (7, [.int (S50 16 0), .int (S50 16 1), .ref (ad 0), .ref (ad 1), .ref (ad 2), .ref (ad 3), .ref (ad 4), .int (S50 16 2), .int (S50 16 3), .int (S50 16 4), .int (S50 16 5), .ref (ad 5), .ref (ad 6), .ref (ad 7), .ref (ad 8), .ref (ad 9), .ref (ad 10), .ref (ad 11), .ref (ad 12), .ref (ad 13), .ref (ad 14), .ref (ad 15)])) := hR.1
      refine pw_get F I_M hK.1 hP f52 rfl 0 (by decide) L_M_63 (fun _ z => z) rfl d_M_task_36 ?_
      refine W.eq (g2 := F0 m 39 ls [.int 2]) (by rw [show S50 16 0 = 2 from by rw [t51]; exact sp_s]) ?_
      refine lv_if_le (tgt := 44) F.1 F.2.1 d_M_task_39 (by decide) (fun c53 => absurd c53 (by decide)) (fun c53 => ?_)
      refine lv_iconst (v := 0) F.1 F.2.1 d_M_task_42 (by decide) ?_
      exact pw_iret F hr hlk hP hA hK hS (by decide) (by decide) d_M_task_43 (by have hth : thTask S fn = 2 := (by unfold thTask; rw [if_neg (fun z9 => z9 (hnf ▸ b2)), if_pos (hT.trans c4)]); unfold stTask rTask; rw [hth, if_neg (by decide), if_neg (by decide)]; rw [t51] at hR; exact ⟨hR, rfl⟩)
  · skip
    refine W.eq (g2 := F0 m 12 ls [.int 0, .ref o]) (by rw [if_neg b2]) ?_
    refine lv_if_ne (tgt := 19) F.1 F.2.1 d_M_task_12 (by decide) (fun c54 => absurd (by decide) c54) (fun c54 => ?_)
    refine lv_iconst (v := 1) F.1 F.2.1 d_M_task_15 (by decide) ?_
    refine lv_goto (tgt := 32) F.1 F.2.1 d_M_task_16 (by decide) ?_
    refine pw_put F I_M ty_M k_M n_M hK.1 hP hS f1 rfl 0 (by decide) L_M_63 (fun _ z => z) rfl rfl rfl (Nat.le_of_ble_eq_true rfl) d_M_task_32 (fun H locs hP hS => ?_)
    have hP : pw D vwCl A (pu h o (.inr (7, (mfs ad S).set (mpos 0) (.int 1)))) H := hP
    have hR := hR.num (show 0 < 6 by decide) 1
    obtain ⟨h55, e56⟩ : ∃ z9 : pw_H, z9 = pu h o (.inr (7, (mfs ad S).set (mpos 0) (.int 1))) := ⟨_, rfl⟩
    rw [← e56] at hP
    obtain ⟨S57, t58⟩ : ∃ z9 : St, z9 = sp S 16 0 1 := ⟨_, rfl⟩
    have hR : RM cs h55 o ad S57 := by rw [e56, t58]; exact hR
    refine lv_aload_n F.1 F.2.1 d_M_task_35 rfl (lv_at hl 0 rfl) ?_
    have f59 : h55 o = some (.inr (7, [.int (S57 16 0), .int (S57 16 1), .ref (ad 0), .ref (ad 1), .ref (ad 2), .ref (ad 3), .ref (ad 4), .int (S57 16 2), .int (S57 16 3), .int (S57 16 4), .int (S57 16 5), .ref (ad 5), .ref (ad 6), .ref (ad 7), .ref (ad 8), .ref (ad 9), .ref (ad 10), .ref (ad 11), .ref (ad 12), .ref (ad 13), .ref (ad 14), .ref (ad 15)])) := hR.1
    refine pw_get F I_M hK.1 hP f59 rfl 0 (by decide) L_M_63 (fun _ z => z) rfl d_M_task_36 ?_
    refine W.eq (g2 := F0 m 39 ls [.int 1]) (by rw [show S57 16 0 = 1 from by rw [t58]; exact sp_s]) ?_
    refine lv_if_le (tgt := 44) F.1 F.2.1 d_M_task_39 (by decide) (fun c60 => absurd c60 (by decide)) (fun c60 => ?_)
    refine lv_iconst (v := 0) F.1 F.2.1 d_M_task_42 (by decide) ?_
    exact pw_iret F hr hlk hP hA hK hS (by decide) (by decide) d_M_task_43 (by have hth : thTask S fn = 1 := (by unfold thTask; rw [if_pos (fun z9 => b2 (hnf ▸ z9))]); unfold stTask rTask; rw [hth, if_neg (by decide), if_neg (by decide)]; rw [t58] at hR; exact ⟨hR, rfl⟩)
abbrev rm_M_look : Room := { frames := 1, cells := 0, slots := 0, locals := 22 }
set_option maxHeartbeats 4000000 in
set_option maxRecDepth 100000 in
theorem c_M_look (l : Launch) (D : va_G) (cs : Nat → Nat) (A : Nat → Prop) (h : pw_H) (o : Nat) (ad : Nat → Nat) (S : St) (hR : RM cs h o ad S) (nt : Nat) (hnt : nt ≤ 4) (hT : S 16 5 = nI nt) (tk w : Int32) : pm l y_M_look b_M_look 3 (some .int) rm_M_look [.ref o, .int tk, .int w] D cs A h (va_Qi (fun (r : Int32) (h' : pw_H) => RM cs h' o ad (sp S 16 0 (thLook S tk w)) ∧ r = rLook S tk w) (ww D cs A) A) 0 0 := by
  refine pm_of R_M rfl (by decide) (Nat.le_of_ble_eq_true rfl) (fun p e s m below meth c ls F hr hlk hnm hP hA hK hl => ?_)
  have hS : va_S A s.heap s.heap [] := va_S.rf
  replace hl : lv_has ls 3 [(0, .ref o), (1, .int tk), (2, .int w)] := hl
  refine lv_aload_n F.1 F.2.1 d_M_look_0 rfl (lv_at hl 0 rfl) ?_
  refine lv_iconst (v := 0) F.1 F.2.1 d_M_look_1 (by decide) ?_
  have f1 : h o = some (.inr (7, [.int (S 16 0), .int (S 16 1), .ref (ad 0), .ref (ad 1), .ref (ad 2), .ref (ad 3), .ref (ad 4), .int (S 16 2), .int (S 16 3), .int (S 16 4), .int (S 16 5), .ref (ad 5), .ref (ad 6), .ref (ad 7), .ref (ad 8), .ref (ad 9), .ref (ad 10), .ref (ad 11), .ref (ad 12), .ref (ad 13), .ref (ad 14), .ref (ad 15)])) := hR.1
  refine pw_put F I_M ty_M k_M n_M hK.1 hP hS f1 rfl 0 (by decide) L_M_63 (fun _ z => z) rfl rfl rfl (Nat.le_of_ble_eq_true rfl) d_M_look_2 (fun H locs hP hS => ?_)
  have hP : pw D vwCl A (pu h o (.inr (7, (mfs ad S).set (mpos 0) (.int 0)))) H := hP
  have hR := hR.num (show 0 < 6 by decide) 0
  obtain ⟨h2, e3⟩ : ∃ z9 : pw_H, z9 = pu h o (.inr (7, (mfs ad S).set (mpos 0) (.int 0))) := ⟨_, rfl⟩
  rw [← e3] at hP
  obtain ⟨S4, t5⟩ : ∃ z9 : St, z9 = sp S 16 0 0 := ⟨_, rfl⟩
  have hR : RM cs h2 o ad S4 := by rw [e3, t5]; exact hR
  refine lv_iload_n F.1 F.2.1 d_M_look_5 rfl (lv_at hl 1 rfl) ?_
  refine lv_iconst (v := 0) F.1 F.2.1 d_M_look_6 (by decide) ?_
  refine lv_aload_n F.1 F.2.1 d_M_look_7 rfl (lv_at hl 0 rfl) ?_
  have f6 : h2 o = some (.inr (7, [.int (S4 16 0), .int (S4 16 1), .ref (ad 0), .ref (ad 1), .ref (ad 2), .ref (ad 3), .ref (ad 4), .int (S4 16 2), .int (S4 16 3), .int (S4 16 4), .int (S4 16 5), .ref (ad 5), .ref (ad 6), .ref (ad 7), .ref (ad 8), .ref (ad 9), .ref (ad 10), .ref (ad 11), .ref (ad 12), .ref (ad 13), .ref (ad 14), .ref (ad 15)])) := hR.1
  refine pw_get F I_M hK.1 hP f6 rfl 10 (by decide) L_M_66 (fun _ z => z) rfl d_M_look_8 ?_
  refine W.eq (g2 := F0 m 11 ls [.int (nI nt), .int 0, .int tk]) (by rw [show S4 16 5 = S 16 5 from by rw [t5]; exact sp_j (by decide), hT]) ?_
  refine lv_iconst (v := 1) F.1 F.2.1 d_M_look_11 (by decide) ?_
  refine lv_isub F.1 F.2.1 d_M_look_12 ?_
  refine pw_ciE (pr_S F (c_M_inn l D cs A h2 tk 0 ((nI nt) - 1)) X_M_72 rfl rfl ⟨by decide, by decide⟩ hP hA hK hS rfl hl.1 rfl (Nat.le_of_ble_eq_true rfl) d_M_look_13 ⟨by decide, by decide⟩) hS (fun H locs hP hS => ?_)
  by_cases b7 : 0 ≤ tk ∧ tk ≤ ((nI nt) - 1)
  · skip
    refine W.eq (g2 := F0 m 16 ls [.int 1]) (by rw [if_pos b7]) ?_
    refine lv_if_eq (tgt := 28) F.1 F.2.1 d_M_look_16 (by decide) (fun c8 => absurd c8 (by decide)) (fun c8 => ?_)
    refine lv_iload_n F.1 F.2.1 d_M_look_19 rfl (lv_at hl 2 rfl) ?_
    refine lv_iconst (v := 0) F.1 F.2.1 d_M_look_20 (by decide) ?_
    refine lv_iconst (v := 5) F.1 F.2.1 d_M_look_21 (by decide) ?_
    refine pw_ciE (pr_S F (c_M_inn l D cs A h2 w 0 5) X_M_72 rfl rfl ⟨by decide, by decide⟩ hP hA hK hS rfl hl.1 rfl (Nat.le_of_ble_eq_true rfl) d_M_look_22 ⟨by decide, by decide⟩) hS (fun H locs hP hS => ?_)
    by_cases b9 : 0 ≤ w ∧ w ≤ 5
    · skip
      refine W.eq (g2 := F0 m 25 ls [.int 1]) (by rw [if_pos b9]) ?_
      refine lv_if_ne (tgt := 34) F.1 F.2.1 d_M_look_25 (by decide) (fun c10 => ?_) (fun c10 => absurd c10 (by decide))
      obtain ⟨f, hltf, rfl⟩ := mIn_nat (by omega) b7.1 b7.2
      refine lv_iload_n F.1 F.2.1 d_M_look_34 rfl (lv_at hl 2 rfl) ?_
      refine lv_if_ne (tgt := 47) F.1 F.2.1 d_M_look_35 (by decide) (fun c11 => ?_) (fun c11 => ?_)
      · skip
        refine lv_iload_n F.1 F.2.1 d_M_look_47 rfl (lv_at hl 2 rfl) ?_
        refine lv_iconst (v := 1) F.1 F.2.1 d_M_look_48 (by decide) ?_
        refine lv_icmp_ne (tgt := 61) F.1 F.2.1 d_M_look_49 (by decide) (fun c12 => ?_) (fun c12 => ?_)
        · skip
          refine lv_iload_n F.1 F.2.1 d_M_look_61 rfl (lv_at hl 2 rfl) ?_
          refine lv_iconst (v := 2) F.1 F.2.1 d_M_look_62 (by decide) ?_
          refine lv_icmp_ne (tgt := 75) F.1 F.2.1 d_M_look_63 (by decide) (fun c13 => ?_) (fun c13 => ?_)
          · skip
            refine lv_iload_n F.1 F.2.1 d_M_look_75 rfl (lv_at hl 2 rfl) ?_
            refine lv_iconst (v := 3) F.1 F.2.1 d_M_look_76 (by decide) ?_
            refine lv_icmp_ne (tgt := 89) F.1 F.2.1 d_M_look_77 (by decide) (fun c14 => ?_) (fun c14 => ?_)
            · skip
              refine lv_iload_n F.1 F.2.1 d_M_look_89 rfl (lv_at hl 2 rfl) ?_
              refine lv_iconst (v := 4) F.1 F.2.1 d_M_look_90 (by decide) ?_
              refine lv_icmp_ne (tgt := 103) F.1 F.2.1 d_M_look_91 (by decide) (fun c15 => ?_) (fun c15 => ?_)
              · skip
                refine lv_aload_n F.1 F.2.1 d_M_look_103 rfl (lv_at hl 0 rfl) ?_
                refine pw_get F I_M hK.1 hP f6 rfl 16 (by decide) L_M_45 (fun _ z => z) rfl d_M_look_104 ?_
                refine lv_iload_n F.1 F.2.1 d_M_look_107 rfl (lv_at hl 1 rfl) ?_
                have f16 : h2 (ad 10) = some (.inl (cs 0, 4, .inl (S4 10))) := hR.2.1 10 (by decide)
                refine pw_ialdN F hK.1 hP 0 f16 rfl (k := f) (by omega) (by decide) d_M_look_108 ?_
                refine W.eq (g2 := F0 m 109 ls [.int (S 10 f)]) (by rw [show S4 10 f = S 10 f from by rw [t5]; exact sp_k (by decide)]) ?_
                exact pw_iret F hr hlk hP hA hK hS (by decide) (by decide) d_M_look_109 (by have hth : thLook S (nI f) w = 0 := (by unfold thLook; rw [if_pos ⟨hT ▸ b7, b9⟩]); unfold rLook; rw [hth, if_pos rfl, if_neg c11, if_neg c12, if_neg c13, if_neg c14, if_neg c15, tn_nI (by omega)]; rw [t5] at hR; exact ⟨hR, rfl⟩)
              · skip
                refine lv_aload_n F.1 F.2.1 d_M_look_94 rfl (lv_at hl 0 rfl) ?_
                refine pw_get F I_M hK.1 hP f6 rfl 15 (by decide) L_M_42 (fun _ z => z) rfl d_M_look_95 ?_
                refine lv_iload_n F.1 F.2.1 d_M_look_98 rfl (lv_at hl 1 rfl) ?_
                have f17 : h2 (ad 9) = some (.inl (cs 0, 4, .inl (S4 9))) := hR.2.1 9 (by decide)
                refine pw_ialdN F hK.1 hP 0 f17 rfl (k := f) (by omega) (by decide) d_M_look_99 ?_
                refine W.eq (g2 := F0 m 100 ls [.int (S 9 f)]) (by rw [show S4 9 f = S 9 f from by rw [t5]; exact sp_k (by decide)]) ?_
                refine lv_goto (tgt := 109) F.1 F.2.1 d_M_look_100 (by decide) ?_
                exact pw_iret F hr hlk hP hA hK hS (by decide) (by decide) d_M_look_109 (by have hth : thLook S (nI f) w = 0 := (by unfold thLook; rw [if_pos ⟨hT ▸ b7, b9⟩]); unfold rLook; rw [hth, if_pos rfl, if_neg c11, if_neg c12, if_neg c13, if_neg c14, if_pos c15, tn_nI (by omega)]; rw [t5] at hR; exact ⟨hR, rfl⟩)
            · skip
              refine lv_aload_n F.1 F.2.1 d_M_look_80 rfl (lv_at hl 0 rfl) ?_
              refine pw_get F I_M hK.1 hP f6 rfl 14 (by decide) L_M_39 (fun _ z => z) rfl d_M_look_81 ?_
              refine lv_iload_n F.1 F.2.1 d_M_look_84 rfl (lv_at hl 1 rfl) ?_
              have f18 : h2 (ad 8) = some (.inl (cs 0, 4, .inl (S4 8))) := hR.2.1 8 (by decide)
              refine pw_ialdN F hK.1 hP 0 f18 rfl (k := f) (by omega) (by decide) d_M_look_85 ?_
              refine W.eq (g2 := F0 m 86 ls [.int (S 8 f)]) (by rw [show S4 8 f = S 8 f from by rw [t5]; exact sp_k (by decide)]) ?_
              refine lv_goto (tgt := 109) F.1 F.2.1 d_M_look_86 (by decide) ?_
              exact pw_iret F hr hlk hP hA hK hS (by decide) (by decide) d_M_look_109 (by have hth : thLook S (nI f) w = 0 := (by unfold thLook; rw [if_pos ⟨hT ▸ b7, b9⟩]); unfold rLook; rw [hth, if_pos rfl, if_neg c11, if_neg c12, if_neg c13, if_pos c14, tn_nI (by omega)]; rw [t5] at hR; exact ⟨hR, rfl⟩)
          · skip
            refine lv_aload_n F.1 F.2.1 d_M_look_66 rfl (lv_at hl 0 rfl) ?_
            refine pw_get F I_M hK.1 hP f6 rfl 17 (by decide) L_M_48 (fun _ z => z) rfl d_M_look_67 ?_
            refine lv_iload_n F.1 F.2.1 d_M_look_70 rfl (lv_at hl 1 rfl) ?_
            have f19 : h2 (ad 11) = some (.inl (cs 0, 4, .inl (S4 11))) := hR.2.1 11 (by decide)
            refine pw_ialdN F hK.1 hP 0 f19 rfl (k := f) (by omega) (by decide) d_M_look_71 ?_
            refine W.eq (g2 := F0 m 72 ls [.int (S 11 f)]) (by rw [show S4 11 f = S 11 f from by rw [t5]; exact sp_k (by decide)]) ?_
            refine lv_goto (tgt := 109) F.1 F.2.1 d_M_look_72 (by decide) ?_
            exact pw_iret F hr hlk hP hA hK hS (by decide) (by decide) d_M_look_109 (by have hth : thLook S (nI f) w = 0 := (by unfold thLook; rw [if_pos ⟨hT ▸ b7, b9⟩]); unfold rLook; rw [hth, if_pos rfl, if_neg c11, if_neg c12, if_pos c13, tn_nI (by omega)]; rw [t5] at hR; exact ⟨hR, rfl⟩)
        · skip
          refine lv_aload_n F.1 F.2.1 d_M_look_52 rfl (lv_at hl 0 rfl) ?_
          refine pw_get F I_M hK.1 hP f6 rfl 13 (by decide) L_M_36 (fun _ z => z) rfl d_M_look_53 ?_
          refine lv_iload_n F.1 F.2.1 d_M_look_56 rfl (lv_at hl 1 rfl) ?_
          have f20 : h2 (ad 7) = some (.inl (cs 0, 4, .inl (S4 7))) := hR.2.1 7 (by decide)
          refine pw_ialdN F hK.1 hP 0 f20 rfl (k := f) (by omega) (by decide) d_M_look_57 ?_
          refine W.eq (g2 := F0 m 58 ls [.int (S 7 f)]) (by rw [show S4 7 f = S 7 f from by rw [t5]; exact sp_k (by decide)]) ?_
          refine lv_goto (tgt := 109) F.1 F.2.1 d_M_look_58 (by decide) ?_
          exact pw_iret F hr hlk hP hA hK hS (by decide) (by decide) d_M_look_109 (by have hth : thLook S (nI f) w = 0 := (by unfold thLook; rw [if_pos ⟨hT ▸ b7, b9⟩]); unfold rLook; rw [hth, if_pos rfl, if_neg c11, if_pos c12, tn_nI (by omega)]; rw [t5] at hR; exact ⟨hR, rfl⟩)
      · skip
        refine lv_aload_n F.1 F.2.1 d_M_look_38 rfl (lv_at hl 0 rfl) ?_
        refine pw_get F I_M hK.1 hP f6 rfl 12 (by decide) L_M_33 (fun _ z => z) rfl d_M_look_39 ?_
        refine lv_iload_n F.1 F.2.1 d_M_look_42 rfl (lv_at hl 1 rfl) ?_
        have f21 : h2 (ad 6) = some (.inl (cs 0, 4, .inl (S4 6))) := hR.2.1 6 (by decide)
        refine pw_ialdN F hK.1 hP 0 f21 rfl (k := f) (by omega) (by decide) d_M_look_43 ?_
        refine W.eq (g2 := F0 m 44 ls [.int (S 6 f)]) (by rw [show S4 6 f = S 6 f from by rw [t5]; exact sp_k (by decide)]) ?_
        refine lv_goto (tgt := 109) F.1 F.2.1 d_M_look_44 (by decide) ?_
        exact pw_iret F hr hlk hP hA hK hS (by decide) (by decide) d_M_look_109 (by have hth : thLook S (nI f) w = 0 := (by unfold thLook; rw [if_pos ⟨hT ▸ b7, b9⟩]); unfold rLook; rw [hth, if_pos rfl, if_pos c11, tn_nI (by omega)]; rw [t5] at hR; exact ⟨hR, rfl⟩)
    · skip
      refine W.eq (g2 := F0 m 25 ls [.int 0]) (by rw [if_neg b9]) ?_
      refine lv_if_ne (tgt := 34) F.1 F.2.1 d_M_look_25 (by decide) (fun c22 => absurd (by decide) c22) (fun c22 => ?_)
      refine lv_aload_n F.1 F.2.1 d_M_look_28 rfl (lv_at hl 0 rfl) ?_
      refine lv_iconst (v := 1) F.1 F.2.1 d_M_look_29 (by decide) ?_
      refine pw_ci (pr_V F (c_M_fail l D cs A h2 o ad S4 hR 1) X_M_108 rfl rfl ⟨by decide, by decide⟩ hP hA hK hS f6 rfl rfl rfl hl.1 rfl (Nat.le_of_ble_eq_true rfl) d_M_look_30 ⟨by decide, by decide⟩) hS (fun r9 h23 H locs hq hP hS => ?_)
      obtain ⟨S24, t25⟩ : ∃ z9 : St, z9 = sp S4 16 0 1 := ⟨_, rfl⟩
      have hR : RM cs h23 o ad S24 := by rw [t25]; exact hq.1
      rw [hq.2]
      exact pw_iret F hr hlk hP hA hK hS (by decide) (by decide) d_M_look_33 (by have hth : thLook S tk w = 1 := (by unfold thLook; rw [if_neg (fun z9 => b9 z9.2)]); unfold rLook; rw [hth, if_neg (by decide)]; rw [t25, t5, sp_sp] at hR; exact ⟨hR, rfl⟩)
  · skip
    refine W.eq (g2 := F0 m 16 ls [.int 0]) (by rw [if_neg b7]) ?_
    refine lv_if_eq (tgt := 28) F.1 F.2.1 d_M_look_16 (by decide) (fun c26 => ?_) (fun c26 => absurd (by decide) c26)
    refine lv_aload_n F.1 F.2.1 d_M_look_28 rfl (lv_at hl 0 rfl) ?_
    refine lv_iconst (v := 1) F.1 F.2.1 d_M_look_29 (by decide) ?_
    refine pw_ci (pr_V F (c_M_fail l D cs A h2 o ad S4 hR 1) X_M_108 rfl rfl ⟨by decide, by decide⟩ hP hA hK hS f6 rfl rfl rfl hl.1 rfl (Nat.le_of_ble_eq_true rfl) d_M_look_30 ⟨by decide, by decide⟩) hS (fun r9 h27 H locs hq hP hS => ?_)
    obtain ⟨S28, t29⟩ : ∃ z9 : St, z9 = sp S4 16 0 1 := ⟨_, rfl⟩
    have hR : RM cs h27 o ad S28 := by rw [t29]; exact hq.1
    rw [hq.2]
    exact pw_iret F hr hlk hP hA hK hS (by decide) (by decide) d_M_look_33 (by have hth : thLook S tk w = 1 := (by unfold thLook; rw [if_neg (fun z9 => b7 (hT ▸ z9.1))]); unfold rLook; rw [hth, if_neg (by decide)]; rw [t29, t5, sp_sp] at hR; exact ⟨hR, rfl⟩)
abbrev rm_M_frame : Room := { frames := 1, cells := 0, slots := 0, locals := 22 }
set_option maxHeartbeats 4000000 in
set_option maxRecDepth 100000 in
theorem c_M_frame (l : Launch) (D : va_G) (cs : Nat → Nat) (A : Nat → Prop) (h : pw_H) (o : Nat) (ad : Nat → Nat) (S : St) (hR : RM cs h o ad S) (nt : Nat) (hnt : nt ≤ 4) (hT : S 16 5 = nI nt) (dep : ∀ t, t < nt → ∃ d, d < 6 ∧ S 11 t = nI (d + 1) ∧ ∀ k, k ≤ d → ∃ rk, rk < 48 ∧ S 12 (6 * t + k) = nI rk) (tk k w : Int32) : pm l y_M_frame b_M_frame 5 (some .int) rm_M_frame [.ref o, .int tk, .int k, .int w] D cs A h (va_Qi (fun (r : Int32) (h' : pw_H) => RM cs h' o ad (sp S 16 0 (thFrame S tk k w)) ∧ r = rFrame S tk k w) (ww D cs A) A) 0 0 := by
  refine pm_of R_M rfl (by decide) (Nat.le_of_ble_eq_true rfl) (fun p e s m below meth c ls F hr hlk hnm hP hA hK hl => ?_)
  have hS : va_S A s.heap s.heap [] := va_S.rf
  replace hl : lv_has ls 5 [(0, .ref o), (1, .int tk), (2, .int k), (3, .int w)] := hl
  refine lv_aload_n F.1 F.2.1 d_M_frame_0 rfl (lv_at hl 0 rfl) ?_
  refine lv_iload_n F.1 F.2.1 d_M_frame_1 rfl (lv_at hl 1 rfl) ?_
  refine lv_iconst (v := 0) F.1 F.2.1 d_M_frame_2 (by decide) ?_
  refine lv_aload_n F.1 F.2.1 d_M_frame_3 rfl (lv_at hl 0 rfl) ?_
  have f1 : h o = some (.inr (7, [.int (S 16 0), .int (S 16 1), .ref (ad 0), .ref (ad 1), .ref (ad 2), .ref (ad 3), .ref (ad 4), .int (S 16 2), .int (S 16 3), .int (S 16 4), .int (S 16 5), .ref (ad 5), .ref (ad 6), .ref (ad 7), .ref (ad 8), .ref (ad 9), .ref (ad 10), .ref (ad 11), .ref (ad 12), .ref (ad 13), .ref (ad 14), .ref (ad 15)])) := hR.1
  refine pw_get F I_M hK.1 hP f1 rfl 10 (by decide) L_M_66 (fun _ z => z) rfl d_M_frame_4 ?_
  refine W.eq (g2 := F0 m 7 ls [.int (nI nt), .int 0, .int tk, .ref o]) (by rw [hT]) ?_
  refine lv_iconst (v := 1) F.1 F.2.1 d_M_frame_7 (by decide) ?_
  refine lv_isub F.1 F.2.1 d_M_frame_8 ?_
  refine pw_ciE (pr_S F (c_M_inn l D cs A h tk 0 ((nI nt) - 1)) X_M_72 rfl rfl ⟨by decide, by decide⟩ hP hA hK hS rfl hl.1 rfl (Nat.le_of_ble_eq_true rfl) d_M_frame_9 ⟨by decide, by decide⟩) hS (fun H locs hP hS => ?_)
  by_cases b2 : 0 ≤ tk ∧ tk ≤ ((nI nt) - 1)
  · skip
    refine W.eq (g2 := F0 m 12 ls [.int 1, .ref o]) (by rw [if_pos b2]) ?_
    refine lv_if_eq (tgt := 24) F.1 F.2.1 d_M_frame_12 (by decide) (fun c3 => absurd c3 (by decide)) (fun c3 => ?_)
    refine lv_iload_n F.1 F.2.1 d_M_frame_15 rfl (lv_at hl 3 rfl) ?_
    refine lv_iconst (v := 0) F.1 F.2.1 d_M_frame_16 (by decide) ?_
    refine lv_iconst (v := 2) F.1 F.2.1 d_M_frame_17 (by decide) ?_
    refine pw_ciE (pr_S F (c_M_inn l D cs A h w 0 2) X_M_72 rfl rfl ⟨by decide, by decide⟩ hP hA hK hS rfl hl.1 rfl (Nat.le_of_ble_eq_true rfl) d_M_frame_18 ⟨by decide, by decide⟩) hS (fun H locs hP hS => ?_)
    by_cases b4 : 0 ≤ w ∧ w ≤ 2
    · skip
      refine W.eq (g2 := F0 m 21 ls [.int 1, .ref o]) (by rw [if_pos b4]) ?_
      refine lv_if_ne (tgt := 28) F.1 F.2.1 d_M_frame_21 (by decide) (fun c5 => ?_) (fun c5 => absurd c5 (by decide))
      obtain ⟨f, hltf, rfl⟩ := mIn_nat (by omega) b2.1 b2.2
      obtain ⟨d, hd6, hd, hrows⟩ := dep f hltf
      refine lv_iload_n F.1 F.2.1 d_M_frame_28 rfl (lv_at hl 2 rfl) ?_
      refine lv_iconst (v := 0) F.1 F.2.1 d_M_frame_29 (by decide) ?_
      refine lv_aload_n F.1 F.2.1 d_M_frame_30 rfl (lv_at hl 0 rfl) ?_
      refine pw_get F I_M hK.1 hP f1 rfl 17 (by decide) L_M_48 (fun _ z => z) rfl d_M_frame_31 ?_
      refine lv_iload_n F.1 F.2.1 d_M_frame_34 rfl (lv_at hl 1 rfl) ?_
      have f6 : h (ad 11) = some (.inl (cs 0, 4, .inl (S 11))) := hR.2.1 11 (by decide)
      refine pw_ialdN F hK.1 hP 0 f6 rfl (k := f) (by omega) (by decide) d_M_frame_35 ?_
      refine W.eq (g2 := F0 m 36 ls [.int (nI (d + 1)), .int 0, .int k, .ref o]) (by rw [hd]) ?_
      refine lv_iconst (v := 1) F.1 F.2.1 d_M_frame_36 (by decide) ?_
      refine lv_isub F.1 F.2.1 d_M_frame_37 ?_
      refine pw_ciE (pr_S F (c_M_inn l D cs A h k 0 ((nI (d + 1)) - 1)) X_M_72 rfl rfl ⟨by decide, by decide⟩ hP hA hK hS rfl hl.1 rfl (Nat.le_of_ble_eq_true rfl) d_M_frame_38 ⟨by decide, by decide⟩) hS (fun H locs hP hS => ?_)
      by_cases b7 : 0 ≤ k ∧ k ≤ ((nI (d + 1)) - 1)
      · skip
        refine W.eq (g2 := F0 m 41 ls [.int 1, .ref o]) (by rw [if_pos b7]) ?_
        refine lv_if_eq (tgt := 48) F.1 F.2.1 d_M_frame_41 (by decide) (fun c8 => absurd c8 (by decide)) (fun c8 => ?_)
        refine lv_iconst (v := 0) F.1 F.2.1 d_M_frame_44 (by decide) ?_
        refine lv_goto (tgt := 49) F.1 F.2.1 d_M_frame_45 (by decide) ?_
        refine pw_put F I_M ty_M k_M n_M hK.1 hP hS f1 rfl 0 (by decide) L_M_63 (fun _ z => z) rfl rfl rfl (Nat.le_of_ble_eq_true rfl) d_M_frame_49 (fun H locs hP hS => ?_)
        have hP : pw D vwCl A (pu h o (.inr (7, (mfs ad S).set (mpos 0) (.int 0)))) H := hP
        have hR := hR.num (show 0 < 6 by decide) 0
        obtain ⟨h9, e10⟩ : ∃ z9 : pw_H, z9 = pu h o (.inr (7, (mfs ad S).set (mpos 0) (.int 0))) := ⟨_, rfl⟩
        rw [← e10] at hP
        obtain ⟨S11, t12⟩ : ∃ z9 : St, z9 = sp S 16 0 0 := ⟨_, rfl⟩
        have hR : RM cs h9 o ad S11 := by rw [e10, t12]; exact hR
        refine lv_aload_n F.1 F.2.1 d_M_frame_52 rfl (lv_at hl 0 rfl) ?_
        have f13 : h9 o = some (.inr (7, [.int (S11 16 0), .int (S11 16 1), .ref (ad 0), .ref (ad 1), .ref (ad 2), .ref (ad 3), .ref (ad 4), .int (S11 16 2), .int (S11 16 3), .int (S11 16 4), .int (S11 16 5), .ref (ad 5), .ref (ad 6), .ref (ad 7), .ref (ad 8), .ref (ad 9), .ref (ad 10), .ref (ad 11), .ref (ad 12), .ref (ad 13), .ref (ad 14), .ref (ad 15)])) := hR.1
        refine pw_get F I_M hK.1 hP f13 rfl 0 (by decide) L_M_63 (fun _ z => z) rfl d_M_frame_53 ?_
        refine W.eq (g2 := F0 m 56 ls [.int 0]) (by rw [show S11 16 0 = 0 from by rw [t12]; exact sp_s]) ?_
        refine lv_if_le (tgt := 61) F.1 F.2.1 d_M_frame_56 (by decide) (fun c14 => ?_) (fun c14 => absurd (by decide) c14)
        obtain ⟨kk, hltkk, rfl⟩ := mIn_nat (by omega) b7.1 b7.2
        obtain ⟨rk, hrk, hrow⟩ := hrows kk (by omega)
        refine lv_bipush (v := 6) F.1 F.2.1 d_M_frame_61 (by decide) ?_
        refine lv_iload_n F.1 F.2.1 d_M_frame_63 rfl (lv_at hl 1 rfl) ?_
        refine lv_imul F.1 F.2.1 d_M_frame_64 ?_
        refine W.eq (g2 := F0 m 65 ls [.int (nI (6 * f))]) (by rw [show (6 : Int32) = nI 6 from rfl, pk_mul]) ?_
        refine lv_iload_n F.1 F.2.1 d_M_frame_65 rfl (lv_at hl 2 rfl) ?_
        refine lv_iadd F.1 F.2.1 d_M_frame_66 ?_
        refine W.eq (g2 := F0 m 67 ls [.int (nI (6 * f + kk))]) (by rw [nI_add]) ?_
        refine lv_istore F.1 F.2.1 d_M_frame_67 hl (by decide) rfl (fun ls hl => ?_)
        replace hl : lv_has ls 5 [(4, .int (nI (6 * f + kk))), (0, .ref o), (1, .int (nI f)), (2, .int (nI kk)), (3, .int w)] := hl
        refine lv_iload_n F.1 F.2.1 d_M_frame_69 rfl (lv_at hl 4 rfl) ?_
        refine lv_if_ne (tgt := 86) F.1 F.2.1 d_M_frame_70 (by decide) (fun c15 => ?_) (fun c15 => ?_)
        · skip
          refine lv_iload_n F.1 F.2.1 d_M_frame_86 rfl (lv_at hl 4 rfl) ?_
          refine lv_iconst (v := 1) F.1 F.2.1 d_M_frame_87 (by decide) ?_
          refine lv_icmp_ne (tgt := 101) F.1 F.2.1 d_M_frame_88 (by decide) (fun c16 => ?_) (fun c16 => ?_)
          · skip
            refine lv_aload_n F.1 F.2.1 d_M_frame_101 rfl (lv_at hl 1 rfl) ?_
            refine pw_get F I_M hK.1 hP f13 rfl 20 (by decide) L_M_57 (fun _ z => z) rfl d_M_frame_102 ?_
            refine lv_iload F.1 F.2.1 d_M_frame_105 (lv_at hl 0 rfl) ?_
            have f17 : h9 (ad 14) = some (.inl (cs 0, 24, .inl (S11 14))) := hR.2.1 14 (by decide)
            refine pw_ialdN F hK.1 hP 0 f17 rfl (k := 6 * f + kk) (by omega) (by decide) d_M_frame_107 ?_
            refine W.eq (g2 := F0 m 108 ls [.int (S 14 (6 * f + kk))]) (by rw [show S11 14 (6 * f + kk) = S 14 (6 * f + kk) from by rw [t12]; exact sp_k (by decide)]) ?_
            exact pw_iret F hr hlk hP hA hK hS (by decide) (by decide) d_M_frame_108 (by have hth : thFrame S (nI f) (nI kk) w = 0 := (by unfold thFrame; rw [if_neg (fun z9 => z9 ⟨hT ▸ b2, b4⟩), if_pos (by rw [tn_nI (by omega), hd]; exact b7)]); unfold rFrame; rw [hth, if_pos rfl, if_neg c15, if_neg c16, tn_nI (by omega), tn_nI (by omega)]; rw [t12] at hR; exact ⟨hR, rfl⟩)
          · skip
            refine lv_aload_n F.1 F.2.1 d_M_frame_91 rfl (lv_at hl 1 rfl) ?_
            refine pw_get F I_M hK.1 hP f13 rfl 19 (by decide) L_M_54 (fun _ z => z) rfl d_M_frame_92 ?_
            refine lv_iload F.1 F.2.1 d_M_frame_95 (lv_at hl 0 rfl) ?_
            have f18 : h9 (ad 13) = some (.inl (cs 0, 24, .inl (S11 13))) := hR.2.1 13 (by decide)
            refine pw_ialdN F hK.1 hP 0 f18 rfl (k := 6 * f + kk) (by omega) (by decide) d_M_frame_97 ?_
            refine W.eq (g2 := F0 m 98 ls [.int (S 13 (6 * f + kk))]) (by rw [show S11 13 (6 * f + kk) = S 13 (6 * f + kk) from by rw [t12]; exact sp_k (by decide)]) ?_
            refine lv_goto (tgt := 108) F.1 F.2.1 d_M_frame_98 (by decide) ?_
            exact pw_iret F hr hlk hP hA hK hS (by decide) (by decide) d_M_frame_108 (by have hth : thFrame S (nI f) (nI kk) w = 0 := (by unfold thFrame; rw [if_neg (fun z9 => z9 ⟨hT ▸ b2, b4⟩), if_pos (by rw [tn_nI (by omega), hd]; exact b7)]); unfold rFrame; rw [hth, if_pos rfl, if_neg c15, if_pos c16, tn_nI (by omega), tn_nI (by omega)]; rw [t12] at hR; exact ⟨hR, rfl⟩)
        · skip
          refine lv_aload_n F.1 F.2.1 d_M_frame_73 rfl (lv_at hl 1 rfl) ?_
          refine pw_get F I_M hK.1 hP f13 rfl 18 (by decide) L_M_51 (fun _ z => z) rfl d_M_frame_74 ?_
          refine lv_iload F.1 F.2.1 d_M_frame_77 (lv_at hl 0 rfl) ?_
          have f19 : h9 (ad 12) = some (.inl (cs 0, 24, .inl (S11 12))) := hR.2.1 12 (by decide)
          refine pw_ialdN F hK.1 hP 0 f19 rfl (k := 6 * f + kk) (by omega) (by decide) d_M_frame_79 ?_
          refine W.eq (g2 := F0 m 80 ls [.int (nI rk)]) (by rw [show S11 12 (6 * f + kk) = S 12 (6 * f + kk) from by rw [t12]; exact sp_k (by decide), hrow]) ?_
          refine lv_bipush (v := 8) F.1 F.2.1 d_M_frame_80 (by decide) ?_
          refine lv_irem F.1 F.2.1 d_M_frame_82 (by decide) ?_
          refine W.eq (g2 := F0 m 83 ls [.int (nI (rk % 8))]) (by rw [show (8 : Int32) = nI 8 from rfl, pk_rem (by omega) (by decide) (by decide)]) ?_
          refine lv_goto (tgt := 108) F.1 F.2.1 d_M_frame_83 (by decide) ?_
          exact pw_iret F hr hlk hP hA hK hS (by decide) (by decide) d_M_frame_108 (by have hth : thFrame S (nI f) (nI kk) w = 0 := (by unfold thFrame; rw [if_neg (fun z9 => z9 ⟨hT ▸ b2, b4⟩), if_pos (by rw [tn_nI (by omega), hd]; exact b7)]); unfold rFrame; rw [hth, if_pos rfl, if_pos c15, tn_nI (by omega), tn_nI (by omega)]; rw [hrow, tn_nI (by omega)]; rw [t12] at hR; exact ⟨hR, rfl⟩)
      · skip
        refine W.eq (g2 := F0 m 41 ls [.int 0, .ref o]) (by rw [if_neg b7]) ?_
        refine lv_if_eq (tgt := 48) F.1 F.2.1 d_M_frame_41 (by decide) (fun c20 => ?_) (fun c20 => absurd (by decide) c20)
        refine lv_iconst (v := 2) F.1 F.2.1 d_M_frame_48 (by decide) ?_
        refine pw_put F I_M ty_M k_M n_M hK.1 hP hS f1 rfl 0 (by decide) L_M_63 (fun _ z => z) rfl rfl rfl (Nat.le_of_ble_eq_true rfl) d_M_frame_49 (fun H locs hP hS => ?_)
        have hP : pw D vwCl A (pu h o (.inr (7, (mfs ad S).set (mpos 0) (.int 2)))) H := hP
        have hR := hR.num (show 0 < 6 by decide) 2
        obtain ⟨h21, e22⟩ : ∃ z9 : pw_H, z9 = pu h o (.inr (7, (mfs ad S).set (mpos 0) (.int 2))) := ⟨_, rfl⟩
        rw [← e22] at hP
        obtain ⟨S23, t24⟩ : ∃ z9 : St, z9 = sp S 16 0 2 := ⟨_, rfl⟩
        have hR : RM cs h21 o ad S23 := by rw [e22, t24]; exact hR
        refine lv_aload_n F.1 F.2.1 d_M_frame_52 rfl (lv_at hl 0 rfl) ?_
        have f25 : h21 o = some (.inr (7, [.int (S23 16 0), .int (S23 16 1), .ref (ad 0), .ref (ad 1), .ref (ad 2), .ref (ad 3), .ref (ad 4), .int (S23 16 2), .int (S23 16 3), .int (S23 16 4), .int (S23 16 5), .ref (ad 5), .ref (ad 6), .ref (ad 7), .ref (ad 8), .ref (ad 9), .ref (ad 10), .ref (ad 11), .ref (ad 12), .ref (ad 13), .ref (ad 14), .ref (ad 15)])) := hR.1
        refine pw_get F I_M hK.1 hP f25 rfl 0 (by decide) L_M_63 (fun _ z => z) rfl d_M_frame_53 ?_
        refine W.eq (g2 := F0 m 56 ls [.int 2]) (by rw [show S23 16 0 = 2 from by rw [t24]; exact sp_s]) ?_
        refine lv_if_le (tgt := 61) F.1 F.2.1 d_M_frame_56 (by decide) (fun c26 => absurd c26 (by decide)) (fun c26 => ?_)
        refine lv_iconst (v := 0) F.1 F.2.1 d_M_frame_59 (by decide) ?_
        exact pw_iret F hr hlk hP hA hK hS (by decide) (by decide) d_M_frame_60 (by have hth : thFrame S (nI f) k w = 2 := (by unfold thFrame; rw [if_neg (fun z9 => z9 ⟨hT ▸ b2, b4⟩), if_neg (by rw [tn_nI (by omega), hd]; exact b7)]); unfold rFrame; rw [hth, if_neg (by decide)]; rw [t24] at hR; exact ⟨hR, rfl⟩)
    · skip
      refine W.eq (g2 := F0 m 21 ls [.int 0, .ref o]) (by rw [if_neg b4]) ?_
      refine lv_if_ne (tgt := 28) F.1 F.2.1 d_M_frame_21 (by decide) (fun c27 => absurd (by decide) c27) (fun c27 => ?_)
      refine lv_iconst (v := 1) F.1 F.2.1 d_M_frame_24 (by decide) ?_
      refine lv_goto (tgt := 49) F.1 F.2.1 d_M_frame_25 (by decide) ?_
      refine pw_put F I_M ty_M k_M n_M hK.1 hP hS f1 rfl 0 (by decide) L_M_63 (fun _ z => z) rfl rfl rfl (Nat.le_of_ble_eq_true rfl) d_M_frame_49 (fun H locs hP hS => ?_)
      have hP : pw D vwCl A (pu h o (.inr (7, (mfs ad S).set (mpos 0) (.int 1)))) H := hP
      have hR := hR.num (show 0 < 6 by decide) 1
      obtain ⟨h28, e29⟩ : ∃ z9 : pw_H, z9 = pu h o (.inr (7, (mfs ad S).set (mpos 0) (.int 1))) := ⟨_, rfl⟩
      rw [← e29] at hP
      obtain ⟨S30, t31⟩ : ∃ z9 : St, z9 = sp S 16 0 1 := ⟨_, rfl⟩
      have hR : RM cs h28 o ad S30 := by rw [e29, t31]; exact hR
      refine lv_aload_n F.1 F.2.1 d_M_frame_52 rfl (lv_at hl 0 rfl) ?_
      have f32 : h28 o = some (.inr (7, [.int (S30 16 0), .int (S30 16 1), .ref (ad 0), .ref (ad 1), .ref (ad 2), .ref (ad 3), .ref (ad 4), .int (S30 16 2), .int (S30 16 3), .int (S30 16 4), .int (S30 16 5), .ref (ad 5), .ref (ad 6), .ref (ad 7), .ref (ad 8), .ref (ad 9), .ref (ad 10), .ref (ad 11), .ref (ad 12), .ref (ad 13), .ref (ad 14), .ref (ad 15)])) := hR.1
      refine pw_get F I_M hK.1 hP f32 rfl 0 (by decide) L_M_63 (fun _ z => z) rfl d_M_frame_53 ?_
      refine W.eq (g2 := F0 m 56 ls [.int 1]) (by rw [show S30 16 0 = 1 from by rw [t31]; exact sp_s]) ?_
      refine lv_if_le (tgt := 61) F.1 F.2.1 d_M_frame_56 (by decide) (fun c33 => absurd c33 (by decide)) (fun c33 => ?_)
      refine lv_iconst (v := 0) F.1 F.2.1 d_M_frame_59 (by decide) ?_
      exact pw_iret F hr hlk hP hA hK hS (by decide) (by decide) d_M_frame_60 (by have hth : thFrame S tk k w = 1 := (by unfold thFrame; rw [if_pos (fun z9 => b4 z9.2)]); unfold rFrame; rw [hth, if_neg (by decide)]; rw [t31] at hR; exact ⟨hR, rfl⟩)
  · skip
    refine W.eq (g2 := F0 m 12 ls [.int 0, .ref o]) (by rw [if_neg b2]) ?_
    refine lv_if_eq (tgt := 24) F.1 F.2.1 d_M_frame_12 (by decide) (fun c34 => ?_) (fun c34 => absurd (by decide) c34)
    refine lv_iconst (v := 1) F.1 F.2.1 d_M_frame_24 (by decide) ?_
    refine lv_goto (tgt := 49) F.1 F.2.1 d_M_frame_25 (by decide) ?_
    refine pw_put F I_M ty_M k_M n_M hK.1 hP hS f1 rfl 0 (by decide) L_M_63 (fun _ z => z) rfl rfl rfl (Nat.le_of_ble_eq_true rfl) d_M_frame_49 (fun H locs hP hS => ?_)
    have hP : pw D vwCl A (pu h o (.inr (7, (mfs ad S).set (mpos 0) (.int 1)))) H := hP
    have hR := hR.num (show 0 < 6 by decide) 1
    obtain ⟨h35, e36⟩ : ∃ z9 : pw_H, z9 = pu h o (.inr (7, (mfs ad S).set (mpos 0) (.int 1))) := ⟨_, rfl⟩
    rw [← e36] at hP
    obtain ⟨S37, t38⟩ : ∃ z9 : St, z9 = sp S 16 0 1 := ⟨_, rfl⟩
    have hR : RM cs h35 o ad S37 := by rw [e36, t38]; exact hR
    refine lv_aload_n F.1 F.2.1 d_M_frame_52 rfl (lv_at hl 0 rfl) ?_
    have f39 : h35 o = some (.inr (7, [.int (S37 16 0), .int (S37 16 1), .ref (ad 0), .ref (ad 1), .ref (ad 2), .ref (ad 3), .ref (ad 4), .int (S37 16 2), .int (S37 16 3), .int (S37 16 4), .int (S37 16 5), .ref (ad 5), .ref (ad 6), .ref (ad 7), .ref (ad 8), .ref (ad 9), .ref (ad 10), .ref (ad 11), .ref (ad 12), .ref (ad 13), .ref (ad 14), .ref (ad 15)])) := hR.1
    refine pw_get F I_M hK.1 hP f39 rfl 0 (by decide) L_M_63 (fun _ z => z) rfl d_M_frame_53 ?_
    refine W.eq (g2 := F0 m 56 ls [.int 1]) (by rw [show S37 16 0 = 1 from by rw [t38]; exact sp_s]) ?_
    refine lv_if_le (tgt := 61) F.1 F.2.1 d_M_frame_56 (by decide) (fun c40 => absurd c40 (by decide)) (fun c40 => ?_)
    refine lv_iconst (v := 0) F.1 F.2.1 d_M_frame_59 (by decide) ?_
    exact pw_iret F hr hlk hP hA hK hS (by decide) (by decide) d_M_frame_60 (by have hth : thFrame S tk k w = 1 := (by unfold thFrame; rw [if_pos (fun z9 => b2 (hT ▸ z9.1))]); unfold rFrame; rw [hth, if_neg (by decide)]; rw [t38] at hR; exact ⟨hR, rfl⟩)
abbrev rm_M_body : Room := { frames := 1, cells := 0, slots := 0, locals := 24 }
set_option maxHeartbeats 4000000 in
set_option maxRecDepth 100000 in
theorem c_M_body (l : Launch) (D : va_G) (cs : Nat → Nat) (A : Nat → Prop) (h : pw_H) (o : Nat) (ad : Nat → Nat) (S : St) (hR : RM cs h o ad S) (nf : Nat) (hnf8 : nf ≤ 8) (hnf : S 16 1 = nI nf) (pT : Nat) (hp5 : pT ≤ 5) (hp : S 16 3 = nI pT) (fn lv : Int32) : pm l y_M_body b_M_body 3 (some .int) rm_M_body [.ref o, .int fn, .int lv] D cs A h (va_Qi (fun (r : Int32) (h' : pw_H) => RM cs h' o ad (sp S 16 0 (thBody S fn lv)) ∧ r = rBody S fn lv) (ww D cs A) A) 0 0 := by
  refine pm_of R_M rfl (by decide) (Nat.le_of_ble_eq_true rfl) (fun p e s m below meth c ls F hr hlk hnm hP hA hK hl => ?_)
  have hS : va_S A s.heap s.heap [] := va_S.rf
  replace hl : lv_has ls 3 [(0, .ref o), (1, .int fn), (2, .int lv)] := hl
  refine lv_aload_n F.1 F.2.1 d_M_body_0 rfl (lv_at hl 0 rfl) ?_
  refine lv_iload_n F.1 F.2.1 d_M_body_1 rfl (lv_at hl 1 rfl) ?_
  refine lv_iconst (v := 0) F.1 F.2.1 d_M_body_2 (by decide) ?_
  refine lv_aload_n F.1 F.2.1 d_M_body_3 rfl (lv_at hl 0 rfl) ?_
  have f1 : h o = some (.inr (7, [.int (S 16 0), .int (S 16 1), .ref (ad 0), .ref (ad 1), .ref (ad 2), .ref (ad 3), .ref (ad 4), .int (S 16 2), .int (S 16 3), .int (S 16 4), .int (S 16 5), .ref (ad 5), .ref (ad 6), .ref (ad 7), .ref (ad 8), .ref (ad 9), .ref (ad 10), .ref (ad 11), .ref (ad 12), .ref (ad 13), .ref (ad 14), .ref (ad 15)])) := hR.1
  refine pw_get F I_M hK.1 hP f1 rfl 1 (by decide) L_M_76 (fun _ z => z) rfl d_M_body_4 ?_
  refine W.eq (g2 := F0 m 7 ls [.int (nI nf), .int 0, .int fn, .ref o]) (by rw [hnf]) ?_
  refine lv_iconst (v := 1) F.1 F.2.1 d_M_body_7 (by decide) ?_
  refine lv_isub F.1 F.2.1 d_M_body_8 ?_
  refine pw_ciE (pr_S F (c_M_inn l D cs A h fn 0 ((nI nf) - 1)) X_M_72 rfl rfl ⟨by decide, by decide⟩ hP hA hK hS rfl hl.1 rfl (Nat.le_of_ble_eq_true rfl) d_M_body_9 ⟨by decide, by decide⟩) hS (fun H locs hP hS => ?_)
  by_cases b2 : 0 ≤ fn ∧ fn ≤ ((nI nf) - 1)
  · skip
    refine W.eq (g2 := F0 m 12 ls [.int 1, .ref o]) (by rw [if_pos b2]) ?_
    refine lv_if_ne (tgt := 19) F.1 F.2.1 d_M_body_12 (by decide) (fun c3 => ?_) (fun c3 => absurd c3 (by decide))
    obtain ⟨f, hltf, rfl⟩ := mIn_nat (by omega) b2.1 b2.2
    refine lv_iload_n F.1 F.2.1 d_M_body_19 rfl (lv_at hl 2 rfl) ?_
    refine lv_iconst (v := 0) F.1 F.2.1 d_M_body_20 (by decide) ?_
    refine lv_aload_n F.1 F.2.1 d_M_body_21 rfl (lv_at hl 0 rfl) ?_
    refine pw_get F I_M hK.1 hP f1 rfl 8 (by decide) L_M_69 (fun _ z => z) rfl d_M_body_22 ?_
    refine W.eq (g2 := F0 m 25 ls [.int (nI pT), .int 0, .int lv, .ref o]) (by rw [hp]) ?_
    refine pw_ciE (pr_S F (c_M_inn l D cs A h lv 0 (nI pT)) X_M_72 rfl rfl ⟨by decide, by decide⟩ hP hA hK hS rfl hl.1 rfl (Nat.le_of_ble_eq_true rfl) d_M_body_25 ⟨by decide, by decide⟩) hS (fun H locs hP hS => ?_)
    by_cases b4 : 0 ≤ lv ∧ lv ≤ (nI pT)
    · skip
      refine W.eq (g2 := F0 m 28 ls [.int 1, .ref o]) (by rw [if_pos b4]) ?_
      refine lv_if_eq (tgt := 35) F.1 F.2.1 d_M_body_28 (by decide) (fun c5 => absurd c5 (by decide)) (fun c5 => ?_)
      refine lv_iconst (v := 0) F.1 F.2.1 d_M_body_31 (by decide) ?_
      refine lv_goto (tgt := 36) F.1 F.2.1 d_M_body_32 (by decide) ?_
      refine pw_put F I_M ty_M k_M n_M hK.1 hP hS f1 rfl 0 (by decide) L_M_63 (fun _ z => z) rfl rfl rfl (Nat.le_of_ble_eq_true rfl) d_M_body_36 (fun H locs hP hS => ?_)
      have hP : pw D vwCl A (pu h o (.inr (7, (mfs ad S).set (mpos 0) (.int 0)))) H := hP
      have hR := hR.num (show 0 < 6 by decide) 0
      obtain ⟨h6, e7⟩ : ∃ z9 : pw_H, z9 = pu h o (.inr (7, (mfs ad S).set (mpos 0) (.int 0))) := ⟨_, rfl⟩
      rw [← e7] at hP
      obtain ⟨S8, t9⟩ : ∃ z9 : St, z9 = sp S 16 0 0 := ⟨_, rfl⟩
      have hR : RM cs h6 o ad S8 := by rw [e7, t9]; exact hR
      refine lv_aload_n F.1 F.2.1 d_M_body_39 rfl (lv_at hl 0 rfl) ?_
      have f10 : h6 o = some (.inr (7, [.int (S8 16 0), .int (S8 16 1), .ref (ad 0), .ref (ad 1), .ref (ad 2), .ref (ad 3), .ref (ad 4), .int (S8 16 2), .int (S8 16 3), .int (S8 16 4), .int (S8 16 5), .ref (ad 5), .ref (ad 6), .ref (ad 7), .ref (ad 8), .ref (ad 9), .ref (ad 10), .ref (ad 11), .ref (ad 12), .ref (ad 13), .ref (ad 14), .ref (ad 15)])) := hR.1
      refine pw_get F I_M hK.1 hP f10 rfl 0 (by decide) L_M_63 (fun _ z => z) rfl d_M_body_40 ?_
      refine W.eq (g2 := F0 m 43 ls [.int 0]) (by rw [show S8 16 0 = 0 from by rw [t9]; exact sp_s]) ?_
      refine lv_if_le (tgt := 50) F.1 F.2.1 d_M_body_43 (by decide) (fun c11 => ?_) (fun c11 => absurd (by decide) c11)
      obtain ⟨L, hLp, rfl⟩ := mIn_nat (n := pT + 1) (by omega) b4.1 (by rw [nI_pred]; exact b4.2)
      have hbr : bRow S f L < 56 := by have := bRow_le S f L; omega
      have hb9 : bRow S8 f L = bRow S f L := bRow_eq (fun j => (by rw [t9]; exact sp_k (by decide))) f L
      refine lv_aload_n F.1 F.2.1 d_M_body_50 rfl (lv_at hl 0 rfl) ?_
      refine pw_get F I_M hK.1 hP f10 rfl 4 (by decide) L_M_17 (fun _ z => z) rfl d_M_body_51 ?_
      refine lv_aload_n F.1 F.2.1 d_M_body_54 rfl (lv_at hl 0 rfl) ?_
      refine lv_iload_n F.1 F.2.1 d_M_body_55 rfl (lv_at hl 1 rfl) ?_
      refine lv_iload_n F.1 F.2.1 d_M_body_56 rfl (lv_at hl 2 rfl) ?_
      refine pw_ciE (pr_V F (c_M_bodyRow l D cs A h6 o ad S8 hR f L (by omega) (by omega)) X_M_93 rfl rfl ⟨by decide, by decide⟩ hP hA hK hS f10 rfl rfl rfl hl.1 rfl (Nat.le_of_ble_eq_true rfl) d_M_body_57 ⟨by decide, by decide⟩) hS (fun H locs hP hS => ?_)
      refine W.eq (g2 := F0 m 60 ls [.int (nI (bRow S f L)), .ref (ad 2)]) (by rw [hb9]) ?_
      have f12 : h6 (ad 2) = some (.inl (cs 0, 56, .inl (S8 2))) := hR.2.1 2 (by decide)
      refine pw_ialdN F hK.1 hP 0 f12 rfl (k := bRow S f L) (by omega) (by decide) d_M_body_60 ?_
      refine W.eq (g2 := F0 m 61 ls [.int (S 2 (bRow S f L))]) (by rw [show S8 2 (bRow S f L) = S 2 (bRow S f L) from by rw [t9]; exact sp_k (by decide)]) ?_
      exact pw_iret F hr hlk hP hA hK hS (by decide) (by decide) d_M_body_61 (by have hth : thBody S (nI f) (nI L) = 0 := (by unfold thBody; rw [if_neg (fun z9 => z9 (hnf ▸ b2)), if_pos (hp ▸ b4)]); unfold rBody; rw [hth, if_pos rfl, tn_nI (by omega), tn_nI (by omega)]; rw [t9] at hR; exact ⟨hR, rfl⟩)
    · skip
      refine W.eq (g2 := F0 m 28 ls [.int 0, .ref o]) (by rw [if_neg b4]) ?_
      refine lv_if_eq (tgt := 35) F.1 F.2.1 d_M_body_28 (by decide) (fun c13 => ?_) (fun c13 => absurd (by decide) c13)
      refine lv_iconst (v := 2) F.1 F.2.1 d_M_body_35 (by decide) ?_
      refine pw_put F I_M ty_M k_M n_M hK.1 hP hS f1 rfl 0 (by decide) L_M_63 (fun _ z => z) rfl rfl rfl (Nat.le_of_ble_eq_true rfl) d_M_body_36 (fun H locs hP hS => ?_)
      have hP : pw D vwCl A (pu h o (.inr (7, (mfs ad S).set (mpos 0) (.int 2)))) H := hP
      have hR := hR.num (show 0 < 6 by decide) 2
      obtain ⟨h14, e15⟩ : ∃ z9 : pw_H, z9 = pu h o (.inr (7, (mfs ad S).set (mpos 0) (.int 2))) := ⟨_, rfl⟩
      rw [← e15] at hP
      obtain ⟨S16, t17⟩ : ∃ z9 : St, z9 = sp S 16 0 2 := ⟨_, rfl⟩
      have hR : RM cs h14 o ad S16 := by rw [e15, t17]; exact hR
      refine lv_aload_n F.1 F.2.1 d_M_body_39 rfl (lv_at hl 0 rfl) ?_
      have f18 : h14 o = some (.inr (7, [.int (S16 16 0), .int (S16 16 1), .ref (ad 0), .ref (ad 1), .ref (ad 2), .ref (ad 3), .ref (ad 4), .int (S16 16 2), .int (S16 16 3), .int (S16 16 4), .int (S16 16 5), .ref (ad 5), .ref (ad 6), .ref (ad 7), .ref (ad 8), .ref (ad 9), .ref (ad 10), .ref (ad 11), .ref (ad 12), .ref (ad 13), .ref (ad 14), .ref (ad 15)])) := hR.1
      refine pw_get F I_M hK.1 hP f18 rfl 0 (by decide) L_M_63 (fun _ z => z) rfl d_M_body_40 ?_
      refine W.eq (g2 := F0 m 43 ls [.int 2]) (by rw [show S16 16 0 = 2 from by rw [t17]; exact sp_s]) ?_
      refine lv_if_le (tgt := 50) F.1 F.2.1 d_M_body_43 (by decide) (fun c19 => absurd c19 (by decide)) (fun c19 => ?_)
      refine lv_iconst (v := 0) F.1 F.2.1 d_M_body_46 (by decide) ?_
      refine lv_goto (tgt := 61) F.1 F.2.1 d_M_body_47 (by decide) ?_
      exact pw_iret F hr hlk hP hA hK hS (by decide) (by decide) d_M_body_61 (by have hth : thBody S (nI f) lv = 2 := (by unfold thBody; rw [if_neg (fun z9 => z9 (hnf ▸ b2)), if_neg (fun z9 => b4 (hp ▸ z9))]); unfold rBody; rw [hth, if_neg (by decide)]; rw [t17] at hR; exact ⟨hR, rfl⟩)
  · skip
    refine W.eq (g2 := F0 m 12 ls [.int 0, .ref o]) (by rw [if_neg b2]) ?_
    refine lv_if_ne (tgt := 19) F.1 F.2.1 d_M_body_12 (by decide) (fun c20 => absurd (by decide) c20) (fun c20 => ?_)
    refine lv_iconst (v := 1) F.1 F.2.1 d_M_body_15 (by decide) ?_
    refine lv_goto (tgt := 36) F.1 F.2.1 d_M_body_16 (by decide) ?_
    refine pw_put F I_M ty_M k_M n_M hK.1 hP hS f1 rfl 0 (by decide) L_M_63 (fun _ z => z) rfl rfl rfl (Nat.le_of_ble_eq_true rfl) d_M_body_36 (fun H locs hP hS => ?_)
    have hP : pw D vwCl A (pu h o (.inr (7, (mfs ad S).set (mpos 0) (.int 1)))) H := hP
    have hR := hR.num (show 0 < 6 by decide) 1
    obtain ⟨h21, e22⟩ : ∃ z9 : pw_H, z9 = pu h o (.inr (7, (mfs ad S).set (mpos 0) (.int 1))) := ⟨_, rfl⟩
    rw [← e22] at hP
    obtain ⟨S23, t24⟩ : ∃ z9 : St, z9 = sp S 16 0 1 := ⟨_, rfl⟩
    have hR : RM cs h21 o ad S23 := by rw [e22, t24]; exact hR
    refine lv_aload_n F.1 F.2.1 d_M_body_39 rfl (lv_at hl 0 rfl) ?_
    have f25 : h21 o = some (.inr (7, [.int (S23 16 0), .int (S23 16 1), .ref (ad 0), .ref (ad 1), .ref (ad 2), .ref (ad 3), .ref (ad 4), .int (S23 16 2), .int (S23 16 3), .int (S23 16 4), .int (S23 16 5), .ref (ad 5), .ref (ad 6), .ref (ad 7), .ref (ad 8), .ref (ad 9), .ref (ad 10), .ref (ad 11), .ref (ad 12), .ref (ad 13), .ref (ad 14), .ref (ad 15)])) := hR.1
    refine pw_get F I_M hK.1 hP f25 rfl 0 (by decide) L_M_63 (fun _ z => z) rfl d_M_body_40 ?_
    refine W.eq (g2 := F0 m 43 ls [.int 1]) (by rw [show S23 16 0 = 1 from by rw [t24]; exact sp_s]) ?_
    refine lv_if_le (tgt := 50) F.1 F.2.1 d_M_body_43 (by decide) (fun c26 => absurd c26 (by decide)) (fun c26 => ?_)
    refine lv_iconst (v := 0) F.1 F.2.1 d_M_body_46 (by decide) ?_
    refine lv_goto (tgt := 61) F.1 F.2.1 d_M_body_47 (by decide) ?_
    exact pw_iret F hr hlk hP hA hK hS (by decide) (by decide) d_M_body_61 (by have hth : thBody S fn lv = 1 := (by unfold thBody; rw [if_pos (fun z9 => b2 (hnf ▸ z9))]); unfold rBody; rw [hth, if_neg (by decide)]; rw [t24] at hR; exact ⟨hR, rfl⟩)
