abbrev rm_M_apply : Room := { frames := 1, cells := 0, slots := 0, locals := 23 }
set_option maxHeartbeats 4000000 in
set_option maxRecDepth 100000 in
theorem c_M_apply (l : Launch) (D : va_G) (cs : Nat → Nat) (A : Nat → Prop) (h : pw_H) (o : Nat) (ad : Nat → Nat) (S : St) (hR : RM cs h o ad S) (nf : Nat) (hnf8 : nf ≤ 8) (hnf : S 16 1 = nI nf) (nt : Nat) (hnt : nt ≤ 4) (hT : S 16 5 = nI nt) (pT : Nat) (hp5 : pT ≤ 5) (hp : S 16 3 = nI pT) (hbz : ∀ j, j < 56 → S 0 j = 0 ∨ S 0 j = 1) : pm l y_M_apply b_M_apply 4 (some .int) rm_M_apply [.ref o] D cs A h (va_Qi (fun (r : Int32) (h' : pw_H) => RM cs h' o ad (stApply S) ∧ r = rApply S) (ww D cs A) A) 0 0 := by
  refine pm_of R_M rfl (by decide) (Nat.le_of_ble_eq_true rfl) (fun p e s m below meth c ls F hr hlk hnm hP hA hK hl => ?_)
  have hS : va_S A s.heap s.heap [] := va_S.rf
  replace hl : lv_has ls 4 [(0, .ref o)] := hl
  refine lv_aload_n F.1 F.2.1 d_M_apply_0 rfl (lv_at hl 0 rfl) ?_
  have f1 : h o = some (.inr (7, [.int (S 16 0), .int (S 16 1), .ref (ad 0), .ref (ad 1), .ref (ad 2), .ref (ad 3), .ref (ad 4), .int (S 16 2), .int (S 16 3), .int (S 16 4), .int (S 16 5), .ref (ad 5), .ref (ad 6), .ref (ad 7), .ref (ad 8), .ref (ad 9), .ref (ad 10), .ref (ad 11), .ref (ad 12), .ref (ad 13), .ref (ad 14), .ref (ad 15)])) := hR.1
  refine pw_get F I_M hK.1 hP f1 rfl 7 (by decide) L_M_83 (fun _ z => z) rfl d_M_apply_1 ?_
  refine lv_istore_n F.1 F.2.1 d_M_apply_4 rfl hl (by decide) rfl (fun ls hl => ?_)
  replace hl : lv_has ls 4 [(1, .int (S 16 2)), (0, .ref o)] := hl
  refine lv_iconst (v := 0) F.1 F.2.1 d_M_apply_5 (by decide) ?_
  refine lv_istore_n F.1 F.2.1 d_M_apply_6 rfl hl (by decide) rfl (fun ls hl => ?_)
  replace hl : lv_has ls 4 [(2, .int 0), (1, .int (S 16 2)), (0, .ref o)] := hl
  refine lv_iconst (v := 0) F.1 F.2.1 d_M_apply_7 (by decide) ?_
  refine lv_istore_n F.1 F.2.1 d_M_apply_8 rfl hl (by decide) rfl (fun ls hl => ?_)
  replace hl : lv_has ls 4 [(3, .int 0), (2, .int 0), (1, .int (S 16 2)), (0, .ref o)] := hl
  obtain ⟨i, hi0⟩ : ∃ i : Nat, i = 0 := ⟨0, rfl⟩
  obtain ⟨b, hb0⟩ : ∃ b : Int32, b = 0 := ⟨0, rfl⟩
  have hb : (b = 0 ∧ ∀ j, j < i → S 0 (48 + j) = 0 ∨ S 1 (48 + j) = S 1 j) ∨ (b = 1 ∧ ∃ j, j < i ∧ ¬ (S 0 (48 + j) = 0 ∨ S 1 (48 + j) = S 1 j)) := Or.inl ⟨hb0, fun j hj => by omega⟩
  have hle : i ≤ nf := by omega
  obtain ⟨n, hn⟩ : ∃ n : Nat, nf - i = n := ⟨_, rfl⟩
  replace hl : lv_has ls 4 [(3, .int (nI i)), (2, .int b), (1, .int (S 16 2)), (0, .ref o)] := by rw [hi0, hb0]; exact hl
  clear hi0 hb0
  induction n generalizing ls i b with
  | zero =>
    have hie : i = nf := by omega
    refine lv_iload_n F.1 F.2.1 d_M_apply_9 rfl (lv_at hl 0 rfl) ?_
    refine lv_aload_n F.1 F.2.1 d_M_apply_10 rfl (lv_at hl 3 rfl) ?_
    refine pw_get F I_M hK.1 hP f1 rfl 1 (by decide) L_M_76 (fun _ z => z) rfl d_M_apply_11 ?_
    refine W.eq (g2 := F0 m 14 ls [.int (nI nf), .int (nI i)]) (by rw [hnf]) ?_
    refine lv_icmp_ge (tgt := 63) F.1 F.2.1 d_M_apply_14 (by decide) (fun c2 => ?_) (fun c2 => absurd (nI_le (show nf ≤ i by omega) (by omega)) c2)
    refine lv_aload_n F.1 F.2.1 d_M_apply_63 rfl (lv_at hl 3 rfl) ?_
    refine lv_iload_n F.1 F.2.1 d_M_apply_64 rfl (lv_at hl 2 rfl) ?_
    refine lv_if_ne (tgt := 72) F.1 F.2.1 d_M_apply_65 (by decide) (fun c3 => ?_) (fun c3 => ?_)
    · skip
      refine lv_iload_n F.1 F.2.1 d_M_apply_72 rfl (lv_at hl 1 rfl) ?_
      refine lv_if_eq (tgt := 80) F.1 F.2.1 d_M_apply_73 (by decide) (fun c4 => ?_) (fun c4 => ?_)
      · skip
        refine lv_aload_n F.1 F.2.1 d_M_apply_80 rfl (lv_at hl 3 rfl) ?_
        refine pw_get F I_M hK.1 hP f1 rfl 9 (by decide) L_M_26 (fun _ z => z) rfl d_M_apply_81 ?_
        refine lv_if_ge (tgt := 95) F.1 F.2.1 d_M_apply_84 (by decide) (fun c5 => ?_) (fun c5 => ?_)
        · skip
          refine lv_iconst (v := 3) F.1 F.2.1 d_M_apply_95 (by decide) ?_
          refine lv_goto (tgt := 100) F.1 F.2.1 d_M_apply_96 (by decide) ?_
          refine pw_put F I_M ty_M k_M n_M hK.1 hP hS f1 rfl 0 (by decide) L_M_63 (fun _ z => z) rfl rfl rfl (Nat.le_of_ble_eq_true rfl) d_M_apply_100 (fun H locs hP hS => ?_)
          replace hP : pw D vwCl A (pu h o (.inr (7, (mfs ad S).set (mpos 0) (.int 3)))) H := hP
          replace hR := hR.num (show 0 < 6 by decide) 3
          obtain ⟨h6, e7⟩ : ∃ z9 : pw_H, z9 = pu h o (.inr (7, (mfs ad S).set (mpos 0) (.int 3))) := ⟨_, rfl⟩
          rw [← e7] at hP
          obtain ⟨S8, t9⟩ : ∃ z9 : St, z9 = sp S 16 0 3 := ⟨_, rfl⟩
          replace hR : RM cs h6 o ad S8 := by rw [e7, t9]; exact hR
          refine lv_iconst (v := 0) F.1 F.2.1 d_M_apply_103 (by decide) ?_
          refine lv_istore_n F.1 F.2.1 d_M_apply_104 rfl hl (by decide) rfl (fun ls hl => ?_)
          replace hl : lv_has ls 4 [(3, .int 0), (2, .int b), (1, .int (S 16 2)), (0, .ref o)] := hl
          obtain ⟨u, hu0⟩ : ∃ u : Nat, u = 0 := ⟨0, rfl⟩
          have hlu : u ≤ 8 := by omega
          obtain ⟨n, hn9⟩ : ∃ n : Nat, 8 - u = n := ⟨_, rfl⟩
          replace hl : lv_has ls 4 [(3, .int (nI u)), (2, .int b), (1, .int (S 16 2)), (0, .ref o)] := by rw [hu0]; exact hl
          obtain ⟨X, hX⟩ : ∃ z9 : St, z9 = clrN S8 u := ⟨_, rfl⟩
          replace hR : RM cs h6 o ad X := by rw [hX, hu0, clrN_0]; exact hR
          clear hu0
          have hT0 : S8 16 0 = 3 := by rw [t9]; exact sp_s
          have hT3 : S8 16 3 = nI pT := by rw [t9]; exact (sp_j (by decide)).trans hp
          have hT5 : S8 16 5 = nI nt := by rw [t9]; exact (sp_j (by decide)).trans hT
          have hTz : ∀ j, j < 56 → S8 0 j = 0 ∨ S8 0 j = 1 := fun j hj => by rw [t9, sp_k (by decide)]; exact hbz j hj
          obtain ⟨hh, hhe⟩ : ∃ z9 : pw_H, z9 = h6 := ⟨_, rfl⟩
          rw [← hhe] at hP
          rw [← hhe] at hR
          clear hhe
          induction n generalizing ls u X hh H locs with
          | zero =>
            have hX0 : X 16 0 = 3 := by rw [hX, clrN_o]; exact hT0
            have hX3 : X 16 3 = nI pT := by rw [hX, clrN_o]; exact hT3
            have hX5 : X 16 5 = nI nt := by rw [hX, clrN_o]; exact hT5
            refine lv_iload_n F.1 F.2.1 d_M_apply_105 rfl (lv_at hl 0 rfl) ?_
            refine lv_bipush (v := 8) F.1 F.2.1 d_M_apply_106 (by decide) ?_
            refine lv_icmp_ge (tgt := 150) F.1 F.2.1 d_M_apply_108 (by decide) (fun c10 => ?_) (fun c10 => absurd (nI_le (a := 8) (b := u) (by omega) (by omega)) c10)
            refine lv_aload_n F.1 F.2.1 d_M_apply_150 rfl (lv_at hl 3 rfl) ?_
            refine lv_iconst (v := 0) F.1 F.2.1 d_M_apply_151 (by decide) ?_
            have f11 : hh o = some (.inr (7, [.int (X 16 0), .int (X 16 1), .ref (ad 0), .ref (ad 1), .ref (ad 2), .ref (ad 3), .ref (ad 4), .int (X 16 2), .int (X 16 3), .int (X 16 4), .int (X 16 5), .ref (ad 5), .ref (ad 6), .ref (ad 7), .ref (ad 8), .ref (ad 9), .ref (ad 10), .ref (ad 11), .ref (ad 12), .ref (ad 13), .ref (ad 14), .ref (ad 15)])) := hR.1
            refine pw_put F I_M ty_M k_M n_M hK.1 hP hS f11 rfl 7 (by decide) L_M_83 (fun _ z => z) rfl rfl rfl (Nat.le_of_ble_eq_true rfl) d_M_apply_152 (fun H locs hP hS => ?_)
            replace hP : pw D vwCl A (pu hh o (.inr (7, (mfs ad X).set (mpos 2) (.int 0)))) H := hP
            replace hR := hR.num (show 2 < 6 by decide) 0
            obtain ⟨h12, e13⟩ : ∃ z9 : pw_H, z9 = pu hh o (.inr (7, (mfs ad X).set (mpos 2) (.int 0))) := ⟨_, rfl⟩
            rw [← e13] at hP
            obtain ⟨S14, t15⟩ : ∃ z9 : St, z9 = sp X 16 2 0 := ⟨_, rfl⟩
            replace hR : RM cs h12 o ad S14 := by rw [e13, t15]; exact hR
            refine lv_aload_n F.1 F.2.1 d_M_apply_155 rfl (lv_at hl 3 rfl) ?_
            have f16 : h12 o = some (.inr (7, [.int (S14 16 0), .int (S14 16 1), .ref (ad 0), .ref (ad 1), .ref (ad 2), .ref (ad 3), .ref (ad 4), .int (S14 16 2), .int (S14 16 3), .int (S14 16 4), .int (S14 16 5), .ref (ad 5), .ref (ad 6), .ref (ad 7), .ref (ad 8), .ref (ad 9), .ref (ad 10), .ref (ad 11), .ref (ad 12), .ref (ad 13), .ref (ad 14), .ref (ad 15)])) := hR.1
            refine pw_get F I_M hK.1 hP f16 rfl 0 (by decide) L_M_63 (fun _ z => z) rfl d_M_apply_156 ?_
            refine W.eq (g2 := F0 m 159 ls [.int 3]) (by rw [show S14 16 0 = X 16 0 from by rw [t15]; exact sp_j (by decide), hX0]) ?_
            refine lv_if_le (tgt := 164) F.1 F.2.1 d_M_apply_159 (by decide) (fun c17 => absurd c17 (by decide)) (fun c17 => ?_)
            refine lv_iconst (v := 0) F.1 F.2.1 d_M_apply_162 (by decide) ?_
            exact pw_iret F hr hlk hP hA hK hS (by decide) (by decide) d_M_apply_163 (by have hth : thApply S = 3 := (by unfold thApply; rw [if_neg c3, if_neg (fun z9 => z9 (show mSame S from fun j hj => hb.elim (fun hb => hb.2 j (by rw [hnf, tn_nI (by omega)] at hj; omega)) (fun hb => absurd (hb.1.symm.trans c4) (by decide)))), if_pos (Or.inl (Int32.not_lt.mpr c5))]); unfold stApply rApply; rw [hth, if_neg (by decide), if_neg (by decide)]; rw [t15, hX, show u = 8 by omega, clrN_8, t9] at hR; exact ⟨hR, rfl⟩)
          | succ n ih =>
            have hX0 : X 16 0 = 3 := by rw [hX, clrN_o]; exact hT0
            have hX3 : X 16 3 = nI pT := by rw [hX, clrN_o]; exact hT3
            have hX5 : X 16 5 = nI nt := by rw [hX, clrN_o]; exact hT5
            refine lv_iload_n F.1 F.2.1 d_M_apply_105 rfl (lv_at hl 0 rfl) ?_
            refine lv_bipush (v := 8) F.1 F.2.1 d_M_apply_106 (by decide) ?_
            refine lv_icmp_ge (tgt := 150) F.1 F.2.1 d_M_apply_108 (by decide) (fun c18 => absurd c18 (nI_ge (a := u) (b := 8) (by omega) (by decide))) (fun c18 => ?_)
            refine lv_aload_n F.1 F.2.1 d_M_apply_111 rfl (lv_at hl 3 rfl) ?_
            have f19 : hh o = some (.inr (7, [.int (X 16 0), .int (X 16 1), .ref (ad 0), .ref (ad 1), .ref (ad 2), .ref (ad 3), .ref (ad 4), .int (X 16 2), .int (X 16 3), .int (X 16 4), .int (X 16 5), .ref (ad 5), .ref (ad 6), .ref (ad 7), .ref (ad 8), .ref (ad 9), .ref (ad 10), .ref (ad 11), .ref (ad 12), .ref (ad 13), .ref (ad 14), .ref (ad 15)])) := hR.1
            refine pw_get F I_M hK.1 hP f19 rfl 0 (by decide) L_M_63 (fun _ z => z) rfl d_M_apply_112 ?_
            refine W.eq (g2 := F0 m 115 ls [.int 3]) (by rw [hX0]) ?_
            refine lv_if_ne (tgt := 134) F.1 F.2.1 d_M_apply_115 (by decide) (fun c20 => ?_) (fun c20 => absurd c20 (by decide))
            refine lv_aload_n F.1 F.2.1 d_M_apply_134 rfl (lv_at hl 3 rfl) ?_
            refine pw_get F I_M hK.1 hP f19 rfl 2 (by decide) L_M_7 (fun _ z => z) rfl d_M_apply_135 ?_
            refine lv_bipush (v := 48) F.1 F.2.1 d_M_apply_138 (by decide) ?_
            refine lv_iload_n F.1 F.2.1 d_M_apply_140 rfl (lv_at hl 0 rfl) ?_
            refine lv_iadd F.1 F.2.1 d_M_apply_141 ?_
            refine W.eq (g2 := F0 m 142 ls [.int (nI (48 + u)), .ref (ad 0)]) (by rw [show (48 : Int32) = nI 48 from rfl, nI_add]) ?_
            refine lv_iconst (v := 0) F.1 F.2.1 d_M_apply_142 (by decide) ?_
            have f21 : hh (ad 0) = some (.inl (cs 1, 56, .inl (X 0))) := hR.2.1 0 (by decide)
            refine pw_zastN F hK.1 hP hS 1 f21 rfl (k := 48 + u) (by omega) (by decide) rfl d_M_apply_143 (fun H locs hP hS => ?_)
            replace hP : pw D vwCl A (pu hh (ad 0) (.inl (cs 1, 56, .inl (upd (X 0) (48 + u) 0)))) H := hP
            replace hR := hR.arr (show 0 < 16 by decide) (48 + u) 0
            obtain ⟨h22, e23⟩ : ∃ z9 : pw_H, z9 = pu hh (ad 0) (.inl (cs 1, 56, .inl (upd (X 0) (48 + u) 0))) := ⟨_, rfl⟩
            rw [← e23] at hP
            obtain ⟨S24, t25⟩ : ∃ z9 : St, z9 = sp X 0 (48 + u) 0 := ⟨_, rfl⟩
            replace hR : RM cs h22 o ad S24 := by rw [e23, t25]; exact hR
            refine lv_iinc (k := 0) (v := nI (u + 1)) F.1 F.2.1 d_M_apply_144 hl rfl (by rw [show Int32.ofInt 1 = nI 1 from rfl, nI_add]) (by decide) rfl (fun ls hl => ?_)
            replace hl : lv_has ls 4 [(3, .int (nI (u + 1))), (2, .int b), (1, .int (S 16 2)), (0, .ref o)] := hl
            refine lv_goto (tgt := 105) F.1 F.2.1 d_M_apply_147 (by decide) ?_
            have hX9 : S24 = clrN S8 (u + 1) := by rw [t25, hX]; exact clrN_s
            exact ih (ls := ls) (u := u + 1) (X := S24) (hh := h22) (H := H) (locs := locs) (by first | exact hl | exact hP | exact hS | exact hR | exact hX9 | omega) (by first | exact hl | exact hP | exact hS | exact hR | exact hX9 | omega) (by first | exact hl | exact hP | exact hS | exact hR | exact hX9 | omega) (by first | exact hl | exact hP | exact hS | exact hR | exact hX9 | omega) (by first | exact hl | exact hP | exact hS | exact hR | exact hX9 | omega) (by first | exact hl | exact hP | exact hS | exact hR | exact hX9 | omega) (by first | exact hl | exact hP | exact hS | exact hR | exact hX9 | omega)
        · skip
          refine lv_aload_n F.1 F.2.1 d_M_apply_87 rfl (lv_at hl 3 rfl) ?_
          refine pw_get F I_M hK.1 hP f1 rfl 8 (by decide) L_M_69 (fun _ z => z) rfl d_M_apply_88 ?_
          refine W.eq (g2 := F0 m 91 ls [.int (nI pT), .ref o]) (by rw [hp]) ?_
          refine lv_iconst (v := 5) F.1 F.2.1 d_M_apply_91 (by decide) ?_
          refine lv_icmp_ne (tgt := 99) F.1 F.2.1 d_M_apply_92 (by decide) (fun c26 => ?_) (fun c26 => ?_)
          · skip
            refine lv_iconst (v := 0) F.1 F.2.1 d_M_apply_99 (by decide) ?_
            refine pw_put F I_M ty_M k_M n_M hK.1 hP hS f1 rfl 0 (by decide) L_M_63 (fun _ z => z) rfl rfl rfl (Nat.le_of_ble_eq_true rfl) d_M_apply_100 (fun H locs hP hS => ?_)
            replace hP : pw D vwCl A (pu h o (.inr (7, (mfs ad S).set (mpos 0) (.int 0)))) H := hP
            replace hR := hR.num (show 0 < 6 by decide) 0
            obtain ⟨h27, e28⟩ : ∃ z9 : pw_H, z9 = pu h o (.inr (7, (mfs ad S).set (mpos 0) (.int 0))) := ⟨_, rfl⟩
            rw [← e28] at hP
            obtain ⟨S29, t30⟩ : ∃ z9 : St, z9 = sp S 16 0 0 := ⟨_, rfl⟩
            replace hR : RM cs h27 o ad S29 := by rw [e28, t30]; exact hR
            refine lv_iconst (v := 0) F.1 F.2.1 d_M_apply_103 (by decide) ?_
            refine lv_istore_n F.1 F.2.1 d_M_apply_104 rfl hl (by decide) rfl (fun ls hl => ?_)
            replace hl : lv_has ls 4 [(3, .int 0), (2, .int b), (1, .int (S 16 2)), (0, .ref o)] := hl
            have hlt5 : pT < 5 := by
              rcases Nat.lt_or_ge pT 5 with h9 | h9
              · exact h9
              · exact absurd (show nI pT = 5 by rw [show pT = 5 by omega]; rfl) c26
            obtain ⟨u, hu0⟩ : ∃ u : Nat, u = 0 := ⟨0, rfl⟩
            have hlu : u ≤ 8 := by omega
            obtain ⟨n, hn9⟩ : ∃ n : Nat, 8 - u = n := ⟨_, rfl⟩
            replace hl : lv_has ls 4 [(3, .int (nI u)), (2, .int b), (1, .int (S 16 2)), (0, .ref o)] := by rw [hu0]; exact hl
            obtain ⟨X, hX⟩ : ∃ z9 : St, z9 = movN S29 (pT + 1) u := ⟨_, rfl⟩
            replace hR : RM cs h27 o ad X := by rw [hX, hu0, movN_0]; exact hR
            clear hu0
            have hT0 : S29 16 0 = 0 := by rw [t30]; exact sp_s
            have hT3 : S29 16 3 = nI pT := by rw [t30]; exact (sp_j (by decide)).trans hp
            have hT5 : S29 16 5 = nI nt := by rw [t30]; exact (sp_j (by decide)).trans hT
            have hTz : ∀ j, j < 56 → S29 0 j = 0 ∨ S29 0 j = 1 := fun j hj => by rw [t30, sp_k (by decide)]; exact hbz j hj
            obtain ⟨hh, hhe⟩ : ∃ z9 : pw_H, z9 = h27 := ⟨_, rfl⟩
            rw [← hhe] at hP
            rw [← hhe] at hR
            clear hhe
            induction n generalizing ls u X hh H locs with
            | zero =>
              have hX0 : X 16 0 = 0 := by rw [hX, movN_o]; exact hT0
              have hX3 : X 16 3 = nI pT := by rw [hX, movN_o]; exact hT3
              have hX5 : X 16 5 = nI nt := by rw [hX, movN_o]; exact hT5
              refine lv_iload_n F.1 F.2.1 d_M_apply_105 rfl (lv_at hl 0 rfl) ?_
              refine lv_bipush (v := 8) F.1 F.2.1 d_M_apply_106 (by decide) ?_
              refine lv_icmp_ge (tgt := 150) F.1 F.2.1 d_M_apply_108 (by decide) (fun c31 => ?_) (fun c31 => absurd (nI_le (a := 8) (b := u) (by omega) (by omega)) c31)
              refine lv_aload_n F.1 F.2.1 d_M_apply_150 rfl (lv_at hl 3 rfl) ?_
              refine lv_iconst (v := 0) F.1 F.2.1 d_M_apply_151 (by decide) ?_
              have f32 : hh o = some (.inr (7, [.int (X 16 0), .int (X 16 1), .ref (ad 0), .ref (ad 1), .ref (ad 2), .ref (ad 3), .ref (ad 4), .int (X 16 2), .int (X 16 3), .int (X 16 4), .int (X 16 5), .ref (ad 5), .ref (ad 6), .ref (ad 7), .ref (ad 8), .ref (ad 9), .ref (ad 10), .ref (ad 11), .ref (ad 12), .ref (ad 13), .ref (ad 14), .ref (ad 15)])) := hR.1
              refine pw_put F I_M ty_M k_M n_M hK.1 hP hS f32 rfl 7 (by decide) L_M_83 (fun _ z => z) rfl rfl rfl (Nat.le_of_ble_eq_true rfl) d_M_apply_152 (fun H locs hP hS => ?_)
              replace hP : pw D vwCl A (pu hh o (.inr (7, (mfs ad X).set (mpos 2) (.int 0)))) H := hP
              replace hR := hR.num (show 2 < 6 by decide) 0
              obtain ⟨h33, e34⟩ : ∃ z9 : pw_H, z9 = pu hh o (.inr (7, (mfs ad X).set (mpos 2) (.int 0))) := ⟨_, rfl⟩
              rw [← e34] at hP
              obtain ⟨S35, t36⟩ : ∃ z9 : St, z9 = sp X 16 2 0 := ⟨_, rfl⟩
              replace hR : RM cs h33 o ad S35 := by rw [e34, t36]; exact hR
              refine lv_aload_n F.1 F.2.1 d_M_apply_155 rfl (lv_at hl 3 rfl) ?_
              have f37 : h33 o = some (.inr (7, [.int (S35 16 0), .int (S35 16 1), .ref (ad 0), .ref (ad 1), .ref (ad 2), .ref (ad 3), .ref (ad 4), .int (S35 16 2), .int (S35 16 3), .int (S35 16 4), .int (S35 16 5), .ref (ad 5), .ref (ad 6), .ref (ad 7), .ref (ad 8), .ref (ad 9), .ref (ad 10), .ref (ad 11), .ref (ad 12), .ref (ad 13), .ref (ad 14), .ref (ad 15)])) := hR.1
              refine pw_get F I_M hK.1 hP f37 rfl 0 (by decide) L_M_63 (fun _ z => z) rfl d_M_apply_156 ?_
              refine W.eq (g2 := F0 m 159 ls [.int 0]) (by rw [show S35 16 0 = X 16 0 from by rw [t36]; exact sp_j (by decide), hX0]) ?_
              refine lv_if_le (tgt := 164) F.1 F.2.1 d_M_apply_159 (by decide) (fun c38 => ?_) (fun c38 => absurd (by decide) c38)
              refine lv_aload_n F.1 F.2.1 d_M_apply_164 rfl (lv_at hl 3 rfl) ?_
              refine lv_dup F.1 F.2.1 d_M_apply_165 rfl ?_
              refine pw_get F I_M hK.1 hP f37 rfl 8 (by decide) L_M_69 (fun _ z => z) rfl d_M_apply_166 ?_
              refine W.eq (g2 := F0 m 169 ls [.int (nI pT), .ref o]) (by rw [show S35 16 3 = X 16 3 from by rw [t36]; exact sp_j (by decide), hX3]) ?_
              refine lv_iconst (v := 1) F.1 F.2.1 d_M_apply_169 (by decide) ?_
              refine lv_iadd F.1 F.2.1 d_M_apply_170 ?_
              refine W.eq (g2 := F0 m 171 ls [.int (nI (pT + 1)), .ref o]) (by rw [show (1 : Int32) = nI 1 from rfl, nI_add]) ?_
              refine pw_put F I_M ty_M k_M n_M hK.1 hP hS f37 rfl 8 (by decide) L_M_69 (fun _ z => z) rfl rfl rfl (Nat.le_of_ble_eq_true rfl) d_M_apply_171 (fun H locs hP hS => ?_)
              replace hP : pw D vwCl A (pu h33 o (.inr (7, (mfs ad S35).set (mpos 3) (.int (nI (pT + 1)))))) H := hP
              replace hR := hR.num (show 3 < 6 by decide) (nI (pT + 1))
              obtain ⟨h39, e40⟩ : ∃ z9 : pw_H, z9 = pu h33 o (.inr (7, (mfs ad S35).set (mpos 3) (.int (nI (pT + 1))))) := ⟨_, rfl⟩
              rw [← e40] at hP
              obtain ⟨S41, t42⟩ : ∃ z9 : St, z9 = sp S35 16 3 (nI (pT + 1)) := ⟨_, rfl⟩
              replace hR : RM cs h39 o ad S41 := by rw [e40, t42]; exact hR
              refine lv_aload_n F.1 F.2.1 d_M_apply_174 rfl (lv_at hl 3 rfl) ?_
              refine lv_aload_n F.1 F.2.1 d_M_apply_175 rfl (lv_at hl 3 rfl) ?_
              have f43 : h39 o = some (.inr (7, [.int (S41 16 0), .int (S41 16 1), .ref (ad 0), .ref (ad 1), .ref (ad 2), .ref (ad 3), .ref (ad 4), .int (S41 16 2), .int (S41 16 3), .int (S41 16 4), .int (S41 16 5), .ref (ad 5), .ref (ad 6), .ref (ad 7), .ref (ad 8), .ref (ad 9), .ref (ad 10), .ref (ad 11), .ref (ad 12), .ref (ad 13), .ref (ad 14), .ref (ad 15)])) := hR.1
              refine pw_get F I_M hK.1 hP f43 rfl 8 (by decide) L_M_69 (fun _ z => z) rfl d_M_apply_176 ?_
              refine W.eq (g2 := F0 m 179 ls [.int (nI (pT + 1)), .ref o]) (by rw [show S41 16 3 = nI (pT + 1) from by rw [t42]; exact sp_s]) ?_
              refine pw_put F I_M ty_M k_M n_M hK.1 hP hS f43 rfl 9 (by decide) L_M_26 (fun _ z => z) rfl rfl rfl (Nat.le_of_ble_eq_true rfl) d_M_apply_179 (fun H locs hP hS => ?_)
              replace hP : pw D vwCl A (pu h39 o (.inr (7, (mfs ad S41).set (mpos 4) (.int (nI (pT + 1)))))) H := hP
              replace hR := hR.num (show 4 < 6 by decide) (nI (pT + 1))
              obtain ⟨h44, e45⟩ : ∃ z9 : pw_H, z9 = pu h39 o (.inr (7, (mfs ad S41).set (mpos 4) (.int (nI (pT + 1))))) := ⟨_, rfl⟩
              rw [← e45] at hP
              obtain ⟨S46, t47⟩ : ∃ z9 : St, z9 = sp S41 16 4 (nI (pT + 1)) := ⟨_, rfl⟩
              replace hR : RM cs h44 o ad S46 := by rw [e45, t47]; exact hR
              refine lv_aload_n F.1 F.2.1 d_M_apply_182 rfl (lv_at hl 3 rfl) ?_
              have f48 : h44 o = some (.inr (7, [.int (S46 16 0), .int (S46 16 1), .ref (ad 0), .ref (ad 1), .ref (ad 2), .ref (ad 3), .ref (ad 4), .int (S46 16 2), .int (S46 16 3), .int (S46 16 4), .int (S46 16 5), .ref (ad 5), .ref (ad 6), .ref (ad 7), .ref (ad 8), .ref (ad 9), .ref (ad 10), .ref (ad 11), .ref (ad 12), .ref (ad 13), .ref (ad 14), .ref (ad 15)])) := hR.1
              refine pw_get F I_M hK.1 hP f48 rfl 8 (by decide) L_M_69 (fun _ z => z) rfl d_M_apply_183 ?_
              refine W.eq (g2 := F0 m 186 ls [.int (nI (pT + 1))]) (by rw [show S46 16 3 = S41 16 3 from by rw [t47]; exact sp_j (by decide), show S41 16 3 = nI (pT + 1) from by rw [t42]; exact sp_s]) ?_
              refine lv_istore_n F.1 F.2.1 d_M_apply_186 rfl hl (by decide) rfl (fun ls hl => ?_)
              replace hl : lv_has ls 4 [(3, .int (nI (pT + 1))), (2, .int b), (1, .int (S 16 2)), (0, .ref o)] := hl
              refine lv_aload_n F.1 F.2.1 d_M_apply_187 rfl (lv_at hl 3 rfl) ?_
              refine pw_cv (pr_V F (c_M_settle l D cs A h44 o ad S46 hR nt hnt (by rw [t47, sp_j (by decide), t42, sp_j (by decide), t36, sp_j (by decide)]; exact hX5)) X_M_90 rfl rfl ⟨by decide, by decide⟩ hP hA hK hS f48 rfl rfl rfl hl.1 rfl (Nat.le_of_ble_eq_true rfl) d_M_apply_188 ⟨by decide, by decide⟩) hS (fun h49 H locs hq hP hS => ?_)
              obtain ⟨S50, t51⟩ : ∃ z9 : St, z9 = mSettle S46 := ⟨_, rfl⟩
              have hR : RM cs h49 o ad S50 := by rw [t51]; exact hq
              refine lv_iload_n F.1 F.2.1 d_M_apply_191 rfl (lv_at hl 0 rfl) ?_
              exact pw_iret F hr hlk hP hA hK hS (by decide) (by decide) d_M_apply_192 (by have hth : thApply S = 0 := (by unfold thApply; rw [if_neg c3, if_neg (fun z9 => z9 (show mSame S from fun j hj => hb.elim (fun hb => hb.2 j (by rw [hnf, tn_nI (by omega)] at hj; omega)) (fun hb => absurd (hb.1.symm.trans c4) (by decide)))), if_neg (fun z9 => z9.elim (fun z8 => z8 (Int32.not_le.mp c5)) (fun z8 => c26 (hp.symm.trans z8)))]); unfold stApply rApply; rw [if_pos hth, if_pos hth, hp, nI_1, tn_nI (by omega)]; rw [t51, t47, t42, t36, hX, show u = 8 by omega, movN_8, t30] at hR; exact ⟨hR, rfl⟩)
            | succ n ih =>
              have hX0 : X 16 0 = 0 := by rw [hX, movN_o]; exact hT0
              have hX3 : X 16 3 = nI pT := by rw [hX, movN_o]; exact hT3
              have hX5 : X 16 5 = nI nt := by rw [hX, movN_o]; exact hT5
              have hXz : ∀ j, j < 56 → X 0 j = 0 ∨ X 0 j = 1 := fun j hj => by rw [hX]; exact movN_h (by omega) hlu hTz hj
              refine lv_iload_n F.1 F.2.1 d_M_apply_105 rfl (lv_at hl 0 rfl) ?_
              refine lv_bipush (v := 8) F.1 F.2.1 d_M_apply_106 (by decide) ?_
              refine lv_icmp_ge (tgt := 150) F.1 F.2.1 d_M_apply_108 (by decide) (fun c52 => absurd c52 (nI_ge (a := u) (b := 8) (by omega) (by decide))) (fun c52 => ?_)
              refine lv_aload_n F.1 F.2.1 d_M_apply_111 rfl (lv_at hl 3 rfl) ?_
              have f53 : hh o = some (.inr (7, [.int (X 16 0), .int (X 16 1), .ref (ad 0), .ref (ad 1), .ref (ad 2), .ref (ad 3), .ref (ad 4), .int (X 16 2), .int (X 16 3), .int (X 16 4), .int (X 16 5), .ref (ad 5), .ref (ad 6), .ref (ad 7), .ref (ad 8), .ref (ad 9), .ref (ad 10), .ref (ad 11), .ref (ad 12), .ref (ad 13), .ref (ad 14), .ref (ad 15)])) := hR.1
              refine pw_get F I_M hK.1 hP f53 rfl 0 (by decide) L_M_63 (fun _ z => z) rfl d_M_apply_112 ?_
              refine W.eq (g2 := F0 m 115 ls [.int 0]) (by rw [hX0]) ?_
              refine lv_if_ne (tgt := 134) F.1 F.2.1 d_M_apply_115 (by decide) (fun c54 => absurd (by decide) c54) (fun c54 => ?_)
              refine lv_aload_n F.1 F.2.1 d_M_apply_118 rfl (lv_at hl 3 rfl) ?_
              refine lv_iload_n F.1 F.2.1 d_M_apply_119 rfl (lv_at hl 0 rfl) ?_
              refine lv_bipush (v := 8) F.1 F.2.1 d_M_apply_120 (by decide) ?_
              refine lv_aload_n F.1 F.2.1 d_M_apply_122 rfl (lv_at hl 3 rfl) ?_
              refine pw_get F I_M hK.1 hP f53 rfl 8 (by decide) L_M_69 (fun _ z => z) rfl d_M_apply_123 ?_
              refine W.eq (g2 := F0 m 126 ls [.int (nI pT), .int 8, .int (nI u), .ref o]) (by rw [hX3]) ?_
              refine lv_iconst (v := 1) F.1 F.2.1 d_M_apply_126 (by decide) ?_
              refine lv_iadd F.1 F.2.1 d_M_apply_127 ?_
              refine W.eq (g2 := F0 m 128 ls [.int (nI (pT + 1)), .int 8, .int (nI u), .ref o]) (by rw [show (1 : Int32) = nI 1 from rfl, nI_add]) ?_
              refine lv_imul F.1 F.2.1 d_M_apply_128 ?_
              refine W.eq (g2 := F0 m 129 ls [.int (nI (8 * (pT + 1))), .int (nI u), .ref o]) (by rw [show (8 : Int32) = nI 8 from rfl, pk_mul]) ?_
              refine lv_iload_n F.1 F.2.1 d_M_apply_129 rfl (lv_at hl 0 rfl) ?_
              refine lv_iadd F.1 F.2.1 d_M_apply_130 ?_
              refine W.eq (g2 := F0 m 131 ls [.int (nI ((8 * (pT + 1)) + u)), .int (nI u), .ref o]) (by rw [nI_add]) ?_
              refine pw_cv (pr_V F (c_M_takeBody l D cs A hh o ad X hR hXz u (8 * (pT + 1) + u) (by omega) (by omega)) X_M_86 rfl rfl ⟨by decide, by decide⟩ hP hA hK hS f53 rfl rfl rfl hl.1 rfl (Nat.le_of_ble_eq_true rfl) d_M_apply_131 ⟨by decide, by decide⟩) hS (fun h55 H locs hq hP hS => ?_)
              obtain ⟨S56, t57⟩ : ∃ z9 : St, z9 = takeN X u (8 * (pT + 1) + u) 12 := ⟨_, rfl⟩
              have hR : RM cs h55 o ad S56 := by rw [t57]; exact hq
              refine lv_aload_n F.1 F.2.1 d_M_apply_134 rfl (lv_at hl 3 rfl) ?_
              have f58 : h55 o = some (.inr (7, [.int (S56 16 0), .int (S56 16 1), .ref (ad 0), .ref (ad 1), .ref (ad 2), .ref (ad 3), .ref (ad 4), .int (S56 16 2), .int (S56 16 3), .int (S56 16 4), .int (S56 16 5), .ref (ad 5), .ref (ad 6), .ref (ad 7), .ref (ad 8), .ref (ad 9), .ref (ad 10), .ref (ad 11), .ref (ad 12), .ref (ad 13), .ref (ad 14), .ref (ad 15)])) := hR.1
              refine pw_get F I_M hK.1 hP f58 rfl 2 (by decide) L_M_7 (fun _ z => z) rfl d_M_apply_135 ?_
              refine lv_bipush (v := 48) F.1 F.2.1 d_M_apply_138 (by decide) ?_
              refine lv_iload_n F.1 F.2.1 d_M_apply_140 rfl (lv_at hl 0 rfl) ?_
              refine lv_iadd F.1 F.2.1 d_M_apply_141 ?_
              refine W.eq (g2 := F0 m 142 ls [.int (nI (48 + u)), .ref (ad 0)]) (by rw [show (48 : Int32) = nI 48 from rfl, nI_add]) ?_
              refine lv_iconst (v := 0) F.1 F.2.1 d_M_apply_142 (by decide) ?_
              have f59 : h55 (ad 0) = some (.inl (cs 1, 56, .inl (S56 0))) := hR.2.1 0 (by decide)
              refine pw_zastN F hK.1 hP hS 1 f59 rfl (k := 48 + u) (by omega) (by decide) rfl d_M_apply_143 (fun H locs hP hS => ?_)
              replace hP : pw D vwCl A (pu h55 (ad 0) (.inl (cs 1, 56, .inl (upd (S56 0) (48 + u) 0)))) H := hP
              replace hR := hR.arr (show 0 < 16 by decide) (48 + u) 0
              obtain ⟨h60, e61⟩ : ∃ z9 : pw_H, z9 = pu h55 (ad 0) (.inl (cs 1, 56, .inl (upd (S56 0) (48 + u) 0))) := ⟨_, rfl⟩
              rw [← e61] at hP
              obtain ⟨S62, t63⟩ : ∃ z9 : St, z9 = sp S56 0 (48 + u) 0 := ⟨_, rfl⟩
              replace hR : RM cs h60 o ad S62 := by rw [e61, t63]; exact hR
              refine lv_iinc (k := 0) (v := nI (u + 1)) F.1 F.2.1 d_M_apply_144 hl rfl (by rw [show Int32.ofInt 1 = nI 1 from rfl, nI_add]) (by decide) rfl (fun ls hl => ?_)
              replace hl : lv_has ls 4 [(3, .int (nI (u + 1))), (2, .int b), (1, .int (S 16 2)), (0, .ref o)] := hl
              refine lv_goto (tgt := 105) F.1 F.2.1 d_M_apply_147 (by decide) ?_
              have hX9 : S62 = movN S29 (pT + 1) (u + 1) := by rw [t63, t57, hX]; exact movN_s (by omega) (by omega)
              exact ih (ls := ls) (u := u + 1) (X := S62) (hh := h60) (H := H) (locs := locs) (by first | exact hl | exact hP | exact hS | exact hR | exact hX9 | omega) (by first | exact hl | exact hP | exact hS | exact hR | exact hX9 | omega) (by first | exact hl | exact hP | exact hS | exact hR | exact hX9 | omega) (by first | exact hl | exact hP | exact hS | exact hR | exact hX9 | omega) (by first | exact hl | exact hP | exact hS | exact hR | exact hX9 | omega) (by first | exact hl | exact hP | exact hS | exact hR | exact hX9 | omega) (by first | exact hl | exact hP | exact hS | exact hR | exact hX9 | omega)
          · skip
            refine lv_iconst (v := 3) F.1 F.2.1 d_M_apply_95 (by decide) ?_
            refine lv_goto (tgt := 100) F.1 F.2.1 d_M_apply_96 (by decide) ?_
            refine pw_put F I_M ty_M k_M n_M hK.1 hP hS f1 rfl 0 (by decide) L_M_63 (fun _ z => z) rfl rfl rfl (Nat.le_of_ble_eq_true rfl) d_M_apply_100 (fun H locs hP hS => ?_)
            replace hP : pw D vwCl A (pu h o (.inr (7, (mfs ad S).set (mpos 0) (.int 3)))) H := hP
            replace hR := hR.num (show 0 < 6 by decide) 3
            obtain ⟨h64, e65⟩ : ∃ z9 : pw_H, z9 = pu h o (.inr (7, (mfs ad S).set (mpos 0) (.int 3))) := ⟨_, rfl⟩
            rw [← e65] at hP
            obtain ⟨S66, t67⟩ : ∃ z9 : St, z9 = sp S 16 0 3 := ⟨_, rfl⟩
            replace hR : RM cs h64 o ad S66 := by rw [e65, t67]; exact hR
            refine lv_iconst (v := 0) F.1 F.2.1 d_M_apply_103 (by decide) ?_
            refine lv_istore_n F.1 F.2.1 d_M_apply_104 rfl hl (by decide) rfl (fun ls hl => ?_)
            replace hl : lv_has ls 4 [(3, .int 0), (2, .int b), (1, .int (S 16 2)), (0, .ref o)] := hl
            obtain ⟨u, hu0⟩ : ∃ u : Nat, u = 0 := ⟨0, rfl⟩
            have hlu : u ≤ 8 := by omega
            obtain ⟨n, hn9⟩ : ∃ n : Nat, 8 - u = n := ⟨_, rfl⟩
            replace hl : lv_has ls 4 [(3, .int (nI u)), (2, .int b), (1, .int (S 16 2)), (0, .ref o)] := by rw [hu0]; exact hl
            obtain ⟨X, hX⟩ : ∃ z9 : St, z9 = clrN S66 u := ⟨_, rfl⟩
            replace hR : RM cs h64 o ad X := by rw [hX, hu0, clrN_0]; exact hR
            clear hu0
            have hT0 : S66 16 0 = 3 := by rw [t67]; exact sp_s
            have hT3 : S66 16 3 = nI pT := by rw [t67]; exact (sp_j (by decide)).trans hp
            have hT5 : S66 16 5 = nI nt := by rw [t67]; exact (sp_j (by decide)).trans hT
            have hTz : ∀ j, j < 56 → S66 0 j = 0 ∨ S66 0 j = 1 := fun j hj => by rw [t67, sp_k (by decide)]; exact hbz j hj
            obtain ⟨hh, hhe⟩ : ∃ z9 : pw_H, z9 = h64 := ⟨_, rfl⟩
            rw [← hhe] at hP
            rw [← hhe] at hR
            clear hhe
            induction n generalizing ls u X hh H locs with
            | zero =>
              have hX0 : X 16 0 = 3 := by rw [hX, clrN_o]; exact hT0
              have hX3 : X 16 3 = nI pT := by rw [hX, clrN_o]; exact hT3
              have hX5 : X 16 5 = nI nt := by rw [hX, clrN_o]; exact hT5
              refine lv_iload_n F.1 F.2.1 d_M_apply_105 rfl (lv_at hl 0 rfl) ?_
              refine lv_bipush (v := 8) F.1 F.2.1 d_M_apply_106 (by decide) ?_
              refine lv_icmp_ge (tgt := 150) F.1 F.2.1 d_M_apply_108 (by decide) (fun c68 => ?_) (fun c68 => absurd (nI_le (a := 8) (b := u) (by omega) (by omega)) c68)
              refine lv_aload_n F.1 F.2.1 d_M_apply_150 rfl (lv_at hl 3 rfl) ?_
              refine lv_iconst (v := 0) F.1 F.2.1 d_M_apply_151 (by decide) ?_
              have f69 : hh o = some (.inr (7, [.int (X 16 0), .int (X 16 1), .ref (ad 0), .ref (ad 1), .ref (ad 2), .ref (ad 3), .ref (ad 4), .int (X 16 2), .int (X 16 3), .int (X 16 4), .int (X 16 5), .ref (ad 5), .ref (ad 6), .ref (ad 7), .ref (ad 8), .ref (ad 9), .ref (ad 10), .ref (ad 11), .ref (ad 12), .ref (ad 13), .ref (ad 14), .ref (ad 15)])) := hR.1
              refine pw_put F I_M ty_M k_M n_M hK.1 hP hS f69 rfl 7 (by decide) L_M_83 (fun _ z => z) rfl rfl rfl (Nat.le_of_ble_eq_true rfl) d_M_apply_152 (fun H locs hP hS => ?_)
              replace hP : pw D vwCl A (pu hh o (.inr (7, (mfs ad X).set (mpos 2) (.int 0)))) H := hP
              replace hR := hR.num (show 2 < 6 by decide) 0
              obtain ⟨h70, e71⟩ : ∃ z9 : pw_H, z9 = pu hh o (.inr (7, (mfs ad X).set (mpos 2) (.int 0))) := ⟨_, rfl⟩
              rw [← e71] at hP
              obtain ⟨S72, t73⟩ : ∃ z9 : St, z9 = sp X 16 2 0 := ⟨_, rfl⟩
              replace hR : RM cs h70 o ad S72 := by rw [e71, t73]; exact hR
              refine lv_aload_n F.1 F.2.1 d_M_apply_155 rfl (lv_at hl 3 rfl) ?_
              have f74 : h70 o = some (.inr (7, [.int (S72 16 0), .int (S72 16 1), .ref (ad 0), .ref (ad 1), .ref (ad 2), .ref (ad 3), .ref (ad 4), .int (S72 16 2), .int (S72 16 3), .int (S72 16 4), .int (S72 16 5), .ref (ad 5), .ref (ad 6), .ref (ad 7), .ref (ad 8), .ref (ad 9), .ref (ad 10), .ref (ad 11), .ref (ad 12), .ref (ad 13), .ref (ad 14), .ref (ad 15)])) := hR.1
              refine pw_get F I_M hK.1 hP f74 rfl 0 (by decide) L_M_63 (fun _ z => z) rfl d_M_apply_156 ?_
              refine W.eq (g2 := F0 m 159 ls [.int 3]) (by rw [show S72 16 0 = X 16 0 from by rw [t73]; exact sp_j (by decide), hX0]) ?_
              refine lv_if_le (tgt := 164) F.1 F.2.1 d_M_apply_159 (by decide) (fun c75 => absurd c75 (by decide)) (fun c75 => ?_)
              refine lv_iconst (v := 0) F.1 F.2.1 d_M_apply_162 (by decide) ?_
              exact pw_iret F hr hlk hP hA hK hS (by decide) (by decide) d_M_apply_163 (by have hth : thApply S = 3 := (by unfold thApply; rw [if_neg c3, if_neg (fun z9 => z9 (show mSame S from fun j hj => hb.elim (fun hb => hb.2 j (by rw [hnf, tn_nI (by omega)] at hj; omega)) (fun hb => absurd (hb.1.symm.trans c4) (by decide)))), if_pos (Or.inr (hp.trans c26))]); unfold stApply rApply; rw [hth, if_neg (by decide), if_neg (by decide)]; rw [t73, hX, show u = 8 by omega, clrN_8, t67] at hR; exact ⟨hR, rfl⟩)
            | succ n ih =>
              have hX0 : X 16 0 = 3 := by rw [hX, clrN_o]; exact hT0
              have hX3 : X 16 3 = nI pT := by rw [hX, clrN_o]; exact hT3
              have hX5 : X 16 5 = nI nt := by rw [hX, clrN_o]; exact hT5
              refine lv_iload_n F.1 F.2.1 d_M_apply_105 rfl (lv_at hl 0 rfl) ?_
              refine lv_bipush (v := 8) F.1 F.2.1 d_M_apply_106 (by decide) ?_
              refine lv_icmp_ge (tgt := 150) F.1 F.2.1 d_M_apply_108 (by decide) (fun c76 => absurd c76 (nI_ge (a := u) (b := 8) (by omega) (by decide))) (fun c76 => ?_)
              refine lv_aload_n F.1 F.2.1 d_M_apply_111 rfl (lv_at hl 3 rfl) ?_
              have f77 : hh o = some (.inr (7, [.int (X 16 0), .int (X 16 1), .ref (ad 0), .ref (ad 1), .ref (ad 2), .ref (ad 3), .ref (ad 4), .int (X 16 2), .int (X 16 3), .int (X 16 4), .int (X 16 5), .ref (ad 5), .ref (ad 6), .ref (ad 7), .ref (ad 8), .ref (ad 9), .ref (ad 10), .ref (ad 11), .ref (ad 12), .ref (ad 13), .ref (ad 14), .ref (ad 15)])) := hR.1
              refine pw_get F I_M hK.1 hP f77 rfl 0 (by decide) L_M_63 (fun _ z => z) rfl d_M_apply_112 ?_
              refine W.eq (g2 := F0 m 115 ls [.int 3]) (by rw [hX0]) ?_
              refine lv_if_ne (tgt := 134) F.1 F.2.1 d_M_apply_115 (by decide) (fun c78 => ?_) (fun c78 => absurd c78 (by decide))
              refine lv_aload_n F.1 F.2.1 d_M_apply_134 rfl (lv_at hl 3 rfl) ?_
              refine pw_get F I_M hK.1 hP f77 rfl 2 (by decide) L_M_7 (fun _ z => z) rfl d_M_apply_135 ?_
              refine lv_bipush (v := 48) F.1 F.2.1 d_M_apply_138 (by decide) ?_
              refine lv_iload_n F.1 F.2.1 d_M_apply_140 rfl (lv_at hl 0 rfl) ?_
              refine lv_iadd F.1 F.2.1 d_M_apply_141 ?_
              refine W.eq (g2 := F0 m 142 ls [.int (nI (48 + u)), .ref (ad 0)]) (by rw [show (48 : Int32) = nI 48 from rfl, nI_add]) ?_
              refine lv_iconst (v := 0) F.1 F.2.1 d_M_apply_142 (by decide) ?_
              have f79 : hh (ad 0) = some (.inl (cs 1, 56, .inl (X 0))) := hR.2.1 0 (by decide)
              refine pw_zastN F hK.1 hP hS 1 f79 rfl (k := 48 + u) (by omega) (by decide) rfl d_M_apply_143 (fun H locs hP hS => ?_)
              replace hP : pw D vwCl A (pu hh (ad 0) (.inl (cs 1, 56, .inl (upd (X 0) (48 + u) 0)))) H := hP
              replace hR := hR.arr (show 0 < 16 by decide) (48 + u) 0
              obtain ⟨h80, e81⟩ : ∃ z9 : pw_H, z9 = pu hh (ad 0) (.inl (cs 1, 56, .inl (upd (X 0) (48 + u) 0))) := ⟨_, rfl⟩
              rw [← e81] at hP
              obtain ⟨S82, t83⟩ : ∃ z9 : St, z9 = sp X 0 (48 + u) 0 := ⟨_, rfl⟩
              replace hR : RM cs h80 o ad S82 := by rw [e81, t83]; exact hR
              refine lv_iinc (k := 0) (v := nI (u + 1)) F.1 F.2.1 d_M_apply_144 hl rfl (by rw [show Int32.ofInt 1 = nI 1 from rfl, nI_add]) (by decide) rfl (fun ls hl => ?_)
              replace hl : lv_has ls 4 [(3, .int (nI (u + 1))), (2, .int b), (1, .int (S 16 2)), (0, .ref o)] := hl
              refine lv_goto (tgt := 105) F.1 F.2.1 d_M_apply_147 (by decide) ?_
              have hX9 : S82 = clrN S66 (u + 1) := by rw [t83, hX]; exact clrN_s
              exact ih (ls := ls) (u := u + 1) (X := S82) (hh := h80) (H := H) (locs := locs) (by first | exact hl | exact hP | exact hS | exact hR | exact hX9 | omega) (by first | exact hl | exact hP | exact hS | exact hR | exact hX9 | omega) (by first | exact hl | exact hP | exact hS | exact hR | exact hX9 | omega) (by first | exact hl | exact hP | exact hS | exact hR | exact hX9 | omega) (by first | exact hl | exact hP | exact hS | exact hR | exact hX9 | omega) (by first | exact hl | exact hP | exact hS | exact hR | exact hX9 | omega) (by first | exact hl | exact hP | exact hS | exact hR | exact hX9 | omega)
      · skip
        refine lv_iconst (v := 2) F.1 F.2.1 d_M_apply_76 (by decide) ?_
        refine lv_goto (tgt := 100) F.1 F.2.1 d_M_apply_77 (by decide) ?_
        refine pw_put F I_M ty_M k_M n_M hK.1 hP hS f1 rfl 0 (by decide) L_M_63 (fun _ z => z) rfl rfl rfl (Nat.le_of_ble_eq_true rfl) d_M_apply_100 (fun H locs hP hS => ?_)
        replace hP : pw D vwCl A (pu h o (.inr (7, (mfs ad S).set (mpos 0) (.int 2)))) H := hP
        replace hR := hR.num (show 0 < 6 by decide) 2
        obtain ⟨h84, e85⟩ : ∃ z9 : pw_H, z9 = pu h o (.inr (7, (mfs ad S).set (mpos 0) (.int 2))) := ⟨_, rfl⟩
        rw [← e85] at hP
        obtain ⟨S86, t87⟩ : ∃ z9 : St, z9 = sp S 16 0 2 := ⟨_, rfl⟩
        replace hR : RM cs h84 o ad S86 := by rw [e85, t87]; exact hR
        refine lv_iconst (v := 0) F.1 F.2.1 d_M_apply_103 (by decide) ?_
        refine lv_istore_n F.1 F.2.1 d_M_apply_104 rfl hl (by decide) rfl (fun ls hl => ?_)
        replace hl : lv_has ls 4 [(3, .int 0), (2, .int b), (1, .int (S 16 2)), (0, .ref o)] := hl
        obtain ⟨u, hu0⟩ : ∃ u : Nat, u = 0 := ⟨0, rfl⟩
        have hlu : u ≤ 8 := by omega
        obtain ⟨n, hn9⟩ : ∃ n : Nat, 8 - u = n := ⟨_, rfl⟩
        replace hl : lv_has ls 4 [(3, .int (nI u)), (2, .int b), (1, .int (S 16 2)), (0, .ref o)] := by rw [hu0]; exact hl
        obtain ⟨X, hX⟩ : ∃ z9 : St, z9 = clrN S86 u := ⟨_, rfl⟩
        replace hR : RM cs h84 o ad X := by rw [hX, hu0, clrN_0]; exact hR
        clear hu0
        have hT0 : S86 16 0 = 2 := by rw [t87]; exact sp_s
        have hT3 : S86 16 3 = nI pT := by rw [t87]; exact (sp_j (by decide)).trans hp
        have hT5 : S86 16 5 = nI nt := by rw [t87]; exact (sp_j (by decide)).trans hT
        have hTz : ∀ j, j < 56 → S86 0 j = 0 ∨ S86 0 j = 1 := fun j hj => by rw [t87, sp_k (by decide)]; exact hbz j hj
        obtain ⟨hh, hhe⟩ : ∃ z9 : pw_H, z9 = h84 := ⟨_, rfl⟩
        rw [← hhe] at hP
        rw [← hhe] at hR
        clear hhe
        induction n generalizing ls u X hh H locs with
        | zero =>
          have hX0 : X 16 0 = 2 := by rw [hX, clrN_o]; exact hT0
          have hX3 : X 16 3 = nI pT := by rw [hX, clrN_o]; exact hT3
          have hX5 : X 16 5 = nI nt := by rw [hX, clrN_o]; exact hT5
          refine lv_iload_n F.1 F.2.1 d_M_apply_105 rfl (lv_at hl 0 rfl) ?_
          refine lv_bipush (v := 8) F.1 F.2.1 d_M_apply_106 (by decide) ?_
          refine lv_icmp_ge (tgt := 150) F.1 F.2.1 d_M_apply_108 (by decide) (fun c88 => ?_) (fun c88 => absurd (nI_le (a := 8) (b := u) (by omega) (by omega)) c88)
          refine lv_aload_n F.1 F.2.1 d_M_apply_150 rfl (lv_at hl 3 rfl) ?_
          refine lv_iconst (v := 0) F.1 F.2.1 d_M_apply_151 (by decide) ?_
          have f89 : hh o = some (.inr (7, [.int (X 16 0), .int (X 16 1), .ref (ad 0), .ref (ad 1), .ref (ad 2), .ref (ad 3), .ref (ad 4), .int (X 16 2), .int (X 16 3), .int (X 16 4), .int (X 16 5), .ref (ad 5), .ref (ad 6), .ref (ad 7), .ref (ad 8), .ref (ad 9), .ref (ad 10), .ref (ad 11), .ref (ad 12), .ref (ad 13), .ref (ad 14), .ref (ad 15)])) := hR.1
          refine pw_put F I_M ty_M k_M n_M hK.1 hP hS f89 rfl 7 (by decide) L_M_83 (fun _ z => z) rfl rfl rfl (Nat.le_of_ble_eq_true rfl) d_M_apply_152 (fun H locs hP hS => ?_)
          replace hP : pw D vwCl A (pu hh o (.inr (7, (mfs ad X).set (mpos 2) (.int 0)))) H := hP
          replace hR := hR.num (show 2 < 6 by decide) 0
          obtain ⟨h90, e91⟩ : ∃ z9 : pw_H, z9 = pu hh o (.inr (7, (mfs ad X).set (mpos 2) (.int 0))) := ⟨_, rfl⟩
          rw [← e91] at hP
          obtain ⟨S92, t93⟩ : ∃ z9 : St, z9 = sp X 16 2 0 := ⟨_, rfl⟩
          replace hR : RM cs h90 o ad S92 := by rw [e91, t93]; exact hR
          refine lv_aload_n F.1 F.2.1 d_M_apply_155 rfl (lv_at hl 3 rfl) ?_
          have f94 : h90 o = some (.inr (7, [.int (S92 16 0), .int (S92 16 1), .ref (ad 0), .ref (ad 1), .ref (ad 2), .ref (ad 3), .ref (ad 4), .int (S92 16 2), .int (S92 16 3), .int (S92 16 4), .int (S92 16 5), .ref (ad 5), .ref (ad 6), .ref (ad 7), .ref (ad 8), .ref (ad 9), .ref (ad 10), .ref (ad 11), .ref (ad 12), .ref (ad 13), .ref (ad 14), .ref (ad 15)])) := hR.1
          refine pw_get F I_M hK.1 hP f94 rfl 0 (by decide) L_M_63 (fun _ z => z) rfl d_M_apply_156 ?_
          refine W.eq (g2 := F0 m 159 ls [.int 2]) (by rw [show S92 16 0 = X 16 0 from by rw [t93]; exact sp_j (by decide), hX0]) ?_
          refine lv_if_le (tgt := 164) F.1 F.2.1 d_M_apply_159 (by decide) (fun c95 => absurd c95 (by decide)) (fun c95 => ?_)
          refine lv_iconst (v := 0) F.1 F.2.1 d_M_apply_162 (by decide) ?_
          exact pw_iret F hr hlk hP hA hK hS (by decide) (by decide) d_M_apply_163 (by have hth : thApply S = 2 := (by unfold thApply; rw [if_neg c3, if_pos (show ¬ mSame S from fun z9 => hb.elim (fun hb => absurd hb.1 c4) (fun hb => hb.2.elim (fun j h9 => h9.2 (z9 j (by have := h9.1; rw [hnf, tn_nI (by omega)]; omega)))))]); unfold stApply rApply; rw [hth, if_neg (by decide), if_neg (by decide)]; rw [t93, hX, show u = 8 by omega, clrN_8, t87] at hR; exact ⟨hR, rfl⟩)
        | succ n ih =>
          have hX0 : X 16 0 = 2 := by rw [hX, clrN_o]; exact hT0
          have hX3 : X 16 3 = nI pT := by rw [hX, clrN_o]; exact hT3
          have hX5 : X 16 5 = nI nt := by rw [hX, clrN_o]; exact hT5
          refine lv_iload_n F.1 F.2.1 d_M_apply_105 rfl (lv_at hl 0 rfl) ?_
          refine lv_bipush (v := 8) F.1 F.2.1 d_M_apply_106 (by decide) ?_
          refine lv_icmp_ge (tgt := 150) F.1 F.2.1 d_M_apply_108 (by decide) (fun c96 => absurd c96 (nI_ge (a := u) (b := 8) (by omega) (by decide))) (fun c96 => ?_)
          refine lv_aload_n F.1 F.2.1 d_M_apply_111 rfl (lv_at hl 3 rfl) ?_
          have f97 : hh o = some (.inr (7, [.int (X 16 0), .int (X 16 1), .ref (ad 0), .ref (ad 1), .ref (ad 2), .ref (ad 3), .ref (ad 4), .int (X 16 2), .int (X 16 3), .int (X 16 4), .int (X 16 5), .ref (ad 5), .ref (ad 6), .ref (ad 7), .ref (ad 8), .ref (ad 9), .ref (ad 10), .ref (ad 11), .ref (ad 12), .ref (ad 13), .ref (ad 14), .ref (ad 15)])) := hR.1
          refine pw_get F I_M hK.1 hP f97 rfl 0 (by decide) L_M_63 (fun _ z => z) rfl d_M_apply_112 ?_
          refine W.eq (g2 := F0 m 115 ls [.int 2]) (by rw [hX0]) ?_
          refine lv_if_ne (tgt := 134) F.1 F.2.1 d_M_apply_115 (by decide) (fun c98 => ?_) (fun c98 => absurd c98 (by decide))
          refine lv_aload_n F.1 F.2.1 d_M_apply_134 rfl (lv_at hl 3 rfl) ?_
          refine pw_get F I_M hK.1 hP f97 rfl 2 (by decide) L_M_7 (fun _ z => z) rfl d_M_apply_135 ?_
          refine lv_bipush (v := 48) F.1 F.2.1 d_M_apply_138 (by decide) ?_
          refine lv_iload_n F.1 F.2.1 d_M_apply_140 rfl (lv_at hl 0 rfl) ?_
          refine lv_iadd F.1 F.2.1 d_M_apply_141 ?_
          refine W.eq (g2 := F0 m 142 ls [.int (nI (48 + u)), .ref (ad 0)]) (by rw [show (48 : Int32) = nI 48 from rfl, nI_add]) ?_
          refine lv_iconst (v := 0) F.1 F.2.1 d_M_apply_142 (by decide) ?_
          have f99 : hh (ad 0) = some (.inl (cs 1, 56, .inl (X 0))) := hR.2.1 0 (by decide)
          refine pw_zastN F hK.1 hP hS 1 f99 rfl (k := 48 + u) (by omega) (by decide) rfl d_M_apply_143 (fun H locs hP hS => ?_)
          replace hP : pw D vwCl A (pu hh (ad 0) (.inl (cs 1, 56, .inl (upd (X 0) (48 + u) 0)))) H := hP
          replace hR := hR.arr (show 0 < 16 by decide) (48 + u) 0
          obtain ⟨h100, e101⟩ : ∃ z9 : pw_H, z9 = pu hh (ad 0) (.inl (cs 1, 56, .inl (upd (X 0) (48 + u) 0))) := ⟨_, rfl⟩
          rw [← e101] at hP
          obtain ⟨S102, t103⟩ : ∃ z9 : St, z9 = sp X 0 (48 + u) 0 := ⟨_, rfl⟩
          replace hR : RM cs h100 o ad S102 := by rw [e101, t103]; exact hR
          refine lv_iinc (k := 0) (v := nI (u + 1)) F.1 F.2.1 d_M_apply_144 hl rfl (by rw [show Int32.ofInt 1 = nI 1 from rfl, nI_add]) (by decide) rfl (fun ls hl => ?_)
          replace hl : lv_has ls 4 [(3, .int (nI (u + 1))), (2, .int b), (1, .int (S 16 2)), (0, .ref o)] := hl
          refine lv_goto (tgt := 105) F.1 F.2.1 d_M_apply_147 (by decide) ?_
          have hX9 : S102 = clrN S86 (u + 1) := by rw [t103, hX]; exact clrN_s
          exact ih (ls := ls) (u := u + 1) (X := S102) (hh := h100) (H := H) (locs := locs) (by first | exact hl | exact hP | exact hS | exact hR | exact hX9 | omega) (by first | exact hl | exact hP | exact hS | exact hR | exact hX9 | omega) (by first | exact hl | exact hP | exact hS | exact hR | exact hX9 | omega) (by first | exact hl | exact hP | exact hS | exact hR | exact hX9 | omega) (by first | exact hl | exact hP | exact hS | exact hR | exact hX9 | omega) (by first | exact hl | exact hP | exact hS | exact hR | exact hX9 | omega) (by first | exact hl | exact hP | exact hS | exact hR | exact hX9 | omega)
    · skip
      refine lv_iconst (v := 1) F.1 F.2.1 d_M_apply_68 (by decide) ?_
      refine lv_goto (tgt := 100) F.1 F.2.1 d_M_apply_69 (by decide) ?_
      refine pw_put F I_M ty_M k_M n_M hK.1 hP hS f1 rfl 0 (by decide) L_M_63 (fun _ z => z) rfl rfl rfl (Nat.le_of_ble_eq_true rfl) d_M_apply_100 (fun H locs hP hS => ?_)
      replace hP : pw D vwCl A (pu h o (.inr (7, (mfs ad S).set (mpos 0) (.int 1)))) H := hP
      replace hR := hR.num (show 0 < 6 by decide) 1
      obtain ⟨h104, e105⟩ : ∃ z9 : pw_H, z9 = pu h o (.inr (7, (mfs ad S).set (mpos 0) (.int 1))) := ⟨_, rfl⟩
      rw [← e105] at hP
      obtain ⟨S106, t107⟩ : ∃ z9 : St, z9 = sp S 16 0 1 := ⟨_, rfl⟩
      replace hR : RM cs h104 o ad S106 := by rw [e105, t107]; exact hR
      refine lv_iconst (v := 0) F.1 F.2.1 d_M_apply_103 (by decide) ?_
      refine lv_istore_n F.1 F.2.1 d_M_apply_104 rfl hl (by decide) rfl (fun ls hl => ?_)
      replace hl : lv_has ls 4 [(3, .int 0), (2, .int b), (1, .int (S 16 2)), (0, .ref o)] := hl
      obtain ⟨u, hu0⟩ : ∃ u : Nat, u = 0 := ⟨0, rfl⟩
      have hlu : u ≤ 8 := by omega
      obtain ⟨n, hn9⟩ : ∃ n : Nat, 8 - u = n := ⟨_, rfl⟩
      replace hl : lv_has ls 4 [(3, .int (nI u)), (2, .int b), (1, .int (S 16 2)), (0, .ref o)] := by rw [hu0]; exact hl
      obtain ⟨X, hX⟩ : ∃ z9 : St, z9 = clrN S106 u := ⟨_, rfl⟩
      replace hR : RM cs h104 o ad X := by rw [hX, hu0, clrN_0]; exact hR
      clear hu0
      have hT0 : S106 16 0 = 1 := by rw [t107]; exact sp_s
      have hT3 : S106 16 3 = nI pT := by rw [t107]; exact (sp_j (by decide)).trans hp
      have hT5 : S106 16 5 = nI nt := by rw [t107]; exact (sp_j (by decide)).trans hT
      have hTz : ∀ j, j < 56 → S106 0 j = 0 ∨ S106 0 j = 1 := fun j hj => by rw [t107, sp_k (by decide)]; exact hbz j hj
      obtain ⟨hh, hhe⟩ : ∃ z9 : pw_H, z9 = h104 := ⟨_, rfl⟩
      rw [← hhe] at hP
      rw [← hhe] at hR
      clear hhe
      induction n generalizing ls u X hh H locs with
      | zero =>
        have hX0 : X 16 0 = 1 := by rw [hX, clrN_o]; exact hT0
        have hX3 : X 16 3 = nI pT := by rw [hX, clrN_o]; exact hT3
        have hX5 : X 16 5 = nI nt := by rw [hX, clrN_o]; exact hT5
        refine lv_iload_n F.1 F.2.1 d_M_apply_105 rfl (lv_at hl 0 rfl) ?_
        refine lv_bipush (v := 8) F.1 F.2.1 d_M_apply_106 (by decide) ?_
        refine lv_icmp_ge (tgt := 150) F.1 F.2.1 d_M_apply_108 (by decide) (fun c108 => ?_) (fun c108 => absurd (nI_le (a := 8) (b := u) (by omega) (by omega)) c108)
        refine lv_aload_n F.1 F.2.1 d_M_apply_150 rfl (lv_at hl 3 rfl) ?_
        refine lv_iconst (v := 0) F.1 F.2.1 d_M_apply_151 (by decide) ?_
        have f109 : hh o = some (.inr (7, [.int (X 16 0), .int (X 16 1), .ref (ad 0), .ref (ad 1), .ref (ad 2), .ref (ad 3), .ref (ad 4), .int (X 16 2), .int (X 16 3), .int (X 16 4), .int (X 16 5), .ref (ad 5), .ref (ad 6), .ref (ad 7), .ref (ad 8), .ref (ad 9), .ref (ad 10), .ref (ad 11), .ref (ad 12), .ref (ad 13), .ref (ad 14), .ref (ad 15)])) := hR.1
        refine pw_put F I_M ty_M k_M n_M hK.1 hP hS f109 rfl 7 (by decide) L_M_83 (fun _ z => z) rfl rfl rfl (Nat.le_of_ble_eq_true rfl) d_M_apply_152 (fun H locs hP hS => ?_)
        replace hP : pw D vwCl A (pu hh o (.inr (7, (mfs ad X).set (mpos 2) (.int 0)))) H := hP
        replace hR := hR.num (show 2 < 6 by decide) 0
        obtain ⟨h110, e111⟩ : ∃ z9 : pw_H, z9 = pu hh o (.inr (7, (mfs ad X).set (mpos 2) (.int 0))) := ⟨_, rfl⟩
        rw [← e111] at hP
        obtain ⟨S112, t113⟩ : ∃ z9 : St, z9 = sp X 16 2 0 := ⟨_, rfl⟩
        replace hR : RM cs h110 o ad S112 := by rw [e111, t113]; exact hR
        refine lv_aload_n F.1 F.2.1 d_M_apply_155 rfl (lv_at hl 3 rfl) ?_
        have f114 : h110 o = some (.inr (7, [.int (S112 16 0), .int (S112 16 1), .ref (ad 0), .ref (ad 1), .ref (ad 2), .ref (ad 3), .ref (ad 4), .int (S112 16 2), .int (S112 16 3), .int (S112 16 4), .int (S112 16 5), .ref (ad 5), .ref (ad 6), .ref (ad 7), .ref (ad 8), .ref (ad 9), .ref (ad 10), .ref (ad 11), .ref (ad 12), .ref (ad 13), .ref (ad 14), .ref (ad 15)])) := hR.1
        refine pw_get F I_M hK.1 hP f114 rfl 0 (by decide) L_M_63 (fun _ z => z) rfl d_M_apply_156 ?_
        refine W.eq (g2 := F0 m 159 ls [.int 1]) (by rw [show S112 16 0 = X 16 0 from by rw [t113]; exact sp_j (by decide), hX0]) ?_
        refine lv_if_le (tgt := 164) F.1 F.2.1 d_M_apply_159 (by decide) (fun c115 => absurd c115 (by decide)) (fun c115 => ?_)
        refine lv_iconst (v := 0) F.1 F.2.1 d_M_apply_162 (by decide) ?_
        exact pw_iret F hr hlk hP hA hK hS (by decide) (by decide) d_M_apply_163 (by have hth : thApply S = 1 := (by unfold thApply; rw [if_pos c3]); unfold stApply rApply; rw [hth, if_neg (by decide), if_neg (by decide)]; rw [t113, hX, show u = 8 by omega, clrN_8, t107] at hR; exact ⟨hR, rfl⟩)
      | succ n ih =>
        have hX0 : X 16 0 = 1 := by rw [hX, clrN_o]; exact hT0
        have hX3 : X 16 3 = nI pT := by rw [hX, clrN_o]; exact hT3
        have hX5 : X 16 5 = nI nt := by rw [hX, clrN_o]; exact hT5
        refine lv_iload_n F.1 F.2.1 d_M_apply_105 rfl (lv_at hl 0 rfl) ?_
        refine lv_bipush (v := 8) F.1 F.2.1 d_M_apply_106 (by decide) ?_
        refine lv_icmp_ge (tgt := 150) F.1 F.2.1 d_M_apply_108 (by decide) (fun c116 => absurd c116 (nI_ge (a := u) (b := 8) (by omega) (by decide))) (fun c116 => ?_)
        refine lv_aload_n F.1 F.2.1 d_M_apply_111 rfl (lv_at hl 3 rfl) ?_
        have f117 : hh o = some (.inr (7, [.int (X 16 0), .int (X 16 1), .ref (ad 0), .ref (ad 1), .ref (ad 2), .ref (ad 3), .ref (ad 4), .int (X 16 2), .int (X 16 3), .int (X 16 4), .int (X 16 5), .ref (ad 5), .ref (ad 6), .ref (ad 7), .ref (ad 8), .ref (ad 9), .ref (ad 10), .ref (ad 11), .ref (ad 12), .ref (ad 13), .ref (ad 14), .ref (ad 15)])) := hR.1
        refine pw_get F I_M hK.1 hP f117 rfl 0 (by decide) L_M_63 (fun _ z => z) rfl d_M_apply_112 ?_
        refine W.eq (g2 := F0 m 115 ls [.int 1]) (by rw [hX0]) ?_
        refine lv_if_ne (tgt := 134) F.1 F.2.1 d_M_apply_115 (by decide) (fun c118 => ?_) (fun c118 => absurd c118 (by decide))
        refine lv_aload_n F.1 F.2.1 d_M_apply_134 rfl (lv_at hl 3 rfl) ?_
        refine pw_get F I_M hK.1 hP f117 rfl 2 (by decide) L_M_7 (fun _ z => z) rfl d_M_apply_135 ?_
        refine lv_bipush (v := 48) F.1 F.2.1 d_M_apply_138 (by decide) ?_
        refine lv_iload_n F.1 F.2.1 d_M_apply_140 rfl (lv_at hl 0 rfl) ?_
        refine lv_iadd F.1 F.2.1 d_M_apply_141 ?_
        refine W.eq (g2 := F0 m 142 ls [.int (nI (48 + u)), .ref (ad 0)]) (by rw [show (48 : Int32) = nI 48 from rfl, nI_add]) ?_
        refine lv_iconst (v := 0) F.1 F.2.1 d_M_apply_142 (by decide) ?_
        have f119 : hh (ad 0) = some (.inl (cs 1, 56, .inl (X 0))) := hR.2.1 0 (by decide)
        refine pw_zastN F hK.1 hP hS 1 f119 rfl (k := 48 + u) (by omega) (by decide) rfl d_M_apply_143 (fun H locs hP hS => ?_)
        replace hP : pw D vwCl A (pu hh (ad 0) (.inl (cs 1, 56, .inl (upd (X 0) (48 + u) 0)))) H := hP
        replace hR := hR.arr (show 0 < 16 by decide) (48 + u) 0
        obtain ⟨h120, e121⟩ : ∃ z9 : pw_H, z9 = pu hh (ad 0) (.inl (cs 1, 56, .inl (upd (X 0) (48 + u) 0))) := ⟨_, rfl⟩
        rw [← e121] at hP
        obtain ⟨S122, t123⟩ : ∃ z9 : St, z9 = sp X 0 (48 + u) 0 := ⟨_, rfl⟩
        replace hR : RM cs h120 o ad S122 := by rw [e121, t123]; exact hR
        refine lv_iinc (k := 0) (v := nI (u + 1)) F.1 F.2.1 d_M_apply_144 hl rfl (by rw [show Int32.ofInt 1 = nI 1 from rfl, nI_add]) (by decide) rfl (fun ls hl => ?_)
        replace hl : lv_has ls 4 [(3, .int (nI (u + 1))), (2, .int b), (1, .int (S 16 2)), (0, .ref o)] := hl
        refine lv_goto (tgt := 105) F.1 F.2.1 d_M_apply_147 (by decide) ?_
        have hX9 : S122 = clrN S106 (u + 1) := by rw [t123, hX]; exact clrN_s
        exact ih (ls := ls) (u := u + 1) (X := S122) (hh := h120) (H := H) (locs := locs) (by first | exact hl | exact hP | exact hS | exact hR | exact hX9 | omega) (by first | exact hl | exact hP | exact hS | exact hR | exact hX9 | omega) (by first | exact hl | exact hP | exact hS | exact hR | exact hX9 | omega) (by first | exact hl | exact hP | exact hS | exact hR | exact hX9 | omega) (by first | exact hl | exact hP | exact hS | exact hR | exact hX9 | omega) (by first | exact hl | exact hP | exact hS | exact hR | exact hX9 | omega) (by first | exact hl | exact hP | exact hS | exact hR | exact hX9 | omega)
  | succ n ih =>
    refine lv_iload_n F.1 F.2.1 d_M_apply_9 rfl (lv_at hl 0 rfl) ?_
    refine lv_aload_n F.1 F.2.1 d_M_apply_10 rfl (lv_at hl 3 rfl) ?_
    refine pw_get F I_M hK.1 hP f1 rfl 1 (by decide) L_M_76 (fun _ z => z) rfl d_M_apply_11 ?_
    refine W.eq (g2 := F0 m 14 ls [.int (nI nf), .int (nI i)]) (by rw [hnf]) ?_
    refine lv_icmp_ge (tgt := 63) F.1 F.2.1 d_M_apply_14 (by decide) (fun c124 => absurd c124 (nI_ge (show i < nf by omega) (by omega))) (fun c124 => ?_)
    refine lv_iload_n F.1 F.2.1 d_M_apply_17 rfl (lv_at hl 1 rfl) ?_
    refine lv_if_ne (tgt := 51) F.1 F.2.1 d_M_apply_18 (by decide) (fun c125 => ?_) (fun c125 => ?_)
    · skip
      refine lv_iconst (v := 1) F.1 F.2.1 d_M_apply_51 (by decide) ?_
      refine lv_goto (tgt := 56) F.1 F.2.1 d_M_apply_52 (by decide) ?_
      refine lv_istore_n F.1 F.2.1 d_M_apply_56 rfl hl (by decide) rfl (fun ls hl => ?_)
      replace hl : lv_has ls 4 [(2, .int 1), (3, .int (nI i)), (1, .int (S 16 2)), (0, .ref o)] := hl
      refine lv_iinc (k := 1) (v := nI (i + 1)) F.1 F.2.1 d_M_apply_57 hl rfl (by rw [show Int32.ofInt 1 = nI 1 from rfl, nI_add]) (by decide) rfl (fun ls hl => ?_)
      replace hl : lv_has ls 4 [(3, .int (nI (i + 1))), (2, .int 1), (1, .int (S 16 2)), (0, .ref o)] := hl
      refine lv_goto (tgt := 9) F.1 F.2.1 d_M_apply_60 (by decide) ?_
      have hb9 : ((1 : Int32) = 0 ∧ ∀ j, j < (i + 1) → S 0 (48 + j) = 0 ∨ S 1 (48 + j) = S 1 j) ∨ ((1 : Int32) = 1 ∧ ∃ j, j < (i + 1) ∧ ¬ (S 0 (48 + j) = 0 ∨ S 1 (48 + j) = S 1 j)) := Or.inr ⟨rfl, hb.elim (fun hb => absurd hb.1 c125) (fun hb => hb.2.elim (fun j h9 => ⟨j, by have := h9.1; omega, h9.2⟩))⟩
      exact ih (ls := ls) (i := i + 1) (b := 1) (by first | exact hl | exact hb9 | omega) (by first | exact hl | exact hb9 | omega) (by first | exact hl | exact hb9 | omega) (by first | exact hl | exact hb9 | omega)
    · skip
      refine lv_aload_n F.1 F.2.1 d_M_apply_21 rfl (lv_at hl 3 rfl) ?_
      refine pw_get F I_M hK.1 hP f1 rfl 2 (by decide) L_M_7 (fun _ z => z) rfl d_M_apply_22 ?_
      refine lv_bipush (v := 48) F.1 F.2.1 d_M_apply_25 (by decide) ?_
      refine lv_iload_n F.1 F.2.1 d_M_apply_27 rfl (lv_at hl 0 rfl) ?_
      refine lv_iadd F.1 F.2.1 d_M_apply_28 ?_
      refine W.eq (g2 := F0 m 29 ls [.int (nI (48 + i)), .ref (ad 0)]) (by rw [show (48 : Int32) = nI 48 from rfl, nI_add]) ?_
      have f126 : h (ad 0) = some (.inl (cs 1, 56, .inl (S 0))) := hR.2.1 0 (by decide)
      refine pw_zaldN F hK.1 hP 1 f126 rfl (k := 48 + i) (by omega) (by decide) d_M_apply_29 ?_
      refine lv_if_eq (tgt := 55) F.1 F.2.1 d_M_apply_30 (by decide) (fun c127 => ?_) (fun c127 => ?_)
      · skip
        refine lv_iconst (v := 0) F.1 F.2.1 d_M_apply_55 (by decide) ?_
        refine lv_istore_n F.1 F.2.1 d_M_apply_56 rfl hl (by decide) rfl (fun ls hl => ?_)
        replace hl : lv_has ls 4 [(2, .int 0), (3, .int (nI i)), (1, .int (S 16 2)), (0, .ref o)] := hl
        refine lv_iinc (k := 1) (v := nI (i + 1)) F.1 F.2.1 d_M_apply_57 hl rfl (by rw [show Int32.ofInt 1 = nI 1 from rfl, nI_add]) (by decide) rfl (fun ls hl => ?_)
        replace hl : lv_has ls 4 [(3, .int (nI (i + 1))), (2, .int 0), (1, .int (S 16 2)), (0, .ref o)] := hl
        refine lv_goto (tgt := 9) F.1 F.2.1 d_M_apply_60 (by decide) ?_
        have hb9 : ((0 : Int32) = 0 ∧ ∀ j, j < (i + 1) → S 0 (48 + j) = 0 ∨ S 1 (48 + j) = S 1 j) ∨ ((0 : Int32) = 1 ∧ ∃ j, j < (i + 1) ∧ ¬ (S 0 (48 + j) = 0 ∨ S 1 (48 + j) = S 1 j)) := Or.inl ⟨rfl, fun j hj => hb.elim (fun hb => (Nat.lt_or_ge j i).elim (fun h9 => hb.2 j h9) (fun h9 => by rw [show j = i by omega]; exact Or.inl c127)) (fun hb => absurd (hb.1.symm.trans c125) (by decide))⟩
        exact ih (ls := ls) (i := i + 1) (b := 0) (by first | exact hl | exact hb9 | omega) (by first | exact hl | exact hb9 | omega) (by first | exact hl | exact hb9 | omega) (by first | exact hl | exact hb9 | omega)
      · skip
        refine lv_aload_n F.1 F.2.1 d_M_apply_33 rfl (lv_at hl 3 rfl) ?_
        refine pw_get F I_M hK.1 hP f1 rfl 3 (by decide) L_M_13 (fun _ z => z) rfl d_M_apply_34 ?_
        refine lv_bipush (v := 48) F.1 F.2.1 d_M_apply_37 (by decide) ?_
        refine lv_iload_n F.1 F.2.1 d_M_apply_39 rfl (lv_at hl 0 rfl) ?_
        refine lv_iadd F.1 F.2.1 d_M_apply_40 ?_
        refine W.eq (g2 := F0 m 41 ls [.int (nI (48 + i)), .ref (ad 1)]) (by rw [show (48 : Int32) = nI 48 from rfl, nI_add]) ?_
        have f128 : h (ad 1) = some (.inl (cs 0, 56, .inl (S 1))) := hR.2.1 1 (by decide)
        refine pw_ialdN F hK.1 hP 0 f128 rfl (k := 48 + i) (by omega) (by decide) d_M_apply_41 ?_
        refine lv_aload_n F.1 F.2.1 d_M_apply_42 rfl (lv_at hl 3 rfl) ?_
        refine pw_get F I_M hK.1 hP f1 rfl 3 (by decide) L_M_13 (fun _ z => z) rfl d_M_apply_43 ?_
        refine lv_iload_n F.1 F.2.1 d_M_apply_46 rfl (lv_at hl 0 rfl) ?_
        refine pw_ialdN F hK.1 hP 0 f128 rfl (k := i) (by omega) (by decide) d_M_apply_47 ?_
        refine lv_icmp_eq (tgt := 55) F.1 F.2.1 d_M_apply_48 (by decide) (fun c129 => ?_) (fun c129 => ?_)
        · skip
          refine lv_iconst (v := 0) F.1 F.2.1 d_M_apply_55 (by decide) ?_
          refine lv_istore_n F.1 F.2.1 d_M_apply_56 rfl hl (by decide) rfl (fun ls hl => ?_)
          replace hl : lv_has ls 4 [(2, .int 0), (3, .int (nI i)), (1, .int (S 16 2)), (0, .ref o)] := hl
          refine lv_iinc (k := 1) (v := nI (i + 1)) F.1 F.2.1 d_M_apply_57 hl rfl (by rw [show Int32.ofInt 1 = nI 1 from rfl, nI_add]) (by decide) rfl (fun ls hl => ?_)
          replace hl : lv_has ls 4 [(3, .int (nI (i + 1))), (2, .int 0), (1, .int (S 16 2)), (0, .ref o)] := hl
          refine lv_goto (tgt := 9) F.1 F.2.1 d_M_apply_60 (by decide) ?_
          have hb9 : ((0 : Int32) = 0 ∧ ∀ j, j < (i + 1) → S 0 (48 + j) = 0 ∨ S 1 (48 + j) = S 1 j) ∨ ((0 : Int32) = 1 ∧ ∃ j, j < (i + 1) ∧ ¬ (S 0 (48 + j) = 0 ∨ S 1 (48 + j) = S 1 j)) := Or.inl ⟨rfl, fun j hj => hb.elim (fun hb => (Nat.lt_or_ge j i).elim (fun h9 => hb.2 j h9) (fun h9 => by rw [show j = i by omega]; exact Or.inr c129)) (fun hb => absurd (hb.1.symm.trans c125) (by decide))⟩
          exact ih (ls := ls) (i := i + 1) (b := 0) (by first | exact hl | exact hb9 | omega) (by first | exact hl | exact hb9 | omega) (by first | exact hl | exact hb9 | omega) (by first | exact hl | exact hb9 | omega)
        · skip
          refine lv_iconst (v := 1) F.1 F.2.1 d_M_apply_51 (by decide) ?_
          refine lv_goto (tgt := 56) F.1 F.2.1 d_M_apply_52 (by decide) ?_
          refine lv_istore_n F.1 F.2.1 d_M_apply_56 rfl hl (by decide) rfl (fun ls hl => ?_)
          replace hl : lv_has ls 4 [(2, .int 1), (3, .int (nI i)), (1, .int (S 16 2)), (0, .ref o)] := hl
          refine lv_iinc (k := 1) (v := nI (i + 1)) F.1 F.2.1 d_M_apply_57 hl rfl (by rw [show Int32.ofInt 1 = nI 1 from rfl, nI_add]) (by decide) rfl (fun ls hl => ?_)
          replace hl : lv_has ls 4 [(3, .int (nI (i + 1))), (2, .int 1), (1, .int (S 16 2)), (0, .ref o)] := hl
          refine lv_goto (tgt := 9) F.1 F.2.1 d_M_apply_60 (by decide) ?_
          have hb9 : ((1 : Int32) = 0 ∧ ∀ j, j < (i + 1) → S 0 (48 + j) = 0 ∨ S 1 (48 + j) = S 1 j) ∨ ((1 : Int32) = 1 ∧ ∃ j, j < (i + 1) ∧ ¬ (S 0 (48 + j) = 0 ∨ S 1 (48 + j) = S 1 j)) := Or.inr ⟨rfl, i, by omega, fun h9 => h9.elim c127 c129⟩
          exact ih (ls := ls) (i := i + 1) (b := 1) (by first | exact hl | exact hb9 | omega) (by first | exact hl | exact hb9 | omega) (by first | exact hl | exact hb9 | omega) (by first | exact hl | exact hb9 | omega)
