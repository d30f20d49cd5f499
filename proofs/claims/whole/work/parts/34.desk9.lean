theorem rd_2 {k i j : Nat} (h : rd k i 2 j) : (k = 0 ∨ k = 1 ∨ k = 2) ∧ i = j := by
  rcases (show k = 0 ∨ k = 1 ∨ k = 2 ∨ k = 3 ∨ k = 4 ∨ k = 5 ∨ k = 6 ∨ k = 7 ∨ k = 8 ∨ k = 9 by have := rd_k h; omega) with rfl | rfl | rfl | rfl | rfl | rfl | rfl | rfl | rfl | rfl <;> simp only [rd] at h <;> omega
theorem rd_3 {k i j : Nat} (h : rd k i 3 j) : k = 1 ∧ 12 * i ≤ j ∧ j < 12 * i + 12 := by
  rcases (show k = 0 ∨ k = 1 ∨ k = 2 ∨ k = 3 ∨ k = 4 ∨ k = 5 ∨ k = 6 ∨ k = 7 ∨ k = 8 ∨ k = 9 by have := rd_k h; omega) with rfl | rfl | rfl | rfl | rfl | rfl | rfl | rfl | rfl | rfl <;> simp only [rd] at h <;> omega
theorem rd_4 {k i j : Nat} (h : rd k i 4 j) : k = 2 ∧ 12 * i ≤ j ∧ j < 12 * i + 12 := by
  rcases (show k = 0 ∨ k = 1 ∨ k = 2 ∨ k = 3 ∨ k = 4 ∨ k = 5 ∨ k = 6 ∨ k = 7 ∨ k = 8 ∨ k = 9 by have := rd_k h; omega) with rfl | rfl | rfl | rfl | rfl | rfl | rfl | rfl | rfl | rfl <;> simp only [rd] at h <;> omega
section
variable {cs : Nat → Nat} {h h' : pw_H} {x : Nat} {g : Gh} {gr : Nat → Prop} {dp dp' : Nat → Nat} {S S' : St} {nf p nt : Nat}
theorem Sim.append {R z : Nat} {K N : Nat → Int32} {kd n : Int32} (hs : Sim cs h x g gr dp S nf p nt) (hR : R < 56) (hh : S 0 R = 1) (hz : S 2 R = nI z) (hz12 : z < 12) (hK : ∀ a, a < 12 → a < tn (S 2 R) → K a = S 3 (12 * R + a)) (hN : ∀ a, a < 12 → a < tn (S 2 R) → N a = S 4 (12 * R + a))
    (hx : ext h h' [g 0 R, g 1 R, g 2 R]) (h1 : h' (g 1 R) = some (eI (cs 0) 12 (upd K z kd))) (h2 : h' (g 2 R) = some (eI (cs 0) 12 (upd N z n))) (h0 : h' (g 0 R) = some (.inr (1, [.ref (g 1 R), .ref (g 2 R), .int (nI z + 1)]))) : Sim cs h' x g gr dp (sp (sp (sp S 3 (12 * R + z) kd) 4 (12 * R + z) n) 2 R (nI (z + 1))) nf p nt := by
  have l0 : live S nf p nt gr 0 R := ⟨hR, hh⟩
  have l1 : live S nf p nt gr 1 R := ⟨hR, hh⟩
  have l2 : live S nf p nt gr 2 R := ⟨hR, hh⟩
  rw [hz, tn_nI (by omega)] at hK hN
  refine hs.set ?_ (fun k i hl => ?_)
  · rw [hs.keptx hx (nin3 (Ne.symm (hs.2.2.2 _ _ l0)) (Ne.symm (hs.2.2.2 _ _ l1)) (Ne.symm (hs.2.2.2 _ _ l2))), sp_k (by decide), sp_k (by decide), sp_k (by decide)]; exact hs.1
  · have hl' : live S nf p nt gr k i := by
      unfold live at hl ⊢
      rw [sp_off (show 0 ≠ 2 by decide), sp_off (show 0 ≠ 4 by decide), sp_off (show 0 ≠ 3 by decide)] at hl
      exact hl
    refine ⟨hl', ?_⟩
    by_cases c0 : k = 0 ∧ i = R
    · obtain ⟨rfl, rfl⟩ := c0
      refine Or.inr ⟨_, h0, ?_⟩
      simp only [ent]
      rw [sp_s, nI_1]
    by_cases c1 : k = 1 ∧ i = R
    · obtain ⟨rfl, rfl⟩ := c1
      refine Or.inr ⟨_, h1, ?_⟩
      simp only [ent]
      refine ⟨_, rfl, fun a ha ha2 => ?_⟩
      rw [sp_s, tn_nI (by omega)] at ha2
      rw [sp_k (by decide), sp_k (by decide)]
      by_cases haz : a = z
      · subst haz; rw [sp_s]; simp [upd]
      · rw [sp_j (by omega), ← hK a ha (by omega)]; simp [upd, haz]
    by_cases c2 : k = 2 ∧ i = R
    · obtain ⟨rfl, rfl⟩ := c2
      refine Or.inr ⟨_, h2, ?_⟩
      simp only [ent]
      refine ⟨_, rfl, fun a ha ha2 => ?_⟩
      rw [sp_s, tn_nI (by omega)] at ha2
      rw [sp_k (by decide)]
      by_cases haz : a = z
      · subst haz; rw [sp_s]; simp [upd]
      · rw [sp_j (by omega), sp_k (by decide), ← hN a ha (by omega)]; simp [upd, haz]
    refine Or.inl ⟨hs.kept hx hl' (nin3 (hs.ne hl' l0 c0) (hs.ne hl' l1 c1) (hs.ne hl' l2 c2)), fun e he => ent_sp (fun z9 => ?_) (ent_sp (fun z9 => ?_) (ent_sp (fun z9 => ?_) he))⟩
    · obtain ⟨a, b⟩ := rd_2 z9
      rcases a with a | a | a
      · exact c0 ⟨a, b⟩
      · exact c1 ⟨a, b⟩
      · exact c2 ⟨a, b⟩
    · obtain ⟨a, b, c⟩ := rd_4 z9
      exact c2 ⟨a, by omega⟩
    · obtain ⟨a, b, c⟩ := rd_3 z9
      exact c1 ⟨a, by omega⟩
end
theorem gd_iff {S : St} {nf p nt f R : Nat} {X : Nat → Prop} {dr kd n : Int32} (hw : WF S nf p nt X) (hf : f < nf) (hor : oRow (nI f) dr = R) (hh : S 0 R = 1) : gdOperation S (nI f) dr kd n ↔ opOk nf kd n (S 2 R) := by
  have h8 := hw.1.1
  unfold gdOperation opOk
  rw [hor, hw.1.2.2.2.1, hh]
  exact ⟨fun z => ⟨z.2.1, z.2.2.2⟩, fun z => ⟨⟨nI_pos' (by omega), nI_le (a := f) (b := 7) (by omega) (by decide)⟩, z.1, by decide, z.2⟩⟩
theorem gd_no {S : St} {nf p nt : Nat} {X : Nat → Prop} {fn dr kd n : Int32} (hw : WF S nf p nt X) (h : ¬ mIn fn 0 (nI nf - 1)) : ¬ gdOperation S fn dr kd n := fun z => by
  have h8 := hw.1.1
  obtain ⟨f, hf, rfl⟩ := mIn_nat (n := 8) (by decide) z.1.1 z.1.2
  have h3 := z.2.2.1
  refine h (mIn_of (by omega) ?_)
  by_cases hd : dr = 0
  · rw [oRow_0 hf hd] at h3
    have := (hw.1.2.2.2.2.2.2.2.2.2 (0 + f) (by omega) ((hw.1.2.2.2.2.2.2.2.1 (0 + f) (by omega)).elim (fun z9 => absurd z9 h3) id)).1
    omega
  · rw [oRow_1 hf hd] at h3
    have := (hw.1.2.2.2.2.2.2.2.2.2 (48 + f) (by omega) ((hw.1.2.2.2.2.2.2.2.1 (48 + f) (by omega)).elim (fun z9 => absurd z9 h3) id)).1
    omega
theorem fresh_iff {S : St} {nf p nt : Nat} {X : Nat → Prop} (hw : WF S nf p nt X) : mFresh S ↔ (nt = 0 ∧ p = 0) := by
  have h5 := hw.1.2.1
  have h4 := hw.1.2.2.1
  unfold mFresh
  rw [hw.1.2.2.2.2.1, hw.1.2.2.2.2.2.1]
  exact ⟨fun z => ⟨(nI_eq (a := nt) (b := 0) (by omega) (by decide)).mp z.1, (nI_eq (a := p) (b := 0) (by omega) (by decide)).mp z.2⟩, fun z => by rw [z.1, z.2]; exact ⟨rfl, rfl⟩⟩
theorem full_iff {z : Nat} (hz : z ≤ 12) : (12 : Int32) ≤ nI z ↔ nI z = 12 := by
  constructor
  · intro h
    have := (nI_leI (a := 12) (b := z) (by decide) (by omega)).mp h
    rw [show z = 12 by omega]; rfl
  · intro h; rw [h]; exact Int32.le_refl _
abbrev rm_D_operation : Room := { frames := 6, cells := 1, slots := 6, locals := 90 }
set_option maxHeartbeats 4000000 in
set_option maxRecDepth 100000 in
theorem c_D_operation (l : Launch) (D : va_G) (cs : Nat → Nat) (A : Nat → Prop) (h : pw_H) (hst : l.stackTraces = false) (x : Nat) (S : St) (hE : SimE cs h x S) (fn dr kd n : Int32) : pmx l y_D_operation b_D_operation 6 (some .int) rm_D_operation [.ref x, .int fn, .int dr, .int kd, .int n] D cs A h (va_Qi (fun (r : Int32) (h' : pw_H) => thOperation S fn dr kd n = 0 ∧ SimE cs h' x (stOperation S fn dr kd n) ∧ r = rOperation S fn dr kd n) (ww D cs A) A) (fun (E : String) (h' : pw_H) => (E = sIAE ∧ thOperation S fn dr kd n = 1 ∧ SimE cs h' x (stOperation S fn dr kd n)) ∨ (E = sISE ∧ thOperation S fn dr kd n = 2 ∧ SimE cs h' x (stOperation S fn dr kd n))) 1 6 := by
  refine pmx_of R_D rfl (by decide) (Nat.le_of_ble_eq_true rfl) (fun p e s m below meth c ls F hr hlk hnm htb hP hA hK hl => ?_)
  have hS : va_S A s.heap s.heap [] := va_S.rf
  replace hl : lv_has ls 6 [(0, .ref x), (1, .int fn), (2, .int dr), (3, .int kd), (4, .int n)] := hl
  obtain ⟨g, gr, nf, pT, nt, hs, hw⟩ := hE
  obtain ⟨dp, hdpS⟩ : ∃ dp, dp = dpS S := ⟨_, rfl⟩
  rw [← hdpS] at hs
  have hnf8 := hw.1.1
  have hp5 := hw.1.2.1
  have hnt4 := hw.1.2.2.1
  have hn1 := hw.1.2.2.2.1
  have hn3 := hw.1.2.2.2.2.1
  have hn5 := hw.1.2.2.2.2.2.1
  refine lv_aload_n F.1 F.2.1 d_D_operation_0 rfl (lv_at hl 0 rfl) ?_
  refine lv_iload_n F.1 F.2.1 d_D_operation_1 rfl (lv_at hl 1 rfl) ?_
  have f1 : h x = some (.inr (6, [.ref (g 10 0), .ref (g 10 1), .ref (g 10 2), .ref (g 3 6), .int (S 16 4)])) := hs.1
  refine pw_ciE (pr_V F (c_D_isFunction l D cs A h x g gr dp S nf pT nt hs hnf8 fn) X_D_66 rfl rfl ⟨by decide, by decide⟩ hP hA hK hS f1 rfl rfl rfl hl.1 rfl (Nat.le_of_ble_eq_true rfl) d_D_operation_2 ⟨by decide, by decide⟩) hS (fun H locs hP hS => ?_)
  by_cases b2 : mIn fn 0 (nI nf - 1)
  · skip
    refine W.eq (g2 := F0 m 5 ls [.int 1]) (by rw [if_pos b2]) ?_
    refine lv_if_eq (tgt := 23) F.1 F.2.1 d_D_operation_5 (by decide) (fun c3 => absurd c3 (by decide)) (fun c3 => ?_)
    obtain ⟨f, hltf, rfl⟩ := mIn_nat (by omega) b2.1 b2.2
    refine lv_iload_n F.1 F.2.1 d_D_operation_8 rfl (lv_at hl 2 rfl) ?_
    refine lv_if_eq (tgt := 33) F.1 F.2.1 d_D_operation_9 (by decide) (fun c4 => ?_) (fun c4 => ?_)
    · skip
      have hor : oRow (nI f) dr = 0 + f := oRow_0 (by omega) c4
      have hhR : S 0 (0 + f) = 1 := (hw.1.2.2.2.2.2.2.2.2.1 (0 + f) (by omega)).mpr (by omega)
      obtain ⟨_, z, hz12, hz, _⟩ := hw.1.2.2.2.2.2.2.2.2.2 (0 + f) (by omega) hhR
      refine lv_iload_n F.1 F.2.1 d_D_operation_33 rfl (lv_at hl 2 rfl) ?_
      refine lv_if_eq (tgt := 49) F.1 F.2.1 d_D_operation_34 (by decide) (fun c5 => ?_) (fun c5 => absurd c4 c5)
      refine lv_aload_n F.1 F.2.1 d_D_operation_49 rfl (lv_at hl 0 rfl) ?_
      refine pw_get F I_D hK.1 hP f1 rfl 0 (by decide) L_D_10 (fun _ z => z) rfl d_D_operation_50 ?_
      refine lv_iload_n F.1 F.2.1 d_D_operation_53 rfl (lv_at hl 1 rfl) ?_
      obtain ⟨_, n6, v7, f8, f9, k10⟩ := hs.le (show 0 < 3 by decide) (show 0 < nf by omega)
      obtain ⟨q11, n12, f13, _, _⟩ := hs.ls (show 0 < 3 by decide)
      have f14 : h (g 10 0) = some (.inr (0, [.ref q11, .int (nI nf), .int n12])) := f13
      refine pw_crE (pr_V F (c_AL_get l D cs A h _ _ nf f _ _ v7 (by omega) (by omega) (k10 f (show f < nf by omega)) f8 f9) X_D_78 rfl rfl ⟨by decide, by decide⟩ hP hA hK hS f14 rfl rfl rfl hl.1 rfl (Nat.le_of_ble_eq_true rfl) d_D_operation_54 ⟨by decide, by decide⟩) hS (fun H locs hP hS => ?_)
      have f15 : h (g 9 f) = some (.inr (2, [.int (S 1 f), .ref (g 0 f)])) := hs.fu (by omega)
      refine va_castY (C := R_Fn) F.1 F.2.1 F.2.2.2.1 (F.2.2.2.2 _ C_D_57) (hK.2.2.2.2.2.2.2.1 ("PatchDesk$Function", "PatchDesk$Function") (by decide)) (pw_recv hK.1 hP f15 rfl) d_D_operation_57 ?_
      refine pw_get F I_Fn hK.1 hP f15 rfl 1 (by decide) L_D_82 (fun _ z => z) rfl d_D_operation_60 ?_
      refine W.eq (g2 := F0 m 63 ls [.ref ((g 0 (0 + f)))]) (by rw [show g 0 f = g 0 (0 + f) by rw [Nat.zero_add]]) ?_
      refine lv_astore F.1 F.2.1 d_D_operation_63 hl (by decide) rfl (fun ls hl => ?_)
      replace hl : lv_has ls 6 [(5, .ref ((g 0 (0 + f)))), (0, .ref x), (1, .int (nI f)), (2, .int dr), (3, .int kd), (4, .int n)] := hl
      refine lv_aload_n F.1 F.2.1 d_D_operation_65 rfl (lv_at hl 1 rfl) ?_
      refine lv_iload_n F.1 F.2.1 d_D_operation_66 rfl (lv_at hl 4 rfl) ?_
      refine lv_iload F.1 F.2.1 d_D_operation_67 (lv_at hl 5 rfl) ?_
      refine lv_aload F.1 F.2.1 d_D_operation_69 (lv_at hl 0 rfl) ?_
      have f16 : h ((g 0 (0 + f))) = some (.inr (1, [.ref ((g 1 (0 + f))), .ref ((g 2 (0 + f))), .int (S 2 (0 + f))])) := hs.b (by omega) hhR
      refine pw_get F I_B hK.1 hP f16 rfl 2 (by decide) L_D_86 (fun _ z => z) rfl d_D_operation_71 ?_
      refine pw_ci (pr_V F (c_D_isOperation l D cs A h x g gr dp S nf pT nt hs hnf8 kd n (S 2 (0 + f))) X_D_90 rfl rfl ⟨by decide, by decide⟩ hP hA hK hS f1 rfl rfl rfl hl.1 rfl (Nat.le_of_ble_eq_true rfl) d_D_operation_74 ⟨by decide, by decide⟩) hS (fun r9 hn9 H locs hq hP hS => ?_)
      obtain ⟨he9, hq1, hq2⟩ := hq
      rw [he9] at hP
      clear he9
      have hgi := gd_iff (kd := kd) (n := n) hw hltf hor hhR
      by_cases b17 : opOk nf kd n (S 2 (0 + f))
      · skip
        refine W.eq (g2 := F0 m 77 ls [.int 1]) (by rw [hq1 b17]) ?_
        refine lv_if_ne (tgt := 90) F.1 F.2.1 d_D_operation_77 (by decide) (fun c18 => ?_) (fun c18 => absurd c18 (by decide))
        refine lv_iload_n F.1 F.2.1 d_D_operation_90 rfl (lv_at hl 3 rfl) ?_
        refine lv_if_ne (tgt := 101) F.1 F.2.1 d_D_operation_91 (by decide) (fun c19 => absurd c4 c19) (fun c19 => ?_)
        refine lv_aload_n F.1 F.2.1 d_D_operation_94 rfl (lv_at hl 1 rfl) ?_
        refine pw_ciE (pr_V F (c_D_isInUse l D cs A h x g gr dp S nf pT nt hs hnt4 hp5) X_D_48 rfl rfl ⟨by decide, by decide⟩ hP hA hK hS f1 rfl rfl rfl hl.1 rfl (Nat.le_of_ble_eq_true rfl) d_D_operation_95 ⟨by decide, by decide⟩) hS (fun H locs hP hS => ?_)
        by_cases b20 : nt = 0 ∧ pT = 0
        · skip
          refine W.eq (g2 := F0 m 98 ls [.int 0]) (by rw [if_pos b20]) ?_
          refine lv_if_ne (tgt := 109) F.1 F.2.1 d_D_operation_98 (by decide) (fun c21 => absurd (by decide) c21) (fun c21 => ?_)
          refine lv_aload F.1 F.2.1 d_D_operation_101 (lv_at hl 0 rfl) ?_
          refine pw_ciE (pr_V F (c_B_isFull l D cs A h _ _ _ _ f16) X_D_96 rfl rfl ⟨by decide, by decide⟩ hP hA hK hS f16 rfl rfl rfl hl.1 rfl (Nat.le_of_ble_eq_true rfl) d_D_operation_103 ⟨by decide, by decide⟩) hS (fun H locs hP hS => ?_)
          by_cases b22 : (12 : Int32) ≤ S 2 (0 + f)
          · skip
            refine W.eq (g2 := F0 m 106 ls [.int 1]) (by rw [if_pos b22]) ?_
            refine lv_if_eq (tgt := 119) F.1 F.2.1 d_D_operation_106 (by decide) (fun c23 => absurd c23 (by decide)) (fun c23 => ?_)
            exact pw_throw (is := 99) (text := "the body is closed by a task or a patch, or has 12 operations") hst xw_2 (by decide) F hlk htb hP hK hS hl d_D_operation_109 d_D_operation_112 d_D_operation_113 d_D_operation_115 d_D_operation_118 (by decide) (by decide) (by decide) (by decide) (by decide) (by decide) ((by have hth : thOperation S (nI f) dr kd n = 2 := (by unfold thOperation; rw [if_neg (fun z9 => z9 (hgi.mpr b17)), if_pos (Or.inr (by rw [hor, hz]; exact (full_iff hz12).mp (hz ▸ b22)))]); exact Or.inr ⟨rfl, hth, by unfold stOperation; rw [if_neg (by rw [hth]; decide), hth]; exact SimE.num ⟨g, gr, nf, pT, nt, hdpS ▸ hs, hw⟩ _⟩))
          · skip
            refine W.eq (g2 := F0 m 106 ls [.int 0]) (by rw [if_neg b22]) ?_
            refine lv_if_eq (tgt := 119) F.1 F.2.1 d_D_operation_106 (by decide) (fun c24 => ?_) (fun c24 => absurd (by decide) c24)
            have hlt : z < 12 := (Nat.lt_or_ge z 12).elim id (fun h9 => absurd (by rw [hz, show z = 12 by omega]; exact Int32.le_refl _) b22)
            refine lv_aload F.1 F.2.1 d_D_operation_119 (lv_at hl 0 rfl) ?_
            refine lv_iload_n F.1 F.2.1 d_D_operation_121 rfl (lv_at hl 4 rfl) ?_
            refine lv_iload F.1 F.2.1 d_D_operation_122 (lv_at hl 5 rfl) ?_
            obtain ⟨v25, f26, k27⟩ := hs.kd (r := (0 + f)) (by omega) hhR
            have f28 : h ((g 1 (0 + f))) = some (.inl (cs 0, 12, .inl v25)) := f26
            obtain ⟨v29, f30, k31⟩ := hs.nm (r := (0 + f)) (by omega) hhR
            have f32 : h ((g 2 (0 + f))) = some (.inl (cs 0, 12, .inl v29)) := f30
            refine pw_cv (pr_V F (c_B_append l D cs A h _ _ _ z v25 v29 kd n (hs.ne (k := 1) (i := (0 + f)) (k' := 2) (i' := (0 + f)) ⟨by omega, hhR⟩ ⟨by omega, hhR⟩ (by omega)) hlt (by have h9 := f16; rw [hz] at h9; exact h9) f28 f32) X_D_101 rfl rfl ⟨by decide, by decide⟩ hP hA hK hS f16 rfl rfl rfl hl.1 rfl (Nat.le_of_ble_eq_true rfl) d_D_operation_124 ⟨by decide, by decide⟩) hS (fun hz9 H locs hq hP hS => ?_)
            obtain ⟨ha1, ha2, ha0, hax⟩ := hq
            have hsA := Sim.append (R := (0 + f)) (hs.num 0) (by omega) ((sp_k (by decide)).trans hhR) ((sp_k (by decide)).trans hz) hlt (fun a a1 a2 => by rw [sp_k (by decide)] at a2 ⊢; exact k27 a a1 a2) (fun a a1 a2 => by rw [sp_k (by decide)] at a2 ⊢; exact k31 a a1 a2) hax ha1 ha2 ha0
            refine lv_aload F.1 F.2.1 d_D_operation_127 (lv_at hl 0 rfl) ?_
            refine pw_get F I_B hK.1 hP ha0 rfl 2 (by decide) L_D_86 (fun _ z => z) rfl d_D_operation_129 ?_
            exact vx_ret (pw_iret F hr hlk hP hA hK hS (by decide) (by decide) d_D_operation_132 ((by have hth : thOperation S (nI f) dr kd n = 0 := (by unfold thOperation; rw [if_neg (fun z9 => z9 (hgi.mpr b17)), if_neg (fun z9 => z9.elim (fun z8 => z8.2 ((fresh_iff hw).mpr b20)) (fun z8 => b22 (by rw [hor, hz] at z8; rw [hz, z8]; exact Int32.le_refl _)))]); have hst9 : stOperation S (nI f) dr kd n = sp (sp (sp (sp S 16 0 0) 3 (12 * (0 + f) + z) kd) 4 (12 * (0 + f) + z) n) 2 (0 + f) (nI (z + 1)) := (by unfold stOperation; rw [if_pos hth, hor, hz, tn_nI (by omega), nI_1]); have hw9 : WF (stOperation S (nI f) dr kd n) nf pT nt noX := (WFe.operation ⟨nf, pT, nt, hw⟩ _ _ _ _).same (by rw [hst9, sp_k (by decide), sp_k (by decide), sp_k (by decide), sp_j (by decide)]; exact hn1) hnf8 (by rw [hst9, sp_k (by decide), sp_k (by decide), sp_k (by decide), sp_j (by decide)]; exact hn3) hp5 (by rw [hst9, sp_k (by decide), sp_k (by decide), sp_k (by decide), sp_j (by decide)]; exact hn5) hnt4; exact ⟨hth, SimE.mk (by rw [hst9]; exact hsA) (fun u _ => by rw [hst9, sp_k (by decide), sp_k (by decide), sp_k (by decide), sp_k (by decide), hdpS]; exact Nat.le_refl _) hw9, by unfold rOperation; rw [if_pos hth, hor, hz]⟩)))
        · skip
          refine W.eq (g2 := F0 m 98 ls [.int 1]) (by rw [if_neg b20]) ?_
          refine lv_if_ne (tgt := 109) F.1 F.2.1 d_D_operation_98 (by decide) (fun c33 => ?_) (fun c33 => absurd c33 (by decide))
          exact pw_throw (is := 99) (text := "the body is closed by a task or a patch, or has 12 operations") hst xw_2 (by decide) F hlk htb hP hK hS hl d_D_operation_109 d_D_operation_112 d_D_operation_113 d_D_operation_115 d_D_operation_118 (by decide) (by decide) (by decide) (by decide) (by decide) (by decide) ((by have hth : thOperation S (nI f) dr kd n = 2 := (by unfold thOperation; rw [if_neg (fun z9 => z9 (hgi.mpr b17)), if_pos (Or.inl ⟨c4, fun z9 => b20 ((fresh_iff hw).mp z9)⟩)]); exact Or.inr ⟨rfl, hth, by unfold stOperation; rw [if_neg (by rw [hth]; decide), hth]; exact SimE.num ⟨g, gr, nf, pT, nt, hdpS ▸ hs, hw⟩ _⟩))
      · skip
        refine W.eq (g2 := F0 m 77 ls [.int 0]) (by rw [hq2 b17]) ?_
        refine lv_if_ne (tgt := 90) F.1 F.2.1 d_D_operation_77 (by decide) (fun c34 => absurd (by decide) c34) (fun c34 => ?_)
        exact pw_throw (is := 94) (text := "no such operation, or not with this number") hst xw_1 (by decide) F hlk htb hP hK hS hl d_D_operation_80 d_D_operation_83 d_D_operation_84 d_D_operation_86 d_D_operation_89 (by decide) (by decide) (by decide) (by decide) (by decide) (by decide) ((by have hth : thOperation S (nI f) dr kd n = 1 := (by unfold thOperation; rw [if_pos ((fun z9 => b17 (hgi.mp z9)))]); exact Or.inl ⟨rfl, hth, by unfold stOperation; rw [if_neg (by rw [hth]; decide), hth]; exact SimE.num ⟨g, gr, nf, pT, nt, hdpS ▸ hs, hw⟩ _⟩))
    · skip
      refine lv_aload_n F.1 F.2.1 d_D_operation_12 rfl (lv_at hl 0 rfl) ?_
      refine pw_get F I_D hK.1 hP f1 rfl 3 (by decide) L_D_25 (fun _ z => z) rfl d_D_operation_13 ?_
      refine lv_iload_n F.1 F.2.1 d_D_operation_16 rfl (lv_at hl 1 rfl) ?_
      obtain ⟨v35, f36, k37⟩ := hs.pt (l := 6) (by omega)
      have f38 : h (g 3 6) = some (.inr (3, [.ref (g 4 6), .ref (g 5 6), .int v35])) := f36
      obtain ⟨v39, f40, k41⟩ := hs.bs (l := 6) (by omega)
      have f42 : h (g 4 6) = some (.inl (cs 3, 8, .inr (.inr (.inr (.inr v39))))) := f40
      refine pw_ciE (pr_V F (c_P_hasNamed l D cs A h _ _ f _ _ _ (by omega) f38 f42) X_D_69 rfl rfl ⟨by decide, by decide⟩ hP hA hK hS f38 rfl rfl rfl hl.1 rfl (Nat.le_of_ble_eq_true rfl) d_D_operation_17 ⟨by decide, by decide⟩) hS (fun H locs hP hS => ?_)
      by_cases b43 : v39 f = none
      · skip
        refine W.eq (g2 := F0 m 20 ls [.int 0]) (by rw [if_pos b43]) ?_
        refine lv_if_ne (tgt := 33) F.1 F.2.1 d_D_operation_20 (by decide) (fun c44 => absurd (by decide) c44) (fun c44 => ?_)
        exact pw_throw (is := 72) (text := "no such function, or not in the draft") hst xw_1 (by decide) F hlk htb hP hK hS hl d_D_operation_23 d_D_operation_26 d_D_operation_27 d_D_operation_29 d_D_operation_32 (by decide) (by decide) (by decide) (by decide) (by decide) (by decide) ((by have hth : thOperation S (nI f) dr kd n = 1 := (by unfold thOperation; rw [if_pos ((fun z9 => z9.2.2.1 (by rw [oRow_1 (by omega) c4]; exact (hw.1.2.2.2.2.2.2.2.1 (48 + f) (by omega)).elim id (fun z8 => by have h9 := (k41 f (by omega)).1 z8; rw [h9] at b43; exact absurd b43 (by simp)))))]); exact Or.inl ⟨rfl, hth, by unfold stOperation; rw [if_neg (by rw [hth]; decide), hth]; exact SimE.num ⟨g, gr, nf, pT, nt, hdpS ▸ hs, hw⟩ _⟩))
      · skip
        refine W.eq (g2 := F0 m 20 ls [.int 1]) (by rw [if_neg b43]) ?_
        refine lv_if_ne (tgt := 33) F.1 F.2.1 d_D_operation_20 (by decide) (fun c45 => ?_) (fun c45 => absurd c45 (by decide))
        have hor : oRow (nI f) dr = 48 + f := oRow_1 (by omega) c4
        have hhR : S 0 (48 + f) = 1 := (hw.1.2.2.2.2.2.2.2.1 (48 + f) (by omega)).elim (fun z9 => absurd ((k41 f (by omega)).2 z9) b43) id
        obtain ⟨_, z, hz12, hz, _⟩ := hw.1.2.2.2.2.2.2.2.2.2 (48 + f) (by omega) hhR
        refine lv_iload_n F.1 F.2.1 d_D_operation_33 rfl (lv_at hl 2 rfl) ?_
        refine lv_if_eq (tgt := 49) F.1 F.2.1 d_D_operation_34 (by decide) (fun c46 => absurd c46 c4) (fun c46 => ?_)
        refine lv_aload_n F.1 F.2.1 d_D_operation_37 rfl (lv_at hl 0 rfl) ?_
        refine pw_get F I_D hK.1 hP f1 rfl 3 (by decide) L_D_25 (fun _ z => z) rfl d_D_operation_38 ?_
        refine pw_get F I_P hK.1 hP f38 rfl 0 (by decide) L_D_74 (fun _ z => z) rfl d_D_operation_41 ?_
        refine lv_iload_n F.1 F.2.1 d_D_operation_44 rfl (lv_at hl 1 rfl) ?_
        refine pw_aldqN F hK.1 hP 3 f42 rfl (k := f) (by omega) (by decide) d_D_operation_45 ?_
        refine W.eq (g2 := F0 m 46 ls [.ref ((g 0 (48 + f)))]) (by rw [(k41 f (by omega)).1 hhR]; rfl) ?_
        refine lv_goto (tgt := 63) F.1 F.2.1 d_D_operation_46 (by decide) ?_
        refine lv_astore F.1 F.2.1 d_D_operation_63 hl (by decide) rfl (fun ls hl => ?_)
        replace hl : lv_has ls 6 [(5, .ref ((g 0 (48 + f)))), (0, .ref x), (1, .int (nI f)), (2, .int dr), (3, .int kd), (4, .int n)] := hl
        refine lv_aload_n F.1 F.2.1 d_D_operation_65 rfl (lv_at hl 1 rfl) ?_
        refine lv_iload_n F.1 F.2.1 d_D_operation_66 rfl (lv_at hl 4 rfl) ?_
        refine lv_iload F.1 F.2.1 d_D_operation_67 (lv_at hl 5 rfl) ?_
        refine lv_aload F.1 F.2.1 d_D_operation_69 (lv_at hl 0 rfl) ?_
        have f47 : h ((g 0 (48 + f))) = some (.inr (1, [.ref ((g 1 (48 + f))), .ref ((g 2 (48 + f))), .int (S 2 (48 + f))])) := hs.b (by omega) hhR
        refine pw_get F I_B hK.1 hP f47 rfl 2 (by decide) L_D_86 (fun _ z => z) rfl d_D_operation_71 ?_
        refine pw_ci (pr_V F (c_D_isOperation l D cs A h x g gr dp S nf pT nt hs hnf8 kd n (S 2 (48 + f))) X_D_90 rfl rfl ⟨by decide, by decide⟩ hP hA hK hS f1 rfl rfl rfl hl.1 rfl (Nat.le_of_ble_eq_true rfl) d_D_operation_74 ⟨by decide, by decide⟩) hS (fun r9 hn9 H locs hq hP hS => ?_)
        obtain ⟨he9, hq1, hq2⟩ := hq
        rw [he9] at hP
        clear he9
        have hgi := gd_iff (kd := kd) (n := n) hw hltf hor hhR
        by_cases b48 : opOk nf kd n (S 2 (48 + f))
        · skip
          refine W.eq (g2 := F0 m 77 ls [.int 1]) (by rw [hq1 b48]) ?_
          refine lv_if_ne (tgt := 90) F.1 F.2.1 d_D_operation_77 (by decide) (fun c49 => ?_) (fun c49 => absurd c49 (by decide))
          refine lv_iload_n F.1 F.2.1 d_D_operation_90 rfl (lv_at hl 3 rfl) ?_
          refine lv_if_ne (tgt := 101) F.1 F.2.1 d_D_operation_91 (by decide) (fun c50 => ?_) (fun c50 => absurd c50 c4)
          refine lv_aload F.1 F.2.1 d_D_operation_101 (lv_at hl 0 rfl) ?_
          refine pw_ciE (pr_V F (c_B_isFull l D cs A h _ _ _ _ f47) X_D_96 rfl rfl ⟨by decide, by decide⟩ hP hA hK hS f47 rfl rfl rfl hl.1 rfl (Nat.le_of_ble_eq_true rfl) d_D_operation_103 ⟨by decide, by decide⟩) hS (fun H locs hP hS => ?_)
          by_cases b51 : (12 : Int32) ≤ S 2 (48 + f)
          · skip
            refine W.eq (g2 := F0 m 106 ls [.int 1]) (by rw [if_pos b51]) ?_
            refine lv_if_eq (tgt := 119) F.1 F.2.1 d_D_operation_106 (by decide) (fun c52 => absurd c52 (by decide)) (fun c52 => ?_)
            exact pw_throw (is := 99) (text := "the body is closed by a task or a patch, or has 12 operations") hst xw_2 (by decide) F hlk htb hP hK hS hl d_D_operation_109 d_D_operation_112 d_D_operation_113 d_D_operation_115 d_D_operation_118 (by decide) (by decide) (by decide) (by decide) (by decide) (by decide) ((by have hth : thOperation S (nI f) dr kd n = 2 := (by unfold thOperation; rw [if_neg (fun z9 => z9 (hgi.mpr b48)), if_pos (Or.inr (by rw [hor, hz]; exact (full_iff hz12).mp (hz ▸ b51)))]); exact Or.inr ⟨rfl, hth, by unfold stOperation; rw [if_neg (by rw [hth]; decide), hth]; exact SimE.num ⟨g, gr, nf, pT, nt, hdpS ▸ hs, hw⟩ _⟩))
          · skip
            refine W.eq (g2 := F0 m 106 ls [.int 0]) (by rw [if_neg b51]) ?_
            refine lv_if_eq (tgt := 119) F.1 F.2.1 d_D_operation_106 (by decide) (fun c53 => ?_) (fun c53 => absurd (by decide) c53)
            have hlt : z < 12 := (Nat.lt_or_ge z 12).elim id (fun h9 => absurd (by rw [hz, show z = 12 by omega]; exact Int32.le_refl _) b51)
            refine lv_aload F.1 F.2.1 d_D_operation_119 (lv_at hl 0 rfl) ?_
            refine lv_iload_n F.1 F.2.1 d_D_operation_121 rfl (lv_at hl 4 rfl) ?_
            refine lv_iload F.1 F.2.1 d_D_operation_122 (lv_at hl 5 rfl) ?_
            obtain ⟨v54, f55, k56⟩ := hs.kd (r := (48 + f)) (by omega) hhR
            have f57 : h ((g 1 (48 + f))) = some (.inl (cs 0, 12, .inl v54)) := f55
            obtain ⟨v58, f59, k60⟩ := hs.nm (r := (48 + f)) (by omega) hhR
            have f61 : h ((g 2 (48 + f))) = some (.inl (cs 0, 12, .inl v58)) := f59
            refine pw_cv (pr_V F (c_B_append l D cs A h _ _ _ z v54 v58 kd n (hs.ne (k := 1) (i := (48 + f)) (k' := 2) (i' := (48 + f)) ⟨by omega, hhR⟩ ⟨by omega, hhR⟩ (by omega)) hlt (by have h9 := f47; rw [hz] at h9; exact h9) f57 f61) X_D_101 rfl rfl ⟨by decide, by decide⟩ hP hA hK hS f47 rfl rfl rfl hl.1 rfl (Nat.le_of_ble_eq_true rfl) d_D_operation_124 ⟨by decide, by decide⟩) hS (fun hz9 H locs hq hP hS => ?_)
            obtain ⟨ha1, ha2, ha0, hax⟩ := hq
            have hsA := Sim.append (R := (48 + f)) (hs.num 0) (by omega) ((sp_k (by decide)).trans hhR) ((sp_k (by decide)).trans hz) hlt (fun a a1 a2 => by rw [sp_k (by decide)] at a2 ⊢; exact k56 a a1 a2) (fun a a1 a2 => by rw [sp_k (by decide)] at a2 ⊢; exact k60 a a1 a2) hax ha1 ha2 ha0
            refine lv_aload F.1 F.2.1 d_D_operation_127 (lv_at hl 0 rfl) ?_
            refine pw_get F I_B hK.1 hP ha0 rfl 2 (by decide) L_D_86 (fun _ z => z) rfl d_D_operation_129 ?_
            exact vx_ret (pw_iret F hr hlk hP hA hK hS (by decide) (by decide) d_D_operation_132 ((by have hth : thOperation S (nI f) dr kd n = 0 := (by unfold thOperation; rw [if_neg (fun z9 => z9 (hgi.mpr b48)), if_neg (fun z9 => z9.elim (fun z8 => c4 z8.1) (fun z8 => b51 (by rw [hor, hz] at z8; rw [hz, z8]; exact Int32.le_refl _)))]); have hst9 : stOperation S (nI f) dr kd n = sp (sp (sp (sp S 16 0 0) 3 (12 * (48 + f) + z) kd) 4 (12 * (48 + f) + z) n) 2 (48 + f) (nI (z + 1)) := (by unfold stOperation; rw [if_pos hth, hor, hz, tn_nI (by omega), nI_1]); have hw9 : WF (stOperation S (nI f) dr kd n) nf pT nt noX := (WFe.operation ⟨nf, pT, nt, hw⟩ _ _ _ _).same (by rw [hst9, sp_k (by decide), sp_k (by decide), sp_k (by decide), sp_j (by decide)]; exact hn1) hnf8 (by rw [hst9, sp_k (by decide), sp_k (by decide), sp_k (by decide), sp_j (by decide)]; exact hn3) hp5 (by rw [hst9, sp_k (by decide), sp_k (by decide), sp_k (by decide), sp_j (by decide)]; exact hn5) hnt4; exact ⟨hth, SimE.mk (by rw [hst9]; exact hsA) (fun u _ => by rw [hst9, sp_k (by decide), sp_k (by decide), sp_k (by decide), sp_k (by decide), hdpS]; exact Nat.le_refl _) hw9, by unfold rOperation; rw [if_pos hth, hor, hz]⟩)))
        · skip
          refine W.eq (g2 := F0 m 77 ls [.int 0]) (by rw [hq2 b48]) ?_
          refine lv_if_ne (tgt := 90) F.1 F.2.1 d_D_operation_77 (by decide) (fun c62 => absurd (by decide) c62) (fun c62 => ?_)
          exact pw_throw (is := 94) (text := "no such operation, or not with this number") hst xw_1 (by decide) F hlk htb hP hK hS hl d_D_operation_80 d_D_operation_83 d_D_operation_84 d_D_operation_86 d_D_operation_89 (by decide) (by decide) (by decide) (by decide) (by decide) (by decide) ((by have hth : thOperation S (nI f) dr kd n = 1 := (by unfold thOperation; rw [if_pos ((fun z9 => b48 (hgi.mp z9)))]); exact Or.inl ⟨rfl, hth, by unfold stOperation; rw [if_neg (by rw [hth]; decide), hth]; exact SimE.num ⟨g, gr, nf, pT, nt, hdpS ▸ hs, hw⟩ _⟩))
  · skip
    refine W.eq (g2 := F0 m 5 ls [.int 0]) (by rw [if_neg b2]) ?_
    refine lv_if_eq (tgt := 23) F.1 F.2.1 d_D_operation_5 (by decide) (fun c63 => ?_) (fun c63 => absurd (by decide) c63)
    exact pw_throw (is := 72) (text := "no such function, or not in the draft") hst xw_1 (by decide) F hlk htb hP hK hS hl d_D_operation_23 d_D_operation_26 d_D_operation_27 d_D_operation_29 d_D_operation_32 (by decide) (by decide) (by decide) (by decide) (by decide) (by decide) ((by have hth : thOperation S fn dr kd n = 1 := (by unfold thOperation; rw [if_pos (gd_no hw b2)]); exact Or.inl ⟨rfl, hth, by unfold stOperation; rw [if_neg (by rw [hth]; decide), hth]; exact SimE.num ⟨g, gr, nf, pT, nt, hdpS ▸ hs, hw⟩ _⟩))
