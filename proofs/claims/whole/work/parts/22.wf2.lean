/-! each call keeps what holds of the reference's state -/
def WFe (S : St) : Prop := ∃ nf p nt, WF S nf p nt noX
theorem WFe.num {S : St} (h : WFe S) (v : Int32) : WFe (sp S 16 0 v) := by
  obtain ⟨nf, p, nt, h⟩ := h
  exact ⟨nf, p, nt, h.num (Or.inl rfl) v⟩
theorem St0_o {k j : Nat} (h : k ≠ 16) : St0 k j = 0 := if_neg (fun z => h z.1)
theorem WFe.start : WFe St0 := by
  refine ⟨0, 0, 0, ⟨by decide, by decide, by decide, if_neg (by decide), if_neg (by decide), if_neg (by decide), Or.inl (if_pos ⟨rfl, rfl⟩), fun j _ => Or.inl (St0_o (by decide)), fun f _ => ⟨fun z => ?_, fun z => absurd z (Nat.not_lt_zero _)⟩, fun j _ z => ?_⟩, fun t ht => absurd ht (Nat.not_lt_zero _), fun t _ _ => ⟨St0_o (by decide), St0_o (by decide), St0_o (by decide), St0_o (by decide), St0_o (by decide)⟩⟩
  · rw [St0_o (by decide)] at z
    exact absurd z (by decide)
  · rw [St0_o (by decide)] at z
    exact absurd z (by decide)
theorem okRow.congr {S T : St} {nf nf' r q : Nat} (h : okRow S nf q) (hn : nf ≤ nf') (h2 : T 2 r = S 2 q) (h3 : ∀ a, a < 12 → T 3 (12 * r + a) = S 3 (12 * q + a)) (h4 : ∀ a, a < 12 → T 4 (12 * r + a) = S 4 (12 * q + a)) : okRow T nf' r := by
  obtain ⟨z, hz, hs, ho⟩ := h
  refine ⟨z, hz, h2.trans hs, fun a ha => ?_⟩
  have h9 := ho a ha
  unfold okOp at h9 ⊢
  rw [h3 a (by omega), h4 a (by omega)]
  exact ⟨h9.1, fun z9 => (h9.2.1 z9).elim (fun j h8 => ⟨j, by omega, h8.2⟩), h9.2.2⟩
theorem WFe.function {S : St} (h : WFe S) (sg : Int32) : WFe (stFunction S sg) := by
  unfold stFunction
  split
  · rename_i hth
    obtain ⟨nf, p, nt, ⟨h1, h2, h3, h4, h5, h6, h7, h8, h9, h10⟩, hw1, hw2⟩ := h
    unfold thFunction at hth
    split at hth
    · exact absurd hth (by decide)
    split at hth
    · exact absurd hth (by decide)
    rename_i hc
    have hnt : nt = 0 := Classical.byContradiction (fun z => hc (Or.inr (fun y => z ((nI_eq (a := nt) (b := 0) (by omega) (by decide)).mp (h6.symm.trans y.1)))))
    have hlt : nf < 8 := by
      rcases Nat.lt_or_ge nf 8 with h | h
      · exact h
      · exact absurd (Or.inl (by rw [h4, show nf = 8 by omega]; rfl)) hc
    subst hnt
    rw [h4, tn_nI (by omega), nI_1]
    have r0 : ∀ j, sp (sp (sp (sp (sp S 16 0 0) 0 nf 1) 1 nf sg) 2 nf 0) 16 1 (nI (nf + 1)) 0 j = if j = nf then 1 else S 0 j := fun j => by
      rw [sp_k (by decide), sp_k (by decide), sp_k (by decide)]
      split
      · rename_i hj; rw [hj, sp_s]
      · rename_i hj; rw [sp_j hj, sp_k (by decide)]
    refine ⟨nf + 1, p, 0, ⟨by omega, h2, h3, sp_s, ?_, ?_, ?_, fun j hj => ?_, fun f hf => ?_, fun j hj hh => ?_⟩, fun t ht => absurd ht (Nat.not_lt_zero _), fun t h0 ht => ?_⟩
    · rw [sp_j (by decide), sp_k (by decide), sp_k (by decide), sp_k (by decide), sp_j (by decide)]; exact h5
    · rw [sp_j (by decide), sp_k (by decide), sp_k (by decide), sp_k (by decide), sp_j (by decide)]; exact h6
    · rw [sp_j (by decide), sp_k (by decide), sp_k (by decide), sp_k (by decide), sp_j (by decide)]; exact h7
    · rw [r0]; split
      · exact Or.inr rfl
      · exact h8 j hj
    · rw [r0]; split
      · exact ⟨fun _ => by omega, fun _ => rfl⟩
      · exact (h9 f hf).trans ⟨fun _ => by omega, fun _ => by omega⟩
    · rw [r0] at hh
      by_cases hjn : j = nf
      · subst hjn
        exact ⟨by omega, 0, by decide, by rw [sp_k (by decide)]; exact sp_s, fun a ha => absurd ha (Nat.not_lt_zero _)⟩
      · rw [if_neg hjn] at hh
        obtain ⟨g1, g2⟩ := h10 j hj hh
        refine ⟨by omega, g2.congr (by omega) ?_ (fun a _ => ?_) (fun a _ => ?_)⟩
        · rw [sp_k (by decide), sp_j hjn, sp_k (by decide), sp_k (by decide), sp_k (by decide)]
        · rw [sp_k (by decide), sp_k (by decide), sp_k (by decide), sp_k (by decide), sp_k (by decide)]
        · rw [sp_k (by decide), sp_k (by decide), sp_k (by decide), sp_k (by decide), sp_k (by decide)]
    · have hi := hw2 t h0 ht
      unfold idle at hi ⊢
      have off : ∀ k, 3 ≤ k → k ≠ 16 → sp (sp (sp (sp (sp S 16 0 0) 0 nf 1) 1 nf sg) 2 nf 0) 16 1 (nI (nf + 1)) k t = S k t := fun k hk h16 => by
        rw [sp_k h16, sp_k (by omega), sp_k (by omega), sp_k (by omega), sp_k h16]
      rw [off 11 (by decide) (by decide), off 7 (by decide) (by decide), off 8 (by decide) (by decide), off 9 (by decide) (by decide), off 10 (by decide) (by decide)]
      exact hi
  · exact h.num _
theorem WFe.operation {S : St} (h : WFe S) (fn dr kd n : Int32) : WFe (stOperation S fn dr kd n) := by
  unfold stOperation
  split
  · rename_i hth
    obtain ⟨nf, p, nt, ⟨h1, h2, h3, h4, h5, h6, h7, h8, h9, h10⟩, hw1, hw2⟩ := h
    unfold thOperation at hth
    split at hth
    · exact absurd hth (by decide)
    rename_i hg
    split at hth
    · exact absurd hth (by decide)
    rename_i hc
    have hgd : gdOperation S fn dr kd n := Classical.byContradiction hg
    obtain ⟨g1, g2, g3, g4, g5, g6⟩ := hgd
    obtain ⟨f, hf, rfl⟩ := mIn_nat (n := 8) (by decide) g1.1 g1.2
    obtain ⟨R, hR, hR56, hRd⟩ : ∃ R, oRow (nI f) dr = R ∧ R < 56 ∧ (R < 48 → nt = 0) := by
      by_cases hd : dr = 0
      · refine ⟨0 + f, oRow_0 hf hd, by omega, fun _ => ?_⟩
        exact Classical.byContradiction (fun z => hc (Or.inl ⟨hd, fun y => z ((nI_eq (a := nt) (b := 0) (by omega) (by decide)).mp (h6.symm.trans y.1))⟩))
      · exact ⟨48 + f, oRow_1 hf hd, by omega, fun _ => by omega⟩
    rw [hR] at g3 g6 hc ⊢
    have g3' : S 0 R = 1 := (h8 R hR56).elim (fun z => absurd z g3) id
    obtain ⟨m1, z, hz12, hz, hop⟩ := h10 R hR56 g3'
    have hlt : z < 12 := by
      rcases Nat.lt_or_ge z 12 with h | h
      · exact h
      · exact absurd (Or.inr (by rw [hz, show z = 12 by omega]; rfl)) hc
    rw [hz, tn_nI (by omega), nI_1]
    have ko : ∀ k j, k ≠ 2 → k ≠ 3 → k ≠ 4 → (k = 16 → j ≠ 0) → sp (sp (sp (sp S 16 0 0) 3 (12 * R + z) kd) 4 (12 * R + z) n) 2 R (nI (z + 1)) k j = S k j := fun k j a2 a3 a4 a6 => by
      rw [sp_k a2, sp_k a4, sp_k a3]
      by_cases h16 : k = 16
      · subst h16; exact sp_j (a6 rfl)
      · exact sp_k h16
    have k2 : ∀ j, j ≠ R → sp (sp (sp (sp S 16 0 0) 3 (12 * R + z) kd) 4 (12 * R + z) n) 2 R (nI (z + 1)) 2 j = S 2 j := fun j hj => by
      rw [sp_j hj, sp_k (by decide), sp_k (by decide), sp_k (by decide)]
    have k3 : ∀ j, j ≠ 12 * R + z → sp (sp (sp (sp S 16 0 0) 3 (12 * R + z) kd) 4 (12 * R + z) n) 2 R (nI (z + 1)) 3 j = S 3 j := fun j hj => by
      rw [sp_k (by decide), sp_k (by decide), sp_j hj, sp_k (by decide)]
    have k4 : ∀ j, j ≠ 12 * R + z → sp (sp (sp (sp S 16 0 0) 3 (12 * R + z) kd) 4 (12 * R + z) n) 2 R (nI (z + 1)) 4 j = S 4 j := fun j hj => by
      rw [sp_k (by decide), sp_j hj, sp_k (by decide), sp_k (by decide)]
    have v3 : sp (sp (sp (sp S 16 0 0) 3 (12 * R + z) kd) 4 (12 * R + z) n) 2 R (nI (z + 1)) 3 (12 * R + z) = kd := by rw [sp_k (by decide), sp_k (by decide), sp_s]
    have v4 : sp (sp (sp (sp S 16 0 0) 3 (12 * R + z) kd) 4 (12 * R + z) n) 2 R (nI (z + 1)) 4 (12 * R + z) = n := by rw [sp_k (by decide), sp_s]
    have v2 : sp (sp (sp (sp S 16 0 0) 3 (12 * R + z) kd) 4 (12 * R + z) n) 2 R (nI (z + 1)) 2 R = nI (z + 1) := sp_s
    obtain ⟨T, hT⟩ : ∃ T, T = sp (sp (sp (sp S 16 0 0) 3 (12 * R + z) kd) 4 (12 * R + z) n) 2 R (nI (z + 1)) := ⟨_, rfl⟩
    rw [← hT] at ko k2 k3 k4 v3 v4 v2 ⊢
    have k0 : ∀ j, T 0 j = S 0 j := fun j => ko 0 j (by decide) (by decide) (by decide) (fun z => absurd z (by decide))
    refine ⟨nf, p, nt, ⟨h1, h2, h3, (ko 16 1 (by decide) (by decide) (by decide) (fun _ => by decide)).trans h4, (ko 16 3 (by decide) (by decide) (by decide) (fun _ => by decide)).trans h5, (ko 16 5 (by decide) (by decide) (by decide) (fun _ => by decide)).trans h6, ?_, fun j hj => ?_, fun j hj => ?_, fun j hj hh => ?_⟩, fun t ht => ?_, fun t h0 ht => ?_⟩
    · rw [ko 16 4 (by decide) (by decide) (by decide) (fun _ => by decide)]; exact h7
    · rw [k0]; exact h8 j hj
    · rw [k0]; exact h9 j hj
    · rw [k0] at hh
      obtain ⟨m1, m2⟩ := h10 j hj hh
      refine ⟨m1, ?_⟩
      by_cases hjR : j = R
      · subst hjR
        refine ⟨z + 1, by omega, v2, fun a ha => ?_⟩
        unfold okOp
        by_cases haz : a = z
        · subst haz
          rw [v3, v4]
          refine ⟨mIn5 g2, fun hk => ?_, fun hk => ?_⟩
          · have h5 := g5 hk
            rw [h4] at h5
            exact mIn_nat (by omega) h5.1 h5.2
          · have h6 := g6 hk
            rw [hz] at h6
            obtain ⟨j9, hj9, hje⟩ := mIn_nat (n := a + 1) (by omega) h6.1 (by rw [nI_pred]; exact h6.2)
            exact ⟨j9, by omega, hje⟩
        · rw [k3 _ (by omega), k4 _ (by omega)]
          exact hop a (by omega)
      · exact m2.congr (Nat.le_refl _) (k2 j hjR) (fun a ha => k3 _ (by omega)) (fun a ha => k4 _ (by omega))
    · obtain ⟨d, hd⟩ := hw1 t ht
      have hR48 : 48 ≤ R := by
        rcases Nat.lt_or_ge R 48 with h | h
        · have := hRd h; omega
        · exact h
      exact ⟨d, hd.congr (ko 11 t (by decide) (by decide) (by decide) (fun z => absurd z (by decide))) (ko 6 t (by decide) (by decide) (by decide) (fun z => absurd z (by decide))) (ko 5 t (by decide) (by decide) (by decide) (fun z => absurd z (by decide))) (fun k _ => ko 12 _ (by decide) (by decide) (by decide) (fun z => absurd z (by decide))) (fun k _ => ko 14 _ (by decide) (by decide) (by decide) (fun z => absurd z (by decide))) (fun r hr _ => ⟨k0 r, k2 r (by omega)⟩) (Nat.le_refl _)⟩
    · have hi := hw2 t h0 ht
      unfold idle at hi ⊢
      rw [ko 11 t (by decide) (by decide) (by decide) (fun z => absurd z (by decide)), ko 7 t (by decide) (by decide) (by decide) (fun z => absurd z (by decide)), ko 8 t (by decide) (by decide) (by decide) (fun z => absurd z (by decide)), ko 9 t (by decide) (by decide) (by decide) (fun z => absurd z (by decide)), ko 10 t (by decide) (by decide) (by decide) (fun z => absurd z (by decide))]
      exact hi
  · exact h.num _
theorem WFe.name {S : St} (h : WFe S) (fn sg : Int32) : WFe (stName S fn sg) := by
  unfold stName
  split
  · rename_i hth
    obtain ⟨nf, p, nt, ⟨h1, h2, h3, h4, h5, h6, h7, h8, h9, h10⟩, hw1, hw2⟩ := h
    unfold thName at hth
    split at hth
    · rename_i hg
      rw [h4] at hg
      obtain ⟨f, hf, rfl⟩ := mIn_nat (by omega) hg.1.1 hg.1.2
      rw [tn_nI (by omega)]
      have ko : ∀ k j, k ≠ 0 → k ≠ 1 → k ≠ 2 → (k = 16 → j ≠ 0 ∧ j ≠ 2) → sp (sp (sp (sp (sp S 16 0 0) 0 (48 + f) 1) 1 (48 + f) sg) 2 (48 + f) 0) 16 2 (S 16 2 + 1) k j = S k j := fun k j a2 a3 a4 a6 => by
        by_cases h16 : k = 16
        · subst h16; rw [sp_j (a6 rfl).2, sp_k a4, sp_k a3, sp_k a2, sp_j (a6 rfl).1]
        · rw [sp_k h16, sp_k a4, sp_k a3, sp_k a2, sp_k h16]
      have k0 : ∀ j, j ≠ 48 + f → sp (sp (sp (sp (sp S 16 0 0) 0 (48 + f) 1) 1 (48 + f) sg) 2 (48 + f) 0) 16 2 (S 16 2 + 1) 0 j = S 0 j := fun j hj => by
        rw [sp_k (by decide), sp_k (by decide), sp_k (by decide), sp_j hj, sp_k (by decide)]
      have k2 : ∀ j, j ≠ 48 + f → sp (sp (sp (sp (sp S 16 0 0) 0 (48 + f) 1) 1 (48 + f) sg) 2 (48 + f) 0) 16 2 (S 16 2 + 1) 2 j = S 2 j := fun j hj => by
        rw [sp_k (by decide), sp_j hj, sp_k (by decide), sp_k (by decide), sp_k (by decide)]
      have v0 : sp (sp (sp (sp (sp S 16 0 0) 0 (48 + f) 1) 1 (48 + f) sg) 2 (48 + f) 0) 16 2 (S 16 2 + 1) 0 (48 + f) = 1 := by rw [sp_k (by decide), sp_k (by decide), sp_k (by decide), sp_s]
      have v2 : sp (sp (sp (sp (sp S 16 0 0) 0 (48 + f) 1) 1 (48 + f) sg) 2 (48 + f) 0) 16 2 (S 16 2 + 1) 2 (48 + f) = 0 := by rw [sp_k (by decide), sp_s]
      obtain ⟨T, hT⟩ : ∃ T, T = sp (sp (sp (sp (sp S 16 0 0) 0 (48 + f) 1) 1 (48 + f) sg) 2 (48 + f) 0) 16 2 (S 16 2 + 1) := ⟨_, rfl⟩
      rw [← hT] at ko k0 k2 v0 v2 ⊢
      refine ⟨nf, p, nt, ⟨h1, h2, h3, (ko 16 1 (by decide) (by decide) (by decide) (fun _ => by decide)).trans h4, (ko 16 3 (by decide) (by decide) (by decide) (fun _ => by decide)).trans h5, (ko 16 5 (by decide) (by decide) (by decide) (fun _ => by decide)).trans h6, ?_, fun j hj => ?_, fun j hj => ?_, fun j hj hh => ?_⟩, fun t ht => ?_, fun t h0 ht => ?_⟩
      · rw [ko 16 4 (by decide) (by decide) (by decide) (fun _ => by decide)]; exact h7
      · by_cases hjR : j = 48 + f
        · rw [hjR, v0]; exact Or.inr rfl
        · rw [k0 j hjR]; exact h8 j hj
      · rw [k0 j (by omega)]; exact h9 j hj
      · by_cases hjR : j = 48 + f
        · subst hjR
          exact ⟨by omega, 0, by decide, v2, fun a ha => absurd ha (Nat.not_lt_zero _)⟩
        · rw [k0 j hjR] at hh
          obtain ⟨m1, m2⟩ := h10 j hj hh
          exact ⟨m1, m2.congr (Nat.le_refl _) (k2 j hjR) (fun a ha => ko 3 _ (by decide) (by decide) (by decide) (fun z => absurd z (by decide))) (fun a ha => ko 4 _ (by decide) (by decide) (by decide) (fun z => absurd z (by decide)))⟩
      · obtain ⟨d, hd⟩ := hw1 t ht
        exact ⟨d, hd.congr (ko 11 t (by decide) (by decide) (by decide) (fun z => absurd z (by decide))) (ko 6 t (by decide) (by decide) (by decide) (fun z => absurd z (by decide))) (ko 5 t (by decide) (by decide) (by decide) (fun z => absurd z (by decide))) (fun k _ => ko 12 _ (by decide) (by decide) (by decide) (fun z => absurd z (by decide))) (fun k _ => ko 14 _ (by decide) (by decide) (by decide) (fun z => absurd z (by decide))) (fun r hr _ => ⟨k0 r (by omega), k2 r (by omega)⟩) (Nat.le_refl _)⟩
      · have hi := hw2 t h0 ht
        unfold idle at hi ⊢
        rw [ko 11 t (by decide) (by decide) (by decide) (fun z => absurd z (by decide)), ko 7 t (by decide) (by decide) (by decide) (fun z => absurd z (by decide)), ko 8 t (by decide) (by decide) (by decide) (fun z => absurd z (by decide)), ko 9 t (by decide) (by decide) (by decide) (fun z => absurd z (by decide)), ko 10 t (by decide) (by decide) (by decide) (fun z => absurd z (by decide))]
        exact hi
    · exact absurd hth (by decide)
  · exact h.num _
