/-- the draft is emptied -/
theorem WF.clr {S : St} {nf p nt : Nat} (h : WF S nf p nt noX) : WF (mClr S) nf p nt noX := by
  obtain ⟨⟨h1, h2, h3, h4, h5, h6, h7, h8, h9, h10⟩, hw1, hw2⟩ := h
  have ko : ∀ k j, k ≠ 0 → mClr S k j = S k j := fun k j hk => if_neg (fun z => hk z.1)
  have k0 : ∀ j, j < 48 → mClr S 0 j = S 0 j := fun j hj => if_neg (fun z => by omega)
  have k1 : ∀ j, 48 ≤ j → j < 56 → mClr S 0 j = 0 := fun j h1 h2 => if_pos ⟨rfl, h1, h2⟩
  refine ⟨⟨h1, h2, h3, (ko 16 1 (by decide)).trans h4, (ko 16 3 (by decide)).trans h5, (ko 16 5 (by decide)).trans h6, by rw [ko 16 4 (by decide)]; exact h7, fun j hj => ?_, fun j hj => ?_, fun j hj hh => ?_⟩, fun t ht => ?_, fun t h0 ht => ?_⟩
  · rcases Nat.lt_or_ge j 48 with h | h
    · rw [k0 j h]; exact h8 j hj
    · exact Or.inl (k1 j h hj)
  · rw [k0 j (by omega)]; exact h9 j hj
  · rcases Nat.lt_or_ge j 48 with h | h
    · rw [k0 j h] at hh
      obtain ⟨m1, m2⟩ := h10 j hj hh
      exact ⟨m1, m2.congr (Nat.le_refl _) (ko 2 _ (by decide)) (fun a _ => ko 3 _ (by decide)) (fun a _ => ko 4 _ (by decide))⟩
    · rw [k1 j h hj] at hh
      exact absurd hh (by decide)
  · obtain ⟨d, hd⟩ := hw1 t ht
    exact ⟨d, hd.congr (ko 11 t (by decide)) (ko 6 t (by decide)) (ko 5 t (by decide)) (fun k _ => ko 12 _ (by decide)) (fun k _ => ko 14 _ (by decide)) (fun r hr _ => ⟨k0 r hr, ko 2 _ (by decide)⟩) (Nat.le_refl _)⟩
  · have hi := hw2 t h0 ht
    exact ⟨(ko 11 t (by decide)).trans hi.1, (ko 7 t (by decide)).trans hi.2.1, (ko 8 t (by decide)).trans hi.2.2.1, (ko 9 t (by decide)).trans hi.2.2.2.1, (ko 10 t (by decide)).trans hi.2.2.2.2⟩
/-- the draft becomes the bodies of a new level -/
theorem WF.move {S : St} {nf p nt : Nat} (h : WF S nf p nt noX) (hp : p < 5) : WF (sp (sp (mMove S (p + 1)) 16 3 (nI (p + 1))) 16 4 (nI (p + 1))) nf (p + 1) nt noX := by
  obtain ⟨⟨h1, h2, h3, h4, h5, h6, h7, h8, h9, h10⟩, hw1, hw2⟩ := h
  obtain ⟨T, hT⟩ : ∃ T, T = sp (sp (mMove S (p + 1)) 16 3 (nI (p + 1))) 16 4 (nI (p + 1)) := ⟨_, rfl⟩
  have km : ∀ k j, k ≠ 16 → T k j = mMove S (p + 1) k j := fun k j hk => by rw [hT, sp_k hk, sp_k hk]
  have ko : ∀ k j, k ≠ 16 → k ≠ 0 → k ≠ 2 → k ≠ 3 → k ≠ 4 → T k j = S k j := fun k j h6 h0 h2 h3 h4 => by
    rw [km k j h6]
    unfold mMove
    rw [if_neg (by omega), if_neg (by omega)]
  have kn : ∀ j, j ≠ 3 → j ≠ 4 → T 16 j = S 16 j := fun j a b => by
    rw [hT, sp_j b, sp_j a]
    unfold mMove
    rw [if_neg (by omega), if_neg (by omega)]
  have kr : ∀ k j, k = 0 ∨ k = 2 → j < 8 * (p + 1) ∨ 8 * (p + 1) + 8 ≤ j → T k j = S k j := fun k j hk hj => by
    rw [km k j (by omega)]
    unfold mMove
    rw [if_neg (by omega), if_neg (by omega)]
  have kR : ∀ k i, k = 0 ∨ k = 2 → i < 8 → T k (8 * (p + 1) + i) = S k (48 + i) := fun k i hk hi => by
    rw [km k _ (by omega)]
    unfold mMove
    rw [if_pos (by omega)]
    congr 1
    omega
  have ks : ∀ k j, k = 3 ∨ k = 4 → j < 96 * (p + 1) ∨ 96 * (p + 1) + 96 ≤ j → T k j = S k j := fun k j hk hj => by
    rw [km k j (by omega)]
    unfold mMove
    rw [if_neg (by omega), if_neg (by omega)]
  have kS : ∀ k i a, k = 3 ∨ k = 4 → i < 8 → a < 12 → T k (12 * (8 * (p + 1) + i) + a) = S k (12 * (48 + i) + a) := fun k i a hk hi ha => by
    rw [km k _ (by omega)]
    unfold mMove
    rw [if_neg (by omega), if_pos (by omega)]
    congr 1
    omega
  rw [← hT]
  refine ⟨⟨h1, by omega, h3, (kn 1 (by decide) (by decide)).trans h4, by rw [hT, sp_j (by decide), sp_s], (kn 5 (by decide) (by decide)).trans h6, Or.inr ⟨by omega, Or.inl (by rw [hT, sp_s])⟩, fun j hj => ?_, fun j hj => ?_, fun j hj hh => ?_⟩, fun t ht => ?_, fun t h0 ht => ?_⟩
  · by_cases hin : j < 8 * (p + 1) ∨ 8 * (p + 1) + 8 ≤ j
    · rw [kr 0 j (Or.inl rfl) hin]; exact h8 j hj
    · rw [show j = 8 * (p + 1) + (j - 8 * (p + 1)) by omega, kR 0 _ (Or.inl rfl) (by omega)]; exact h8 _ (by omega)
  · rw [kr 0 j (Or.inl rfl) (by omega)]; exact h9 j hj
  · by_cases hin : j < 8 * (p + 1) ∨ 8 * (p + 1) + 8 ≤ j
    · rw [kr 0 j (Or.inl rfl) hin] at hh
      obtain ⟨m1, m2⟩ := h10 j hj hh
      exact ⟨m1, m2.congr (Nat.le_refl _) (kr 2 j (Or.inr rfl) hin) (fun a _ => ks 3 _ (Or.inl rfl) (by omega)) (fun a _ => ks 4 _ (Or.inr rfl) (by omega))⟩
    · obtain ⟨i, rfl⟩ : ∃ i, j = 8 * (p + 1) + i := ⟨j - 8 * (p + 1), by omega⟩
      rw [kR 0 i (Or.inl rfl) (by omega)] at hh
      obtain ⟨m1, m2⟩ := h10 _ (by omega) hh
      exact ⟨by omega, m2.congr (Nat.le_refl _) (kR 2 i (Or.inr rfl) (by omega)) (fun a ha => kS 3 i a (Or.inl rfl) (by omega) ha) (fun a ha => kS 4 i a (Or.inr rfl) (by omega) ha)⟩
  · obtain ⟨d, hd⟩ := hw1 t ht
    have k9 : ∀ k j, k = 11 ∨ k = 6 ∨ k = 5 ∨ k = 12 ∨ k = 14 → T k j = S k j := fun k j hk => ko k j (by omega) (by omega) (by omega) (by omega) (by omega)
    exact ⟨d, hd.congr (k9 11 t (by decide)) (k9 6 t (by decide)) (k9 5 t (by decide)) (fun k _ => k9 12 _ (by decide)) (fun k _ => k9 14 _ (by decide)) (fun r hr hrp => ⟨kr 0 r (Or.inl rfl) (hrp.elim (fun z => Or.inl (by omega)) (fun z => absurd z id)), kr 2 r (Or.inr rfl) (hrp.elim (fun z => Or.inl (by omega)) (fun z => absurd z id))⟩) (by omega)⟩
  · have hi := hw2 t h0 ht
    have k9 : ∀ k j, 7 ≤ k ∧ k ≤ 11 → T k j = S k j := fun k j hk => ko k j (by omega) (by omega) (by omega) (by omega) (by omega)
    exact ⟨(k9 11 t (by decide)).trans hi.1, (k9 7 t (by decide)).trans hi.2.1, (k9 8 t (by decide)).trans hi.2.2.1, (k9 9 t (by decide)).trans hi.2.2.2.1, (k9 10 t (by decide)).trans hi.2.2.2.2⟩
theorem mClr_sp {S : St} {j : Nat} {v : Int32} : mClr (sp S 16 j v) = sp (mClr S) 16 j v := by
  funext k i
  simp only [mClr, sp]
  repeat' split
  all_goals first | rfl | (exfalso; omega)
theorem sp_swap {S : St} {k i j : Nat} {v w : Int32} (h : i ≠ j) : sp (sp S k i v) k j w = sp (sp S k j w) k i v := by
  funext k' i'
  simp only [sp]
  by_cases h1 : k' = k ∧ i' = i
  · rw [if_neg (fun z => h (h1.2.symm.trans z.2)), if_pos h1, if_pos h1]
  · rw [if_neg h1, if_neg h1]
theorem WFe.apply {S : St} (h : WFe S) : WFe (stApply S) := by
  obtain ⟨nf, p, nt, h⟩ := h
  unfold stApply
  split
  · rename_i hth
    unfold thApply at hth
    split at hth
    · exact absurd hth (by decide)
    split at hth
    · exact absurd hth (by decide)
    split at hth
    · exact absurd hth (by decide)
    rename_i hc
    have hlt : p < 5 := by
      rcases Nat.lt_or_ge p 5 with h9 | h9
      · exact h9
      · exact absurd (Or.inr (by rw [h.1.2.2.2.2.1, show p = 5 by have := h.1.2.1; omega]; rfl)) hc
    rw [h.1.2.2.2.2.1, tn_nI (by omega), nI_1]
    have h1 := ((h.num (Or.inl rfl) 0).move hlt).clr
    rw [mClr_sp, mClr_sp] at h1
    have h2 := h1.num (Or.inr rfl) 0
    rw [sp_swap (by decide), sp_swap (S := mClr (mMove (sp S 16 0 0) (p + 1))) (by decide)] at h2
    obtain ⟨p', h3⟩ := mSettle_ok (q := p + 1) h2 sp_s (by omega)
    exact ⟨nf, p', nt, h3⟩
  · exact ⟨nf, p, nt, ((h.num (Or.inl rfl) _).clr).num (Or.inr rfl) 0⟩
theorem WF.aim {S : St} {nf p nt q : Nat} (h : WF S nf p nt noX) (hp : 1 ≤ p) (hq : q = p ∨ q = p - 1) : ∃ p', WF (mSettle (sp S 16 4 (nI q))) nf p' nt noX := by
  have k1 : ∀ {k i : Nat}, k ≠ 16 → sp S 16 4 (nI q) k i = S k i := fun hk => sp_k hk
  have h5 := h.1.2.1
  obtain ⟨⟨h1, h2, h3, h4, h5', h6, h7, h8, h9, h10⟩, hw1, hw2⟩ := h
  refine mSettle_ok (p := p) (q := q) ⟨⟨h1, h2, h3, (sp_j (by decide)).trans h4, (sp_j (by decide)).trans h5', (sp_j (by decide)).trans h6, Or.inr ⟨hp, hq.elim (fun z => Or.inl (by rw [sp_s, z])) (fun z => Or.inr (by rw [sp_s, z]))⟩, fun j hj => ?_, fun j hj => ?_, fun j hj hh => ?_⟩, fun u hu => ?_, fun u hu h4 => ?_⟩ sp_s (by omega)
  · rw [k1 (by decide)]; exact h8 j hj
  · rw [k1 (by decide)]; exact h9 j hj
  · rw [k1 (by decide)] at hh
    obtain ⟨m1, m2⟩ := h10 j hj hh
    exact ⟨m1, m2.congr (Nat.le_refl _) (k1 (by decide)) (fun a _ => k1 (by decide)) (fun a _ => k1 (by decide))⟩
  · obtain ⟨d, hh⟩ := hw1 u hu
    exact ⟨d, hh.congr (k1 (by decide)) (k1 (by decide)) (k1 (by decide)) (fun _ _ => k1 (by decide)) (fun _ _ => k1 (by decide)) (fun _ _ _ => ⟨k1 (by decide), k1 (by decide)⟩) (Nat.le_refl _)⟩
  · have h := hw2 u hu h4
    exact ⟨(k1 (by decide)).trans h.1, (k1 (by decide)).trans h.2.1, (k1 (by decide)).trans h.2.2.1, (k1 (by decide)).trans h.2.2.2.1, (k1 (by decide)).trans h.2.2.2.2⟩
/-- what turn aims at -/
theorem toTurn_at {S : St} {nf p nt : Nat} {X : Nat → Prop} (h : WF S nf p nt X) (hp : 1 ≤ p) : ∃ q, toTurn S = nI q ∧ (q = p ∨ q = p - 1) ∧ (S 16 4 = nI (p - 1) → q = p) ∧ (¬ S 16 4 = nI (p - 1) → q = p - 1) := by
  have e : nI p - 1 = nI (p - 1) := by
    rw [show p = p - 1 + 1 by omega, nI_pred]; rfl
  unfold toTurn
  rw [h.1.2.2.2.2.1, e]
  split
  · exact ⟨p, rfl, Or.inl rfl, fun _ => rfl, fun z => absurd (by assumption) z⟩
  · exact ⟨p - 1, rfl, Or.inr rfl, fun z => absurd z (by assumption), fun _ => rfl⟩
theorem thTurn_p {S : St} {nf p nt : Nat} {X : Nat → Prop} (h : WF S nf p nt X) : thTurn S = if p = 0 then 1 else 0 := by
  have h2 := h.1.2.1
  unfold thTurn
  split
  · rename_i hc
    rw [if_neg ?_]
    intro hp
    subst hp
    rcases hc with hc | hc
    · rcases h.1.2.2.2.2.2.2.1 with h7 | ⟨h7, _⟩
      · exact hc (by rw [h7]; decide)
      · omega
    · rw [h.1.2.2.2.2.1] at hc
      exact absurd hc (by decide)
  · rename_i hc
    rw [if_pos ?_]
    rcases Nat.eq_zero_or_pos p with hp | hp
    · exact hp
    · exact absurd (Or.inr (by rw [h.1.2.2.2.2.1]; exact nI_lt (a := 0) (b := p) hp (by omega))) hc
theorem WFe.turn {S : St} (h : WFe S) : WFe (stTurn S) := by
  obtain ⟨nf, p, nt, h⟩ := h
  unfold stTurn
  split
  · rename_i hth
    rw [thTurn_p h] at hth
    have hp : 1 ≤ p := by
      rcases Nat.eq_zero_or_pos p with hp | hp
      · rw [if_pos hp] at hth; exact absurd hth (by decide)
      · exact hp
    obtain ⟨q, hq, hqp, _⟩ := toTurn_at h hp
    rw [hq]
    obtain ⟨p', h9⟩ := (h.num (Or.inl rfl) 0).aim hp hqp
    exact ⟨nf, p', nt, h9⟩
  · exact ⟨nf, p, nt, h.num (Or.inl rfl) 1⟩
theorem WF.lev {S : St} {nf p nt : Nat} {X : Nat → Prop} (h : WF S nf p nt X) : ∃ L, L ≤ p ∧ (if S 16 4 < 0 then S 16 3 else S 16 4) = nI L ∧ (S 16 4 = -1 → L = p) ∧ (¬ S 16 4 = -1 → S 16 4 = nI L) := by
  have h2 := h.1.2.1
  rcases h.1.2.2.2.2.2.2.1 with h7 | ⟨h7, h8 | h8⟩
  · exact ⟨p, Nat.le_refl _, by rw [h7, if_pos (by decide)]; exact h.1.2.2.2.2.1, fun _ => rfl, fun z => absurd h7 z⟩
  · refine ⟨p, Nat.le_refl _, ?_, fun _ => rfl, fun _ => h8⟩
    rw [h8, if_neg (Int32.not_lt.mpr (nI_pos' (by omega)))]
  · refine ⟨p - 1, by omega, ?_, fun z => ?_, fun _ => h8⟩
    · rw [h8, if_neg (Int32.not_lt.mpr (nI_pos' (by omega)))]
    · have := nI_pos' (n := p - 1) (by omega)
      rw [← h8, z] at this
      exact absurd this (by decide)
theorem WFe.task {S : St} (h : WFe S) (fn : Int32) : WFe (stTask S fn) := by
  obtain ⟨nf, p, nt, h⟩ := h
  unfold stTask
  split
  · rename_i hth
    obtain ⟨L, hLp, hL, _⟩ := h.lev
    have h8 := h.1.1
    have h5 := h.1.2.1
    have h4 := h.1.2.2.1
    unfold thTask at hth
    split at hth
    · exact absurd hth (by decide)
    rename_i hin
    split at hth
    · exact absurd hth (by decide)
    rename_i hc
    have hin := Classical.byContradiction hin
    rw [h.1.2.2.2.1] at hin
    obtain ⟨f, hf, rfl⟩ := mIn_nat (by omega) hin.1 hin.2
    have hlt : nt < 4 := by
      rcases Nat.lt_or_ge nt 4 with h9 | h9
      · exact h9
      · exact absurd (by rw [h.1.2.2.2.2.2.1, show nt = 4 by omega]; rfl) hc
    rw [hL, h.1.2.2.2.2.2.1, tn_nI (by omega), tn_nI (by omega), nI_1]
    obtain ⟨T, hT⟩ : ∃ T, T = sp (sp (sp (sp S 16 0 0) 5 nt (nI f)) 6 nt (nI L)) 16 5 (nI (nt + 1)) := ⟨_, rfl⟩
    rw [← hT]
    have ko : ∀ k j, k ≠ 16 → (k = 5 ∨ k = 6 → j ≠ nt) → T k j = S k j := fun k j hk hj => by
      rw [hT, sp_k hk]
      by_cases h6 : k = 6
      · subst h6
        rw [sp_j (hj (Or.inr rfl)), sp_k (by decide), sp_k (by decide)]
      · rw [sp_k h6]
        by_cases h5 : k = 5
        · subst h5
          rw [sp_j (hj (Or.inl rfl)), sp_k (by decide)]
        · rw [sp_k h5, sp_k hk]
    have kn : ∀ j, j ≠ 0 → j ≠ 5 → T 16 j = S 16 j := fun j a b => by
      rw [hT, sp_j b, sp_k (by decide), sp_k (by decide), sp_j a]
    have kf : ∀ k, k ≠ 16 → k ≠ 5 → k ≠ 6 → T k = S k := fun k a b c => by
      funext j
      exact ko k j a (fun z => by omega)
    obtain ⟨⟨g1, g2, g3, g4, g5, g6, g7, g8, g9, g10⟩, hw1, hw2⟩ := h
    have hb : WB T nf p (nt + 1) := by
      refine ⟨g1, g2, by omega, (kn 1 (by decide) (by decide)).trans g4, (kn 3 (by decide) (by decide)).trans g5, by rw [hT, sp_s], by rw [kn 4 (by decide) (by decide)]; exact g7, ?_, ?_, ?_⟩
      · rw [kf 0 (by decide) (by decide) (by decide)]; exact g8
      · rw [kf 0 (by decide) (by decide) (by decide)]; exact g9
      · unfold okRow okOp
        rw [kf 0 (by decide) (by decide) (by decide), kf 2 (by decide) (by decide) (by decide), kf 3 (by decide) (by decide) (by decide), kf 4 (by decide) (by decide) (by decide)]
        exact g10
    have hi := hw2 nt (Nat.le_refl _) hlt
    have h11 : T 11 nt = nI 0 := (ko 11 nt (by decide) (by omega)).trans hi.1
    have k0 : okT T nt nf p 0 False := ⟨L, f, by omega, h11, hLp, by rw [hT, sp_k (by decide), sp_s], hf, by rw [hT, sp_k (by decide), sp_k (by decide), sp_s], fun k hk => absurd hk (Nat.not_lt_zero _), fun z => absurd z (Nat.lt_irrefl 0)⟩
    have e1 := mEnter_ok (f := f) hb k0 hf (fun _ => by rw [hT, sp_k (by decide), sp_k (by decide), sp_s])
    have o1 := mEnter_off (f := f) h11 (by omega)
    refine ⟨nf, p, nt + 1, o1.WB hb, fun u hu => ?_, fun u hu hu4 => ?_⟩
    · by_cases hut : u = nt
      · subst hut
        exact e1
      · obtain ⟨d, hd⟩ := hw1 u (by omega)
        have hd : okT T u nf p (d + 1) False := hd.congr (ko 11 u (by decide) (by omega)) (ko 6 u (by decide) (by omega)) (ko 5 u (by decide) (by omega)) (fun k _ => ko 12 _ (by decide) (by omega)) (fun k _ => ko 14 _ (by decide) (by omega)) (fun r _ _ => ⟨ko 0 r (by decide) (by omega), ko 2 r (by decide) (by omega)⟩) (Nat.le_refl _)
        exact ⟨d, o1.ok hut hd⟩
    · have hi := hw2 u (by omega) hu4
      exact o1.idle (by omega) ⟨(ko 11 u (by decide) (by omega)).trans hi.1, (ko 7 u (by decide) (by omega)).trans hi.2.1, (ko 8 u (by decide) (by omega)).trans hi.2.2.1, (ko 9 u (by decide) (by omega)).trans hi.2.2.2.1, (ko 10 u (by decide) (by omega)).trans hi.2.2.2.2⟩
  · exact ⟨nf, p, nt, h.num (Or.inl rfl) _⟩
theorem WFe.step {S : St} (h : WFe S) (t many : Int32) : WFe (stStep S t many) := by
  obtain ⟨nf, p, nt, h⟩ := h
  unfold stStep
  split
  · rename_i hth
    unfold thStep at hth
    split at hth
    · rename_i hc
      rw [h.1.2.2.2.2.2.1] at hc
      have h4 := h.1.2.2.1
      obtain ⟨f, hf, rfl⟩ := mIn_nat (by omega) hc.1.1 hc.1.2
      rw [tn_nI (by omega)]
      obtain ⟨p', h9⟩ := mRun_ok hf (tn many) 1 (sp S 16 0 0) 0 p (h.num (Or.inl rfl) 0)
      exact ⟨nf, p', nt, h9⟩
    · exact absurd hth (by decide)
  · exact ⟨nf, p, nt, h.num (Or.inl rfl) 1⟩
