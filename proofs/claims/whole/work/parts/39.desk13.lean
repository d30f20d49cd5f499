theorem gsh_4 {S : St} {nf p nt : Nat} {dp : Nat → Nat} {k i k' i' : Nat} (h : gsh S nf p nt dp k i k' i') (hk : 3 ≤ k' ∧ k' ≤ 5) : (k = 3 ∧ 4 ≤ k' ∧ i' = i) ∨ (k = 11 ∧ i = 1 ∧ k' = 3 ∧ 1 ≤ i' ∧ i' ≤ p) := by
  unfold gsh at h
  split at h <;> first | exact h.elim | omega
theorem WF.row8 {S : St} {nf p nt i : Nat} (hw : WF S nf p nt noX) (hi : i < 6 * nt) (hd : i % 6 < dpS S (i / 6)) : tn (S 12 i) < 8 * (p + 1) := by
  obtain ⟨d, L, mf, a1, a2, a3, a4, a5, a6, a7, a8⟩ := hw.2.1 (i / 6) (by omega)
  have hd : i % 6 < tn (S 11 (i / 6)) := hd
  rw [a2, tn_nI (by omega)] at hd
  obtain ⟨r, a, z, b1, b2, b3, _, _, _, _, b8⟩ := a7 (i % 6) hd
  rw [show 6 * (i / 6) + i % 6 = i by omega] at b2
  rw [b2, tn_nI (by omega)]
  rcases b8 with b8 | b8
  · omega
  · exact absurd b8.1.1 id
def gC (g : Gh) (a b c : Nat) : Gh := gset (gset (gset g 3 6 a) 4 6 b) 5 6 c
theorem gC_n {g : Gh} {a b c k i : Nat} (h : ¬ (3 ≤ k ∧ k ≤ 5 ∧ i = 6)) : gC g a b c k i = g k i := by
  unfold gC
  rw [gset_n (by omega), gset_n (by omega), gset_n (by omega)]
theorem gC_3 {g : Gh} {a b c : Nat} : gC g a b c 3 6 = a := by unfold gC; rw [gset_n (by omega), gset_n (by omega), gset_s]
theorem gC_4 {g : Gh} {a b c : Nat} : gC g a b c 4 6 = b := by unfold gC; rw [gset_n (by omega), gset_s]
theorem gC_5 {g : Gh} {a b c : Nat} : gC g a b c 5 6 = c := by unfold gC; rw [gset_s]
def gA (g : Gh) (L a b c E : Nat) : Gh := fun k i => if 3 ≤ k ∧ k ≤ 5 ∧ i = L then g k 6 else if k ≤ 2 ∧ 8 * L ≤ i ∧ i < 8 * L + 8 then g k (48 + (i - 8 * L)) else if k = 11 ∧ i = 1 then E else gC g a b c k i
theorem gA_n {g : Gh} {L a b c E k i : Nat} (h1 : ¬ (3 ≤ k ∧ k ≤ 5 ∧ (i = L ∨ i = 6))) (h2 : ¬ (k ≤ 2 ∧ 8 * L ≤ i ∧ i < 8 * L + 8)) (h3 : ¬ (k = 11 ∧ i = 1)) : gA g L a b c E k i = g k i := by
  unfold gA
  rw [if_neg (by omega), if_neg h2, if_neg h3, gC_n (by omega)]
section
variable {cs : Nat → Nat} {h h' : pw_H} {x : Nat} {g g' : Gh} {gr gr' : Nat → Prop} {dp dp' : Nat → Nat} {S S' : St} {nf p nt nf' p' nt' : Nat}
/-- the draft is a new one -/
theorem Sim.cleared {T : St} {nd nba nsa : Nat} {X : List Nat} (hs : Sim cs h x g gr (dpS S) S nf p nt) (hw : WF S nf p nt noX) (hnd : h nd = none) (hnb : h nba = none) (hns : h nsa = none)
    (f0 : h' nd = some (.inr (3, [.ref nba, .ref nsa, .int 0]))) (f1 : h' nba = some (eQ (cs 3) 8 (fun _ => none))) (f2 : h' nsa = some (eI (cs 0) 8 (fun _ => 0))) (fx : h' x = some (.inr (6, [.ref (g 10 0), .ref (g 10 1), .ref (g 10 2), .ref nd, .int (S 16 4)]))) (hx : ext h h' [x])
    (tk : ∀ κ j, ¬ ((κ = 0 ∧ 48 ≤ j ∧ j < 56) ∨ (κ = 16 ∧ j = 2)) → T κ j = S κ j) (t0 : ∀ j, 48 ≤ j → j < 56 → T 0 j = 0) (t2 : T 16 2 = 0) :
    Sim cs h' x (gC g nd nba nsa) gr (dpS S) T nf p nt := by
  have h8 := hw.1.1
  have h5 := hw.1.2.1
  have lv : ∀ k i, live T nf p nt gr k i → live S nf p nt gr k i ∧ (k ≤ 2 → i < 48) := fun k i hl => by
    rcases live_case hl with rfl | rfl | rfl | rfl | rfl | rfl | rfl | rfl | rfl | rfl | rfl | rfl <;> simp only [live] at hl ⊢
    · rcases Nat.lt_or_ge i 48 with h9 | h9
      · rw [tk 0 i (by omega)] at hl; exact ⟨hl, fun _ => h9⟩
      · rw [t0 i h9 hl.1] at hl; exact absurd hl.2 (by decide)
    · rcases Nat.lt_or_ge i 48 with h9 | h9
      · rw [tk 0 i (by omega)] at hl; exact ⟨hl, fun _ => h9⟩
      · rw [t0 i h9 hl.1] at hl; exact absurd hl.2 (by decide)
    · rcases Nat.lt_or_ge i 48 with h9 | h9
      · rw [tk 0 i (by omega)] at hl; exact ⟨hl, fun _ => h9⟩
      · rw [t0 i h9 hl.1] at hl; exact absurd hl.2 (by decide)
    all_goals exact ⟨hl, fun z => absurd z (by decide)⟩
  refine hs.mk2 (fun k i => ¬ (3 ≤ k ∧ k ≤ 5 ∧ i = 6)) (fun _ i => i) ?_ (fun k i hl hsr => ⟨(lv k i hl).1, gC_n hsr⟩) (fun k i i' _ _ _ _ hh => hh) (fun k i hl hsr => ?_) (fun k i k' i' hl hl' hsr hsr' heq => ?_) (fun k i hl => ?_)
  · rw [gC_n (by omega), gC_n (by omega), gC_n (by omega), gC_3, tk 16 4 (by omega)]
    exact fx
  · have hsr := Classical.byContradiction hsr
    obtain ⟨a, b, rfl⟩ := hsr
    rcases (show k = 3 ∨ k = 4 ∨ k = 5 by omega) with rfl | rfl | rfl
    · rw [gC_3]; exact hnd
    · rw [gC_4]; exact hnb
    · rw [gC_5]; exact hns
  · have hsr := Classical.byContradiction hsr
    have hsr' := Classical.byContradiction hsr'
    obtain ⟨a, b, rfl⟩ := hsr
    obtain ⟨a', b', rfl⟩ := hsr'
    refine ⟨?_, rfl⟩
    have n1 : nd ≠ nba := pu_t f0 f1 (show (3 : Nat) ≠ 308 by decide)
    have n2 : nd ≠ nsa := pu_t f0 f2 (show (3 : Nat) ≠ 108 by decide)
    have n3 : nba ≠ nsa := pu_t f1 f2 (show (308 : Nat) ≠ 108 by decide)
    rcases (show k = 3 ∨ k = 4 ∨ k = 5 by omega) with rfl | rfl | rfl <;> rcases (show k' = 3 ∨ k' = 4 ∨ k' = 5 by omega) with rfl | rfl | rfl <;> simp only [gC_3, gC_4, gC_5] at heq <;> first | rfl | exact absurd heq n1 | exact absurd heq n2 | exact absurd heq n3 | exact absurd heq.symm n1 | exact absurd heq.symm n2 | exact absurd heq.symm n3
  · by_cases c : 3 ≤ k ∧ k ≤ 5 ∧ i = 6
    · obtain ⟨a, b, rfl⟩ := c
      rcases (show k = 3 ∨ k = 4 ∨ k = 5 by omega) with rfl | rfl | rfl
      · refine ⟨_, by rw [gC_3]; exact f0, ?_⟩
        simp only [ent]
        exact ⟨_, by rw [gC_4, gC_5], fun _ => t2.symm⟩
      · refine ⟨_, by rw [gC_4]; exact f1, ?_⟩
        simp only [ent]
        exact ⟨_, rfl, fun f hf => ⟨fun z => by rw [t0 _ (by omega) (by omega)] at z; exact absurd z (by decide), fun _ => rfl⟩⟩
      · refine ⟨_, by rw [gC_5]; exact f2, ?_⟩
        simp only [ent]
        exact ⟨_, rfl, fun _ f hf z => by rw [t0 _ (by omega) (by omega)] at z; exact absurd z (by decide)⟩
    · obtain ⟨hlS, hlt⟩ := lv k i hl
      refine hs.stay hx hlS (nin1 (hs.2.2.2 k i hlS)) (gC_n c) (fun e he => ent_cong (fun κ j hr => tk κ j (fun z => ?_)) (ent_g (fun k' i' hg => gC_n (fun z => ?_)) he))
      · rcases z with ⟨rfl, z2, z3⟩ | ⟨rfl, rfl⟩
        · rcases rd_0 hr with ⟨a, b, c'⟩ | ⟨a, b, _⟩
          · subst a
            have : (1 ≤ i ∧ i ≤ p) ∨ i = 6 := hlS
            exact c ⟨by decide, by decide, by omega⟩
          · exact c ⟨by omega, by omega, b⟩
        · obtain ⟨a, b, _⟩ := rd_16 hr
          exact c ⟨by omega, by omega, b⟩
      · rcases gsh_4 hg ⟨z.1, z.2.1⟩ with ⟨a, b, c'⟩ | ⟨a, b, c', d, e'⟩
        · exact c ⟨by omega, by omega, by omega⟩
        · omega
end
