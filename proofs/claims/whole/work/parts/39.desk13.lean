theorem gsh_4 {S : St} {nf p nt : Nat} {dp : Nat → Nat} {k i k' i' : Nat} (h : gsh S nf p nt dp k i k' i') (hk : 3 ≤ k' ∧ k' ≤ 5) : (k = 3 ∧ 4 ≤ k' ∧ i' = i) ∨ (k = 11 ∧ i = 1 ∧ k' = 3 ∧ 1 ≤ i' ∧ i' ≤ p) := by
  unfold gsh at h
  split at h <;> first | exact h.elim | omega
theorem WF.row8 {S : St} {nf p nt i : Nat} (hw : WF S nf p nt noX) (hi : i < 6 * nt) (hd : i % 6 < dpS S (i / 6)) : tn (S 12 i) < 8 * (p + 1) := by
  obtain ⟨d, L, mf, a1, a2, a3, a4, a5, a6, a7, a8⟩ := hw.2.1 (i / 6) (by omega)
  have hd : i % 6 < tn (S 11 (i / 6)) := hd
  rw [a2, tn_nI (by omega)] at hd
  obtain ⟨r, a, z, b1, b2, b3, _, _, _, _, b8⟩ := a7 (i % 6) hd
  rw [show 6 * (i / 6) + i % 6 = i by omega] at b2
  rw [b2, tn_nI (by omega)]
  rcases b8 with b8 | b8
  · omega
  · exact absurd b8.1.1 id
def gC (g : Gh) (a b c : Nat) : Gh := gset (gset (gset g 3 6 a) 4 6 b) 5 6 c
theorem gC_n {g : Gh} {a b c k i : Nat} (h : ¬ (3 ≤ k ∧ k ≤ 5 ∧ i = 6)) : gC g a b c k i = g k i := by
  unfold gC
  rw [gset_n (by omega), gset_n (by omega), gset_n (by omega)]
theorem gC_3 {g : Gh} {a b c : Nat} : gC g a b c 3 6 = a := by unfold gC; rw [gset_n (by omega), gset_n (by omega), gset_s]
theorem gC_4 {g : Gh} {a b c : Nat} : gC g a b c 4 6 = b := by unfold gC; rw [gset_n (by omega), gset_s]
theorem gC_5 {g : Gh} {a b c : Nat} : gC g a b c 5 6 = c := by unfold gC; rw [gset_s]
def gA (g : Gh) (L a b c E : Nat) : Gh := fun k i => if 3 ≤ k ∧ k ≤ 5 ∧ i = L then g k 6 else if k ≤ 2 ∧ 8 * L ≤ i ∧ i < 8 * L + 8 then g k (48 + (i - 8 * L)) else if k = 11 ∧ i = 1 then E else gC g a b c k i
theorem gA_n {g : Gh} {L a b c E k i : Nat} (h1 : ¬ (3 ≤ k ∧ k ≤ 5 ∧ (i = L ∨ i = 6))) (h2 : ¬ (k ≤ 2 ∧ 8 * L ≤ i ∧ i < 8 * L + 8)) (h3 : ¬ (k = 11 ∧ i = 1)) : gA g L a b c E k i = g k i := by
  unfold gA
  rw [if_neg (by omega), if_neg h2, if_neg h3, gC_n (by omega)]
section
variable {cs : Nat → Nat} {h h' : pw_H} {x : Nat} {g g' : Gh} {gr gr' : Nat → Prop} {dp dp' : Nat → Nat} {S S' : St} {nf p nt nf' p' nt' : Nat}
/-- the draft is a new one -/
theorem Sim.cleared {T : St} {nd nba nsa : Nat} {X : List Nat} (hs : Sim cs h x g gr (dpS S) S nf p nt) (hw : WF S nf p nt noX) (hnd : h nd = none) (hnb : h nba = none) (hns : h nsa = none)
    (f0 : h' nd = some (.inr (3, [.ref nba, .ref nsa, .int 0]))) (f1 : h' nba = some (eQ (cs 3) 8 (fun _ => none))) (f2 : h' nsa = some (eI (cs 0) 8 (fun _ => 0))) (fx : h' x = some (.inr (6, [.ref (g 10 0), .ref (g 10 1), .ref (g 10 2), .ref nd, .int (S 16 4)]))) (hx : ext h h' [x])
    (tk : ∀ κ j, ¬ ((κ = 0 ∧ 48 ≤ j ∧ j < 56) ∨ (κ = 16 ∧ j = 2)) → T κ j = S κ j) (t0 : ∀ j, 48 ≤ j → j < 56 → T 0 j = 0) (t2 : T 16 2 = 0) :
    Sim cs h' x (gC g nd nba nsa) gr (dpS S) T nf p nt := by
  have h8 := hw.1.1
  have h5 := hw.1.2.1
  have lv : ∀ k i, live T nf p nt gr k i → live S nf p nt gr k i ∧ (k ≤ 2 → i < 48) := fun k i hl => by
    rcases live_case hl with rfl | rfl | rfl | rfl | rfl | rfl | rfl | rfl | rfl | rfl | rfl | rfl <;> simp only [live] at hl ⊢
    · rcases Nat.lt_or_ge i 48 with h9 | h9
      · rw [tk 0 i (by omega)] at hl; exact ⟨hl, fun _ => h9⟩
      · rw [t0 i h9 hl.1] at hl; exact absurd hl.2 (by decide)
    · rcases Nat.lt_or_ge i 48 with h9 | h9
      · rw [tk 0 i (by omega)] at hl; exact ⟨hl, fun _ => h9⟩
      · rw [t0 i h9 hl.1] at hl; exact absurd hl.2 (by decide)
    · rcases Nat.lt_or_ge i 48 with h9 | h9
      · rw [tk 0 i (by omega)] at hl; exact ⟨hl, fun _ => h9⟩
      · rw [t0 i h9 hl.1] at hl; exact absurd hl.2 (by decide)
    all_goals exact ⟨hl, fun z => absurd z (by decide)⟩
  refine hs.mk2 (fun k i => ¬ (3 ≤ k ∧ k ≤ 5 ∧ i = 6)) (fun _ i => i) ?_ (fun k i hl hsr => ⟨(lv k i hl).1, gC_n hsr⟩) (fun k i i' _ _ _ _ hh => hh) (fun k i hl hsr => ?_) (fun k i k' i' hl hl' hsr hsr' heq => ?_) (fun k i hl => ?_)
  · rw [gC_n (by omega), gC_n (by omega), gC_n (by omega), gC_3, tk 16 4 (by omega)]
    exact fx
  · have hsr := Classical.byContradiction hsr
    obtain ⟨a, b, rfl⟩ := hsr
    rcases (show k = 3 ∨ k = 4 ∨ k = 5 by omega) with rfl | rfl | rfl
    · rw [gC_3]; exact hnd
    · rw [gC_4]; exact hnb
    · rw [gC_5]; exact hns
  · have hsr := Classical.byContradiction hsr
    have hsr' := Classical.byContradiction hsr'
    obtain ⟨a, b, rfl⟩ := hsr
    obtain ⟨a', b', rfl⟩ := hsr'
    refine ⟨?_, rfl⟩
    have n1 : nd ≠ nba := pu_t f0 f1 (show (3 : Nat) ≠ 308 by decide)
    have n2 : nd ≠ nsa := pu_t f0 f2 (show (3 : Nat) ≠ 108 by decide)
    have n3 : nba ≠ nsa := pu_t f1 f2 (show (308 : Nat) ≠ 108 by decide)
    rcases (show k = 3 ∨ k = 4 ∨ k = 5 by omega) with rfl | rfl | rfl <;> rcases (show k' = 3 ∨ k' = 4 ∨ k' = 5 by omega) with rfl | rfl | rfl <;> simp only [gC_3, gC_4, gC_5] at heq <;> first | rfl | exact absurd heq n1 | exact absurd heq n2 | exact absurd heq n3 | exact absurd heq.symm n1 | exact absurd heq.symm n2 | exact absurd heq.symm n3
  · by_cases c : 3 ≤ k ∧ k ≤ 5 ∧ i = 6
    · obtain ⟨a, b, rfl⟩ := c
      rcases (show k = 3 ∨ k = 4 ∨ k = 5 by omega) with rfl | rfl | rfl
      · refine ⟨_, by rw [gC_3]; exact f0, ?_⟩
        simp only [ent]
        exact ⟨_, by rw [gC_4, gC_5], fun _ => t2.symm⟩
      · refine ⟨_, by rw [gC_4]; exact f1, ?_⟩
        simp only [ent]
        exact ⟨_, rfl, fun f hf => ⟨fun z => by rw [t0 _ (by omega) (by omega)] at z; exact absurd z (by decide), fun _ => rfl⟩⟩
      · refine ⟨_, by rw [gC_5]; exact f2, ?_⟩
        simp only [ent]
        exact ⟨_, rfl, fun _ f hf z => by rw [t0 _ (by omega) (by omega)] at z; exact absurd z (by decide)⟩
    · obtain ⟨hlS, hlt⟩ := lv k i hl
      refine hs.stay hx hlS (nin1 (hs.2.2.2 k i hlS)) (gC_n c) (fun e he => ent_cong (fun κ j hr => tk κ j (fun z => ?_)) (ent_g (fun k' i' hg => gC_n (fun z => ?_)) he))
      · rcases z with ⟨rfl, z2, z3⟩ | ⟨rfl, rfl⟩
        · rcases rd_0 hr with ⟨a, b, c'⟩ | ⟨a, b, _⟩
          · subst a
            have : (1 ≤ i ∧ i ≤ p) ∨ i = 6 := hlS
            exact c ⟨by decide, by decide, by omega⟩
          · exact c ⟨by omega, by omega, b⟩
        · obtain ⟨a, b, _⟩ := rd_16 hr
          exact c ⟨by omega, by omega, b⟩
      · rcases gsh_4 hg ⟨z.1, z.2.1⟩ with ⟨a, b, c'⟩ | ⟨a, b, c', d, e'⟩
        · exact c ⟨by omega, by omega, by omega⟩
        · omega
end
section
variable {cs : Nat → Nat} {h h' : pw_H} {x : Nat} {g g' : Gh} {gr gr' : Nat → Prop} {dp dp' : Nat → Nat} {S S' : St} {nf p nt nf' p' nt' : Nat}
/-- the draft becomes the latest patch, and there is a new draft -/
theorem Sim.applied {T : St} {nd nba nsa E : Nat} {ql : Nat → Option Nat} {mc : Int32} {X : List Nat} (hs : Sim cs h x g gr (dpS S) S nf p nt) (hw : WF S nf p nt noX) (hp : p < 5) (hnd : h nd = none) (hnb : h nba = none) (hns : h nsa = none) (hE : (gr 1 ∧ E = g 11 1) ∨ (¬ gr 1 ∧ h E = none))
    (f0 : h' nd = some (.inr (3, [.ref nba, .ref nsa, .int 0]))) (f1 : h' nba = some (eQ (cs 3) 8 (fun _ => none))) (f2 : h' nsa = some (eI (cs 0) 8 (fun _ => 0))) (fx : h' x = some (.inr (6, [.ref (g 10 0), .ref (g 10 1), .ref (g 10 2), .ref nd, .int (S 16 4)])))
    (f4 : h' E = some (eQ (cs 5) 10 ql)) (hql : ∀ i, i < p → ql i = some (g 3 (i + 1))) (hqn : ql p = some (g 3 6)) (f5 : h' (g 10 1) = some (.inr (0, [.ref E, .int (nI (p + 1)), .int mc])))
    (hx : ext h h' X) (hX : ∀ k i, live S nf p nt gr k i → ¬ (k = 10 ∧ i = 1) → ¬ (k = 11 ∧ i = 1) → g k i ∉ X)
    (tk : ∀ κ j, ¬ ((κ = 0 ∧ 48 ≤ j ∧ j < 56) ∨ ((κ = 0 ∨ κ = 2) ∧ 8 * (p + 1) ≤ j ∧ j < 8 * (p + 1) + 8) ∨ ((κ = 3 ∨ κ = 4) ∧ 96 * (p + 1) ≤ j ∧ j < 96 * (p + 1) + 96) ∨ (κ = 16 ∧ (j = 2 ∨ j = 3))) → T κ j = S κ j)
    (t0 : ∀ j, 48 ≤ j → j < 56 → T 0 j = 0) (tm : ∀ κ i, κ = 0 ∨ κ = 2 → i < 8 → T κ (8 * (p + 1) + i) = S κ (48 + i)) (ts : ∀ κ i a, κ = 3 ∨ κ = 4 → i < 8 → a < 12 → T κ (12 * (8 * (p + 1) + i) + a) = S κ (12 * (48 + i) + a)) (t2 : T 16 2 = 0) :
    Sim cs h' x (gA g (p + 1) nd nba nsa E) (fun j => j = 1 ∨ gr j) (dpS S) T nf (p + 1) nt := by
  have h8 := hw.1.1
  have gd : ∀ k, 3 ≤ k ∧ k ≤ 5 → gA g (p + 1) nd nba nsa E k (p + 1) = g k 6 := fun k hk => by unfold gA; rw [if_pos ⟨hk.1, hk.2, rfl⟩]
  have gb : ∀ k j, k ≤ 2 → j < 8 → gA g (p + 1) nd nba nsa E k (8 * (p + 1) + j) = g k (48 + j) := fun k j hk hj => by unfold gA; rw [if_neg (by omega), if_pos (by omega), show 8 * (p + 1) + j - 8 * (p + 1) = j by omega]
  have g3 : gA g (p + 1) nd nba nsa E 3 6 = nd := by unfold gA; rw [if_neg (by omega), if_neg (by omega), if_neg (by omega), gC_3]
  have g4 : gA g (p + 1) nd nba nsa E 4 6 = nba := by unfold gA; rw [if_neg (by omega), if_neg (by omega), if_neg (by omega), gC_4]
  have g5 : gA g (p + 1) nd nba nsa E 5 6 = nsa := by unfold gA; rw [if_neg (by omega), if_neg (by omega), if_neg (by omega), gC_5]
  have g11 : gA g (p + 1) nd nba nsa E 11 1 = E := by unfold gA; rw [if_neg (by omega), if_neg (by omega), if_pos ⟨rfl, rfl⟩]
  have lb : ∀ k i, k ≤ 2 → live T nf (p + 1) nt (fun j => j = 1 ∨ gr j) k i → i < 48 ∧ ((8 * (p + 1) ≤ i ∧ i < 8 * (p + 1) + 8 → S 0 (48 + (i - 8 * (p + 1))) = 1) ∧ (¬ (8 * (p + 1) ≤ i ∧ i < 8 * (p + 1) + 8) → S 0 i = 1)) := fun k i hk hl => by
    have hl : i < 56 ∧ T 0 i = 1 := by
      rcases (show k = 0 ∨ k = 1 ∨ k = 2 by omega) with rfl | rfl | rfl <;> exact hl
    have h48 : i < 48 := by
      rcases Nat.lt_or_ge i 48 with h9 | h9
      · exact h9
      · rw [t0 i h9 hl.1] at hl; exact absurd hl.2 (by decide)
    refine ⟨h48, fun hin => ?_, fun hin => ?_⟩
    · have := hl.2
      rw [show i = 8 * (p + 1) + (i - 8 * (p + 1)) by omega, tm 0 _ (Or.inl rfl) (by omega)] at this
      exact this
    · rw [← tk 0 i (by omega)]; exact hl.2
  refine hs.mk2 (fun k i => ¬ (3 ≤ k ∧ k ≤ 5 ∧ i = 6) ∧ (k = 11 ∧ i = 1 → gr 1)) (fun k i => if k ≤ 2 ∧ 8 * (p + 1) ≤ i ∧ i < 8 * (p + 1) + 8 then 48 + (i - 8 * (p + 1)) else if 3 ≤ k ∧ k ≤ 5 ∧ i = p + 1 then 6 else i) ?_ (fun k i hl hsr => ?_) (fun k i i' hl hl' hsr hsr' hh => ?_) (fun k i hl hsr => ?_) (fun k i k' i' hl hl' hsr hsr' heq => ?_) (fun k i hl => ?_)
  · rw [gA_n (by omega) (by omega) (by omega), gA_n (by omega) (by omega) (by omega), gA_n (by omega) (by omega) (by omega), g3, tk 16 4 (by omega)]
    exact fx
  · by_cases c2 : k ≤ 2
    · obtain ⟨b1, b2, b3⟩ := lb k i c2 hl
      by_cases cin : 8 * (p + 1) ≤ i ∧ i < 8 * (p + 1) + 8
      · show live S nf p nt gr k (if _ then _ else _) ∧ _ = g k (if _ then _ else _)
        rw [if_pos ⟨c2, cin⟩]
        refine ⟨?_, ?_⟩
        · have : 48 + (i - 8 * (p + 1)) < 56 ∧ S 0 (48 + (i - 8 * (p + 1))) = 1 := ⟨by omega, b2 cin⟩
          rcases (show k = 0 ∨ k = 1 ∨ k = 2 by omega) with rfl | rfl | rfl <;> exact this
        · have := gb k (i - 8 * (p + 1)) c2 (by omega)
          rw [show 8 * (p + 1) + (i - 8 * (p + 1)) = i by omega] at this
          exact this
      · show live S nf p nt gr k (if _ then _ else _) ∧ _ = g k (if _ then _ else _)
        rw [if_neg (fun z => cin z.2), if_neg (by omega)]
        refine ⟨?_, gA_n (by omega) (fun z => cin z.2) (by omega)⟩
        have : i < 56 ∧ S 0 i = 1 := ⟨by omega, b3 cin⟩
        rcases (show k = 0 ∨ k = 1 ∨ k = 2 by omega) with rfl | rfl | rfl <;> exact this
    · show live S nf p nt gr k (if _ then _ else _) ∧ _ = g k (if _ then _ else _)
      rw [if_neg (fun z => c2 z.1)]
      by_cases c5 : 3 ≤ k ∧ k ≤ 5 ∧ i = p + 1
      · rw [if_pos c5]
        refine ⟨?_, by rw [c5.2.2]; exact gd k ⟨c5.1, c5.2.1⟩⟩
        rcases (show k = 3 ∨ k = 4 ∨ k = 5 by omega) with rfl | rfl | rfl <;> exact Or.inr rfl
      · rw [if_neg c5]
        refine ⟨?_, ?_⟩
        · rcases live_case hl with rfl | rfl | rfl | rfl | rfl | rfl | rfl | rfl | rfl | rfl | rfl | rfl <;> simp only [live] at hl ⊢
          all_goals first | exact hl | omega | skip
          exact ⟨hl.1, hl.2.elim (fun z => by subst z; exact hsr.2 ⟨rfl, rfl⟩) id⟩
        · by_cases c11 : k = 11 ∧ i = 1
          · have hg := hsr.2 c11
            obtain ⟨rfl, rfl⟩ := c11
            rw [g11]
            exact hE.elim (fun z => z.2) (fun z => absurd hg z.1)
          · exact gA_n (fun z => z.2.2.elim (fun y => c5 ⟨z.1, z.2.1, y⟩) (fun y => hsr.1 ⟨z.1, z.2.1, y⟩)) (fun z => c2 z.1) c11
  · have hh : (if k ≤ 2 ∧ 8 * (p + 1) ≤ i ∧ i < 8 * (p + 1) + 8 then 48 + (i - 8 * (p + 1)) else if 3 ≤ k ∧ k ≤ 5 ∧ i = p + 1 then 6 else i) = (if k ≤ 2 ∧ 8 * (p + 1) ≤ i' ∧ i' < 8 * (p + 1) + 8 then 48 + (i' - 8 * (p + 1)) else if 3 ≤ k ∧ k ≤ 5 ∧ i' = p + 1 then 6 else i') := hh
    by_cases c2 : k ≤ 2
    · have b1 := (lb k i c2 hl).1
      have b2 := (lb k i' c2 hl').1
      rw [if_neg (show ¬ (3 ≤ k ∧ k ≤ 5 ∧ i = p + 1) by omega), if_neg (show ¬ (3 ≤ k ∧ k ≤ 5 ∧ i' = p + 1) by omega)] at hh
      split at hh <;> split at hh <;> omega
    · rw [if_neg (show ¬ (k ≤ 2 ∧ 8 * (p + 1) ≤ i ∧ i < 8 * (p + 1) + 8) from fun z => c2 z.1), if_neg (show ¬ (k ≤ 2 ∧ 8 * (p + 1) ≤ i' ∧ i' < 8 * (p + 1) + 8) from fun z => c2 z.1)] at hh
      by_cases c5 : 3 ≤ k ∧ k ≤ 5
      · have h1 : ¬ i = 6 := fun z => hsr.1 ⟨c5.1, c5.2, z⟩
        have h2 : ¬ i' = 6 := fun z => hsr'.1 ⟨c5.1, c5.2, z⟩
        split at hh <;> split at hh <;> omega
      · rw [if_neg (show ¬ (3 ≤ k ∧ k ≤ 5 ∧ i = p + 1) from fun z => c5 ⟨z.1, z.2.1⟩), if_neg (show ¬ (3 ≤ k ∧ k ≤ 5 ∧ i' = p + 1) from fun z => c5 ⟨z.1, z.2.1⟩)] at hh
        exact hh
  · by_cases c : 3 ≤ k ∧ k ≤ 5 ∧ i = 6
    · obtain ⟨a, b, rfl⟩ := c
      rcases (show k = 3 ∨ k = 4 ∨ k = 5 by omega) with rfl | rfl | rfl
      · rw [g3]; exact hnd
      · rw [g4]; exact hnb
      · rw [g5]; exact hns
    · by_cases c11 : k = 11 ∧ i = 1
      · obtain ⟨rfl, rfl⟩ := c11
        rw [g11]
        exact hE.elim (fun z => absurd ⟨c, fun _ => z.1⟩ hsr) (fun z => z.2)
      · exact absurd ⟨c, fun z => absurd z c11⟩ hsr
  · have hcase : ∀ k i, ¬ (¬ (3 ≤ k ∧ k ≤ 5 ∧ i = 6) ∧ (k = 11 ∧ i = 1 → gr 1)) → (k = 3 ∧ i = 6) ∨ (k = 4 ∧ i = 6) ∨ (k = 5 ∧ i = 6) ∨ (k = 11 ∧ i = 1) := fun k i hn => by
      by_cases c11 : k = 11 ∧ i = 1
      · exact Or.inr (Or.inr (Or.inr c11))
      · have c : 3 ≤ k ∧ k ≤ 5 ∧ i = 6 := Classical.byContradiction (fun z => hn ⟨z, fun y => absurd y c11⟩)
        omega
    have n1 : nd ≠ nba := pu_t f0 f1 (show (3 : Nat) ≠ 308 by decide)
    have n2 : nd ≠ nsa := pu_t f0 f2 (show (3 : Nat) ≠ 108 by decide)
    have n3 : nba ≠ nsa := pu_t f1 f2 (show (308 : Nat) ≠ 108 by decide)
    have n4 : nd ≠ E := pu_t f0 f4 (show (3 : Nat) ≠ 310 by decide)
    have n5 : nba ≠ E := pu_t f1 f4 (show (308 : Nat) ≠ 310 by decide)
    have n6 : nsa ≠ E := pu_t f2 f4 (show (108 : Nat) ≠ 310 by decide)
    rcases hcase k i hsr with ⟨rfl, rfl⟩ | ⟨rfl, rfl⟩ | ⟨rfl, rfl⟩ | ⟨rfl, rfl⟩ <;> rcases hcase k' i' hsr' with ⟨rfl, rfl⟩ | ⟨rfl, rfl⟩ | ⟨rfl, rfl⟩ | ⟨rfl, rfl⟩ <;> simp only [g3, g4, g5, g11] at heq <;> first | exact ⟨rfl, rfl⟩ | exact absurd heq n1 | exact absurd heq n2 | exact absurd heq n3 | exact absurd heq n4 | exact absurd heq n5 | exact absurd heq n6 | exact absurd heq.symm n1 | exact absurd heq.symm n2 | exact absurd heq.symm n3 | exact absurd heq.symm n4 | exact absurd heq.symm n5 | exact absurd heq.symm n6
  · by_cases c : 3 ≤ k ∧ k ≤ 5 ∧ i = 6
    · obtain ⟨a, b, rfl⟩ := c
      rcases (show k = 3 ∨ k = 4 ∨ k = 5 by omega) with rfl | rfl | rfl
      · refine ⟨_, by rw [g3]; exact f0, ?_⟩
        simp only [ent]
        exact ⟨_, by rw [g4, g5], fun _ => t2.symm⟩
      · refine ⟨_, by rw [g4]; exact f1, ?_⟩
        simp only [ent]
        exact ⟨_, rfl, fun f hf => ⟨fun z => by rw [t0 _ (by omega) (by omega)] at z; exact absurd z (by decide), fun _ => rfl⟩⟩
      · refine ⟨_, by rw [g5]; exact f2, ?_⟩
        simp only [ent]
        exact ⟨_, rfl, fun _ f hf z => by rw [t0 _ (by omega) (by omega)] at z; exact absurd z (by decide)⟩
    by_cases c10 : k = 10 ∧ i = 1
    · obtain ⟨rfl, rfl⟩ := c10
      refine ⟨_, by rw [gA_n (by omega) (by omega) (by omega)]; exact f5, ?_⟩
      simp only [ent]
      exact ⟨mc, Or.inl ⟨Or.inl trivial, by rw [g11]; rfl⟩⟩
    by_cases c11 : k = 11 ∧ i = 1
    · obtain ⟨rfl, rfl⟩ := c11
      refine ⟨_, by rw [g11]; exact f4, ?_⟩
      simp only [ent]
      refine ⟨_, rfl, fun j hj => ?_⟩
      have hj : j < p + 1 := hj
      show ql j = some (gA g (p + 1) nd nba nsa E 3 (j + 1))
      by_cases hjn : j = p
      · subst hjn; rw [gd 3 (by omega)]; exact hqn
      · rw [gA_n (by omega) (by omega) (by omega)]; exact hql j (by omega)
    by_cases cL : 3 ≤ k ∧ k ≤ 5 ∧ i = p + 1
    · obtain ⟨a, b, rfl⟩ := cL
      rcases (show k = 3 ∨ k = 4 ∨ k = 5 by omega) with rfl | rfl | rfl
      · have l6 : live S nf p nt gr 3 6 := Or.inr rfl
        obtain ⟨v, e1, _⟩ := hs.pt (l := 6) (Or.inr rfl)
        refine ⟨_, by rw [gd 3 (by omega), hs.kept hx l6 (hX _ _ l6 (by omega) (by omega))]; exact e1, ?_⟩
        simp only [ent]
        exact ⟨v, by rw [gd 4 (by omega), gd 5 (by omega)], fun z => by omega⟩
      · have l6 : live S nf p nt gr 4 6 := Or.inr rfl
        obtain ⟨q, e1, e2⟩ := hs.bs (l := 6) (Or.inr rfl)
        refine ⟨_, by rw [gd 4 (by omega), hs.kept hx l6 (hX _ _ l6 (by omega) (by omega))]; exact e1, ?_⟩
        simp only [ent]
        exact ⟨q, rfl, fun f hf => by rw [tm 0 f (Or.inl rfl) hf, gb 0 f (by omega) hf]; exact e2 f hf⟩
      · have l6 : live S nf p nt gr 5 6 := Or.inr rfl
        obtain ⟨V, e1, _⟩ := hs.sg (l := 6) (Or.inr rfl)
        refine ⟨_, by rw [gd 5 (by omega), hs.kept hx l6 (hX _ _ l6 (by omega) (by omega))]; exact e1, ?_⟩
        simp only [ent]
        exact ⟨V, rfl, fun z => by omega⟩
    by_cases cb : k ≤ 2 ∧ 8 * (p + 1) ≤ i ∧ i < 8 * (p + 1) + 8
    · obtain ⟨hk, hin⟩ := cb
      obtain ⟨j, hj, rfl⟩ : ∃ j, j < 8 ∧ i = 8 * (p + 1) + j := ⟨i - 8 * (p + 1), by omega, by omega⟩
      have hS1 : S 0 (48 + j) = 1 := by
        have := (lb k _ hk hl).2.1 hin
        rw [show 8 * (p + 1) + j - 8 * (p + 1) = j by omega] at this
        exact this
      rcases (show k = 0 ∨ k = 1 ∨ k = 2 by omega) with rfl | rfl | rfl
      · have l6 : live S nf p nt gr 0 (48 + j) := ⟨by omega, hS1⟩
        refine ⟨_, by rw [gb 0 j (by omega) hj, hs.kept hx l6 (hX _ _ l6 (by omega) (by omega))]; exact hs.b (by omega) hS1, ?_⟩
        simp only [ent]
        rw [gb 1 j (by omega) hj, gb 2 j (by omega) hj, tm 2 j (Or.inr rfl) hj]
      · have l6 : live S nf p nt gr 1 (48 + j) := ⟨by omega, hS1⟩
        obtain ⟨K, e1, e2⟩ := hs.kd (r := 48 + j) (by omega) hS1
        refine ⟨_, by rw [gb 1 j (by omega) hj, hs.kept hx l6 (hX _ _ l6 (by omega) (by omega))]; exact e1, ?_⟩
        simp only [ent]
        exact ⟨K, rfl, fun a ha ha2 => by rw [tm 2 j (Or.inr rfl) hj] at ha2; rw [ts 3 j a (Or.inl rfl) hj ha]; exact e2 a ha ha2⟩
      · have l6 : live S nf p nt gr 2 (48 + j) := ⟨by omega, hS1⟩
        obtain ⟨K, e1, e2⟩ := hs.nm (r := 48 + j) (by omega) hS1
        refine ⟨_, by rw [gb 2 j (by omega) hj, hs.kept hx l6 (hX _ _ l6 (by omega) (by omega))]; exact e1, ?_⟩
        simp only [ent]
        exact ⟨K, rfl, fun a ha ha2 => by rw [tm 2 j (Or.inr rfl) hj] at ha2; rw [ts 4 j a (Or.inr rfl) hj ha]; exact e2 a ha ha2⟩
    have hlS : live S nf p nt gr k i ∧ (k ≤ 2 → i < 48) := by
      by_cases c2 : k ≤ 2
      · obtain ⟨b1, b2, b3⟩ := lb k i c2 hl
        refine ⟨?_, fun _ => b1⟩
        have : i < 56 ∧ S 0 i = 1 := ⟨by omega, b3 (fun z => cb ⟨c2, z⟩)⟩
        rcases (show k = 0 ∨ k = 1 ∨ k = 2 by omega) with rfl | rfl | rfl <;> exact this
      · refine ⟨?_, fun z => absurd z c2⟩
        rcases live_case hl with rfl | rfl | rfl | rfl | rfl | rfl | rfl | rfl | rfl | rfl | rfl | rfl <;> simp only [live] at hl ⊢
        all_goals first | exact hl | omega | skip
        exact ⟨hl.1, hl.2.elim (fun z => absurd ⟨rfl, z⟩ c11) id⟩
    refine hs.stay hx hlS.1 (hX k i hlS.1 c10 c11) (gA_n (fun z => z.2.2.elim (fun y => cL ⟨z.1, z.2.1, y⟩) (fun y => c ⟨z.1, z.2.1, y⟩)) cb c11) (fun e he => ent_cong (fun κ j hr => tk κ j (fun z => ?_)) (ent_gr (fun hk => ?_) (ent_len (fun hk => lenL_1 (fun z => hk.elim (fun y => c10 ⟨y, z⟩) (fun y => c11 ⟨y, z⟩))) (ent_g (fun k' i' hg => gA_n (fun z => ?_) (fun z => ?_) (fun z => ?_)) he))))
    · rcases z with ⟨rfl, z2, z3⟩ | ⟨z1, z2, z3⟩ | ⟨z1, z2, z3⟩ | ⟨rfl, z2⟩
      · rcases rd_0 hr with ⟨a, b, d⟩ | ⟨a, b, _⟩
        · subst a
          have : (1 ≤ i ∧ i ≤ p) ∨ i = 6 := hlS.1
          exact c ⟨by decide, by decide, by omega⟩
        · exact c ⟨by omega, by omega, b⟩
      · rcases z1 with rfl | rfl
        · rcases rd_0 hr with ⟨a, b, d⟩ | ⟨a, b, _⟩
          · exact cL ⟨by omega, by omega, by omega⟩
          · exact c ⟨by omega, by omega, b⟩
        · obtain ⟨a, b⟩ := rd_2 hr
          exact cb ⟨by omega, by omega, by omega⟩
      · rcases z1 with rfl | rfl
        · have := rd_3 hr
          exact cb ⟨by omega, by omega, by omega⟩
        · have := rd_4 hr
          exact cb ⟨by omega, by omega, by omega⟩
      · have := rd_16 hr
        exact c ⟨by omega, by omega, this.2.1⟩
    · have : i ≠ 1 := fun z => c10 ⟨hk, z⟩
      exact ⟨fun z => z.elim (fun y => absurd y this) id, Or.inr⟩
    · rcases gsh_4 hg ⟨z.1, z.2.1⟩ with ⟨a, b, d⟩ | ⟨a, b, _⟩
      · exact z.2.2.elim (fun y => cL ⟨by omega, by omega, by omega⟩) (fun y => c ⟨by omega, by omega, by omega⟩)
      · exact c11 ⟨a, b⟩
    · rcases gsh_0 hg z.1 with ⟨a, b, d⟩ | ⟨a, b, d, e1, _⟩ | ⟨a, b, d, e1⟩ | ⟨a, b, d⟩
      · exact cb ⟨by omega, by omega, by omega⟩
      · exact cL ⟨by omega, by omega, by omega⟩
      · subst a
        have hi : i < 6 * nt := hlS.1
        have := hw.row8 hi d
        omega
      · subst a
        have : i < nf := hlS.1
        omega
    · rw [z.1] at hg
      have := gsh_11 hg
      exact c10 ⟨this.1, by omega⟩
end
