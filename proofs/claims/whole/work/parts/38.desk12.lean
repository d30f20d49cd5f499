def gT (g : Gh) (n to fa : Nat) (fr : Nat → Nat) (E : Nat) : Gh := fun k i => if k = 6 ∧ i = n then to else if k = 7 ∧ i = n then fa else if k = 8 ∧ 6 * n ≤ i ∧ i < 6 * n + 6 then fr (i - 6 * n) else if k = 11 ∧ i = 2 then E else g k i
theorem gT_n {g : Gh} {n to fa : Nat} {fr : Nat → Nat} {E k i : Nat} (h1 : ¬ (k = 6 ∧ i = n)) (h2 : ¬ (k = 7 ∧ i = n)) (h3 : ¬ (k = 8 ∧ 6 * n ≤ i ∧ i < 6 * n + 6)) (h4 : ¬ (k = 11 ∧ i = 2)) : gT g n to fa fr E k i = g k i := by
  unfold gT
  rw [if_neg h1, if_neg h2, if_neg h3, if_neg h4]
section
variable {cs : Nat → Nat} {h h' : pw_H} {x : Nat} {g g' : Gh} {gr gr' : Nat → Prop} {dp dp' : Nat → Nat} {S S' : St} {nf p nt nf' p' nt' : Nat}
theorem Sim.newTask {T : St} {to fa E f L r : Nat} {fr : Nat → Nat} {q ql : Nat → Option Nat} {mc : Int32} {X : List Nat} (hs : Sim cs h x g gr (dpS S) S nf p nt) (hto : h to = none) (hfa : h fa = none) (hfr : ∀ k, k < 6 → h (fr k) = none) (hfi : ∀ i j, i < 6 → j < 6 → fr i = fr j → i = j) (hE : (gr 2 ∧ E = g 11 2) ∨ (¬ gr 2 ∧ h E = none))
    (f0 : h' to = some (.inr (5, [.ref fa, .int 1, .int (nI L), .int 0, .int 0, .int 0, .int 0]))) (f1 : h' fa = some (eQ (cs 4) 6 q)) (hq : ∀ k, k < 6 → q k = some (fr k)) (f2 : h' (fr 0) = some (.inr (4, [.int (nI f), .int (nI L), .ref (g 0 r), .int 0, .int 0]))) (f3 : ∀ k, 1 ≤ k → k < 6 → h' (fr k) = some (.inr (4, [.int 0, .int 0, .ref (g 0 r), .int 0, .int 0]))) (f4 : h' E = some (eQ (cs 5) 10 ql)) (hql : ∀ i, i < nt → ql i = some (g 6 i)) (hqn : ql nt = some to) (f5 : h' (g 10 2) = some (.inr (0, [.ref E, .int (nI (nt + 1)), .int mc])))
    (hx : ext h h' X) (hX : ∀ k i, live S nf p nt gr k i → ¬ (k = 10 ∧ i = 2) → ¬ (k = 11 ∧ i = 2) → g k i ∉ X) (hXx : x ∉ X)
    (tk : ∀ κ j, ¬ ((5 ≤ κ ∧ κ ≤ 11 ∧ j = nt) ∨ (12 ≤ κ ∧ κ ≤ 15 ∧ j = 6 * nt) ∨ (κ = 16 ∧ j = 5)) → T κ j = S κ j) (t11 : T 11 nt = nI 1) (t6 : T 6 nt = nI L) (t7 : T 7 nt = 0) (t8 : T 8 nt = 0) (t9 : T 9 nt = 0) (t10 : T 10 nt = 0) (t12 : T 12 (6 * nt) = nI r) (hr48 : r < 48) (hrf : r % 8 = f) (t13 : T 13 (6 * nt) = nI L) (t14 : T 14 (6 * nt) = 0) (t15 : T 15 (6 * nt) = 0) :
    Sim cs h' x (gT g nt to fa fr E) (fun j => j = 2 ∨ gr j) (dpS T) T nf p (nt + 1) := by
  have g6 : gT g nt to fa fr E 6 nt = to := by unfold gT; rw [if_pos ⟨rfl, rfl⟩]
  have g7 : gT g nt to fa fr E 7 nt = fa := by unfold gT; rw [if_neg (by omega), if_pos ⟨rfl, rfl⟩]
  have g8 : ∀ k, k < 6 → gT g nt to fa fr E 8 (6 * nt + k) = fr k := fun k hk => by unfold gT; rw [if_neg (by omega), if_neg (by omega), if_pos (by omega), show 6 * nt + k - 6 * nt = k by omega]
  have g11 : gT g nt to fa fr E 11 2 = E := by unfold gT; rw [if_neg (by omega), if_neg (by omega), if_neg (by omega), if_pos ⟨rfl, rfl⟩]
  have lv : ∀ k i, live T nf p (nt + 1) (fun j => j = 2 ∨ gr j) k i → ¬ (k = 6 ∧ i = nt) → ¬ (k = 7 ∧ i = nt) → ¬ (k = 8 ∧ 6 * nt ≤ i ∧ i < 6 * nt + 6) → (k = 11 ∧ i = 2 → gr 2) → live S nf p nt gr k i := fun k i hl n1 n2 n3 n4 => by
    rcases live_case hl with rfl | rfl | rfl | rfl | rfl | rfl | rfl | rfl | rfl | rfl | rfl | rfl <;> simp only [live] at hl ⊢
    all_goals first | exact hl | (rw [tk 0 i (by omega)] at hl; exact hl) | omega | skip
    exact ⟨hl.1, hl.2.elim (fun z => by subst z; exact n4 ⟨rfl, rfl⟩) id⟩
  have frs : ∀ k, k < 6 → ∃ vs, h' (fr k) = some (.inr (4, vs)) := fun k hk => by
    by_cases h0 : k = 0
    · subst h0; exact ⟨_, f2⟩
    · exact ⟨_, f3 k (by omega) hk⟩
  refine hs.mk2 (fun k i => ¬ (k = 6 ∧ i = nt) ∧ ¬ (k = 7 ∧ i = nt) ∧ ¬ (k = 8 ∧ 6 * nt ≤ i ∧ i < 6 * nt + 6) ∧ (k = 11 ∧ i = 2 → gr 2)) (fun _ i => i) ?_ (fun k i hl hsr => ⟨lv k i hl hsr.1 hsr.2.1 hsr.2.2.1 hsr.2.2.2, ?_⟩) (fun k i i' _ _ _ _ hh => hh) (fun k i hl hsr => ?_) (fun k i k' i' hl hl' hsr hsr' heq => ?_) (fun k i hl => ?_)
  · rw [hs.keptx hx hXx, gT_n (by omega) (by omega) (by omega) (by omega), gT_n (by omega) (by omega) (by omega) (by omega), gT_n (by omega) (by omega) (by omega) (by omega), gT_n (by omega) (by omega) (by omega) (by omega), tk 16 4 (by omega)]
    exact hs.1
  · by_cases c11 : k = 11 ∧ i = 2
    · have hg := hsr.2.2.2 c11
      obtain ⟨rfl, rfl⟩ := c11
      rw [g11]
      exact hE.elim (fun z => z.2) (fun z => absurd hg z.1)
    · exact gT_n hsr.1 hsr.2.1 hsr.2.2.1 c11
  · by_cases c6 : k = 6 ∧ i = nt
    · obtain ⟨rfl, rfl⟩ := c6
      rw [g6]; exact hto
    · by_cases c7 : k = 7 ∧ i = nt
      · obtain ⟨rfl, rfl⟩ := c7
        rw [g7]; exact hfa
      · by_cases c8 : k = 8 ∧ 6 * nt ≤ i ∧ i < 6 * nt + 6
        · obtain ⟨rfl, a, b⟩ := c8
          rw [show i = 6 * nt + (i - 6 * nt) by omega, g8 _ (by omega)]
          exact hfr _ (by omega)
        · by_cases c11 : k = 11 ∧ i = 2
          · obtain ⟨rfl, rfl⟩ := c11
            rw [g11]
            exact hE.elim (fun z => absurd ⟨c6, c7, c8, fun _ => z.1⟩ hsr) (fun z => z.2)
          · exact absurd ⟨c6, c7, c8, fun z => absurd z c11⟩ hsr
  · have hcase : ∀ k i, ¬ (¬ (k = 6 ∧ i = nt) ∧ ¬ (k = 7 ∧ i = nt) ∧ ¬ (k = 8 ∧ 6 * nt ≤ i ∧ i < 6 * nt + 6) ∧ (k = 11 ∧ i = 2 → gr 2)) → (k = 6 ∧ i = nt) ∨ (k = 7 ∧ i = nt) ∨ (∃ j, j < 6 ∧ k = 8 ∧ i = 6 * nt + j) ∨ (k = 11 ∧ i = 2) := fun k i hn => by
      by_cases c11 : k = 11 ∧ i = 2
      · exact Or.inr (Or.inr (Or.inr c11))
      · by_cases c6 : k = 6 ∧ i = nt
        · exact Or.inl c6
        · by_cases c7 : k = 7 ∧ i = nt
          · exact Or.inr (Or.inl c7)
          · have c8 : k = 8 ∧ 6 * nt ≤ i ∧ i < 6 * nt + 6 := Classical.byContradiction (fun z => hn ⟨c6, c7, z, fun y => absurd y c11⟩)
            exact Or.inr (Or.inr (Or.inl ⟨i - 6 * nt, by omega, c8.1, by omega⟩))
    have n1 : to ≠ fa := pu_t f0 f1 (show (5 : Nat) ≠ 306 by decide)
    have n2 : ∀ j, j < 6 → to ≠ fr j := fun j hj => (frs j hj).elim (fun vs hv => pu_t f0 hv (show (5 : Nat) ≠ 4 by decide))
    have n3 : to ≠ E := pu_t f0 f4 (show (5 : Nat) ≠ 310 by decide)
    have n4 : ∀ j, j < 6 → fa ≠ fr j := fun j hj => (frs j hj).elim (fun vs hv => pu_t f1 hv (show (306 : Nat) ≠ 4 by decide))
    have n5 : fa ≠ E := pu_t f1 f4 (show (306 : Nat) ≠ 310 by decide)
    have n6 : ∀ j, j < 6 → fr j ≠ E := fun j hj => (frs j hj).elim (fun vs hv => pu_t hv f4 (show (4 : Nat) ≠ 310 by decide))
    rcases hcase k i hsr with ⟨rfl, rfl⟩ | ⟨rfl, rfl⟩ | ⟨j, hj, rfl, rfl⟩ | ⟨rfl, rfl⟩ <;> rcases hcase k' i' hsr' with ⟨rfl, rfl⟩ | ⟨rfl, rfl⟩ | ⟨j', hj', rfl, rfl⟩ | ⟨rfl, rfl⟩
    · exact ⟨rfl, rfl⟩
    · rw [g6, g7] at heq; exact absurd heq n1
    · rw [g6, g8 _ hj'] at heq; exact absurd heq (n2 _ hj')
    · rw [g6, g11] at heq; exact absurd heq n3
    · rw [g6, g7] at heq; exact absurd heq.symm n1
    · exact ⟨rfl, rfl⟩
    · rw [g7, g8 _ hj'] at heq; exact absurd heq (n4 _ hj')
    · rw [g7, g11] at heq; exact absurd heq n5
    · rw [g8 _ hj, g6] at heq; exact absurd heq.symm (n2 _ hj)
    · rw [g8 _ hj, g7] at heq; exact absurd heq.symm (n4 _ hj)
    · rw [g8 _ hj, g8 _ hj'] at heq
      exact ⟨rfl, by rw [hfi _ _ hj hj' heq]⟩
    · rw [g8 _ hj, g11] at heq; exact absurd heq (n6 _ hj)
    · rw [g6, g11] at heq; exact absurd heq.symm n3
    · rw [g7, g11] at heq; exact absurd heq.symm n5
    · rw [g8 _ hj', g11] at heq; exact absurd heq.symm (n6 _ hj')
    · exact ⟨rfl, rfl⟩
  · by_cases c6 : k = 6 ∧ i = nt
    · obtain ⟨rfl, rfl⟩ := c6
      refine ⟨_, by rw [g6]; exact f0, ?_⟩
      simp only [ent]
      rw [g7, t11, t6, t7, t8, t9, t10]; rfl
    by_cases c7 : k = 7 ∧ i = nt
    · obtain ⟨rfl, rfl⟩ := c7
      refine ⟨_, by rw [g7]; exact f1, ?_⟩
      simp only [ent]
      exact ⟨_, rfl, fun k hk => by rw [g8 k hk]; exact hq k hk⟩
    by_cases c8 : k = 8 ∧ 6 * nt ≤ i ∧ i < 6 * nt + 6
    · obtain ⟨rfl, a, b⟩ := c8
      obtain ⟨j, hj, rfl⟩ : ∃ j, j < 6 ∧ i = 6 * nt + j := ⟨i - 6 * nt, by omega, by omega⟩
      by_cases hj0 : j = 0
      · subst hj0
        refine ⟨_, by rw [g8 0 hj]; exact f2, ?_⟩
        simp only [ent]
        refine ⟨_, _, _, _, _, rfl, fun _ => ⟨?_, ?_, ?_, ?_, ?_⟩⟩
        · rw [show 6 * nt + 0 = 6 * nt by omega, t12, tn_nI (by omega), hrf]
        · exact t13.symm
        · rw [show 6 * nt + 0 = 6 * nt by omega, t12, tn_nI (by omega), gT_n (by omega) (by omega) (by omega) (by omega)]
        · exact t14.symm
        · exact t15.symm
      · refine ⟨_, by rw [g8 j hj]; exact f3 j (by omega) hj, ?_⟩
        simp only [ent]
        refine ⟨_, _, _, _, _, rfl, fun hd => ?_⟩
        rw [show (6 * nt + j) % 6 = j by omega, show (6 * nt + j) / 6 = nt by omega] at hd
        have hd : j < tn (T 11 nt) := hd
        rw [t11, tn_nI (by decide)] at hd
        omega
    by_cases c10 : k = 10 ∧ i = 2
    · obtain ⟨rfl, rfl⟩ := c10
      refine ⟨_, by rw [gT_n (by omega) (by omega) (by omega) (by omega)]; exact f5, ?_⟩
      simp only [ent]
      exact ⟨mc, Or.inl ⟨Or.inl trivial, by rw [g11]; rfl⟩⟩
    by_cases c11 : k = 11 ∧ i = 2
    · obtain ⟨rfl, rfl⟩ := c11
      refine ⟨_, by rw [g11]; exact f4, ?_⟩
      simp only [ent]
      refine ⟨_, rfl, fun j hj => ?_⟩
      have hj : j < nt + 1 := hj
      show ql j = some (gT g nt to fa fr E 6 j)
      by_cases hjn : j = nt
      · subst hjn; rw [g6]; exact hqn
      · rw [gT_n (by omega) (by omega) (by omega) (by omega)]; exact hql j (by omega)
    have hlS := lv k i hl c6 c7 c8 (fun z => absurd z c11)
    refine hs.stay hx hlS (hX k i hlS c10 c11) (gT_n c6 c7 c8 c11) (fun e he => ent_cong (fun κ j hr => tk κ j (fun z => ?_)) (ent_gr (fun hk => ?_) (ent_len (fun hk => lenL_2 ?_) (ent_dp (dp := dpS S) (fun hk hd => ?_) (ent_g (fun k' i' hg => gT_n (fun z => ?_) (fun z => ?_) (fun z => ?_) (fun z => ?_)) he)))))
    · rcases z with ⟨z1, z2, z3⟩ | ⟨z1, z2, z3⟩ | ⟨rfl, rfl⟩
      · by_cases h5 : κ = 5
        · subst h5; exact rd_5 hr
        · have := rd_t hr (by omega)
          exact c6 ⟨this.1, by omega⟩
      · have := rd_f hr (by omega)
        exact c8 ⟨this.1, by omega, by omega⟩
      · have := rd_16 hr
        omega
    · have : i ≠ 2 := fun z => c10 ⟨hk, z⟩
      exact ⟨fun z => z.elim (fun y => absurd y this) id, Or.inr⟩
    · have h3 : i < 3 := hk.elim (fun y => by subst y; exact hlS) (fun y => by subst y; exact hlS.1)
      have : i ≠ 2 := fun z => hk.elim (fun y => c10 ⟨y, z⟩) (fun y => c11 ⟨y, z⟩)
      omega
    · subst hk
      have hi : i < 6 * nt := hlS
      have e : T 11 (i / 6) = S 11 (i / 6) := tk 11 _ (by omega)
      show i % 6 < tn (S 11 (i / 6))
      rw [← e]; exact hd
    · have := gsh_6 hg z.1
      omega
    · rw [z.1] at hg
      have := gsh_7 hg
      exact c6 ⟨this.1, by omega⟩
    · rw [z.1] at hg
      have := gsh_8 hg
      exact c7 ⟨this.1, by omega⟩
    · rw [z.1] at hg
      have := gsh_11 hg
      exact c10 ⟨this.1, by omega⟩
end
