def gT (g : Gh) (n to fa : Nat) (fr : Nat → Nat) (E : Nat) : Gh := fun k i => if k = 6 ∧ i = n then to else if k = 7 ∧ i = n then fa else if k = 8 ∧ 6 * n ≤ i ∧ i < 6 * n + 6 then fr (i - 6 * n) else if k = 11 ∧ i = 2 then E else g k i
theorem gT_n {g : Gh} {n to fa : Nat} {fr : Nat → Nat} {E k i : Nat} (h1 : ¬ (k = 6 ∧ i = n)) (h2 : ¬ (k = 7 ∧ i = n)) (h3 : ¬ (k = 8 ∧ 6 * n ≤ i ∧ i < 6 * n + 6)) (h4 : ¬ (k = 11 ∧ i = 2)) : gT g n to fa fr E k i = g k i := by
  unfold gT
  rw [if_neg h1, if_neg h2, if_neg h3, if_neg h4]
section
variable {cs : Nat → Nat} {h h' : pw_H} {x : Nat} {g g' : Gh} {gr gr' : Nat → Prop} {dp dp' : Nat → Nat} {S S' : St} {nf p nt nf' p' nt' : Nat}
theorem Sim.newTask {T : St} {to fa E f L r : Nat} {fr : Nat → Nat} {q ql : Nat → Option Nat} {mc : Int32} {X : List Nat} (hs : Sim cs h x g gr (dpS S) S nf p nt) (hto : h to = none) (hfa : h fa = none) (hfr : ∀ k, k < 6 → h (fr k) = none) (hfi : ∀ i j, i < 6 → j < 6 → fr i = fr j → i = j) (hE : (gr 2 ∧ E = g 11 2) ∨ (¬ gr 2 ∧ h E = none))
    (f0 : h' to = some (.inr (5, [.ref fa, .int 1, .int (nI L), .int 0, .int 0, .int 0, .int 0]))) (f1 : h' fa = some (eQ (cs 4) 6 q)) (hq : ∀ k, k < 6 → q k = some (fr k)) (f2 : h' (fr 0) = some (.inr (4, [.int (nI f), .int (nI L), .ref (g 0 r), .int 0, .int 0]))) (f3 : ∀ k, 1 ≤ k → k < 6 → h' (fr k) = some (.inr (4, [.int 0, .int 0, .ref (g 0 r), .int 0, .int 0]))) (f4 : h' E = some (eQ (cs 5) 10 ql)) (hql : ∀ i, i < nt → ql i = some (g 6 i)) (hqn : ql nt = some to) (f5 : h' (g 10 2) = some (.inr (0, [.ref E, .int (nI (nt + 1)), .int mc])))
    (hx : ext h h' X) (hX : ∀ k i, live S nf p nt gr k i → ¬ (k = 10 ∧ i = 2) → ¬ (k = 11 ∧ i = 2) → g k i ∉ X) (hXx : x ∉ X)
    (tk : ∀ κ j, ¬ ((5 ≤ κ ∧ κ ≤ 11 ∧ j = nt) ∨ (12 ≤ κ ∧ κ ≤ 15 ∧ j = 6 * nt) ∨ (κ = 16 ∧ j = 5)) → T κ j = S κ j) (t11 : T 11 nt = nI 1) (t6 : T 6 nt = nI L) (t7 : T 7 nt = 0) (t8 : T 8 nt = 0) (t9 : T 9 nt = 0) (t10 : T 10 nt = 0) (t12 : T 12 (6 * nt) = nI r) (hr48 : r < 48) (hrf : r % 8 = f) (t13 : T 13 (6 * nt) = nI L) (t14 : T 14 (6 * nt) = 0) (t15 : T 15 (6 * nt) = 0) :
    Sim cs h' x (gT g nt to fa fr E) (fun j => j = 2 ∨ gr j) (dpS T) T nf p (nt + 1) := by
  have g6 : gT g nt to fa fr E 6 nt = to := by unfold gT; rw [if_pos ⟨rfl, rfl⟩]
  have g7 : gT g nt to fa fr E 7 nt = fa := by unfold gT; rw [if_neg (by omega), if_pos ⟨rfl, rfl⟩]
  have g8 : ∀ k, k < 6 → gT g nt to fa fr E 8 (6 * nt + k) = fr k := fun k hk => by unfold gT; rw [if_neg (by omega), if_neg (by omega), if_pos (by omega), show 6 * nt + k - 6 * nt = k by omega]
  have g11 : gT g nt to fa fr E 11 2 = E := by unfold gT; rw [if_neg (by omega), if_neg (by omega), if_neg (by omega), if_pos ⟨rfl, rfl⟩]
  have lv : ∀ k i, live T nf p (nt + 1) (fun j => j = 2 ∨ gr j) k i → ¬ (k = 6 ∧ i = nt) → ¬ (k = 7 ∧ i = nt) → ¬ (k = 8 ∧ 6 * nt ≤ i ∧ i < 6 * nt + 6) → (k = 11 ∧ i = 2 → gr 2) → live S nf p nt gr k i := fun k i hl n1 n2 n3 n4 => by
    rcases live_case hl with rfl | rfl | rfl | rfl | rfl | rfl | rfl | rfl | rfl | rfl | rfl | rfl <;> simp only [live] at hl ⊢
    all_goals first | exact hl | (rw [tk 0 i (by omega)] at hl; exact hl) | omega | skip
    exact ⟨hl.1, hl.2.elim (fun z => by subst z; exact n4 ⟨rfl, rfl⟩) id⟩
  have frs : ∀ k, k < 6 → ∃ vs, h' (fr k) = some (.inr (4, vs)) := fun k hk => by
    by_cases h0 : k = 0
    · subst h0; exact ⟨_, f2⟩
    · exact ⟨_, f3 k (by omega) hk⟩
  refine hs.mk2 (fun k i => ¬ (k = 6 ∧ i = nt) ∧ ¬ (k = 7 ∧ i = nt) ∧ ¬ (k = 8 ∧ 6 * nt ≤ i ∧ i < 6 * nt + 6) ∧ (k = 11 ∧ i = 2 → gr 2)) (fun _ i => i) ?_ (fun k i hl hsr => ⟨lv k i hl hsr.1 hsr.2.1 hsr.2.2.1 hsr.2.2.2, ?_⟩) (fun k i i' _ _ _ _ hh => hh) (fun k i hl hsr => ?_) (fun k i k' i' hl hl' hsr hsr' heq => ?_) (fun k i hl => ?_)
  · rw [hs.keptx hx hXx, gT_n (by omega) (by omega) (by omega) (by omega), gT_n (by omega) (by omega) (by omega) (by omega), gT_n (by omega) (by omega) (by omega) (by omega), gT_n (by omega) (by omega) (by omega) (by omega), tk 16 4 (by omega)]
    exact hs.1
  · by_cases c11 : k = 11 ∧ i = 2
    · have hg := hsr.2.2.2 c11
      obtain ⟨rfl, rfl⟩ := c11
      rw [g11]
      exact hE.elim (fun z => z.2) (fun z => absurd hg z.1)
    · exact gT_n hsr.1 hsr.2.1 hsr.2.2.1 c11
  · by_cases c6 : k = 6 ∧ i = nt
    · obtain ⟨rfl, rfl⟩ := c6
      rw [g6]; exact hto
    · by_cases c7 : k = 7 ∧ i = nt
      · obtain ⟨rfl, rfl⟩ := c7
        rw [g7]; exact hfa
      · by_cases c8 : k = 8 ∧ 6 * nt ≤ i ∧ i < 6 * nt + 6
        · obtain ⟨rfl, a, b⟩ := c8
          rw [show i = 6 * nt + (i - 6 * nt) by omega, g8 _ (by omega)]
          exact hfr _ (by omega)
        · by_cases c11 : k = 11 ∧ i = 2
          · obtain ⟨rfl, rfl⟩ := c11
            rw [g11]
            exact hE.elim (fun z => absurd ⟨c6, c7, c8, fun _ => z.1⟩ hsr) (fun z => z.2)
          · exact absurd ⟨c6, c7, c8, fun z => absurd z c11⟩ hsr
  · have hcase : ∀ k i, ¬ (¬ (k = 6 ∧ i = nt) ∧ ¬ (k = 7 ∧ i = nt) ∧ ¬ (k = 8 ∧ 6 * nt ≤ i ∧ i < 6 * nt + 6) ∧ (k = 11 ∧ i = 2 → gr 2)) → (k = 6 ∧ i = nt) ∨ (k = 7 ∧ i = nt) ∨ (∃ j, j < 6 ∧ k = 8 ∧ i = 6 * nt + j) ∨ (k = 11 ∧ i = 2) := fun k i hn => by
      by_cases c11 : k = 11 ∧ i = 2
      · exact Or.inr (Or.inr (Or.inr c11))
      · by_cases c6 : k = 6 ∧ i = nt
        · exact Or.inl c6
        · by_cases c7 : k = 7 ∧ i = nt
          · exact Or.inr (Or.inl c7)
          · have c8 : k = 8 ∧ 6 * nt ≤ i ∧ i < 6 * nt + 6 := Classical.byContradiction (fun z => hn ⟨c6, c7, z, fun y => absurd y c11⟩)
            exact Or.inr (Or.inr (Or.inl ⟨i - 6 * nt, by omega, c8.1, by omega⟩))
    have n1 : to ≠ fa := pu_t f0 f1 (show (5 : Nat) ≠ 306 by decide)
    have n2 : ∀ j, j < 6 → to ≠ fr j := fun j hj => (frs j hj).elim (fun vs hv => pu_t f0 hv (show (5 : Nat) ≠ 4 by decide))
    have n3 : to ≠ E := pu_t f0 f4 (show (5 : Nat) ≠ 310 by decide)
    have n4 : ∀ j, j < 6 → fa ≠ fr j := fun j hj => (frs j hj).elim (fun vs hv => pu_t f1 hv (show (306 : Nat) ≠ 4 by decide))
    have n5 : fa ≠ E := pu_t f1 f4 (show (306 : Nat) ≠ 310 by decide)
    have n6 : ∀ j, j < 6 → fr j ≠ E := fun j hj => (frs j hj).elim (fun vs hv => pu_t hv f4 (show (4 : Nat) ≠ 310 by decide))
    rcases hcase k i hsr with ⟨rfl, rfl⟩ | ⟨rfl, rfl⟩ | ⟨j, hj, rfl, rfl⟩ | ⟨rfl, rfl⟩ <;> rcases hcase k' i' hsr' with ⟨rfl, rfl⟩ | ⟨rfl, rfl⟩ | ⟨j', hj', rfl, rfl⟩ | ⟨rfl, rfl⟩
    · exact ⟨rfl, rfl⟩
    · rw [g6, g7] at heq; exact absurd heq n1
    · rw [g6, g8 _ hj'] at heq; exact absurd heq (n2 _ hj')
    · rw [g6, g11] at heq; exact absurd heq n3
    · rw [g6, g7] at heq; exact absurd heq.symm n1
    · exact ⟨rfl, rfl⟩
    · rw [g7, g8 _ hj'] at heq; exact absurd heq (n4 _ hj')
    · rw [g7, g11] at heq; exact absurd heq n5
    · rw [g8 _ hj, g6] at heq; exact absurd heq.symm (n2 _ hj)
    · rw [g8 _ hj, g7] at heq; exact absurd heq.symm (n4 _ hj)
    · rw [g8 _ hj, g8 _ hj'] at heq
      exact ⟨rfl, by rw [hfi _ _ hj hj' heq]⟩
    · rw [g8 _ hj, g11] at heq; exact absurd heq (n6 _ hj)
    · rw [g6, g11] at heq; exact absurd heq.symm n3
    · rw [g7, g11] at heq; exact absurd heq.symm n5
    · rw [g8 _ hj', g11] at heq; exact absurd heq.symm (n6 _ hj')
    · exact ⟨rfl, rfl⟩
  · by_cases c6 : k = 6 ∧ i = nt
    · obtain ⟨rfl, rfl⟩ := c6
      refine ⟨_, by rw [g6]; exact f0, ?_⟩
      simp only [ent]
      rw [g7, t11, t6, t7, t8, t9, t10]; rfl
    by_cases c7 : k = 7 ∧ i = nt
    · obtain ⟨rfl, rfl⟩ := c7
      refine ⟨_, by rw [g7]; exact f1, ?_⟩
      simp only [ent]
      exact ⟨_, rfl, fun k hk => by rw [g8 k hk]; exact hq k hk⟩
    by_cases c8 : k = 8 ∧ 6 * nt ≤ i ∧ i < 6 * nt + 6
    · obtain ⟨rfl, a, b⟩ := c8
      obtain ⟨j, hj, rfl⟩ : ∃ j, j < 6 ∧ i = 6 * nt + j := ⟨i - 6 * nt, by omega, by omega⟩
      by_cases hj0 : j = 0
      · subst hj0
        refine ⟨_, by rw [g8 0 hj]; exact f2, ?_⟩
        simp only [ent]
        refine ⟨_, _, _, _, _, rfl, fun _ => ⟨?_, ?_, ?_, ?_, ?_⟩⟩
        · rw [show 6 * nt + 0 = 6 * nt by omega, t12, tn_nI (by omega), hrf]
        · exact t13.symm
        · rw [show 6 * nt + 0 = 6 * nt by omega, t12, tn_nI (by omega), gT_n (by omega) (by omega) (by omega) (by omega)]
        · exact t14.symm
        · exact t15.symm
      · refine ⟨_, by rw [g8 j hj]; exact f3 j (by omega) hj, ?_⟩
        simp only [ent]
        refine ⟨_, _, _, _, _, rfl, fun hd => ?_⟩
        rw [show (6 * nt + j) % 6 = j by omega, show (6 * nt + j) / 6 = nt by omega] at hd
        have hd : j < tn (T 11 nt) := hd
        rw [t11, tn_nI (by decide)] at hd
        omega
    by_cases c10 : k = 10 ∧ i = 2
    · obtain ⟨rfl, rfl⟩ := c10
      refine ⟨_, by rw [gT_n (by omega) (by omega) (by omega) (by omega)]; exact f5, ?_⟩
      simp only [ent]
      exact ⟨mc, Or.inl ⟨Or.inl trivial, by rw [g11]; rfl⟩⟩
    by_cases c11 : k = 11 ∧ i = 2
    · obtain ⟨rfl, rfl⟩ := c11
      refine ⟨_, by rw [g11]; exact f4, ?_⟩
      simp only [ent]
      refine ⟨_, rfl, fun j hj => ?_⟩
      have hj : j < nt + 1 := hj
      show ql j = some (gT g nt to fa fr E 6 j)
      by_cases hjn : j = nt
      · subst hjn; rw [g6]; exact hqn
      · rw [gT_n (by omega) (by omega) (by omega) (by omega)]; exact hql j (by omega)
    have hlS := lv k i hl c6 c7 c8 (fun z => absurd z c11)
    refine hs.stay hx hlS (hX k i hlS c10 c11) (gT_n c6 c7 c8 c11) (fun e he => ent_cong (fun κ j hr => tk κ j (fun z => ?_)) (ent_gr (fun hk => ?_) (ent_len (fun hk => lenL_2 ?_) (ent_dp (dp := dpS S) (fun hk hd => ?_) (ent_g (fun k' i' hg => gT_n (fun z => ?_) (fun z => ?_) (fun z => ?_) (fun z => ?_)) he)))))
    · rcases z with ⟨z1, z2, z3⟩ | ⟨z1, z2, z3⟩ | ⟨rfl, rfl⟩
      · by_cases h5 : κ = 5
        · subst h5; exact rd_5 hr
        · have := rd_t hr (by omega)
          exact c6 ⟨this.1, by omega⟩
      · have := rd_f hr (by omega)
        exact c8 ⟨this.1, by omega, by omega⟩
      · have := rd_16 hr
        omega
    · have : i ≠ 2 := fun z => c10 ⟨hk, z⟩
      exact ⟨fun z => z.elim (fun y => absurd y this) id, Or.inr⟩
    · have h3 : i < 3 := hk.elim (fun y => by subst y; exact hlS) (fun y => by subst y; exact hlS.1)
      have : i ≠ 2 := fun z => hk.elim (fun y => c10 ⟨y, z⟩) (fun y => c11 ⟨y, z⟩)
      omega
    · subst hk
      have hi : i < 6 * nt := hlS
      have e : T 11 (i / 6) = S 11 (i / 6) := tk 11 _ (by omega)
      show i % 6 < tn (S 11 (i / 6))
      rw [← e]; exact hd
    · have := gsh_6 hg z.1
      omega
    · rw [z.1] at hg
      have := gsh_7 hg
      exact c6 ⟨this.1, by omega⟩
    · rw [z.1] at hg
      have := gsh_8 hg
      exact c7 ⟨this.1, by omega⟩
    · rw [z.1] at hg
      have := gsh_11 hg
      exact c10 ⟨this.1, by omega⟩
end
theorem Sim.new0 {cs : Nat → Nat} {h h' : pw_H} {x : Nat} {g : Gh} {gr : Nat → Prop} {dp : Nat → Nat} {S : St} {nf p nt : Nat} (hs : Sim cs h x g gr dp S nf p nt) (hx : ext h h' []) : Sim cs h' x g gr dp S nf p nt :=
  hs.set ((hs.keptx hx nin0).trans hs.1) (fun k i hl => ⟨hl, Or.inl ⟨hs.kept hx hl nin0, fun _ he => he⟩⟩)
theorem stTask_eq {S : St} {nf p nt f L : Nat} (hw : WF S nf p nt noX) (hlt : nt < 4) (hf : f < nf) (hL5 : L ≤ 5) (hth : thTask S (nI f) = 0) (hL : (if S 16 4 < 0 then S 16 3 else S 16 4) = nI L) :
    stTask S (nI f) = sp (sp (sp (sp (sp (sp (sp (sp (sp S 16 0 0) 5 nt (nI f)) 6 nt (nI L)) 16 5 (nI (nt + 1))) 12 (6 * nt) (nI (bRow S f L))) 13 (6 * nt) (nI L)) 14 (6 * nt) 0) 15 (6 * nt) 0) 11 nt (nI 1) := by
  have h8 := hw.1.1
  unfold stTask
  rw [if_pos hth, hL, hw.1.2.2.2.2.2.1, tn_nI (by omega), tn_nI (by omega), nI_1]
  rw [mEnter_go (d := 0) (L := L) (by rw [sp_k (by decide), sp_k (by decide), sp_k (by decide), sp_k (by decide)]; exact (hw.2.2 nt (Nat.le_refl _) hlt).1) (by decide) (by rw [sp_k (by decide), sp_s]) hL5]
  rw [bRow_eq (S := S) (fun j => by rw [sp_k (by decide), sp_k (by decide), sp_k (by decide), sp_k (by decide)]) f L]
  rfl
abbrev rm_D_task : Room := { frames := 6, cells := 9, slots := 53, locals := 104 }
set_option maxHeartbeats 4000000 in
set_option maxRecDepth 100000 in
theorem c_D_task (l : Launch) (D : va_G) (cs : Nat → Nat) (A : Nat → Prop) (h : pw_H) (hst : l.stackTraces = false) (x : Nat) (S : St) (hE : SimE cs h x S) (fn : Int32) : pmx l y_D_task b_D_task 3 (some .int) rm_D_task [.ref x, .int fn] D cs A h (va_Qi (fun (r : Int32) (h' : pw_H) => thTask S fn = 0 ∧ SimE cs h' x (stTask S fn) ∧ r = rTask S fn) (ww D cs A) A) (fun (E : String) (h' : pw_H) => (E = sIAE ∧ thTask S fn = 1 ∧ SimE cs h' x (stTask S fn)) ∨ (E = sISE ∧ thTask S fn = 2 ∧ SimE cs h' x (stTask S fn))) 9 53 := by
  refine pmx_of R_D rfl (by decide) (Nat.le_of_ble_eq_true rfl) (fun p e s m below meth c ls F hr hlk hnm htb hP hA hK hl => ?_)
  have hS : va_S A s.heap s.heap [] := va_S.rf
  replace hl : lv_has ls 3 [(0, .ref x), (1, .int fn)] := hl
  obtain ⟨g, gr, nf, pT, nt, hs, hw⟩ := hE
  obtain ⟨dp, hdpS⟩ : ∃ dp, dp = dpS S := ⟨_, rfl⟩
  rw [← hdpS] at hs
  have hnf8 := hw.1.1
  have hp5 := hw.1.2.1
  have hnt4 := hw.1.2.2.1
  have hn1 := hw.1.2.2.2.1
  have hn3 := hw.1.2.2.2.2.1
  have hn5 := hw.1.2.2.2.2.2.1
  have hx : ext h h [] := ext.rf
  refine lv_aload_n F.1 F.2.1 d_D_task_0 rfl (lv_at hl 0 rfl) ?_
  refine lv_iload_n F.1 F.2.1 d_D_task_1 rfl (lv_at hl 1 rfl) ?_
  have f1 : h x = some (.inr (6, [.ref (g 10 0), .ref (g 10 1), .ref (g 10 2), .ref (g 3 6), .int (S 16 4)])) := hs.1
  refine pw_ciE (pr_V F (c_D_isFunction l D cs A h x g gr dp S nf pT nt hs hnf8 fn) X_D_66 rfl rfl ⟨by decide, by decide⟩ hP hA hK hS f1 rfl rfl rfl hl.1 rfl (Nat.le_of_ble_eq_true rfl) d_D_task_2 ⟨by decide, by decide⟩) hS (fun H locs hP hS => ?_)
  by_cases b2 : mIn fn 0 (nI nf - 1)
  · skip
    refine W.eq (g2 := F0 m 5 ls [.int 1]) (by rw [if_pos b2]) ?_
    refine lv_if_ne (tgt := 18) F.1 F.2.1 d_D_task_5 (by decide) (fun c3 => ?_) (fun c3 => absurd c3 (by decide))
    obtain ⟨f, hltf, rfl⟩ := mIn_nat (by omega) b2.1 b2.2
    refine lv_aload_n F.1 F.2.1 d_D_task_18 rfl (lv_at hl 0 rfl) ?_
    refine pw_get F I_D hK.1 hP f1 rfl 2 (by decide) L_D_19 (fun _ z => z) rfl d_D_task_19 ?_
    obtain ⟨q4, n5, f6, _, _⟩ := hs.ls (show 2 < 3 by decide)
    have f7 : h (g 10 2) = some (.inr (0, [.ref q4, .int (nI nt), .int n5])) := f6
    refine pw_ciE (pr_V F (c_AL_size l D cs A h _ _ _ _ f7) X_D_44 rfl rfl ⟨by decide, by decide⟩ hP hA hK hS f7 rfl rfl rfl hl.1 rfl (Nat.le_of_ble_eq_true rfl) d_D_task_22 ⟨by decide, by decide⟩) hS (fun H locs hP hS => ?_)
    refine lv_iconst (v := 4) F.1 F.2.1 d_D_task_25 (by decide) ?_
    refine lv_icmp_lt (tgt := 39) F.1 F.2.1 d_D_task_26 (by decide) (fun c8 => ?_) (fun c8 => ?_)
    · skip
      have hlt4 : nt < 4 := (nI_ltI (a := nt) (b := 4) (by omega) (by decide)).mp c8
      have hth : thTask S (nI f) = 0 := (by unfold thTask; rw [if_neg (fun z9 => z9 (hn1 ▸ b2)), if_neg (show ¬ S 16 5 = 4 from fun z9 => absurd ((nI_eq (a := nt) (b := 4) (by omega) (by decide)).mp (hn5.symm.trans z9)) (by omega))])
      obtain ⟨L, hLp, hLv, hLa, hLb⟩ := hw.lev
      have hst9 := stTask_eq hw hlt4 hltf (by omega) hth hLv
      have hbk := bRow_ok (L := L) hw.1 hltf (by omega)
      refine lv_aload_n F.1 F.2.1 d_D_task_39 rfl (lv_at hl 0 rfl) ?_
      refine pw_get F I_D hK.1 hP f1 rfl 4 (by decide) L_D_29 (fun _ z => z) rfl d_D_task_40 ?_
      refine lv_iconst (v := (-1)) F.1 F.2.1 d_D_task_43 (by decide) ?_
      refine lv_icmp_ne (tgt := 57) F.1 F.2.1 d_D_task_44 (by decide) (fun c9 => ?_) (fun c9 => ?_)
      · skip
        refine lv_aload_n F.1 F.2.1 d_D_task_57 rfl (lv_at hl 0 rfl) ?_
        refine pw_get F I_D hK.1 hP f1 rfl 4 (by decide) L_D_29 (fun _ z => z) rfl d_D_task_58 ?_
        refine W.eq (g2 := F0 m 61 ls [.int (nI L)]) (by rw [show S 16 4 = nI L from hLb c9]) ?_
        refine lv_istore_n F.1 F.2.1 d_D_task_61 rfl hl (by decide) rfl (fun ls hl => ?_)
        replace hl : lv_has ls 3 [(2, .int (nI L)), (0, .ref x), (1, .int (nI f))] := hl
        by_cases hgr : gr 2
        · skip
          obtain ⟨n10, lq, fl1, fl2, hlq⟩ := hs.lg (show 2 < 3 by decide) hgr
          replace fl1 : h (g 10 2) = some (.inr (0, [.ref (g 11 2), .int (nI nt), .int n10])) := fl1
          refine lv_aload_n F.1 F.2.1 d_D_task_62 rfl (lv_at hl 1 rfl) ?_
          refine pw_get F I_D hK.1 hP f1 rfl 2 (by decide) L_D_19 (fun _ z => z) rfl d_D_task_63 ?_
          refine pw_new (ci := 5) (fs := [.null, .int 0, .int 0, .int 0, .int 0, .int 0, .int 0]) F I_T ty_T k_T C_D_135 N_T Z_T hK.1 hP hS hA rfl (fun j hj => by rcases (show j = 0 ∨ j = 1 ∨ j = 2 ∨ j = 3 ∨ j = 4 ∨ j = 5 ∨ j = 6 by omega) with rfl | rfl | rfl | rfl | rfl | rfl | rfl <;> rfl) (by decide) (by decide) d_D_task_66 (fun q11 H n12 hP hS => ?_)
          replace hP : pw D vwCl A (pu h q11 (.inr (5, [.null, .int 0, .int 0, .int 0, .int 0, .int 0, .int 0]))) H := hP
          have g15 : h q11 = none := hx.2 _ n12
          obtain ⟨h13, e14⟩ : ∃ z9 : pw_H, z9 = pu h q11 (.inr (5, [.null, .int 0, .int 0, .int 0, .int 0, .int 0, .int 0])) := ⟨_, rfl⟩
          rw [← e14] at hP
          have hx : ext h h13 [] := by rw [e14]; exact hx.pu (Or.inr g15)
          have f16 : h13 q11 = some (.inr (5, [.null, .int 0, .int 0, .int 0, .int 0, .int 0, .int 0])) := by rw [e14]; exact pu_s
          refine lv_dup F.1 F.2.1 d_D_task_69 rfl ?_
          refine lv_iload_n F.1 F.2.1 d_D_task_70 rfl (lv_at hl 2 rfl) ?_
          refine lv_iload_n F.1 F.2.1 d_D_task_71 rfl (lv_at hl 0 rfl) ?_
          refine lv_aload_n F.1 F.2.1 d_D_task_72 rfl (lv_at hl 1 rfl) ?_
          refine lv_iload_n F.1 F.2.1 d_D_task_73 rfl (lv_at hl 2 rfl) ?_
          refine lv_iload_n F.1 F.2.1 d_D_task_74 rfl (lv_at hl 0 rfl) ?_
          have hs1 : Sim cs h13 x g gr dp S nf pT nt := hs.new0 hx
          have f17 : h13 x = some (.inr (6, [.ref (g 10 0), .ref (g 10 1), .ref (g 10 2), .ref (g 3 6), .int (S 16 4)])) := by rw [e14]; exact pu_f n12 f1
          refine pw_crE (pr_V F (c_D_bodyAt l D cs A h13 x g gr dp S nf pT nt hs1 hw.1 f L hltf hLp) X_D_137 rfl rfl ⟨by decide, by decide⟩ hP hA hK hS f17 rfl rfl rfl hl.1 rfl (Nat.le_of_ble_eq_true rfl) d_D_task_75 ⟨by decide, by decide⟩) hS (fun H locs hP hS => ?_)
          refine pw_cv (pr_I F (c_T_init l D cs A h13 _ (g 0 (bRow S f L)) (nI f) (nI L) f16) X_D_141 rfl rfl ⟨by decide, by decide⟩ hP hA hK hS rfl hl.1 rfl (Nat.le_of_ble_eq_true rfl) d_D_task_78 ⟨by decide, by decide⟩) hS (fun hz9 H locs hq9 hP hS => ?_)
          obtain ⟨fa, fr, hfa0, hfr0, hfi, qf, j1, hqf, j2, j3, j0, ix⟩ := hq9
          have hfrN : ∀ k, k < 6 → h (fr k) = none := fun k hk => hx.2 _ (hfr0 k hk)
          have g18 : h fa = none := hx.2 _ hfa0
          have hx : ext h hz9 [] := hx.trans ix (fun y hy => by
            simp only [List.mem_cons, List.not_mem_nil, or_false] at hy
            rcases hy with rfl
            · exact Or.inr g15)
          have f19 : h13 (g 10 2) = some (.inr (0, [.ref (g 11 2), .int (nI nt), .int n10])) := by rw [e14]; exact pu_f n12 fl1
          have f20 : hz9 (g 10 2) = some (.inr (0, [.ref (g 11 2), .int (nI nt), .int n10])) := ix.1 _ _ f19 (nin1 (pu_t f19 f16 (show (0 : Nat) ≠ 5 by decide)))
          have f21 : h13 (g 11 2) = some (.inl (cs 5, 10, .inr (.inr (.inr (.inr lq))))) := by rw [e14]; exact pu_f n12 fl2
          have f22 : hz9 (g 11 2) = some (.inl (cs 5, 10, .inr (.inr (.inr (.inr lq))))) := ix.1 _ _ f21 (nin1 (pu_t f21 f16 (show (310 : Nat) ≠ 5 by decide)))
          refine pw_ci (pr_V F (c_AL_addg_5 l D cs A hz9 _ _ _ nt _ _ lq (by omega) f20 f22 j0) X_D_62 rfl rfl ⟨by decide, by decide⟩ hP hA hK hS f20 rfl rfl rfl hl.1 rfl (Nat.le_of_ble_eq_true rfl) d_D_task_81 ⟨by decide, by decide⟩) hS (fun r9 hy9 H locs hqa hP hS => ?_)
          obtain ⟨hr9, a1, a2, ax⟩ := hqa
          have hE0 : True := trivial
          have hxa : ext h hy9 [(g 10 2), (g 11 2)] := (hx.more (fun z9 h9 => nomatch h9)).trans ax (fun z9 h9 => Or.inl h9)
          have frA := ax.1 _ _ j2 (nin2 (pu_t j2 f20 (show (4 : Nat) ≠ 0 by decide)) (pu_t j2 f22 (show (4 : Nat) ≠ 310 by decide)))
          have frB : ∀ k, 1 ≤ k → k < 6 → hy9 (fr k) = some (.inr (4, [.int 0, .int 0, .ref (g 0 (bRow S f L)), .int 0, .int 0])) := fun k k1 k2 => ax.1 _ _ (j3 k k1 k2) (nin2 (pu_t (j3 k k1 k2) f20 (show (4 : Nat) ≠ 0 by decide)) (pu_t (j3 k k1 k2) f22 (show (4 : Nat) ≠ 310 by decide)))
          have f23 : hz9 x = some (.inr (6, [.ref (g 10 0), .ref (g 10 1), .ref (g 10 2), .ref (g 3 6), .int (S 16 4)])) := ix.1 _ _ f17 (nin1 (pu_t f17 f16 (show (6 : Nat) ≠ 5 by decide)))
          have f24 : hy9 x = some (.inr (6, [.ref (g 10 0), .ref (g 10 1), .ref (g 10 2), .ref (g 3 6), .int (S 16 4)])) := ax.1 _ _ f23 (nin2 (pu_t f23 f20 (show (6 : Nat) ≠ 0 by decide)) (pu_t f23 f22 (show (6 : Nat) ≠ 310 by decide)))
          have f25 : hy9 fa = some (.inl (cs 4, 6, .inr (.inr (.inr (.inr qf))))) := ax.1 _ _ j1 (nin2 (pu_t j1 f20 (show (306 : Nat) ≠ 0 by decide)) (pu_t j1 f22 (show (306 : Nat) ≠ 310 by decide)))
          have f26 : hy9 q11 = some (.inr (5, [.ref fa, .int 1, .int (nI L), .int 0, .int 0, .int 0, .int 0])) := ax.1 _ _ j0 (nin2 (pu_t j0 f20 (show (5 : Nat) ≠ 0 by decide)) (pu_t j0 f22 (show (5 : Nat) ≠ 310 by decide)))
          refine lv_pop F.1 F.2.1 d_D_task_84 rfl ?_
          refine lv_aload_n F.1 F.2.1 d_D_task_85 rfl (lv_at hl 1 rfl) ?_
          refine pw_get F I_D hK.1 hP f24 rfl 2 (by decide) L_D_19 (fun _ z => z) rfl d_D_task_86 ?_
          refine pw_ciE (pr_V F (c_AL_size l D cs A hy9 _ _ _ _ a2) X_D_44 rfl rfl ⟨by decide, by decide⟩ hP hA hK hS a2 rfl rfl rfl hl.1 rfl (Nat.le_of_ble_eq_true rfl) d_D_task_89 ⟨by decide, by decide⟩) hS (fun H locs hP hS => ?_)
          refine lv_iconst (v := 1) F.1 F.2.1 d_D_task_92 (by decide) ?_
          refine lv_isub F.1 F.2.1 d_D_task_93 ?_
          exact vx_ret (pw_iret F hr hlk hP hA hK hS (by decide) (by decide) d_D_task_94 ((by have hidl := hw.2.2 nt (Nat.le_refl _) hlt4; have hsN := Sim.newTask (S := sp S 16 0 0) (T := stTask S (nI f)) (f := f) (L := L) (r := bRow S f L) ((hs.num 0).dpm (dp' := dpS (sp S 16 0 0)) (fun u _ => by show tn (sp S 16 0 0 11 u) ≤ _; rw [sp_k (by decide), hdpS]; exact Nat.le_refl _)) g15 g18 hfrN hfi (Or.inl ⟨hgr, rfl⟩) f26 f25 hqf frA frB a1 (fun i hi => by rw [va_up_ne _ _ (by omega)]; exact hlq i hi) (va_up_self _ _ _) (by rw [← nI_1]; exact a2) hxa (fun k i hl h1 h2 => by have hl : live S nf pT nt gr k i := (by unfold live at hl ⊢; rw [sp_off (show (0 : Nat) ≠ 16 by decide)] at hl; exact hl); exact nin2 (hs.ne hl (show live S nf pT nt gr 10 2 from (by show 2 < 3; decide)) h1) (hs.ne hl (show live S nf pT nt gr 11 2 from ⟨by decide, hgr⟩) h2)) (nin2 (Ne.symm (hs.2.2.2 10 2 (by show 2 < 3; decide))) (Ne.symm (hs.2.2.2 11 2 ⟨by decide, hgr⟩))) (fun κ j hj => by rw [hst9]; unfold sp; rw [if_neg (by omega), if_neg (by omega), if_neg (by omega), if_neg (by omega), if_neg (by omega), if_neg (by omega), if_neg (by omega), if_neg (by omega)]) (by rw [hst9, sp_s]) (by rw [hst9, sp_k (by decide), sp_k (by decide), sp_k (by decide), sp_k (by decide), sp_k (by decide), sp_k (by decide), sp_s]) (by rw [hst9, sp_k (by decide), sp_k (by decide), sp_k (by decide), sp_k (by decide), sp_k (by decide), sp_k (by decide), sp_k (by decide), sp_k (by decide), sp_k (by decide)]; exact hidl.2.1) (by rw [hst9, sp_k (by decide), sp_k (by decide), sp_k (by decide), sp_k (by decide), sp_k (by decide), sp_k (by decide), sp_k (by decide), sp_k (by decide), sp_k (by decide)]; exact hidl.2.2.1) (by rw [hst9, sp_k (by decide), sp_k (by decide), sp_k (by decide), sp_k (by decide), sp_k (by decide), sp_k (by decide), sp_k (by decide), sp_k (by decide), sp_k (by decide)]; exact hidl.2.2.2.1) (by rw [hst9, sp_k (by decide), sp_k (by decide), sp_k (by decide), sp_k (by decide), sp_k (by decide), sp_k (by decide), sp_k (by decide), sp_k (by decide), sp_k (by decide)]; exact hidl.2.2.2.2) (by rw [hst9, sp_k (by decide), sp_k (by decide), sp_k (by decide), sp_k (by decide), sp_s]) hbk.1 hbk.2.2.2 (by rw [hst9, sp_k (by decide), sp_k (by decide), sp_k (by decide), sp_s]) (by rw [hst9, sp_k (by decide), sp_k (by decide), sp_s]) (by rw [hst9, sp_k (by decide), sp_s]); have hw9 : WF (stTask S (nI f)) nf pT (nt + 1) noX := (WFe.task ⟨nf, pT, nt, hw⟩ (nI f)).same (by rw [hst9, sp_k (by decide), sp_k (by decide), sp_k (by decide), sp_k (by decide), sp_k (by decide), sp_j (by decide), sp_k (by decide), sp_k (by decide), sp_j (by decide)]; exact hn1) hnf8 (by rw [hst9, sp_k (by decide), sp_k (by decide), sp_k (by decide), sp_k (by decide), sp_k (by decide), sp_j (by decide), sp_k (by decide), sp_k (by decide), sp_j (by decide)]; exact hn3) hp5 (by rw [hst9, sp_k (by decide), sp_k (by decide), sp_k (by decide), sp_k (by decide), sp_k (by decide), sp_s]) (by omega); exact ⟨hth, SimE.mk hsN (fun u _ => Nat.le_refl _) hw9, by unfold rTask; rw [if_pos hth, hn5]; exact nI_sp1⟩)))
        · skip
          obtain ⟨n27, fl1, hl0⟩ := hs.ln (show 2 < 3 by decide) hgr
          replace hl0 : nt = 0 := hl0
          refine lv_aload_n F.1 F.2.1 d_D_task_62 rfl (lv_at hl 1 rfl) ?_
          refine pw_get F I_D hK.1 hP f1 rfl 2 (by decide) L_D_19 (fun _ z => z) rfl d_D_task_63 ?_
          refine pw_new (ci := 5) (fs := [.null, .int 0, .int 0, .int 0, .int 0, .int 0, .int 0]) F I_T ty_T k_T C_D_135 N_T Z_T hK.1 hP hS hA rfl (fun j hj => by rcases (show j = 0 ∨ j = 1 ∨ j = 2 ∨ j = 3 ∨ j = 4 ∨ j = 5 ∨ j = 6 by omega) with rfl | rfl | rfl | rfl | rfl | rfl | rfl <;> rfl) (by decide) (by decide) d_D_task_66 (fun q28 H n29 hP hS => ?_)
          replace hP : pw D vwCl A (pu h q28 (.inr (5, [.null, .int 0, .int 0, .int 0, .int 0, .int 0, .int 0]))) H := hP
          have g32 : h q28 = none := hx.2 _ n29
          obtain ⟨h30, e31⟩ : ∃ z9 : pw_H, z9 = pu h q28 (.inr (5, [.null, .int 0, .int 0, .int 0, .int 0, .int 0, .int 0])) := ⟨_, rfl⟩
          rw [← e31] at hP
          have hx : ext h h30 [] := by rw [e31]; exact hx.pu (Or.inr g32)
          have f33 : h30 q28 = some (.inr (5, [.null, .int 0, .int 0, .int 0, .int 0, .int 0, .int 0])) := by rw [e31]; exact pu_s
          refine lv_dup F.1 F.2.1 d_D_task_69 rfl ?_
          refine lv_iload_n F.1 F.2.1 d_D_task_70 rfl (lv_at hl 2 rfl) ?_
          refine lv_iload_n F.1 F.2.1 d_D_task_71 rfl (lv_at hl 0 rfl) ?_
          refine lv_aload_n F.1 F.2.1 d_D_task_72 rfl (lv_at hl 1 rfl) ?_
          refine lv_iload_n F.1 F.2.1 d_D_task_73 rfl (lv_at hl 2 rfl) ?_
          refine lv_iload_n F.1 F.2.1 d_D_task_74 rfl (lv_at hl 0 rfl) ?_
          have hs1 : Sim cs h30 x g gr dp S nf pT nt := hs.new0 hx
          have f34 : h30 x = some (.inr (6, [.ref (g 10 0), .ref (g 10 1), .ref (g 10 2), .ref (g 3 6), .int (S 16 4)])) := by rw [e31]; exact pu_f n29 f1
          refine pw_crE (pr_V F (c_D_bodyAt l D cs A h30 x g gr dp S nf pT nt hs1 hw.1 f L hltf hLp) X_D_137 rfl rfl ⟨by decide, by decide⟩ hP hA hK hS f34 rfl rfl rfl hl.1 rfl (Nat.le_of_ble_eq_true rfl) d_D_task_75 ⟨by decide, by decide⟩) hS (fun H locs hP hS => ?_)
          refine pw_cv (pr_I F (c_T_init l D cs A h30 _ (g 0 (bRow S f L)) (nI f) (nI L) f33) X_D_141 rfl rfl ⟨by decide, by decide⟩ hP hA hK hS rfl hl.1 rfl (Nat.le_of_ble_eq_true rfl) d_D_task_78 ⟨by decide, by decide⟩) hS (fun hz9 H locs hq9 hP hS => ?_)
          obtain ⟨fa, fr, hfa0, hfr0, hfi, qf, j1, hqf, j2, j3, j0, ix⟩ := hq9
          have hfrN : ∀ k, k < 6 → h (fr k) = none := fun k hk => hx.2 _ (hfr0 k hk)
          have g35 : h fa = none := hx.2 _ hfa0
          have hx : ext h hz9 [] := hx.trans ix (fun y hy => by
            simp only [List.mem_cons, List.not_mem_nil, or_false] at hy
            rcases hy with rfl
            · exact Or.inr g32)
          have f36 : h30 (g 10 2) = some (.inr (0, [.ref (cs 9), .int 0, .int n27])) := by rw [e31]; exact pu_f n29 fl1
          have f37 : hz9 (g 10 2) = some (.inr (0, [.ref (cs 9), .int 0, .int n27])) := ix.1 _ _ f36 (nin1 (pu_t f36 f33 (show (0 : Nat) ≠ 5 by decide)))
          refine pw_ci (pr_V F (c_AL_addf_5 l D cs A hz9 _ _ _ _ f37 j0) X_D_62 rfl rfl ⟨by decide, by decide⟩ hP hA hK hS f37 rfl rfl rfl hl.1 rfl (Nat.le_of_ble_eq_true rfl) d_D_task_81 ⟨by decide, by decide⟩) hS (fun r9 hy9 H locs hqa hP hS => ?_)
          obtain ⟨hr9, E9, aE, a1, a2, ax⟩ := hqa
          have hE0 : h E9 = none := hx.2 _ aE
          have hxa : ext h hy9 [(g 10 2)] := (hx.more (fun z9 h9 => nomatch h9)).trans ax (fun z9 h9 => Or.inl h9)
          have frA := ax.1 _ _ j2 (nin1 (pu_t j2 f37 (show (4 : Nat) ≠ 0 by decide)))
          have frB : ∀ k, 1 ≤ k → k < 6 → hy9 (fr k) = some (.inr (4, [.int 0, .int 0, .ref (g 0 (bRow S f L)), .int 0, .int 0])) := fun k k1 k2 => ax.1 _ _ (j3 k k1 k2) (nin1 (pu_t (j3 k k1 k2) f37 (show (4 : Nat) ≠ 0 by decide)))
          have f38 : hz9 x = some (.inr (6, [.ref (g 10 0), .ref (g 10 1), .ref (g 10 2), .ref (g 3 6), .int (S 16 4)])) := ix.1 _ _ f34 (nin1 (pu_t f34 f33 (show (6 : Nat) ≠ 5 by decide)))
          have f39 : hy9 x = some (.inr (6, [.ref (g 10 0), .ref (g 10 1), .ref (g 10 2), .ref (g 3 6), .int (S 16 4)])) := ax.1 _ _ f38 (nin1 (pu_t f38 f37 (show (6 : Nat) ≠ 0 by decide)))
          have f40 : hy9 fa = some (.inl (cs 4, 6, .inr (.inr (.inr (.inr qf))))) := ax.1 _ _ j1 (nin1 (pu_t j1 f37 (show (306 : Nat) ≠ 0 by decide)))
          have f41 : hy9 q28 = some (.inr (5, [.ref fa, .int 1, .int (nI L), .int 0, .int 0, .int 0, .int 0])) := ax.1 _ _ j0 (nin1 (pu_t j0 f37 (show (5 : Nat) ≠ 0 by decide)))
          refine lv_pop F.1 F.2.1 d_D_task_84 rfl ?_
          refine lv_aload_n F.1 F.2.1 d_D_task_85 rfl (lv_at hl 1 rfl) ?_
          refine pw_get F I_D hK.1 hP f39 rfl 2 (by decide) L_D_19 (fun _ z => z) rfl d_D_task_86 ?_
          refine pw_ciE (pr_V F (c_AL_size l D cs A hy9 _ _ _ _ a2) X_D_44 rfl rfl ⟨by decide, by decide⟩ hP hA hK hS a2 rfl rfl rfl hl.1 rfl (Nat.le_of_ble_eq_true rfl) d_D_task_89 ⟨by decide, by decide⟩) hS (fun H locs hP hS => ?_)
          refine lv_iconst (v := 1) F.1 F.2.1 d_D_task_92 (by decide) ?_
          refine lv_isub F.1 F.2.1 d_D_task_93 ?_
          exact vx_ret (pw_iret F hr hlk hP hA hK hS (by decide) (by decide) d_D_task_94 ((by have hidl := hw.2.2 nt (Nat.le_refl _) hlt4; have hsN := Sim.newTask (S := sp S 16 0 0) (T := stTask S (nI f)) (f := f) (L := L) (r := bRow S f L) ((hs.num 0).dpm (dp' := dpS (sp S 16 0 0)) (fun u _ => by show tn (sp S 16 0 0 11 u) ≤ _; rw [sp_k (by decide), hdpS]; exact Nat.le_refl _)) g32 g35 hfrN hfi (Or.inr ⟨hgr, hE0⟩) f41 f40 hqf frA frB a1 (fun i hi => absurd hi (by omega)) (by rw [hl0]; exact va_up_self _ _ _) (by rw [hl0]; exact a2) hxa (fun k i hl h1 h2 => by have hl : live S nf pT nt gr k i := (by unfold live at hl ⊢; rw [sp_off (show (0 : Nat) ≠ 16 by decide)] at hl; exact hl); exact nin1 (hs.ne hl (show live S nf pT nt gr 10 2 from (by show 2 < 3; decide)) h1)) (nin1 (Ne.symm (hs.2.2.2 10 2 (by show 2 < 3; decide)))) (fun κ j hj => by rw [hst9]; unfold sp; rw [if_neg (by omega), if_neg (by omega), if_neg (by omega), if_neg (by omega), if_neg (by omega), if_neg (by omega), if_neg (by omega), if_neg (by omega)]) (by rw [hst9, sp_s]) (by rw [hst9, sp_k (by decide), sp_k (by decide), sp_k (by decide), sp_k (by decide), sp_k (by decide), sp_k (by decide), sp_s]) (by rw [hst9, sp_k (by decide), sp_k (by decide), sp_k (by decide), sp_k (by decide), sp_k (by decide), sp_k (by decide), sp_k (by decide), sp_k (by decide), sp_k (by decide)]; exact hidl.2.1) (by rw [hst9, sp_k (by decide), sp_k (by decide), sp_k (by decide), sp_k (by decide), sp_k (by decide), sp_k (by decide), sp_k (by decide), sp_k (by decide), sp_k (by decide)]; exact hidl.2.2.1) (by rw [hst9, sp_k (by decide), sp_k (by decide), sp_k (by decide), sp_k (by decide), sp_k (by decide), sp_k (by decide), sp_k (by decide), sp_k (by decide), sp_k (by decide)]; exact hidl.2.2.2.1) (by rw [hst9, sp_k (by decide), sp_k (by decide), sp_k (by decide), sp_k (by decide), sp_k (by decide), sp_k (by decide), sp_k (by decide), sp_k (by decide), sp_k (by decide)]; exact hidl.2.2.2.2) (by rw [hst9, sp_k (by decide), sp_k (by decide), sp_k (by decide), sp_k (by decide), sp_s]) hbk.1 hbk.2.2.2 (by rw [hst9, sp_k (by decide), sp_k (by decide), sp_k (by decide), sp_s]) (by rw [hst9, sp_k (by decide), sp_k (by decide), sp_s]) (by rw [hst9, sp_k (by decide), sp_s]); have hw9 : WF (stTask S (nI f)) nf pT (nt + 1) noX := (WFe.task ⟨nf, pT, nt, hw⟩ (nI f)).same (by rw [hst9, sp_k (by decide), sp_k (by decide), sp_k (by decide), sp_k (by decide), sp_k (by decide), sp_j (by decide), sp_k (by decide), sp_k (by decide), sp_j (by decide)]; exact hn1) hnf8 (by rw [hst9, sp_k (by decide), sp_k (by decide), sp_k (by decide), sp_k (by decide), sp_k (by decide), sp_j (by decide), sp_k (by decide), sp_k (by decide), sp_j (by decide)]; exact hn3) hp5 (by rw [hst9, sp_k (by decide), sp_k (by decide), sp_k (by decide), sp_k (by decide), sp_k (by decide), sp_s]) (by omega); exact ⟨hth, SimE.mk hsN (fun u _ => Nat.le_refl _) hw9, by unfold rTask; rw [if_pos hth, hn5]; exact (by rw [hl0]; decide)⟩)))
      · skip
        refine lv_aload_n F.1 F.2.1 d_D_task_47 rfl (lv_at hl 0 rfl) ?_
        refine pw_get F I_D hK.1 hP f1 rfl 1 (by decide) L_D_16 (fun _ z => z) rfl d_D_task_48 ?_
        obtain ⟨q42, n43, f44, _, _⟩ := hs.ls (show 1 < 3 by decide)
        have f45 : h (g 10 1) = some (.inr (0, [.ref q42, .int (nI pT), .int n43])) := f44
        refine pw_ciE (pr_V F (c_AL_size l D cs A h _ _ _ _ f45) X_D_44 rfl rfl ⟨by decide, by decide⟩ hP hA hK hS f45 rfl rfl rfl hl.1 rfl (Nat.le_of_ble_eq_true rfl) d_D_task_51 ⟨by decide, by decide⟩) hS (fun H locs hP hS => ?_)
        refine lv_goto (tgt := 61) F.1 F.2.1 d_D_task_54 (by decide) ?_
        refine W.eq (g2 := F0 m 61 ls [.int (nI L)]) (by rw [show nI pT = nI L from by rw [hLa c9]]) ?_
        refine lv_istore_n F.1 F.2.1 d_D_task_61 rfl hl (by decide) rfl (fun ls hl => ?_)
        replace hl : lv_has ls 3 [(2, .int (nI L)), (0, .ref x), (1, .int (nI f))] := hl
        by_cases hgr : gr 2
        · skip
          obtain ⟨n46, lq, fl1, fl2, hlq⟩ := hs.lg (show 2 < 3 by decide) hgr
          replace fl1 : h (g 10 2) = some (.inr (0, [.ref (g 11 2), .int (nI nt), .int n46])) := fl1
          refine lv_aload_n F.1 F.2.1 d_D_task_62 rfl (lv_at hl 1 rfl) ?_
          refine pw_get F I_D hK.1 hP f1 rfl 2 (by decide) L_D_19 (fun _ z => z) rfl d_D_task_63 ?_
          refine pw_new (ci := 5) (fs := [.null, .int 0, .int 0, .int 0, .int 0, .int 0, .int 0]) F I_T ty_T k_T C_D_135 N_T Z_T hK.1 hP hS hA rfl (fun j hj => by rcases (show j = 0 ∨ j = 1 ∨ j = 2 ∨ j = 3 ∨ j = 4 ∨ j = 5 ∨ j = 6 by omega) with rfl | rfl | rfl | rfl | rfl | rfl | rfl <;> rfl) (by decide) (by decide) d_D_task_66 (fun q47 H n48 hP hS => ?_)
          replace hP : pw D vwCl A (pu h q47 (.inr (5, [.null, .int 0, .int 0, .int 0, .int 0, .int 0, .int 0]))) H := hP
          have g51 : h q47 = none := hx.2 _ n48
          obtain ⟨h49, e50⟩ : ∃ z9 : pw_H, z9 = pu h q47 (.inr (5, [.null, .int 0, .int 0, .int 0, .int 0, .int 0, .int 0])) := ⟨_, rfl⟩
          rw [← e50] at hP
          have hx : ext h h49 [] := by rw [e50]; exact hx.pu (Or.inr g51)
          have f52 : h49 q47 = some (.inr (5, [.null, .int 0, .int 0, .int 0, .int 0, .int 0, .int 0])) := by rw [e50]; exact pu_s
          refine lv_dup F.1 F.2.1 d_D_task_69 rfl ?_
          refine lv_iload_n F.1 F.2.1 d_D_task_70 rfl (lv_at hl 2 rfl) ?_
          refine lv_iload_n F.1 F.2.1 d_D_task_71 rfl (lv_at hl 0 rfl) ?_
          refine lv_aload_n F.1 F.2.1 d_D_task_72 rfl (lv_at hl 1 rfl) ?_
          refine lv_iload_n F.1 F.2.1 d_D_task_73 rfl (lv_at hl 2 rfl) ?_
          refine lv_iload_n F.1 F.2.1 d_D_task_74 rfl (lv_at hl 0 rfl) ?_
          have hs1 : Sim cs h49 x g gr dp S nf pT nt := hs.new0 hx
          have f53 : h49 x = some (.inr (6, [.ref (g 10 0), .ref (g 10 1), .ref (g 10 2), .ref (g 3 6), .int (S 16 4)])) := by rw [e50]; exact pu_f n48 f1
          refine pw_crE (pr_V F (c_D_bodyAt l D cs A h49 x g gr dp S nf pT nt hs1 hw.1 f L hltf hLp) X_D_137 rfl rfl ⟨by decide, by decide⟩ hP hA hK hS f53 rfl rfl rfl hl.1 rfl (Nat.le_of_ble_eq_true rfl) d_D_task_75 ⟨by decide, by decide⟩) hS (fun H locs hP hS => ?_)
          refine pw_cv (pr_I F (c_T_init l D cs A h49 _ (g 0 (bRow S f L)) (nI f) (nI L) f52) X_D_141 rfl rfl ⟨by decide, by decide⟩ hP hA hK hS rfl hl.1 rfl (Nat.le_of_ble_eq_true rfl) d_D_task_78 ⟨by decide, by decide⟩) hS (fun hz9 H locs hq9 hP hS => ?_)
          obtain ⟨fa, fr, hfa0, hfr0, hfi, qf, j1, hqf, j2, j3, j0, ix⟩ := hq9
          have hfrN : ∀ k, k < 6 → h (fr k) = none := fun k hk => hx.2 _ (hfr0 k hk)
          have g54 : h fa = none := hx.2 _ hfa0
          have hx : ext h hz9 [] := hx.trans ix (fun y hy => by
            simp only [List.mem_cons, List.not_mem_nil, or_false] at hy
            rcases hy with rfl
            · exact Or.inr g51)
          have f55 : h49 (g 10 2) = some (.inr (0, [.ref (g 11 2), .int (nI nt), .int n46])) := by rw [e50]; exact pu_f n48 fl1
          have f56 : hz9 (g 10 2) = some (.inr (0, [.ref (g 11 2), .int (nI nt), .int n46])) := ix.1 _ _ f55 (nin1 (pu_t f55 f52 (show (0 : Nat) ≠ 5 by decide)))
          have f57 : h49 (g 11 2) = some (.inl (cs 5, 10, .inr (.inr (.inr (.inr lq))))) := by rw [e50]; exact pu_f n48 fl2
          have f58 : hz9 (g 11 2) = some (.inl (cs 5, 10, .inr (.inr (.inr (.inr lq))))) := ix.1 _ _ f57 (nin1 (pu_t f57 f52 (show (310 : Nat) ≠ 5 by decide)))
          refine pw_ci (pr_V F (c_AL_addg_5 l D cs A hz9 _ _ _ nt _ _ lq (by omega) f56 f58 j0) X_D_62 rfl rfl ⟨by decide, by decide⟩ hP hA hK hS f56 rfl rfl rfl hl.1 rfl (Nat.le_of_ble_eq_true rfl) d_D_task_81 ⟨by decide, by decide⟩) hS (fun r9 hy9 H locs hqa hP hS => ?_)
          obtain ⟨hr9, a1, a2, ax⟩ := hqa
          have hE0 : True := trivial
          have hxa : ext h hy9 [(g 10 2), (g 11 2)] := (hx.more (fun z9 h9 => nomatch h9)).trans ax (fun z9 h9 => Or.inl h9)
          have frA := ax.1 _ _ j2 (nin2 (pu_t j2 f56 (show (4 : Nat) ≠ 0 by decide)) (pu_t j2 f58 (show (4 : Nat) ≠ 310 by decide)))
          have frB : ∀ k, 1 ≤ k → k < 6 → hy9 (fr k) = some (.inr (4, [.int 0, .int 0, .ref (g 0 (bRow S f L)), .int 0, .int 0])) := fun k k1 k2 => ax.1 _ _ (j3 k k1 k2) (nin2 (pu_t (j3 k k1 k2) f56 (show (4 : Nat) ≠ 0 by decide)) (pu_t (j3 k k1 k2) f58 (show (4 : Nat) ≠ 310 by decide)))
          have f59 : hz9 x = some (.inr (6, [.ref (g 10 0), .ref (g 10 1), .ref (g 10 2), .ref (g 3 6), .int (S 16 4)])) := ix.1 _ _ f53 (nin1 (pu_t f53 f52 (show (6 : Nat) ≠ 5 by decide)))
          have f60 : hy9 x = some (.inr (6, [.ref (g 10 0), .ref (g 10 1), .ref (g 10 2), .ref (g 3 6), .int (S 16 4)])) := ax.1 _ _ f59 (nin2 (pu_t f59 f56 (show (6 : Nat) ≠ 0 by decide)) (pu_t f59 f58 (show (6 : Nat) ≠ 310 by decide)))
          have f61 : h49 (g 10 1) = some (.inr (0, [.ref q42, .int (nI pT), .int n43])) := by rw [e50]; exact pu_f n48 f45
          have f62 : hz9 (g 10 1) = some (.inr (0, [.ref q42, .int (nI pT), .int n43])) := ix.1 _ _ f61 (nin1 (pu_t f61 f52 (show (0 : Nat) ≠ 5 by decide)))
          have f63 : hy9 fa = some (.inl (cs 4, 6, .inr (.inr (.inr (.inr qf))))) := ax.1 _ _ j1 (nin2 (pu_t j1 f56 (show (306 : Nat) ≠ 0 by decide)) (pu_t j1 f58 (show (306 : Nat) ≠ 310 by decide)))
          have f64 : hy9 q47 = some (.inr (5, [.ref fa, .int 1, .int (nI L), .int 0, .int 0, .int 0, .int 0])) := ax.1 _ _ j0 (nin2 (pu_t j0 f56 (show (5 : Nat) ≠ 0 by decide)) (pu_t j0 f58 (show (5 : Nat) ≠ 310 by decide)))
          refine lv_pop F.1 F.2.1 d_D_task_84 rfl ?_
          refine lv_aload_n F.1 F.2.1 d_D_task_85 rfl (lv_at hl 1 rfl) ?_
          refine pw_get F I_D hK.1 hP f60 rfl 2 (by decide) L_D_19 (fun _ z => z) rfl d_D_task_86 ?_
          refine pw_ciE (pr_V F (c_AL_size l D cs A hy9 _ _ _ _ a2) X_D_44 rfl rfl ⟨by decide, by decide⟩ hP hA hK hS a2 rfl rfl rfl hl.1 rfl (Nat.le_of_ble_eq_true rfl) d_D_task_89 ⟨by decide, by decide⟩) hS (fun H locs hP hS => ?_)
          refine lv_iconst (v := 1) F.1 F.2.1 d_D_task_92 (by decide) ?_
          refine lv_isub F.1 F.2.1 d_D_task_93 ?_
          exact vx_ret (pw_iret F hr hlk hP hA hK hS (by decide) (by decide) d_D_task_94 ((by have hidl := hw.2.2 nt (Nat.le_refl _) hlt4; have hsN := Sim.newTask (S := sp S 16 0 0) (T := stTask S (nI f)) (f := f) (L := L) (r := bRow S f L) ((hs.num 0).dpm (dp' := dpS (sp S 16 0 0)) (fun u _ => by show tn (sp S 16 0 0 11 u) ≤ _; rw [sp_k (by decide), hdpS]; exact Nat.le_refl _)) g51 g54 hfrN hfi (Or.inl ⟨hgr, rfl⟩) f64 f63 hqf frA frB a1 (fun i hi => by rw [va_up_ne _ _ (by omega)]; exact hlq i hi) (va_up_self _ _ _) (by rw [← nI_1]; exact a2) hxa (fun k i hl h1 h2 => by have hl : live S nf pT nt gr k i := (by unfold live at hl ⊢; rw [sp_off (show (0 : Nat) ≠ 16 by decide)] at hl; exact hl); exact nin2 (hs.ne hl (show live S nf pT nt gr 10 2 from (by show 2 < 3; decide)) h1) (hs.ne hl (show live S nf pT nt gr 11 2 from ⟨by decide, hgr⟩) h2)) (nin2 (Ne.symm (hs.2.2.2 10 2 (by show 2 < 3; decide))) (Ne.symm (hs.2.2.2 11 2 ⟨by decide, hgr⟩))) (fun κ j hj => by rw [hst9]; unfold sp; rw [if_neg (by omega), if_neg (by omega), if_neg (by omega), if_neg (by omega), if_neg (by omega), if_neg (by omega), if_neg (by omega), if_neg (by omega)]) (by rw [hst9, sp_s]) (by rw [hst9, sp_k (by decide), sp_k (by decide), sp_k (by decide), sp_k (by decide), sp_k (by decide), sp_k (by decide), sp_s]) (by rw [hst9, sp_k (by decide), sp_k (by decide), sp_k (by decide), sp_k (by decide), sp_k (by decide), sp_k (by decide), sp_k (by decide), sp_k (by decide), sp_k (by decide)]; exact hidl.2.1) (by rw [hst9, sp_k (by decide), sp_k (by decide), sp_k (by decide), sp_k (by decide), sp_k (by decide), sp_k (by decide), sp_k (by decide), sp_k (by decide), sp_k (by decide)]; exact hidl.2.2.1) (by rw [hst9, sp_k (by decide), sp_k (by decide), sp_k (by decide), sp_k (by decide), sp_k (by decide), sp_k (by decide), sp_k (by decide), sp_k (by decide), sp_k (by decide)]; exact hidl.2.2.2.1) (by rw [hst9, sp_k (by decide), sp_k (by decide), sp_k (by decide), sp_k (by decide), sp_k (by decide), sp_k (by decide), sp_k (by decide), sp_k (by decide), sp_k (by decide)]; exact hidl.2.2.2.2) (by rw [hst9, sp_k (by decide), sp_k (by decide), sp_k (by decide), sp_k (by decide), sp_s]) hbk.1 hbk.2.2.2 (by rw [hst9, sp_k (by decide), sp_k (by decide), sp_k (by decide), sp_s]) (by rw [hst9, sp_k (by decide), sp_k (by decide), sp_s]) (by rw [hst9, sp_k (by decide), sp_s]); have hw9 : WF (stTask S (nI f)) nf pT (nt + 1) noX := (WFe.task ⟨nf, pT, nt, hw⟩ (nI f)).same (by rw [hst9, sp_k (by decide), sp_k (by decide), sp_k (by decide), sp_k (by decide), sp_k (by decide), sp_j (by decide), sp_k (by decide), sp_k (by decide), sp_j (by decide)]; exact hn1) hnf8 (by rw [hst9, sp_k (by decide), sp_k (by decide), sp_k (by decide), sp_k (by decide), sp_k (by decide), sp_j (by decide), sp_k (by decide), sp_k (by decide), sp_j (by decide)]; exact hn3) hp5 (by rw [hst9, sp_k (by decide), sp_k (by decide), sp_k (by decide), sp_k (by decide), sp_k (by decide), sp_s]) (by omega); exact ⟨hth, SimE.mk hsN (fun u _ => Nat.le_refl _) hw9, by unfold rTask; rw [if_pos hth, hn5]; exact nI_sp1⟩)))
        · skip
          obtain ⟨n65, fl1, hl0⟩ := hs.ln (show 2 < 3 by decide) hgr
          replace hl0 : nt = 0 := hl0
          refine lv_aload_n F.1 F.2.1 d_D_task_62 rfl (lv_at hl 1 rfl) ?_
          refine pw_get F I_D hK.1 hP f1 rfl 2 (by decide) L_D_19 (fun _ z => z) rfl d_D_task_63 ?_
          refine pw_new (ci := 5) (fs := [.null, .int 0, .int 0, .int 0, .int 0, .int 0, .int 0]) F I_T ty_T k_T C_D_135 N_T Z_T hK.1 hP hS hA rfl (fun j hj => by rcases (show j = 0 ∨ j = 1 ∨ j = 2 ∨ j = 3 ∨ j = 4 ∨ j = 5 ∨ j = 6 by omega) with rfl | rfl | rfl | rfl | rfl | rfl | rfl <;> rfl) (by decide) (by decide) d_D_task_66 (fun q66 H n67 hP hS => ?_)
          replace hP : pw D vwCl A (pu h q66 (.inr (5, [.null, .int 0, .int 0, .int 0, .int 0, .int 0, .int 0]))) H := hP
          have g70 : h q66 = none := hx.2 _ n67
          obtain ⟨h68, e69⟩ : ∃ z9 : pw_H, z9 = pu h q66 (.inr (5, [.null, .int 0, .int 0, .int 0, .int 0, .int 0, .int 0])) := ⟨_, rfl⟩
          rw [← e69] at hP
          have hx : ext h h68 [] := by rw [e69]; exact hx.pu (Or.inr g70)
          have f71 : h68 q66 = some (.inr (5, [.null, .int 0, .int 0, .int 0, .int 0, .int 0, .int 0])) := by rw [e69]; exact pu_s
          refine lv_dup F.1 F.2.1 d_D_task_69 rfl ?_
          refine lv_iload_n F.1 F.2.1 d_D_task_70 rfl (lv_at hl 2 rfl) ?_
          refine lv_iload_n F.1 F.2.1 d_D_task_71 rfl (lv_at hl 0 rfl) ?_
          refine lv_aload_n F.1 F.2.1 d_D_task_72 rfl (lv_at hl 1 rfl) ?_
          refine lv_iload_n F.1 F.2.1 d_D_task_73 rfl (lv_at hl 2 rfl) ?_
          refine lv_iload_n F.1 F.2.1 d_D_task_74 rfl (lv_at hl 0 rfl) ?_
          have hs1 : Sim cs h68 x g gr dp S nf pT nt := hs.new0 hx
          have f72 : h68 x = some (.inr (6, [.ref (g 10 0), .ref (g 10 1), .ref (g 10 2), .ref (g 3 6), .int (S 16 4)])) := by rw [e69]; exact pu_f n67 f1
          refine pw_crE (pr_V F (c_D_bodyAt l D cs A h68 x g gr dp S nf pT nt hs1 hw.1 f L hltf hLp) X_D_137 rfl rfl ⟨by decide, by decide⟩ hP hA hK hS f72 rfl rfl rfl hl.1 rfl (Nat.le_of_ble_eq_true rfl) d_D_task_75 ⟨by decide, by decide⟩) hS (fun H locs hP hS => ?_)
          refine pw_cv (pr_I F (c_T_init l D cs A h68 _ (g 0 (bRow S f L)) (nI f) (nI L) f71) X_D_141 rfl rfl ⟨by decide, by decide⟩ hP hA hK hS rfl hl.1 rfl (Nat.le_of_ble_eq_true rfl) d_D_task_78 ⟨by decide, by decide⟩) hS (fun hz9 H locs hq9 hP hS => ?_)
          obtain ⟨fa, fr, hfa0, hfr0, hfi, qf, j1, hqf, j2, j3, j0, ix⟩ := hq9
          have hfrN : ∀ k, k < 6 → h (fr k) = none := fun k hk => hx.2 _ (hfr0 k hk)
          have g73 : h fa = none := hx.2 _ hfa0
          have hx : ext h hz9 [] := hx.trans ix (fun y hy => by
            simp only [List.mem_cons, List.not_mem_nil, or_false] at hy
            rcases hy with rfl
            · exact Or.inr g70)
          have f74 : h68 (g 10 2) = some (.inr (0, [.ref (cs 9), .int 0, .int n65])) := by rw [e69]; exact pu_f n67 fl1
          have f75 : hz9 (g 10 2) = some (.inr (0, [.ref (cs 9), .int 0, .int n65])) := ix.1 _ _ f74 (nin1 (pu_t f74 f71 (show (0 : Nat) ≠ 5 by decide)))
          refine pw_ci (pr_V F (c_AL_addf_5 l D cs A hz9 _ _ _ _ f75 j0) X_D_62 rfl rfl ⟨by decide, by decide⟩ hP hA hK hS f75 rfl rfl rfl hl.1 rfl (Nat.le_of_ble_eq_true rfl) d_D_task_81 ⟨by decide, by decide⟩) hS (fun r9 hy9 H locs hqa hP hS => ?_)
          obtain ⟨hr9, E9, aE, a1, a2, ax⟩ := hqa
          have hE0 : h E9 = none := hx.2 _ aE
          have hxa : ext h hy9 [(g 10 2)] := (hx.more (fun z9 h9 => nomatch h9)).trans ax (fun z9 h9 => Or.inl h9)
          have frA := ax.1 _ _ j2 (nin1 (pu_t j2 f75 (show (4 : Nat) ≠ 0 by decide)))
          have frB : ∀ k, 1 ≤ k → k < 6 → hy9 (fr k) = some (.inr (4, [.int 0, .int 0, .ref (g 0 (bRow S f L)), .int 0, .int 0])) := fun k k1 k2 => ax.1 _ _ (j3 k k1 k2) (nin1 (pu_t (j3 k k1 k2) f75 (show (4 : Nat) ≠ 0 by decide)))
          have f76 : hz9 x = some (.inr (6, [.ref (g 10 0), .ref (g 10 1), .ref (g 10 2), .ref (g 3 6), .int (S 16 4)])) := ix.1 _ _ f72 (nin1 (pu_t f72 f71 (show (6 : Nat) ≠ 5 by decide)))
          have f77 : hy9 x = some (.inr (6, [.ref (g 10 0), .ref (g 10 1), .ref (g 10 2), .ref (g 3 6), .int (S 16 4)])) := ax.1 _ _ f76 (nin1 (pu_t f76 f75 (show (6 : Nat) ≠ 0 by decide)))
          have f78 : h68 (g 10 1) = some (.inr (0, [.ref q42, .int (nI pT), .int n43])) := by rw [e69]; exact pu_f n67 f45
          have f79 : hz9 (g 10 1) = some (.inr (0, [.ref q42, .int (nI pT), .int n43])) := ix.1 _ _ f78 (nin1 (pu_t f78 f71 (show (0 : Nat) ≠ 5 by decide)))
          have f80 : hy9 fa = some (.inl (cs 4, 6, .inr (.inr (.inr (.inr qf))))) := ax.1 _ _ j1 (nin1 (pu_t j1 f75 (show (306 : Nat) ≠ 0 by decide)))
          have f81 : hy9 q66 = some (.inr (5, [.ref fa, .int 1, .int (nI L), .int 0, .int 0, .int 0, .int 0])) := ax.1 _ _ j0 (nin1 (pu_t j0 f75 (show (5 : Nat) ≠ 0 by decide)))
          refine lv_pop F.1 F.2.1 d_D_task_84 rfl ?_
          refine lv_aload_n F.1 F.2.1 d_D_task_85 rfl (lv_at hl 1 rfl) ?_
          refine pw_get F I_D hK.1 hP f77 rfl 2 (by decide) L_D_19 (fun _ z => z) rfl d_D_task_86 ?_
          refine pw_ciE (pr_V F (c_AL_size l D cs A hy9 _ _ _ _ a2) X_D_44 rfl rfl ⟨by decide, by decide⟩ hP hA hK hS a2 rfl rfl rfl hl.1 rfl (Nat.le_of_ble_eq_true rfl) d_D_task_89 ⟨by decide, by decide⟩) hS (fun H locs hP hS => ?_)
          refine lv_iconst (v := 1) F.1 F.2.1 d_D_task_92 (by decide) ?_
          refine lv_isub F.1 F.2.1 d_D_task_93 ?_
          exact vx_ret (pw_iret F hr hlk hP hA hK hS (by decide) (by decide) d_D_task_94 ((by have hidl := hw.2.2 nt (Nat.le_refl _) hlt4; have hsN := Sim.newTask (S := sp S 16 0 0) (T := stTask S (nI f)) (f := f) (L := L) (r := bRow S f L) ((hs.num 0).dpm (dp' := dpS (sp S 16 0 0)) (fun u _ => by show tn (sp S 16 0 0 11 u) ≤ _; rw [sp_k (by decide), hdpS]; exact Nat.le_refl _)) g70 g73 hfrN hfi (Or.inr ⟨hgr, hE0⟩) f81 f80 hqf frA frB a1 (fun i hi => absurd hi (by omega)) (by rw [hl0]; exact va_up_self _ _ _) (by rw [hl0]; exact a2) hxa (fun k i hl h1 h2 => by have hl : live S nf pT nt gr k i := (by unfold live at hl ⊢; rw [sp_off (show (0 : Nat) ≠ 16 by decide)] at hl; exact hl); exact nin1 (hs.ne hl (show live S nf pT nt gr 10 2 from (by show 2 < 3; decide)) h1)) (nin1 (Ne.symm (hs.2.2.2 10 2 (by show 2 < 3; decide)))) (fun κ j hj => by rw [hst9]; unfold sp; rw [if_neg (by omega), if_neg (by omega), if_neg (by omega), if_neg (by omega), if_neg (by omega), if_neg (by omega), if_neg (by omega), if_neg (by omega)]) (by rw [hst9, sp_s]) (by rw [hst9, sp_k (by decide), sp_k (by decide), sp_k (by decide), sp_k (by decide), sp_k (by decide), sp_k (by decide), sp_s]) (by rw [hst9, sp_k (by decide), sp_k (by decide), sp_k (by decide), sp_k (by decide), sp_k (by decide), sp_k (by decide), sp_k (by decide), sp_k (by decide), sp_k (by decide)]; exact hidl.2.1) (by rw [hst9, sp_k (by decide), sp_k (by decide), sp_k (by decide), sp_k (by decide), sp_k (by decide), sp_k (by decide), sp_k (by decide), sp_k (by decide), sp_k (by decide)]; exact hidl.2.2.1) (by rw [hst9, sp_k (by decide), sp_k (by decide), sp_k (by decide), sp_k (by decide), sp_k (by decide), sp_k (by decide), sp_k (by decide), sp_k (by decide), sp_k (by decide)]; exact hidl.2.2.2.1) (by rw [hst9, sp_k (by decide), sp_k (by decide), sp_k (by decide), sp_k (by decide), sp_k (by decide), sp_k (by decide), sp_k (by decide), sp_k (by decide), sp_k (by decide)]; exact hidl.2.2.2.2) (by rw [hst9, sp_k (by decide), sp_k (by decide), sp_k (by decide), sp_k (by decide), sp_s]) hbk.1 hbk.2.2.2 (by rw [hst9, sp_k (by decide), sp_k (by decide), sp_k (by decide), sp_s]) (by rw [hst9, sp_k (by decide), sp_k (by decide), sp_s]) (by rw [hst9, sp_k (by decide), sp_s]); have hw9 : WF (stTask S (nI f)) nf pT (nt + 1) noX := (WFe.task ⟨nf, pT, nt, hw⟩ (nI f)).same (by rw [hst9, sp_k (by decide), sp_k (by decide), sp_k (by decide), sp_k (by decide), sp_k (by decide), sp_j (by decide), sp_k (by decide), sp_k (by decide), sp_j (by decide)]; exact hn1) hnf8 (by rw [hst9, sp_k (by decide), sp_k (by decide), sp_k (by decide), sp_k (by decide), sp_k (by decide), sp_j (by decide), sp_k (by decide), sp_k (by decide), sp_j (by decide)]; exact hn3) hp5 (by rw [hst9, sp_k (by decide), sp_k (by decide), sp_k (by decide), sp_k (by decide), sp_k (by decide), sp_s]) (by omega); exact ⟨hth, SimE.mk hsN (fun u _ => Nat.le_refl _) hw9, by unfold rTask; rw [if_pos hth, hn5]; exact (by rw [hl0]; decide)⟩)))
    · skip
      exact pw_throw (is := 133) (text := "there are 4 tasks") hst xw_2 (by decide) F hlk htb hP hK hS hl d_D_task_29 d_D_task_32 d_D_task_33 d_D_task_35 d_D_task_38 (by decide) (by decide) (by decide) (by decide) (by decide) (by decide) ((by have hth : thTask S (nI f) = 2 := (by unfold thTask; rw [if_neg (fun z9 => z9 (hn1 ▸ b2)), if_pos (by have h9 := (Nat.lt_or_ge nt 4).elim (fun h9 => absurd (nI_lt (a := nt) (b := 4) h9 (by decide)) c8) id; rw [hn5, show nt = 4 by omega]; rfl)]); exact Or.inr ⟨rfl, hth, by unfold stTask; rw [if_neg (by rw [hth]; decide), hth]; exact SimE.num ⟨g, gr, nf, pT, nt, hdpS ▸ hs, hw⟩ _⟩))
  · skip
    refine W.eq (g2 := F0 m 5 ls [.int 0]) (by rw [if_neg b2]) ?_
    refine lv_if_ne (tgt := 18) F.1 F.2.1 d_D_task_5 (by decide) (fun c82 => absurd (by decide) c82) (fun c82 => ?_)
    exact pw_throw (is := 131) (text := "no such function") hst xw_1 (by decide) F hlk htb hP hK hS hl d_D_task_8 d_D_task_11 d_D_task_12 d_D_task_14 d_D_task_17 (by decide) (by decide) (by decide) (by decide) (by decide) (by decide) ((by have hth : thTask S fn = 1 := (by unfold thTask; rw [if_pos (fun z9 => b2 (hn1 ▸ z9))]); exact Or.inl ⟨rfl, hth, by unfold stTask; rw [if_neg (by rw [hth]; decide), hth]; exact SimE.num ⟨g, gr, nf, pT, nt, hdpS ▸ hs, hw⟩ _⟩))
