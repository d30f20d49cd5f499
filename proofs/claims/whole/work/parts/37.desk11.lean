theorem gsh_9 {S : St} {nf p nt : Nat} {dp : Nat → Nat} {k i i' : Nat} (h : gsh S nf p nt dp k i 9 i') : k = 11 ∧ i = 0 ∧ i' < nf := by
  unfold gsh at h
  split at h <;> first | exact h.elim | omega
theorem gsh_11 {S : St} {nf p nt : Nat} {dp : Nat → Nat} {k i i' : Nat} (h : gsh S nf p nt dp k i 11 i') : k = 10 ∧ i' = i := by
  unfold gsh at h
  split at h <;> first | exact h.elim | omega
theorem gsh_6 {S : St} {nf p nt : Nat} {dp : Nat → Nat} {k i k' i' : Nat} (h : gsh S nf p nt dp k i k' i') (hk : k' = 6) : k = 11 ∧ i ≠ 0 ∧ i ≠ 1 ∧ i' < nt := by
  unfold gsh at h
  split at h <;> first | exact h.elim | omega
theorem gsh_7 {S : St} {nf p nt : Nat} {dp : Nat → Nat} {k i i' : Nat} (h : gsh S nf p nt dp k i 7 i') : k = 6 ∧ i' = i := by
  unfold gsh at h
  split at h <;> first | exact h.elim | omega
theorem gsh_8 {S : St} {nf p nt : Nat} {dp : Nat → Nat} {k i i' : Nat} (h : gsh S nf p nt dp k i 8 i') : k = 7 ∧ 6 * i ≤ i' ∧ i' < 6 * i + 6 := by
  unfold gsh at h
  split at h <;> first | exact h.elim | omega
theorem lenL_0 {nf nf' p nt i : Nat} (h : i ≠ 0) : lenL nf' p nt i = lenL nf p nt i := by
  unfold lenL
  split <;> first | rfl | exact absurd rfl h
theorem lenL_2 {nf p nt nt' i : Nat} (h : i < 2) : lenL nf p nt' i = lenL nf p nt i := by
  rcases (show i = 0 ∨ i = 1 by omega) with rfl | rfl <;> rfl
def gF (g : Gh) (n b ka na fo E : Nat) : Gh := gset (gset (gset (gset (gset g 0 n b) 1 n ka) 2 n na) 9 n fo) 11 0 E
theorem gF_n {g : Gh} {n b ka na fo E k i : Nat} (h1 : ¬ (k ≤ 2 ∧ i = n)) (h2 : ¬ (k = 9 ∧ i = n)) (h3 : ¬ (k = 11 ∧ i = 0)) : gF g n b ka na fo E k i = g k i := by
  unfold gF
  rw [gset_n h3, gset_n h2, gset_n (by omega), gset_n (by omega), gset_n (by omega)]
section
variable {cs : Nat → Nat} {h h' : pw_H} {x : Nat} {g g' : Gh} {gr gr' : Nat → Prop} {dp dp' : Nat → Nat} {S S' : St} {nf p nt nf' p' nt' : Nat}
theorem Sim.func {T : St} {fo b ka na E : Nat} {q : Nat → Option Nat} {mc sg : Int32} {X : List Nat} (hs : Sim cs h x g gr dp S nf 0 0) (hlt : nf < 8) (hfo : h fo = none) (hb : h b = none) (hka : h ka = none) (hna : h na = none) (hkn : ka ≠ na) (hE : (gr 0 ∧ E = g 11 0) ∨ (¬ gr 0 ∧ h E = none))
    (f0 : h' fo = some (.inr (2, [.int sg, .ref b]))) (f1 : h' b = some (.inr (1, [.ref ka, .ref na, .int 0]))) (f2 : h' ka = some (eI (cs 0) 12 (fun _ => 0))) (f3 : h' na = some (eI (cs 0) 12 (fun _ => 0))) (f4 : h' E = some (eQ (cs 5) 10 q)) (hq : ∀ i, i < nf → q i = some (g 9 i)) (hqn : q nf = some fo) (f5 : h' (g 10 0) = some (.inr (0, [.ref E, .int (nI (nf + 1)), .int mc])))
    (hx : ext h h' X) (hX : ∀ k i, live S nf 0 0 gr k i → ¬ (k = 10 ∧ i = 0) → ¬ (k = 11 ∧ i = 0) → g k i ∉ X) (hXx : x ∉ X)
    (tk : ∀ κ j, ¬ ((κ ≤ 2 ∧ j = nf) ∨ (κ = 16 ∧ j = 1)) → T κ j = S κ j) (t0 : T 0 nf = 1) (t1 : T 1 nf = sg) (t2 : T 2 nf = 0) :
    Sim cs h' x (gF g nf b ka na fo E) (fun j => j = 0 ∨ gr j) dp T (nf + 1) 0 0 := by
  have g0 : gF g nf b ka na fo E 0 nf = b := by unfold gF; rw [gset_n (by omega), gset_n (by omega), gset_n (by omega), gset_n (by omega), gset_s]
  have g1 : gF g nf b ka na fo E 1 nf = ka := by unfold gF; rw [gset_n (by omega), gset_n (by omega), gset_n (by omega), gset_s]
  have g2 : gF g nf b ka na fo E 2 nf = na := by unfold gF; rw [gset_n (by omega), gset_n (by omega), gset_s]
  have g9 : gF g nf b ka na fo E 9 nf = fo := by unfold gF; rw [gset_n (by omega), gset_s]
  have g11 : gF g nf b ka na fo E 11 0 = E := by unfold gF; rw [gset_s]
  have lv : ∀ k i, live T (nf + 1) 0 0 (fun j => j = 0 ∨ gr j) k i → ¬ (k ≤ 2 ∧ i = nf) → ¬ (k = 9 ∧ i = nf) → (k = 11 ∧ i = 0 → gr 0) → live S nf 0 0 gr k i := fun k i hl n1 n2 n3 => by
    rcases live_case hl with rfl | rfl | rfl | rfl | rfl | rfl | rfl | rfl | rfl | rfl | rfl | rfl <;> simp only [live] at hl ⊢
    all_goals first | exact hl | (rw [tk 0 i (by omega)] at hl; exact hl) | omega | skip
    exact ⟨hl.1, hl.2.elim (fun z => by subst z; exact n3 ⟨rfl, rfl⟩) id⟩
  refine hs.mk2 (fun k i => ¬ (k ≤ 2 ∧ i = nf) ∧ ¬ (k = 9 ∧ i = nf) ∧ (k = 11 ∧ i = 0 → gr 0)) (fun _ i => i) ?_ (fun k i hl hsr => ⟨lv k i hl hsr.1 hsr.2.1 hsr.2.2, ?_⟩) (fun k i i' _ _ _ _ hh => hh) (fun k i hl hsr => ?_) (fun k i k' i' hl hl' hsr hsr' heq => ?_) (fun k i hl => ?_)
  · rw [hs.keptx hx hXx, gF_n (by omega) (by omega) (by omega), gF_n (by omega) (by omega) (by omega), gF_n (by omega) (by omega) (by omega), gF_n (by omega) (by omega) (by omega), tk 16 4 (by omega)]
    exact hs.1
  · by_cases c11 : k = 11 ∧ i = 0
    · have hg := hsr.2.2 c11
      obtain ⟨rfl, rfl⟩ := c11
      rw [g11]
      exact hE.elim (fun z => z.2) (fun z => absurd hg z.1)
    · exact gF_n hsr.1 hsr.2.1 c11
  · by_cases c0 : k ≤ 2 ∧ i = nf
    · obtain ⟨hk, rfl⟩ := c0
      rcases (show k = 0 ∨ k = 1 ∨ k = 2 by omega) with rfl | rfl | rfl
      · rw [g0]; exact hb
      · rw [g1]; exact hka
      · rw [g2]; exact hna
    · by_cases c9 : k = 9 ∧ i = nf
      · obtain ⟨rfl, rfl⟩ := c9
        rw [g9]; exact hfo
      · by_cases c11 : k = 11 ∧ i = 0
        · obtain ⟨rfl, rfl⟩ := c11
          rw [g11]
          exact hE.elim (fun z => absurd ⟨c0, c9, fun _ => z.1⟩ hsr) (fun z => z.2)
        · exact absurd ⟨c0, c9, fun z => absurd z c11⟩ hsr
  · have hcase : ∀ k i, ¬ (¬ (k ≤ 2 ∧ i = nf) ∧ ¬ (k = 9 ∧ i = nf) ∧ (k = 11 ∧ i = 0 → gr 0)) → (k = 0 ∧ i = nf) ∨ (k = 1 ∧ i = nf) ∨ (k = 2 ∧ i = nf) ∨ (k = 9 ∧ i = nf) ∨ (k = 11 ∧ i = 0) := fun k i hn => by
      by_cases c11 : k = 11 ∧ i = 0
      · exact Or.inr (Or.inr (Or.inr (Or.inr c11)))
      · by_cases c9 : k = 9 ∧ i = nf
        · exact Or.inr (Or.inr (Or.inr (Or.inl c9)))
        · have : k ≤ 2 ∧ i = nf := Classical.byContradiction (fun z => hn ⟨z, c9, fun y => absurd y c11⟩)
          omega
    have n1 : b ≠ ka := pu_t f1 f2 (show (1 : Nat) ≠ 112 by decide)
    have n2 : b ≠ na := pu_t f1 f3 (show (1 : Nat) ≠ 112 by decide)
    have n3 : b ≠ fo := pu_t f1 f0 (show (1 : Nat) ≠ 2 by decide)
    have n4 : b ≠ E := pu_t f1 f4 (show (1 : Nat) ≠ 310 by decide)
    have n5 : ka ≠ fo := pu_t f2 f0 (show (112 : Nat) ≠ 2 by decide)
    have n6 : ka ≠ E := pu_t f2 f4 (show (112 : Nat) ≠ 310 by decide)
    have n7 : na ≠ fo := pu_t f3 f0 (show (112 : Nat) ≠ 2 by decide)
    have n8 : na ≠ E := pu_t f3 f4 (show (112 : Nat) ≠ 310 by decide)
    have n9 : fo ≠ E := pu_t f0 f4 (show (2 : Nat) ≠ 310 by decide)
    rcases hcase k i hsr with ⟨rfl, rfl⟩ | ⟨rfl, rfl⟩ | ⟨rfl, rfl⟩ | ⟨rfl, rfl⟩ | ⟨rfl, rfl⟩ <;> rcases hcase k' i' hsr' with ⟨rfl, rfl⟩ | ⟨rfl, rfl⟩ | ⟨rfl, rfl⟩ | ⟨rfl, rfl⟩ | ⟨rfl, rfl⟩ <;> simp only [g0, g1, g2, g9, g11] at heq <;>
      first | exact ⟨rfl, rfl⟩ | exact absurd heq n1 | exact absurd heq n2 | exact absurd heq n3 | exact absurd heq n4 | exact absurd heq n5 | exact absurd heq n6 | exact absurd heq n7 | exact absurd heq n8 | exact absurd heq n9 | exact absurd heq hkn | exact absurd heq.symm n1 | exact absurd heq.symm n2 | exact absurd heq.symm n3 | exact absurd heq.symm n4 | exact absurd heq.symm n5 | exact absurd heq.symm n6 | exact absurd heq.symm n7 | exact absurd heq.symm n8 | exact absurd heq.symm n9 | exact absurd heq.symm hkn
  · by_cases c0 : k ≤ 2 ∧ i = nf
    · obtain ⟨hk, rfl⟩ := c0
      rcases (show k = 0 ∨ k = 1 ∨ k = 2 by omega) with rfl | rfl | rfl
      · refine ⟨_, by rw [g0]; exact f1, ?_⟩
        simp only [ent]
        rw [g1, g2, t2]
      · refine ⟨_, by rw [g1]; exact f2, ?_⟩
        simp only [ent]
        exact ⟨_, rfl, fun a _ ha => by rw [t2] at ha; exact absurd ha (Nat.not_lt_zero _)⟩
      · refine ⟨_, by rw [g2]; exact f3, ?_⟩
        simp only [ent]
        exact ⟨_, rfl, fun a _ ha => by rw [t2] at ha; exact absurd ha (Nat.not_lt_zero _)⟩
    by_cases c9 : k = 9 ∧ i = nf
    · obtain ⟨rfl, rfl⟩ := c9
      refine ⟨_, by rw [g9]; exact f0, ?_⟩
      simp only [ent]
      rw [t1, g0]
    by_cases c10 : k = 10 ∧ i = 0
    · obtain ⟨rfl, rfl⟩ := c10
      refine ⟨_, by rw [gF_n (by omega) (by omega) (by omega)]; exact f5, ?_⟩
      simp only [ent]
      exact ⟨mc, Or.inl ⟨Or.inl trivial, by rw [g11]; rfl⟩⟩
    by_cases c11 : k = 11 ∧ i = 0
    · obtain ⟨rfl, rfl⟩ := c11
      refine ⟨_, by rw [g11]; exact f4, ?_⟩
      simp only [ent]
      refine ⟨_, rfl, fun j hj => ?_⟩
      have hj : j < nf + 1 := hj
      show q j = some (gF g nf b ka na fo E 9 j)
      by_cases hjn : j = nf
      · subst hjn; rw [g9]; exact hqn
      · rw [gF_n (by omega) (by omega) (by omega)]; exact hq j (by omega)
    have hlS := lv k i hl c0 c9 (fun z => absurd z c11)
    refine hs.stay hx hlS (hX k i hlS c10 c11) (gF_n c0 c9 c11) (fun e he => ent_cong (fun κ j hr => tk κ j (fun z => ?_)) (ent_gr (fun hk => ?_) (ent_len (fun hk => lenL_0 (fun z => hk.elim (fun y => c10 ⟨y, z⟩) (fun y => c11 ⟨y, z⟩))) (ent_g (fun k' i' hg => gF_n (fun z => ?_) (fun z => ?_) (fun z => ?_)) he))))
    · rcases z with ⟨z1, z2⟩ | ⟨rfl, rfl⟩
      · rcases (show κ = 0 ∨ κ = 1 ∨ κ = 2 by omega) with rfl | rfl | rfl
        · rcases rd_0 hr with ⟨a, b, c⟩ | ⟨a, b, _⟩
          · subst a
            have : (1 ≤ i ∧ i ≤ 0) ∨ i = 6 := hlS
            omega
          · omega
        · rcases rd_1 hr with ⟨a, b⟩ | ⟨a, b, _⟩
          · exact c9 ⟨a, by omega⟩
          · omega
        · obtain ⟨a, b⟩ := rd_2 hr
          exact c0 ⟨by omega, by omega⟩
      · have := rd_16 hr
        omega
    · have : i ≠ 0 := fun z => c10 ⟨hk, z⟩
      exact ⟨fun z => z.elim (fun y => absurd y this) id, Or.inr⟩
    · rcases gsh_0 hg z.1 with ⟨a, b, c⟩ | ⟨a, b, c, d, e⟩ | ⟨a, b, c, d⟩ | ⟨a, b, c⟩
      · exact c0 ⟨by omega, by omega⟩
      · subst a
        have : (1 ≤ i ∧ i ≤ 0) ∨ i = 6 := hlS
        omega
      · subst a
        have : i < 6 * 0 := hlS
        omega
      · exact c9 ⟨a, by omega⟩
    · rw [z.1] at hg
      have := gsh_9 hg
      exact c11 ⟨this.1, this.2.1⟩
    · rw [z.1] at hg
      have := gsh_11 hg
      exact c10 ⟨this.1, by omega⟩
end
abbrev rm_D_function : Room := { frames := 6, cells := 5, slots := 39, locals := 104 }
set_option maxHeartbeats 4000000 in
set_option maxRecDepth 100000 in
theorem c_D_function (l : Launch) (D : va_G) (cs : Nat → Nat) (A : Nat → Prop) (h : pw_H) (hst : l.stackTraces = false) (x : Nat) (S : St) (hE : SimE cs h x S) (sg : Int32) : pmx l y_D_function b_D_function 2 (some .int) rm_D_function [.ref x, .int sg] D cs A h (va_Qi (fun (r : Int32) (h' : pw_H) => thFunction S sg = 0 ∧ SimE cs h' x (stFunction S sg) ∧ r = rFunction S sg) (ww D cs A) A) (fun (E : String) (h' : pw_H) => (E = sIAE ∧ thFunction S sg = 1 ∧ SimE cs h' x (stFunction S sg)) ∨ (E = sISE ∧ thFunction S sg = 2 ∧ SimE cs h' x (stFunction S sg))) 5 39 := by
  refine pmx_of R_D rfl (by decide) (Nat.le_of_ble_eq_true rfl) (fun p e s m below meth c ls F hr hlk hnm htb hP hA hK hl => ?_)
  have hS : va_S A s.heap s.heap [] := va_S.rf
  replace hl : lv_has ls 2 [(0, .ref x), (1, .int sg)] := hl
  obtain ⟨g, gr, nf, pT, nt, hs, hw⟩ := hE
  obtain ⟨dp, hdpS⟩ : ∃ dp, dp = dpS S := ⟨_, rfl⟩
  rw [← hdpS] at hs
  have hnf8 := hw.1.1
  have hp5 := hw.1.2.1
  have hnt4 := hw.1.2.2.1
  have hn1 := hw.1.2.2.2.1
  have hn3 := hw.1.2.2.2.2.1
  have hn5 := hw.1.2.2.2.2.2.1
  have hx : ext h h [] := ext.rf
  refine lv_iload_n F.1 F.2.1 d_D_function_0 rfl (lv_at hl 1 rfl) ?_
  refine pw_ciE (pr_S F (c_D_isSignature l D cs A h sg) X_D_33 rfl rfl ⟨by decide, by decide⟩ hP hA hK hS rfl hl.1 rfl (Nat.le_of_ble_eq_true rfl) d_D_function_1 ⟨by decide, by decide⟩) hS (fun H locs hP hS => ?_)
  by_cases b1 : mIn sg 0 9
  · skip
    refine W.eq (g2 := F0 m 4 ls [.int 1]) (by rw [if_pos b1]) ?_
    refine lv_if_ne (tgt := 17) F.1 F.2.1 d_D_function_4 (by decide) (fun c2 => ?_) (fun c2 => absurd c2 (by decide))
    refine lv_aload_n F.1 F.2.1 d_D_function_17 rfl (lv_at hl 0 rfl) ?_
    have f3 : h x = some (.inr (6, [.ref (g 10 0), .ref (g 10 1), .ref (g 10 2), .ref (g 3 6), .int (S 16 4)])) := hs.1
    refine pw_get F I_D hK.1 hP f3 rfl 0 (by decide) L_D_10 (fun _ z => z) rfl d_D_function_18 ?_
    obtain ⟨q4, n5, f6, _, _⟩ := hs.ls (show 0 < 3 by decide)
    have f7 : h (g 10 0) = some (.inr (0, [.ref q4, .int (nI nf), .int n5])) := f6
    refine pw_ciE (pr_V F (c_AL_size l D cs A h _ _ _ _ f7) X_D_44 rfl rfl ⟨by decide, by decide⟩ hP hA hK hS f7 rfl rfl rfl hl.1 rfl (Nat.le_of_ble_eq_true rfl) d_D_function_21 ⟨by decide, by decide⟩) hS (fun H locs hP hS => ?_)
    refine lv_bipush (v := 8) F.1 F.2.1 d_D_function_24 (by decide) ?_
    refine lv_icmp_ge (tgt := 36) F.1 F.2.1 d_D_function_26 (by decide) (fun c8 => ?_) (fun c8 => ?_)
    · skip
      exact pw_throw (is := 54) (text := "no more functions: there are 8, or a task, or a patch") hst xw_2 (by decide) F hlk htb hP hK hS hl d_D_function_36 d_D_function_39 d_D_function_40 d_D_function_42 d_D_function_45 (by decide) (by decide) (by decide) (by decide) (by decide) (by decide) ((by have hth : thFunction S sg = 2 := (by unfold thFunction; rw [if_neg (fun z9 => z9 b1), if_pos (Or.inl (by have := (nI_leI (a := 8) (b := nf) (by decide) (by omega)).mp c8; rw [hn1, show nf = 8 by omega]; rfl))]); exact Or.inr ⟨rfl, hth, by unfold stFunction; rw [if_neg (by rw [hth]; decide), hth]; exact SimE.num ⟨g, gr, nf, pT, nt, hdpS ▸ hs, hw⟩ _⟩))
    · skip
      refine lv_aload_n F.1 F.2.1 d_D_function_29 rfl (lv_at hl 0 rfl) ?_
      refine pw_ciE (pr_V F (c_D_isInUse l D cs A h x g gr dp S nf pT nt hs hnt4 hp5) X_D_48 rfl rfl ⟨by decide, by decide⟩ hP hA hK hS f3 rfl rfl rfl hl.1 rfl (Nat.le_of_ble_eq_true rfl) d_D_function_30 ⟨by decide, by decide⟩) hS (fun H locs hP hS => ?_)
      by_cases b9 : nt = 0 ∧ pT = 0
      · skip
        refine W.eq (g2 := F0 m 33 ls [.int 0]) (by rw [if_pos b9]) ?_
        refine lv_if_eq (tgt := 46) F.1 F.2.1 d_D_function_33 (by decide) (fun c10 => ?_) (fun c10 => absurd (by decide) c10)
        have hlt8 : nf < 8 := (Nat.lt_or_ge nf 8).elim id (fun h9 => absurd (nI_le (a := 8) (b := nf) h9 (by omega)) c8)
        have hth : thFunction S sg = 0 := (by unfold thFunction; rw [if_neg (fun z9 => z9 b1), if_neg (fun z9 => z9.elim (fun z8 => absurd ((nI_eq (a := nf) (b := 8) (by omega) (by decide)).mp (hn1.symm.trans z8)) (by omega)) (fun z8 => z8 ((fresh_iff hw).mpr b9)))])
        obtain ⟨hnt0, hpT0⟩ := b9
        by_cases hgr : gr 0
        · skip
          obtain ⟨n11, lq, fl1, fl2, hlq⟩ := hs.lg (show 0 < 3 by decide) hgr
          replace fl1 : h (g 10 0) = some (.inr (0, [.ref (g 11 0), .int (nI nf), .int n11])) := fl1
          refine lv_aload_n F.1 F.2.1 d_D_function_46 rfl (lv_at hl 0 rfl) ?_
          refine pw_get F I_D hK.1 hP f3 rfl 0 (by decide) L_D_10 (fun _ z => z) rfl d_D_function_47 ?_
          refine pw_new (ci := 2) (fs := [.int 0, .null]) F I_Fn ty_Fn k_Fn C_D_57 N_Fn Z_Fn hK.1 hP hS hA rfl (fun j hj => by rcases (show j = 0 ∨ j = 1 by omega) with rfl | rfl <;> rfl) (by decide) (by decide) d_D_function_50 (fun q12 H n13 hP hS => ?_)
          replace hP : pw D vwCl A (pu h q12 (.inr (2, [.int 0, .null]))) H := hP
          have g16 : h q12 = none := hx.2 _ n13
          obtain ⟨h14, e15⟩ : ∃ z9 : pw_H, z9 = pu h q12 (.inr (2, [.int 0, .null])) := ⟨_, rfl⟩
          rw [← e15] at hP
          have hx : ext h h14 [] := by rw [e15]; exact hx.pu (Or.inr g16)
          have f17 : h14 q12 = some (.inr (2, [.int 0, .null])) := by rw [e15]; exact pu_s
          refine lv_dup F.1 F.2.1 d_D_function_53 rfl ?_
          refine lv_iload_n F.1 F.2.1 d_D_function_54 rfl (lv_at hl 1 rfl) ?_
          refine pw_cv (pr_I F (c_Fn_init l D cs A h14 _ sg f17) X_D_59 rfl rfl ⟨by decide, by decide⟩ hP hA hK hS rfl hl.1 rfl (Nat.le_of_ble_eq_true rfl) d_D_function_55 ⟨by decide, by decide⟩) hS (fun hz9 H locs hq9 hP hS => ?_)
          obtain ⟨bb, ka, na, hkn, hb0, hk0, hn0, i0, i1, i2, i3, ix⟩ := hq9
          have g18 : h bb = none := hx.2 _ hb0
          have g19 : h ka = none := hx.2 _ hk0
          have g20 : h na = none := hx.2 _ hn0
          have hx : ext h hz9 [] := hx.trans ix (fun y hy => by
            simp only [List.mem_cons, List.not_mem_nil, or_false] at hy
            rcases hy with rfl
            · exact Or.inr g16)
          have f21 : h14 (g 10 0) = some (.inr (0, [.ref (g 11 0), .int (nI nf), .int n11])) := by rw [e15]; exact pu_f n13 fl1
          have f22 : hz9 (g 10 0) = some (.inr (0, [.ref (g 11 0), .int (nI nf), .int n11])) := ix.1 _ _ f21 (nin1 (pu_t f21 f17 (show (0 : Nat) ≠ 2 by decide)))
          have f23 : h14 (g 11 0) = some (.inl (cs 5, 10, .inr (.inr (.inr (.inr lq))))) := by rw [e15]; exact pu_f n13 fl2
          have f24 : hz9 (g 11 0) = some (.inl (cs 5, 10, .inr (.inr (.inr (.inr lq))))) := ix.1 _ _ f23 (nin1 (pu_t f23 f17 (show (310 : Nat) ≠ 2 by decide)))
          refine pw_ci (pr_V F (c_AL_addg_2 l D cs A hz9 _ _ _ nf _ _ lq (by omega) f22 f24 i0) X_D_62 rfl rfl ⟨by decide, by decide⟩ hP hA hK hS f22 rfl rfl rfl hl.1 rfl (Nat.le_of_ble_eq_true rfl) d_D_function_58 ⟨by decide, by decide⟩) hS (fun r9 hy9 H locs hqa hP hS => ?_)
          obtain ⟨hr9, a1, a2, ax⟩ := hqa
          have hE0 : True := trivial
          have hxa : ext h hy9 [(g 10 0), (g 11 0)] := (hx.more (fun z9 h9 => nomatch h9)).trans ax (fun z9 h9 => Or.inl h9)
          have f25 : h14 x = some (.inr (6, [.ref (g 10 0), .ref (g 10 1), .ref (g 10 2), .ref (g 3 6), .int (S 16 4)])) := by rw [e15]; exact pu_f n13 f3
          have f26 : hz9 x = some (.inr (6, [.ref (g 10 0), .ref (g 10 1), .ref (g 10 2), .ref (g 3 6), .int (S 16 4)])) := ix.1 _ _ f25 (nin1 (pu_t f25 f17 (show (6 : Nat) ≠ 2 by decide)))
          have f27 : hy9 x = some (.inr (6, [.ref (g 10 0), .ref (g 10 1), .ref (g 10 2), .ref (g 3 6), .int (S 16 4)])) := ax.1 _ _ f26 (nin2 (pu_t f26 f22 (show (6 : Nat) ≠ 0 by decide)) (pu_t f26 f24 (show (6 : Nat) ≠ 310 by decide)))
          have f28 : hy9 bb = some (.inr (1, [.ref ka, .ref na, .int 0])) := ax.1 _ _ i1 (nin2 (pu_t i1 f22 (show (1 : Nat) ≠ 0 by decide)) (pu_t i1 f24 (show (1 : Nat) ≠ 310 by decide)))
          have f29 : hy9 ka = some (.inl (cs 0, 12, .inl (fun _ => 0))) := ax.1 _ _ i2 (nin2 (pu_t i2 f22 (show (112 : Nat) ≠ 0 by decide)) (pu_t i2 f24 (show (112 : Nat) ≠ 310 by decide)))
          have f30 : hy9 na = some (.inl (cs 0, 12, .inl (fun _ => 0))) := ax.1 _ _ i3 (nin2 (pu_t i3 f22 (show (112 : Nat) ≠ 0 by decide)) (pu_t i3 f24 (show (112 : Nat) ≠ 310 by decide)))
          have f31 : hy9 q12 = some (.inr (2, [.int sg, .ref bb])) := ax.1 _ _ i0 (nin2 (pu_t i0 f22 (show (2 : Nat) ≠ 0 by decide)) (pu_t i0 f24 (show (2 : Nat) ≠ 310 by decide)))
          refine lv_pop F.1 F.2.1 d_D_function_61 rfl ?_
          refine lv_aload_n F.1 F.2.1 d_D_function_62 rfl (lv_at hl 0 rfl) ?_
          refine pw_get F I_D hK.1 hP f27 rfl 0 (by decide) L_D_10 (fun _ z => z) rfl d_D_function_63 ?_
          refine pw_ciE (pr_V F (c_AL_size l D cs A hy9 _ _ _ _ a2) X_D_44 rfl rfl ⟨by decide, by decide⟩ hP hA hK hS a2 rfl rfl rfl hl.1 rfl (Nat.le_of_ble_eq_true rfl) d_D_function_66 ⟨by decide, by decide⟩) hS (fun H locs hP hS => ?_)
          refine lv_iconst (v := 1) F.1 F.2.1 d_D_function_69 (by decide) ?_
          refine lv_isub F.1 F.2.1 d_D_function_70 ?_
          exact vx_ret (pw_iret F hr hlk hP hA hK hS (by decide) (by decide) d_D_function_71 ((by subst hnt0; subst hpT0; have hst9 : stFunction S sg = sp (sp (sp (sp (sp S 16 0 0) 0 nf 1) 1 nf sg) 2 nf 0) 16 1 (nI (nf + 1)) := (by unfold stFunction; rw [if_pos hth, hn1, tn_nI (by omega), nI_1]); have hsN := Sim.func (S := sp S 16 0 0) (T := stFunction S sg) (hs.num 0) hlt8 g16 g18 g19 g20 hkn (Or.inl ⟨hgr, rfl⟩) f31 f28 f29 f30 a1 (fun i hi => by rw [va_up_ne _ _ (by omega)]; exact hlq i hi) (va_up_self _ _ _) (by rw [← nI_1]; exact a2) hxa (fun k i hl h1 h2 => by have hl : live S nf 0 0 gr k i := (by unfold live at hl ⊢; rw [sp_off (show (0 : Nat) ≠ 16 by decide)] at hl; exact hl); exact nin2 (hs.ne hl (show live S nf 0 0 gr 10 0 from (by show 0 < 3; decide)) h1) (hs.ne hl (show live S nf 0 0 gr 11 0 from ⟨by decide, hgr⟩) h2)) (nin2 (Ne.symm (hs.2.2.2 10 0 (by show 0 < 3; decide))) (Ne.symm (hs.2.2.2 11 0 ⟨by decide, hgr⟩))) (fun κ j hj => by rw [hst9]; unfold sp; rw [if_neg (by omega), if_neg (by omega), if_neg (by omega), if_neg (by omega)]) (by rw [hst9, sp_k (by decide), sp_k (by decide), sp_k (by decide), sp_s]) (by rw [hst9, sp_k (by decide), sp_k (by decide), sp_s]) (by rw [hst9, sp_k (by decide), sp_s]); have hw9 : WF (stFunction S sg) (nf + 1) 0 0 noX := (WFe.function ⟨nf, 0, 0, hw⟩ sg).same (by rw [hst9, sp_s]) (by omega) (by rw [hst9, sp_j (by decide), sp_k (by decide), sp_k (by decide), sp_k (by decide), sp_j (by decide)]; exact hn3) (by decide) (by rw [hst9, sp_j (by decide), sp_k (by decide), sp_k (by decide), sp_k (by decide), sp_j (by decide)]; exact hn5) (by decide); exact ⟨hth, SimE.mk hsN (fun u hu => absurd hu (Nat.not_lt_zero u)) hw9, by unfold rFunction; rw [if_pos hth, hn1]; exact nI_sp1⟩)))
        · skip
          obtain ⟨n32, fl1, hl0⟩ := hs.ln (show 0 < 3 by decide) hgr
          replace hl0 : nf = 0 := hl0
          refine lv_aload_n F.1 F.2.1 d_D_function_46 rfl (lv_at hl 0 rfl) ?_
          refine pw_get F I_D hK.1 hP f3 rfl 0 (by decide) L_D_10 (fun _ z => z) rfl d_D_function_47 ?_
          refine pw_new (ci := 2) (fs := [.int 0, .null]) F I_Fn ty_Fn k_Fn C_D_57 N_Fn Z_Fn hK.1 hP hS hA rfl (fun j hj => by rcases (show j = 0 ∨ j = 1 by omega) with rfl | rfl <;> rfl) (by decide) (by decide) d_D_function_50 (fun q33 H n34 hP hS => ?_)
          replace hP : pw D vwCl A (pu h q33 (.inr (2, [.int 0, .null]))) H := hP
          have g37 : h q33 = none := hx.2 _ n34
          obtain ⟨h35, e36⟩ : ∃ z9 : pw_H, z9 = pu h q33 (.inr (2, [.int 0, .null])) := ⟨_, rfl⟩
          rw [← e36] at hP
          have hx : ext h h35 [] := by rw [e36]; exact hx.pu (Or.inr g37)
          have f38 : h35 q33 = some (.inr (2, [.int 0, .null])) := by rw [e36]; exact pu_s
          refine lv_dup F.1 F.2.1 d_D_function_53 rfl ?_
          refine lv_iload_n F.1 F.2.1 d_D_function_54 rfl (lv_at hl 1 rfl) ?_
          refine pw_cv (pr_I F (c_Fn_init l D cs A h35 _ sg f38) X_D_59 rfl rfl ⟨by decide, by decide⟩ hP hA hK hS rfl hl.1 rfl (Nat.le_of_ble_eq_true rfl) d_D_function_55 ⟨by decide, by decide⟩) hS (fun hz9 H locs hq9 hP hS => ?_)
          obtain ⟨bb, ka, na, hkn, hb0, hk0, hn0, i0, i1, i2, i3, ix⟩ := hq9
          have g39 : h bb = none := hx.2 _ hb0
          have g40 : h ka = none := hx.2 _ hk0
          have g41 : h na = none := hx.2 _ hn0
          have hx : ext h hz9 [] := hx.trans ix (fun y hy => by
            simp only [List.mem_cons, List.not_mem_nil, or_false] at hy
            rcases hy with rfl
            · exact Or.inr g37)
          have f42 : h35 (g 10 0) = some (.inr (0, [.ref (cs 9), .int 0, .int n32])) := by rw [e36]; exact pu_f n34 fl1
          have f43 : hz9 (g 10 0) = some (.inr (0, [.ref (cs 9), .int 0, .int n32])) := ix.1 _ _ f42 (nin1 (pu_t f42 f38 (show (0 : Nat) ≠ 2 by decide)))
          refine pw_ci (pr_V F (c_AL_addf_2 l D cs A hz9 _ _ _ _ f43 i0) X_D_62 rfl rfl ⟨by decide, by decide⟩ hP hA hK hS f43 rfl rfl rfl hl.1 rfl (Nat.le_of_ble_eq_true rfl) d_D_function_58 ⟨by decide, by decide⟩) hS (fun r9 hy9 H locs hqa hP hS => ?_)
          obtain ⟨hr9, E9, aE, a1, a2, ax⟩ := hqa
          have hE0 : h E9 = none := hx.2 _ aE
          have hxa : ext h hy9 [(g 10 0)] := (hx.more (fun z9 h9 => nomatch h9)).trans ax (fun z9 h9 => Or.inl h9)
          have f44 : h35 x = some (.inr (6, [.ref (g 10 0), .ref (g 10 1), .ref (g 10 2), .ref (g 3 6), .int (S 16 4)])) := by rw [e36]; exact pu_f n34 f3
          have f45 : hz9 x = some (.inr (6, [.ref (g 10 0), .ref (g 10 1), .ref (g 10 2), .ref (g 3 6), .int (S 16 4)])) := ix.1 _ _ f44 (nin1 (pu_t f44 f38 (show (6 : Nat) ≠ 2 by decide)))
          have f46 : hy9 x = some (.inr (6, [.ref (g 10 0), .ref (g 10 1), .ref (g 10 2), .ref (g 3 6), .int (S 16 4)])) := ax.1 _ _ f45 (nin1 (pu_t f45 f43 (show (6 : Nat) ≠ 0 by decide)))
          have f47 : hy9 bb = some (.inr (1, [.ref ka, .ref na, .int 0])) := ax.1 _ _ i1 (nin1 (pu_t i1 f43 (show (1 : Nat) ≠ 0 by decide)))
          have f48 : hy9 ka = some (.inl (cs 0, 12, .inl (fun _ => 0))) := ax.1 _ _ i2 (nin1 (pu_t i2 f43 (show (112 : Nat) ≠ 0 by decide)))
          have f49 : hy9 na = some (.inl (cs 0, 12, .inl (fun _ => 0))) := ax.1 _ _ i3 (nin1 (pu_t i3 f43 (show (112 : Nat) ≠ 0 by decide)))
          have f50 : hy9 q33 = some (.inr (2, [.int sg, .ref bb])) := ax.1 _ _ i0 (nin1 (pu_t i0 f43 (show (2 : Nat) ≠ 0 by decide)))
          refine lv_pop F.1 F.2.1 d_D_function_61 rfl ?_
          refine lv_aload_n F.1 F.2.1 d_D_function_62 rfl (lv_at hl 0 rfl) ?_
          refine pw_get F I_D hK.1 hP f46 rfl 0 (by decide) L_D_10 (fun _ z => z) rfl d_D_function_63 ?_
          refine pw_ciE (pr_V F (c_AL_size l D cs A hy9 _ _ _ _ a2) X_D_44 rfl rfl ⟨by decide, by decide⟩ hP hA hK hS a2 rfl rfl rfl hl.1 rfl (Nat.le_of_ble_eq_true rfl) d_D_function_66 ⟨by decide, by decide⟩) hS (fun H locs hP hS => ?_)
          refine lv_iconst (v := 1) F.1 F.2.1 d_D_function_69 (by decide) ?_
          refine lv_isub F.1 F.2.1 d_D_function_70 ?_
          exact vx_ret (pw_iret F hr hlk hP hA hK hS (by decide) (by decide) d_D_function_71 ((by subst hnt0; subst hpT0; have hst9 : stFunction S sg = sp (sp (sp (sp (sp S 16 0 0) 0 nf 1) 1 nf sg) 2 nf 0) 16 1 (nI (nf + 1)) := (by unfold stFunction; rw [if_pos hth, hn1, tn_nI (by omega), nI_1]); have hsN := Sim.func (S := sp S 16 0 0) (T := stFunction S sg) (hs.num 0) hlt8 g37 g39 g40 g41 hkn (Or.inr ⟨hgr, hE0⟩) f50 f47 f48 f49 a1 (fun i hi => absurd hi (by omega)) (by rw [hl0]; exact va_up_self _ _ _) (by rw [hl0]; exact a2) hxa (fun k i hl h1 h2 => by have hl : live S nf 0 0 gr k i := (by unfold live at hl ⊢; rw [sp_off (show (0 : Nat) ≠ 16 by decide)] at hl; exact hl); exact nin1 (hs.ne hl (show live S nf 0 0 gr 10 0 from (by show 0 < 3; decide)) h1)) (nin1 (Ne.symm (hs.2.2.2 10 0 (by show 0 < 3; decide)))) (fun κ j hj => by rw [hst9]; unfold sp; rw [if_neg (by omega), if_neg (by omega), if_neg (by omega), if_neg (by omega)]) (by rw [hst9, sp_k (by decide), sp_k (by decide), sp_k (by decide), sp_s]) (by rw [hst9, sp_k (by decide), sp_k (by decide), sp_s]) (by rw [hst9, sp_k (by decide), sp_s]); have hw9 : WF (stFunction S sg) (nf + 1) 0 0 noX := (WFe.function ⟨nf, 0, 0, hw⟩ sg).same (by rw [hst9, sp_s]) (by omega) (by rw [hst9, sp_j (by decide), sp_k (by decide), sp_k (by decide), sp_k (by decide), sp_j (by decide)]; exact hn3) (by decide) (by rw [hst9, sp_j (by decide), sp_k (by decide), sp_k (by decide), sp_k (by decide), sp_j (by decide)]; exact hn5) (by decide); exact ⟨hth, SimE.mk hsN (fun u hu => absurd hu (Nat.not_lt_zero u)) hw9, by unfold rFunction; rw [if_pos hth, hn1]; exact (by rw [hl0]; decide)⟩)))
      · skip
        refine W.eq (g2 := F0 m 33 ls [.int 1]) (by rw [if_neg b9]) ?_
        refine lv_if_eq (tgt := 46) F.1 F.2.1 d_D_function_33 (by decide) (fun c51 => absurd c51 (by decide)) (fun c51 => ?_)
        exact pw_throw (is := 54) (text := "no more functions: there are 8, or a task, or a patch") hst xw_2 (by decide) F hlk htb hP hK hS hl d_D_function_36 d_D_function_39 d_D_function_40 d_D_function_42 d_D_function_45 (by decide) (by decide) (by decide) (by decide) (by decide) (by decide) ((by have hth : thFunction S sg = 2 := (by unfold thFunction; rw [if_neg (fun z9 => z9 b1), if_pos (Or.inr (fun z9 => b9 ((fresh_iff hw).mp z9)))]); exact Or.inr ⟨rfl, hth, by unfold stFunction; rw [if_neg (by rw [hth]; decide), hth]; exact SimE.num ⟨g, gr, nf, pT, nt, hdpS ▸ hs, hw⟩ _⟩))
  · skip
    refine W.eq (g2 := F0 m 4 ls [.int 0]) (by rw [if_neg b1]) ?_
    refine lv_if_ne (tgt := 17) F.1 F.2.1 d_D_function_4 (by decide) (fun c52 => absurd (by decide) c52) (fun c52 => ?_)
    exact pw_throw (is := 39) (text := "a signature is 0 .. 9") hst xw_1 (by decide) F hlk htb hP hK hS hl d_D_function_7 d_D_function_10 d_D_function_11 d_D_function_13 d_D_function_16 (by decide) (by decide) (by decide) (by decide) (by decide) (by decide) ((by have hth : thFunction S sg = 1 := (by unfold thFunction; rw [if_pos b1]); exact Or.inl ⟨rfl, hth, by unfold stFunction; rw [if_neg (by rw [hth]; decide), hth]; exact SimE.num ⟨g, gr, nf, pT, nt, hdpS ▸ hs, hw⟩ _⟩))
