/-! what holds of the reference's state behind every call -/
def okOp (S : St) (nf r a : Nat) : Prop :=
  (S 3 (12 * r + a) = 0 ∨ S 3 (12 * r + a) = 1 ∨ S 3 (12 * r + a) = 2 ∨ S 3 (12 * r + a) = 3 ∨ S 3 (12 * r + a) = 4 ∨ S 3 (12 * r + a) = 5) ∧
  (S 3 (12 * r + a) = 1 ∨ S 3 (12 * r + a) = 5 → ∃ j, j < nf ∧ S 4 (12 * r + a) = nI j) ∧
  (S 3 (12 * r + a) = 3 → ∃ j, j ≤ a ∧ S 4 (12 * r + a) = nI j)
def okRow (S : St) (nf r : Nat) : Prop := ∃ z, z ≤ 12 ∧ S 2 r = nI z ∧ ∀ a, a < z → okOp S nf r a
def okFr (S : St) (t k L : Nat) (X : Prop) : Prop := ∃ r a z, r < 48 ∧ S 12 (6 * t + k) = nI r ∧ S 0 r = 1 ∧ z ≤ 12 ∧ S 2 r = nI z ∧ S 14 (6 * t + k) = nI a ∧ a ≤ z ∧ (r / 8 ≤ L ∨ (X ∧ a = z))
def okT (S : St) (t nf p d : Nat) (X : Prop) : Prop := ∃ L mf, d ≤ 6 ∧ S 11 t = nI d ∧ L ≤ p ∧ S 6 t = nI L ∧ mf < nf ∧ S 5 t = nI mf ∧ (∀ k, k < d → okFr S t k L (X ∧ d = 1)) ∧ (0 < d → ∃ r0, r0 < 48 ∧ S 12 (6 * t) = nI r0 ∧ r0 % 8 = mf)
def okTask (S : St) (t nf p : Nat) (X : Prop) : Prop := ∃ d, okT S t nf p (d + 1) X
def WB (S : St) (nf p nt : Nat) : Prop := nf ≤ 8 ∧ p ≤ 5 ∧ nt ≤ 4 ∧ S 16 1 = nI nf ∧ S 16 3 = nI p ∧ S 16 5 = nI nt ∧ (S 16 4 = -1 ∨ (1 ≤ p ∧ (S 16 4 = nI p ∨ S 16 4 = nI (p - 1)))) ∧
  (∀ j, j < 56 → S 0 j = 0 ∨ S 0 j = 1) ∧ (∀ f, f < 8 → (S 0 f = 1 ↔ f < nf)) ∧ ∀ j, j < 56 → S 0 j = 1 → j % 8 < nf ∧ okRow S nf j
def idle (S : St) (t : Nat) : Prop := S 11 t = nI 0 ∧ S 7 t = 0 ∧ S 8 t = 0 ∧ S 9 t = 0 ∧ S 10 t = 0
def WT (S : St) (nf p nt : Nat) (X : Nat → Prop) : Prop := (∀ t, t < nt → okTask S t nf p (X t)) ∧ ∀ t, nt ≤ t → t < 4 → idle S t
def WF (S : St) (nf p nt : Nat) (X : Nat → Prop) : Prop := WB S nf p nt ∧ WT S nf p nt X
abbrev noX : Nat → Prop := fun _ => False
theorem WB.congr {S T : St} {nf p nt : Nat} (h : WB S nf p nt) (h0 : T 0 = S 0) (h2 : T 2 = S 2) (h3 : T 3 = S 3) (h4 : T 4 = S 4) (h1 : T 16 1 = S 16 1) (h5 : T 16 3 = S 16 3) (h6 : T 16 4 = S 16 4) (h7 : T 16 5 = S 16 5) : WB T nf p nt := by
  unfold WB okRow okOp
  simp only [h0, h2, h3, h4, h1, h5, h6, h7]
  exact h
theorem okFr.congr {S T : St} {t k L p : Nat} {X : Prop} (h : okFr S t k L X) (hL : L ≤ p) (h12 : T 12 (6 * t + k) = S 12 (6 * t + k)) (h14 : T 14 (6 * t + k) = S 14 (6 * t + k)) (hr : ∀ r, r < 48 → r / 8 ≤ p ∨ X → T 0 r = S 0 r ∧ T 2 r = S 2 r) : okFr T t k L X := by
  obtain ⟨r, a, z, a1, a2, a3, a4, a5, a6, a7, a8⟩ := h
  have h9 := hr r a1 (a8.elim (fun h => Or.inl (by omega)) (fun h => Or.inr h.1))
  exact ⟨r, a, z, a1, h12.trans a2, h9.1.trans a3, a4, h9.2.trans a5, h14.trans a6, a7, a8⟩
theorem okFr.level {S : St} {t k L L' : Nat} {X : Prop} (h : okFr S t k L X) (hL : L ≤ L') : okFr S t k L' X := by
  obtain ⟨r, a, z, a1, a2, a3, a4, a5, a6, a7, a8⟩ := h
  exact ⟨r, a, z, a1, a2, a3, a4, a5, a6, a7, a8.elim (fun h => Or.inl (by omega)) (fun h => Or.inr h)⟩
theorem okFr.mono {S : St} {t k L : Nat} {X Y : Prop} (h : okFr S t k L X) (hY : X → Y) : okFr S t k L Y := by
  obtain ⟨r, a, z, a1, a2, a3, a4, a5, a6, a7, a8⟩ := h
  exact ⟨r, a, z, a1, a2, a3, a4, a5, a6, a7, a8.elim (fun h => Or.inl h) (fun h => Or.inr ⟨hY h.1, h.2⟩)⟩
theorem okT.congr {S T : St} {t nf p p' d : Nat} {X : Prop} (h : okT S t nf p d X) (h11 : T 11 t = S 11 t) (h6 : T 6 t = S 6 t) (h5 : T 5 t = S 5 t) (h12 : ∀ k, k < 6 → T 12 (6 * t + k) = S 12 (6 * t + k)) (h14 : ∀ k, k < 6 → T 14 (6 * t + k) = S 14 (6 * t + k)) (hr : ∀ r, r < 48 → r / 8 ≤ p ∨ X → T 0 r = S 0 r ∧ T 2 r = S 2 r) (hp : p ≤ p') : okT T t nf p' d X := by
  obtain ⟨L, mf, a1, a2, a3, a4, a5, a6, a7, a8⟩ := h
  exact ⟨L, mf, a1, h11.trans a2, by omega, h6.trans a4, a5, h5.trans a6, fun k hk => (a7 k hk).congr a3 (h12 k (by omega)) (h14 k (by omega)) (fun r hr1 hr2 => hr r hr1 (hr2.elim Or.inl (fun z => Or.inr z.1))), fun hd => (a8 hd).elim (fun r0 h9 => ⟨r0, h9.1, (h12 0 (by decide)).trans h9.2.1, h9.2.2⟩)⟩
theorem okT.mono {S : St} {t nf p d : Nat} {X Y : Prop} (h : okT S t nf p d X) (hY : X → Y) : okT S t nf p d Y := by
  obtain ⟨L, mf, a1, a2, a3, a4, a5, a6, a7, a8⟩ := h
  exact ⟨L, mf, a1, a2, a3, a4, a5, a6, fun k hk => (a7 k hk).mono (fun z => ⟨hY z.1, z.2⟩), a8⟩
theorem WF.mono {S : St} {nf p nt : Nat} {X Y : Nat → Prop} (h : WF S nf p nt X) (hY : ∀ t, X t → Y t) : WF S nf p nt Y :=
  ⟨h.1, fun t ht => (h.2.1 t ht).elim (fun d h9 => ⟨d, h9.mono (hY t)⟩), h.2.2⟩
/-- the rows of bodies -/
theorem bRow_ok {S : St} {nf p nt f L : Nat} (h : WB S nf p nt) (hf : f < nf) (hL : L ≤ 5) : bRow S f L < 48 ∧ S 0 (bRow S f L) = 1 ∧ bRow S f L / 8 ≤ L ∧ bRow S f L % 8 = f := by
  have hn := h.1
  induction L with
  | zero =>
    simp only [bRow]
    exact ⟨by omega, (h.2.2.2.2.2.2.2.2.1 f (by omega)).mpr hf, by omega, by omega⟩
  | succ n ih =>
    have ih := ih (by omega)
    simp only [bRow]
    split
    · rename_i h9
      exact ⟨by omega, (h.2.2.2.2.2.2.2.1 _ (by omega)).elim (fun z => absurd z h9) id, by omega, by omega⟩
    · exact ⟨ih.1, ih.2.1, by omega, ih.2.2.2⟩
/-- what the task t alone has changed -/
def offT (S T : St) (t : Nat) : Prop := ∀ k j, (k ≤ 6 ∨ 16 ≤ k ∨ (7 ≤ k ∧ k ≤ 11 ∧ j ≠ t) ∨ (12 ≤ k ∧ k < 16 ∧ (j < 6 * t ∨ 6 * t + 6 ≤ j))) → T k j = S k j
theorem offT.rf {S : St} {t : Nat} : offT S S t := fun _ _ _ => rfl
theorem offT.put {S T : St} {t k j : Nat} {v : Int32} (h : offT S T t) (hk : (7 ≤ k ∧ k ≤ 11 ∧ j = t) ∨ (12 ≤ k ∧ k < 16 ∧ 6 * t ≤ j ∧ j < 6 * t + 6)) : offT S (sp T k j v) t := fun k' j' h9 => by
  have h8 : ¬ (k' = k ∧ j' = j) := fun z => by omega
  rw [show sp T k j v k' j' = T k' j' from if_neg h8]
  exact h k' j' h9
theorem offT.row {S T : St} {t k : Nat} (h : offT S T t) (hk : k ≤ 6 ∨ 16 ≤ k) : T k = S k := by
  funext j
  exact h k j (by omega)
theorem offT.WB {S T : St} {t nf p nt : Nat} (h : offT S T t) (hb : WB S nf p nt) : WB T nf p nt :=
  hb.congr (h.row (by omega)) (h.row (by omega)) (h.row (by omega)) (h.row (by omega)) (h 16 1 (by omega)) (h 16 3 (by omega)) (h 16 4 (by omega)) (h 16 5 (by omega))
theorem offT.idle {S T : St} {t u : Nat} (h : offT S T t) (hu : u ≠ t) (hb : idle S u) : idle T u :=
  ⟨(h 11 u (by omega)).trans hb.1, (h 7 u (by omega)).trans hb.2.1, (h 8 u (by omega)).trans hb.2.2.1, (h 9 u (by omega)).trans hb.2.2.2.1, (h 10 u (by omega)).trans hb.2.2.2.2⟩
theorem offT.ok {S T : St} {t u nf p d : Nat} {X : Prop} (h : offT S T t) (hu : u ≠ t) (hb : okT S u nf p d X) : okT T u nf p d X :=
  hb.congr (h 11 u (by omega)) (h 6 u (by omega)) (h 5 u (by omega)) (fun k hk => h 12 _ (by omega)) (fun k hk => h 14 _ (by omega)) (fun r _ _ => ⟨h 0 r (by omega), h 2 r (by omega)⟩) (Nat.le_refl _)
theorem offT.WF {S T : St} {t nf p nt : Nat} {X Y : Nat → Prop} (h : offT S T t) (hw : WF S nf p nt X) (ht : t < nt) (hY : ∀ u, u ≠ t → X u → Y u) (hk : okTask T t nf p (Y t)) : WF T nf p nt Y := by
  refine ⟨h.WB hw.1, fun u hu => ?_, fun u hu h4 => h.idle (by omega) (hw.2.2 u hu h4)⟩
  by_cases hut : u = t
  · subst hut
    exact hk
  · obtain ⟨d, h9⟩ := hw.2.1 u hu
    exact ⟨d, (h.ok hut h9).mono (hY u hut)⟩
theorem okT.off {S T : St} {t nf p d : Nat} {X : Prop} (hb : okT S t nf p d X) (h : offT S T t) (h11 : T 11 t = S 11 t) (h12 : T 12 = S 12) (h14 : T 14 = S 14) : okT T t nf p d X :=
  hb.congr h11 (h 6 t (by omega)) (h 5 t (by omega)) (fun k hk => by rw [h12]) (fun k hk => by rw [h14]) (fun r _ _ => ⟨h 0 r (by omega), h 2 r (by omega)⟩) (Nat.le_refl _)
theorem okRow.z {S : St} {nf r z : Nat} (h : okRow S nf r) (hz : S 2 r = nI z) (hz12 : z ≤ 12) : ∀ a, a < z → okOp S nf r a := by
  obtain ⟨z', h1, h2, h3⟩ := h
  have := (nI_eq (a := z') (b := z) (by omega) (by omega)).mp (h2.symm.trans hz)
  subst this
  exact h3
/-- a frame more -/
theorem mEnter_off {S : St} {t f d : Nat} (hd : S 11 t = nI d) (hd6 : d ≤ 6) : offT S (mEnter S t f) t := by
  unfold mEnter
  split
  · exact offT.rf
  · rename_i h9
    have h8 : d ≠ 6 := fun z => h9 (by rw [hd, z]; rfl)
    rw [hd, tn_nI (by omega)]
    exact ((((offT.rf.put (by omega)).put (by omega)).put (by omega)).put (by omega)).put (by omega)
theorem mEnter_ok {S : St} {t nf p nt d f : Nat} (hb : WB S nf p nt) (hk : okT S t nf p d False) (hf : f < nf) (h0 : d = 0 → S 5 t = nI f) : okTask (mEnter S t f) t nf p False := by
  obtain ⟨L, mf, a1, a2, a3, a4, a5, a6, a7, a8⟩ := hk
  have hn := hb.1
  have hp := hb.2.1
  by_cases hd : d = 6
  · subst hd
    rw [mEnter_6 a2]
    exact ⟨5, L, mf, a1, a2, a3, a4, a5, a6, a7, a8⟩
  · rw [mEnter_go a2 (by omega) a4 (by omega)]
    obtain ⟨b1, b2, b3, b4⟩ := bRow_ok (L := L) hb hf (by omega)
    obtain ⟨r, hr⟩ : ∃ r, r = bRow S f L := ⟨_, rfl⟩
    rw [← hr] at b1 b2 b3 b4 ⊢
    refine ⟨d, L, mf, by omega, sp_s, a3, ?_, a5, ?_, fun k hk => ?_, fun _ => ?_⟩
    · rw [sp_k (by decide), sp_k (by decide), sp_k (by decide), sp_k (by decide), sp_k (by decide)]; exact a4
    · rw [sp_k (by decide), sp_k (by decide), sp_k (by decide), sp_k (by decide), sp_k (by decide)]; exact a6
    · by_cases hkd : k = d
      · subst hkd
        obtain ⟨_, z, hz12, hz, _⟩ := hb.2.2.2.2.2.2.2.2.2 r (by omega) b2
        refine ⟨r, 0, z, b1, ?_, ?_, hz12, ?_, ?_, by omega, Or.inl b3⟩
        · rw [sp_k (by decide), sp_k (by decide), sp_k (by decide), sp_k (by decide), sp_s]
        · rw [sp_k (by decide), sp_k (by decide), sp_k (by decide), sp_k (by decide), sp_k (by decide)]; exact b2
        · rw [sp_k (by decide), sp_k (by decide), sp_k (by decide), sp_k (by decide), sp_k (by decide)]; exact hz
        · rw [sp_k (by decide), sp_k (by decide), sp_s]; rfl
      · refine ((a7 k (by omega)).mono (fun z => absurd z.1 (by simp))).congr (p := 5) (by omega) ?_ ?_ (fun r9 _ _ => ⟨?_, ?_⟩)
        · rw [sp_k (by decide), sp_k (by decide), sp_k (by decide), sp_k (by decide), sp_j (by omega)]
        · rw [sp_k (by decide), sp_k (by decide), sp_j (by omega), sp_k (by decide), sp_k (by decide)]
        · rw [sp_k (by decide), sp_k (by decide), sp_k (by decide), sp_k (by decide), sp_k (by decide)]
        · rw [sp_k (by decide), sp_k (by decide), sp_k (by decide), sp_k (by decide), sp_k (by decide)]
    · by_cases hd0 : d = 0
      · subst hd0
        refine ⟨r, b1, ?_, ?_⟩
        · rw [sp_k (by decide), sp_k (by decide), sp_k (by decide), sp_k (by decide)]; exact sp_s
        · rw [b4]; exact (nI_eq (a := f) (b := mf) (by omega) (by omega)).mp ((h0 rfl).symm.trans a6)
      · obtain ⟨r0, c1, c2, c3⟩ := a8 (by omega)
        refine ⟨r0, c1, ?_, c3⟩
        rw [sp_k (by decide), sp_k (by decide), sp_k (by decide), sp_k (by decide), sp_j (by omega)]; exact c2
/-- a step of a task keeps what holds, and mends a frame that stood at its body's end -/
theorem mOnce_ok {S : St} {nf p nt t : Nat} {X : Nat → Prop} (hw : WF S nf p nt X) (ht : t < nt) (hX : ∀ u, u ≠ t → ¬ X u) : WF (mOnce S t) nf p nt noX := by
  have hb := hw.1
  have hn := hb.1
  have hp := hb.2.1
  obtain ⟨d, L, mf, a1, a2, a3, a4, a5, a6, a7, a8⟩ := hw.2.1 t ht
  obtain ⟨r0, c1, c2, c3⟩ := a8 (by omega)
  obtain ⟨r, a, z, b1, b2, b3, b4, b5, b6, b7, b8⟩ := a7 d (by omega)
  by_cases he : nI a = S 2 r
  · rw [mOnce_ret a2 (by omega) b2 b1 b6 he a6 (by omega)]
    have hz : a = z := (nI_eq (by omega) (by omega)).mp (he.trans b5)
    by_cases hd0 : d = 0
    · subst hd0
      rw [if_pos (by rfl)]
      have o1 : offT S (sp (sp S 8 t (S 8 t + 1)) 11 t (nI 0)) t := (offT.rf.put (by omega)).put (by omega)
      have k1 : okT (sp (sp S 8 t (S 8 t + 1)) 11 t (nI 0)) t nf p 0 False := ⟨L, mf, by omega, sp_s, a3, (o1 6 t (by omega)).trans a4, a5, (o1 5 t (by omega)).trans a6, fun k hk => by omega, fun z => by omega⟩
      have o2 := mEnter_off (f := mf) (t := t) (S := sp (sp S 8 t (S 8 t + 1)) 11 t (nI 0)) sp_s (by omega)
      exact offT.WF (fun k j h9 => (o2 k j h9).trans (o1 k j h9)) hw ht (fun u hu h9 => absurd h9 (hX u hu)) (mEnter_ok (o1.WB hb) k1 a5 (fun _ => (o1 5 t (by omega)).trans a6))
    · rw [if_neg (show ¬ nI d = (0 : Int32) from fun z9 => hd0 ((nI_eq (a := d) (b := 0) (by omega) (by omega)).mp z9))]
      have o1 : offT S (sp (sp S 8 t (S 8 t + 1)) 11 t (nI d)) t := (offT.rf.put (by omega)).put (by omega)
      refine o1.WF hw ht (fun u hu h9 => absurd h9 (hX u hu)) ⟨d - 1, L, mf, by omega, by rw [sp_s, show d - 1 + 1 = d by omega], a3, (o1 6 t (by omega)).trans a4, a5, (o1 5 t (by omega)).trans a6, fun k hk => ?_, fun _ => ⟨r0, c1, ?_, c3⟩⟩
      · refine ((a7 k (by omega)).mono (fun z9 => by omega)).congr (p := 5) (by omega) ?_ ?_ (fun r9 _ _ => ⟨o1 0 _ (by omega), o1 2 _ (by omega)⟩)
        · rw [sp_k (by decide), sp_k (by decide)]
        · rw [sp_k (by decide), sp_k (by decide)]
      · rw [sp_k (by decide), sp_k (by decide)]; exact c2
  · rw [mOnce_op a2 (by omega) b2 b1 b6 (by omega) he]
    have hlt : a < z := by
      rcases Nat.lt_or_ge a z with h9 | h9
      · exact h9
      · exact absurd (show nI a = S 2 r by rw [b5, show a = z by omega]) he
    have hop : okOp S nf r a := (hb.2.2.2.2.2.2.2.2.2 r (by omega) b3).2.z b5 b4 a hlt
    obtain ⟨q1, q2, q3⟩ := hop
    have o1 : offT S (sp (sp S 8 t (S 8 t + 1)) 14 (6 * t + d) (nI (a + 1))) t := (offT.rf.put (by omega)).put (by omega)
    obtain ⟨T, hT⟩ : ∃ T, T = sp (sp S 8 t (S 8 t + 1)) 14 (6 * t + d) (nI (a + 1)) := ⟨_, rfl⟩
    have kT : ∀ v : Nat, v ≤ z → okT (sp T 14 (6 * t + d) (nI v)) t nf p (d + 1) False := by
      intro v hv
      have o3 : offT S (sp T 14 (6 * t + d) (nI v)) t := by rw [hT]; exact o1.put (by omega)
      refine ⟨L, mf, a1, ?_, a3, (o3 6 t (by omega)).trans a4, a5, (o3 5 t (by omega)).trans a6, fun k hk => ?_, fun _ => ⟨r0, c1, ?_, c3⟩⟩
      · rw [hT, sp_k (by decide), sp_k (by decide), sp_k (by decide)]; exact a2
      · by_cases hkd : k = d
        · subst hkd
          refine ⟨r, v, z, b1, ?_, (o3 0 r (by omega)).trans b3, b4, (o3 2 r (by omega)).trans b5, sp_s, hv, b8.elim Or.inl (fun z9 => by omega)⟩
          rw [hT, sp_k (by decide), sp_k (by decide), sp_k (by decide)]; exact b2
        · refine ((a7 k (by omega)).mono (fun z9 => by omega)).congr (p := 5) (by omega) ?_ ?_ (fun r9 _ _ => ⟨o3 0 _ (by omega), o3 2 _ (by omega)⟩)
          · rw [hT, sp_k (by decide), sp_k (by decide), sp_k (by decide)]
          · rw [hT, sp_j (by omega), sp_j (by omega), sp_k (by decide)]
      · rw [hT, sp_k (by decide), sp_k (by decide), sp_k (by decide)]; exact c2
    have kT1 : okT T t nf p (d + 1) False := by
      have h9 := kT (a + 1) (by omega)
      rw [show sp T 14 (6 * t + d) (nI (a + 1)) = T by rw [hT, sp_sp]] at h9
      exact h9
    rw [← hT] at o1 ⊢
    have fin : ∀ U : St, offT S U t → okT U t nf p (d + 1) False → WF U nf p nt noX := fun U o k => o.WF hw ht (fun u hu h9 => absurd h9 (hX u hu)) ⟨d, k⟩
    have ent : ∀ j : Nat, j < nf → WF (mEnter T t j) nf p nt noX := fun j hj => by
      have h11 : T 11 t = nI (d + 1) := by rw [hT, sp_k (by decide), sp_k (by decide)]; exact a2
      exact offT.WF (fun k j' h9 => (mEnter_off h11 a1 k j' h9).trans (o1 k j' h9)) hw ht (fun u hu h9 => absurd h9 (hX u hu)) (mEnter_ok (o1.WB hb) kT1 hj (fun z9 => by omega))
    rcases q1 with k9 | k9 | k9 | k9 | k9 | k9
    · rw [k9, mDo_0]
      exact fin _ (o1.put (by omega)) (kT1.off (offT.rf.put (by omega)) (sp_k (by decide)) (sp_off (by decide)) (sp_off (by decide)))
    · obtain ⟨j, hj, hje⟩ := q2 (Or.inl k9)
      rw [k9, mDo_1, hje, tn_nI (by omega)]
      exact ent j hj
    · rw [k9, mDo_2]
      exact fin _ o1 kT1
    · obtain ⟨j, hj, hje⟩ := q3 k9
      by_cases h3 : T 15 (6 * t + d) < 3
      · rw [k9, mDo_3t h3, hje]
        refine fin _ ((o1.put (by omega)).put (by omega)) ?_
        have h9 := kT j (by omega)
        refine h9.off (T := sp (sp T 15 (6 * t + d) (T 15 (6 * t + d) + 1)) 14 (6 * t + d) (nI j)) (fun k j' hh => ?_) ?_ ?_ ?_
        · by_cases hk : k = 14 ∧ j' = 6 * t + d
          · omega
          · rw [show sp T 14 (6 * t + d) (nI j) k j' = T k j' from if_neg hk, show sp (sp T 15 (6 * t + d) (T 15 (6 * t + d) + 1)) 14 (6 * t + d) (nI j) k j' = sp T 15 (6 * t + d) (T 15 (6 * t + d) + 1) k j' from if_neg hk]
            exact if_neg (fun z9 => by omega)
        · rw [sp_k (by decide), sp_k (by decide), sp_k (by decide)]
        · rw [sp_off (by decide), sp_off (by decide), sp_off (by decide)]
        · rw [sp_row, sp_row, sp_off (by decide)]
      · rw [k9, mDo_3f h3]
        exact fin _ o1 kT1
    · rw [k9, mDo_4]
      exact fin _ ((o1.put (by omega)).put (by omega)) ((kT1.off (offT.rf.put (by omega)) (sp_k (by decide)) (sp_off (by decide)) (sp_off (by decide))).off (offT.rf.put (by omega)) (sp_k (by decide)) (sp_off (by decide)) (sp_off (by decide)))
    · obtain ⟨j, hj, hje⟩ := q2 (Or.inr k9)
      by_cases h5 : mEven (T 7 t)
      · rw [k9, mDo_5t h5, hje, tn_nI (by omega)]
        exact ent j hj
      · rw [k9, mDo_5f h5]
        exact fin _ o1 kT1
/-- the end of a transition -/
theorem mSettle_ok {S : St} {nf p nt q : Nat} {X : Nat → Prop} (hw : WF S nf p nt X) (hq : S 16 4 = nI q) (hq5 : q ≤ 5) : ∃ p', WF (mSettle S) nf p' nt X := by
  have hb := hw.1
  obtain ⟨h1, h2, h3, h4, h5, h6, h7, h8, h9, h10⟩ := hb
  by_cases ha : ∀ j, j < nt → S 6 j = S 16 4
  · rw [mSettle_t h6 h3 ha, hq]
    refine ⟨q, ⟨h1, hq5, h3, ?_, ?_, ?_, Or.inl sp_s, ?_, ?_, ?_⟩, fun t ht => ?_, fun t ht h4' => ?_⟩
    · rw [sp_j (by decide), sp_j (by decide)]; exact h4
    · rw [sp_j (by decide), sp_s]
    · rw [sp_j (by decide), sp_j (by decide)]; exact h6
    · intro j hj; rw [sp_k (by decide), sp_k (by decide)]; exact h8 j hj
    · intro j hj; rw [sp_k (by decide), sp_k (by decide)]; exact h9 j hj
    · intro j hj hh
      rw [sp_k (by decide), sp_k (by decide)] at hh
      obtain ⟨g1, g2⟩ := h10 j hj hh
      refine ⟨g1, ?_⟩
      unfold okRow okOp at g2 ⊢
      simp only [sp_k (show (2 : Nat) ≠ 16 by decide), sp_k (show (3 : Nat) ≠ 16 by decide), sp_k (show (4 : Nat) ≠ 16 by decide)]
      exact g2
    · obtain ⟨d, L, mf, a1, a2, a3, a4, a5, a6, a7, a8⟩ := hw.2.1 t ht
      have hLq : L = q := (nI_eq (by omega) (by omega)).mp (a4.symm.trans ((ha t ht).trans hq))
      exact ⟨d, (show okT S t nf q (d + 1) (X t) from ⟨L, mf, a1, a2, by omega, a4, a5, a6, a7, a8⟩).congr (by rw [sp_k (by decide), sp_k (by decide)]) (by rw [sp_k (by decide), sp_k (by decide)]) (by rw [sp_k (by decide), sp_k (by decide)]) (fun k _ => by rw [sp_k (by decide), sp_k (by decide)]) (fun k _ => by rw [sp_k (by decide), sp_k (by decide)]) (fun r _ _ => ⟨by rw [sp_k (by decide), sp_k (by decide)], by rw [sp_k (by decide), sp_k (by decide)]⟩) (Nat.le_refl _)⟩
    · have h := hw.2.2 t ht h4'
      unfold idle
      simp only [sp_k (show (11 : Nat) ≠ 16 by decide), sp_k (show (7 : Nat) ≠ 16 by decide), sp_k (show (8 : Nat) ≠ 16 by decide), sp_k (show (9 : Nat) ≠ 16 by decide), sp_k (show (10 : Nat) ≠ 16 by decide)]
      exact h
  · refine ⟨p, ?_⟩
    have hne : ∃ j, j < nt ∧ ¬ S 6 j = S 16 4 := Classical.byContradiction (fun z => ha (fun j hj => Classical.byContradiction (fun y => z ⟨j, hj, y⟩)))
    rw [mSettle_f h6 h3 hne]
    exact hw
/-- a task goes over -/
theorem mGoes_ok {S : St} {nf p nt t : Nat} (hw : WF S nf p nt noX) (ht : t < nt) (hg : mGoes S t) : ∃ p', WF (mSettle (sp S 6 t (S 16 4))) nf p' nt (fun u => u = t) := by
  have hb := hw.1
  obtain ⟨h1, h2, h3, h4, h5, h6, h7, h8, h9, h10⟩ := hb
  obtain ⟨d, L, mf, a1, a2, a3, a4, a5, a6, a7, a8⟩ := hw.2.1 t ht
  obtain ⟨r, a, z, b1, b2, b3, b4, b5, b6, b7, b8⟩ := a7 d (by omega)
  have hg' := (mGoes_iff a2 (by omega) b2 b1 b6 (by omega)).mp hg
  obtain ⟨g1, g2, g3⟩ := hg'
  have hq : ∃ q, q ≤ 5 ∧ S 16 4 = nI q ∧ 1 ≤ p ∧ (q = p ∨ q = p - 1) := by
    rcases h7 with h7 | ⟨h7, h7' | h7'⟩
    · exact absurd (by rw [h7]; decide) g1
    · exact ⟨p, h2, h7', h7, Or.inl rfl⟩
    · exact ⟨p - 1, by omega, h7', h7, Or.inr rfl⟩
  obtain ⟨q, q5, hq, hp1, hqp⟩ := hq
  have hqle : q ≤ p := hqp.elim (fun h => Nat.le_of_eq h) (fun h => Nat.le_trans (Nat.le_of_eq h) (Nat.sub_le p 1))
  have w1 : WF (sp S 6 t (S 16 4)) nf p nt (fun u => u = t) := by
    refine ⟨hw.1.congr (sp_off (by decide)) (sp_off (by decide)) (sp_off (by decide)) (sp_off (by decide)) (sp_k (by decide)) (sp_k (by decide)) (sp_k (by decide)) (sp_k (by decide)), fun u hu => ?_, fun u hu h4' => ?_⟩
    · by_cases hut : u = t
      · subst hut
        refine ⟨d, q, mf, a1, (sp_k (by decide)).trans a2, hqle, sp_s.trans hq, a5, (sp_k (by decide)).trans a6, fun k hk => ?_, fun hd => (a8 hd).elim (fun r0 h9 => ⟨r0, h9.1, (sp_k (by decide)).trans h9.2.1, h9.2.2⟩)⟩
        obtain ⟨rk, ak, zk, e1, e2, e3, e4, e5, e6, e7, e8⟩ := a7 k hk
        refine ⟨rk, ak, zk, e1, (sp_k (by decide)).trans e2, (sp_k (by decide)).trans e3, e4, (sp_k (by decide)).trans e5, (sp_k (by decide)).trans e6, e7, ?_⟩
        have e9 : rk / 8 ≤ L := e8.elim id (fun z9 => absurd z9.1.1 id)
        rcases hqp with hqp | hqp
        · exact Or.inl (by omega)
        · rcases g3 with g3 | g3
          · have hd1 : d + 1 = 1 := (nI_eq (a := d + 1) (b := 1) (by omega) (by decide)).mp g3.2
            have hkd : k = d := by omega
            subst hkd
            have i1 : rk = r := (nI_eq (by omega) (by omega)).mp (e2.symm.trans b2)
            subst i1
            have i2 : ak = a := (nI_eq (by omega) (by omega)).mp (e6.symm.trans b6)
            have i3 : a = zk := (nI_eq (by omega) (by omega)).mp (g3.1.trans e5)
            exact Or.inr ⟨⟨rfl, hd1⟩, by omega⟩
          · have hc := (mClear_iff a2 (by omega) h5 h2).mp g3.2.2 k hk
            rw [e2, tn_nI (by omega)] at hc
            refine Or.inl ?_
            have hne : rk ≠ 8 * p + rk % 8 := fun z9 => by
              rw [← z9, e3] at hc
              exact absurd hc (by decide)
            omega
      · obtain ⟨du, hh⟩ := hw.2.1 u hu
        exact ⟨du, (hh.mono (fun z9 => absurd z9 id)).congr (sp_k (by decide)) (sp_j hut) (sp_k (by decide)) (fun k _ => sp_k (by decide)) (fun k _ => sp_k (by decide)) (fun r _ _ => ⟨sp_k (by decide), sp_k (by decide)⟩) (Nat.le_refl _)⟩
    · exact ⟨(sp_k (by decide)).trans (hw.2.2 u hu h4').1, (sp_k (by decide)).trans (hw.2.2 u hu h4').2.1, (sp_k (by decide)).trans (hw.2.2 u hu h4').2.2.1, (sp_k (by decide)).trans (hw.2.2 u hu h4').2.2.2.1, (sp_k (by decide)).trans (hw.2.2 u hu h4').2.2.2.2⟩
  exact mSettle_ok w1 ((sp_k (by decide)).trans hq) q5
theorem mStep1_ok {S : St} {nf p nt t : Nat} (hw : WF S nf p nt noX) (ht : t < nt) (hg : mGoes S t) : ∃ p', WF (mOnce (mSettle (sp S 6 t (S 16 4))) t) nf p' nt noX := by
  obtain ⟨p', h⟩ := mGoes_ok hw ht hg
  exact ⟨p', mOnce_ok h ht (fun u hu => hu)⟩
theorem WF.num {S : St} {nf p nt : Nat} {X : Nat → Prop} (hw : WF S nf p nt X) {j : Nat} (hj : j = 0 ∨ j = 2) (v : Int32) : WF (sp S 16 j v) nf p nt X := by
  have k1 : ∀ {k i : Nat}, k ≠ 16 → sp S 16 j v k i = S k i := fun hk => sp_k hk
  refine ⟨hw.1.congr (sp_off (by decide)) (sp_off (by decide)) (sp_off (by decide)) (sp_off (by decide)) (sp_j (by omega)) (sp_j (by omega)) (sp_j (by omega)) (sp_j (by omega)), fun u hu => ?_, fun u hu h4 => ?_⟩
  · obtain ⟨d, hh⟩ := hw.2.1 u hu
    exact ⟨d, hh.congr (k1 (by decide)) (k1 (by decide)) (k1 (by decide)) (fun _ _ => k1 (by decide)) (fun _ _ => k1 (by decide)) (fun _ _ _ => ⟨k1 (by decide), k1 (by decide)⟩) (Nat.le_refl _)⟩
  · have h := hw.2.2 u hu h4
    exact ⟨(k1 (by decide)).trans h.1, (k1 (by decide)).trans h.2.1, (k1 (by decide)).trans h.2.2.1, (k1 (by decide)).trans h.2.2.2.1, (k1 (by decide)).trans h.2.2.2.2⟩
theorem mRun_ok {nf nt t : Nat} (ht : t < nt) (n : Nat) : ∀ (k : Nat) (S : St) (w : Int32) (p : Nat), WF S nf p nt noX → ∃ p', WF (mRun t n k S w).1 nf p' nt noX := by
  induction n with
  | zero => intro k S w p hw; exact ⟨p, hw⟩
  | succ n ih =>
    intro k S w p hw
    simp only [mRun]
    split
    · rename_i hg
      obtain ⟨p', h⟩ := mStep1_ok hw ht hg
      exact ih _ _ _ p' h
    · exact ih _ _ _ p (mOnce_ok hw ht (fun u _ z => z))
