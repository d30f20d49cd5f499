/-! worlds side by side -/
def un (h1 h2 : pw_H) : pw_H := fun q => match h1 q with
  | some e => some e
  | none => h2 q
theorem un_l {h1 h2 : pw_H} {q : Nat} {e : va_E} (f : h1 q = some e) : un h1 h2 q = some e := by unfold un; rw [f]
theorem un_n {h1 h2 : pw_H} {q : Nat} (f : h1 q = none) : un h1 h2 q = h2 q := by unfold un; rw [f]
theorem un_r {h1 h2 : pw_H} (d : djt h1 h2) {q : Nat} {e : va_E} (f : h2 q = some e) : un h1 h2 q = some e := (un_n (d.symm q e f)).trans f
theorem un_o {h1 h2 : pw_H} {q : Nat} {e : va_E} (f : un h1 h2 q = some e) : h1 q = some e ∨ h2 q = some e := by
  cases h9 : h1 q with
  | none => rw [un_n h9] at f; exact Or.inr f
  | some e1 => rw [un_l h9] at f; exact Or.inl f
theorem un_djt {h1 h2 h3 : pw_H} (d1 : djt h1 h3) (d2 : djt h2 h3) : djt (un h1 h2) h3 := fun q e he => (un_o he).elim (d1 q e) (d2 q e)
theorem djt_l {h1 h2 h3 : pw_H} (d : djt (un h1 h2) h3) : djt h1 h3 := fun q e he => d q e (un_l he)
theorem djt_r {h1 h2 h3 : pw_H} (d0 : djt h1 h2) (d : djt (un h1 h2) h3) : djt h2 h3 := fun q e he => d q e (un_r d0 he)
theorem vD_pair {ws : va_W} : (∀ (i j : Nat) (x y : Nat × va_E), ws[i]? = some x → ws[j]? = some y → x.1 = y.1 → i = j) ↔ ws.Pairwise (fun x y => x.1 ≠ y.1) := by
  rw [List.pairwise_iff_getElem]
  constructor
  · intro h i j hi hj hij e
    have := h i j _ _ (List.getElem?_eq_getElem hi) (List.getElem?_eq_getElem hj) e
    omega
  · intro h i j x y hx hy e
    obtain ⟨hi, rfl⟩ := List.getElem?_eq_some_iff.mp hx
    obtain ⟨hj, rfl⟩ := List.getElem?_eq_some_iff.mp hy
    rcases Nat.lt_trichotomy i j with h1 | h1 | h1
    · exact absurd e (h i j hi hj h1)
    · exact h1
    · exact absurd e.symm (h j i hj hi h1)
section UN
variable {D : va_G} {cl : List vw_C} {A : Nat → Prop} {h h1 h2 : pw_H} {H : Heap}
theorem pw_mem : pw D cl A h H ↔ ∃ ws : va_W, (∀ q, q ∈ ws → va_at D cl q H) ∧ ws.Pairwise (fun x y => x.1 ≠ y.1) ∧ (∀ q, q ∈ ws → A q.1) ∧ ∀ (a : Nat) (e : va_E), h a = some e ↔ (a, e) ∈ ws := by
  constructor
  · rintro ⟨ws, P, hD, hl, hr⟩
    refine ⟨ws, fun q hq => ?_, vD_pair.mp hD.1, fun q hq => ?_, fun a e => ⟨fun f => ?_, fun f => ?_⟩⟩
    · obtain ⟨k, hk⟩ := List.mem_iff_getElem?.mp hq
      exact P k q hk
    · obtain ⟨k, hk⟩ := List.mem_iff_getElem?.mp hq
      exact hD.2 k q hk
    · exact List.mem_iff_getElem?.mpr (hl a e f)
    · obtain ⟨k, hk⟩ := List.mem_iff_getElem?.mp f
      exact hr k _ hk
  · rintro ⟨ws, P, hp, hA, hm⟩
    exact ⟨ws, fun k q hk => P q (List.mem_iff_getElem?.mpr ⟨k, hk⟩), ⟨vD_pair.mpr hp, fun k q hk => hA q (List.mem_iff_getElem?.mpr ⟨k, hk⟩)⟩, fun a e f => List.mem_iff_getElem?.mp ((hm a e).mp f), fun k q hk => (hm q.1 q.2).mpr (List.mem_iff_getElem?.mpr ⟨k, hk⟩)⟩
theorem pw.sub (hP : pw D cl A h H) (hs : ∀ (q : Nat) (e : va_E), h1 q = some e → h q = some e) : pw D cl A h1 H := by
  obtain ⟨ws, P, hp, hA, hm⟩ := pw_mem.mp hP
  refine pw_mem.mpr ⟨ws.filter (fun q => (h1 q.1).isSome), fun q hq => P q (List.mem_filter.mp hq).1, hp.filter _, fun q hq => hA q (List.mem_filter.mp hq).1, fun a e => ⟨fun f => ?_, fun f => ?_⟩⟩
  · exact List.mem_filter.mpr ⟨(hm a e).mp (hs a e f), by rw [f]; rfl⟩
  · obtain ⟨f1, f2⟩ := List.mem_filter.mp f
    obtain ⟨e1, he1⟩ := Option.isSome_iff_exists.mp f2
    have h9 := (hm a e).mpr f1
    rw [hs a e1 he1] at h9
    cases h9
    exact he1
theorem pw.join (hP1 : pw D cl A h1 H) (hP2 : pw D cl A h2 H) (d : djt h1 h2) : pw D cl A (un h1 h2) H := by
  obtain ⟨w1, P1, p1, A1, m1⟩ := pw_mem.mp hP1
  obtain ⟨w2, P2, p2, A2, m2⟩ := pw_mem.mp hP2
  refine pw_mem.mpr ⟨w1 ++ w2, fun q hq => (List.mem_append.mp hq).elim (P1 q) (P2 q), List.pairwise_append.mpr ⟨p1, p2, fun a ha b hb z => ?_⟩, fun q hq => (List.mem_append.mp hq).elim (A1 q) (A2 q), fun a e => ⟨fun f => ?_, fun f => ?_⟩⟩
  · have f1 := (m1 a.1 a.2).mpr ha
    have f2 := (m2 b.1 b.2).mpr hb
    rw [z] at f1
    rw [d _ _ f1] at f2
    cases f2
  · exact List.mem_append.mpr ((un_o f).imp (m1 a e).mp (m2 a e).mp)
  · exact (List.mem_append.mp f).elim (fun z => un_l ((m1 a e).mpr z)) (fun z => un_r d ((m2 a e).mpr z))
end UN
/-- the law's one long -/
abbrev oM (c out : Nat) (v : Nat → Int64) : pw_H := pu (fun _ => none) out (.inl (c, 1, .inr (.inl v)))
theorem oM_s {c out : Nat} {v : Nat → Int64} : oM c out v out = some (.inl (c, 1, .inr (.inl v))) := pu_s
theorem oM_n {c out q : Nat} {v : Nat → Int64} (h : q ≠ out) : oM c out v q = none := pu_n h
theorem oM_djt {u : pw_H} {c out : Nat} {v w : Nat → Int64} (d : djt u (oM c out v)) : djt u (oM c out w) := fun q e he => by
  by_cases hq : q = out
  · subst hq
    have h9 := d q e he
    rw [oM_s] at h9
    cases h9
  · exact oM_n hq
theorem oM_pu {u : pw_H} {c out : Nat} {v w : Nat → Int64} (d : djt u (oM c out v)) : pu (un u (oM c out v)) out (.inl (c, 1, .inr (.inl w))) = un u (oM c out w) := by
  funext q
  by_cases hq : q = out
  · subst hq
    have h9 : u q = none := d.symm q _ oM_s
    rw [pu_s, un_n h9, oM_s]
  · rw [pu_n hq]
    cases h9 : u q with
    | none => rw [un_n h9, un_n h9, oM_n hq, oM_n hq]
    | some e => rw [un_l h9, un_l h9]
theorem SimE.at {cs : Nat → Nat} {h : pw_H} {x : Nat} {S : St} (hE : SimE cs h x S) : ∃ fs, h x = some (.inr (6, fs)) := by
  obtain ⟨g, gr, nf, p, nt, hs, -⟩ := hE
  exact ⟨_, hs.1⟩
/-! what a call leaves in thrown -/
theorem th_Function {S : St} {sg : Int32} : stFunction S sg 16 0 = thFunction S sg := by
  unfold stFunction
  split
  · rename_i h; rw [sp_j (by decide), sp_k (by decide), sp_k (by decide), sp_k (by decide), sp_s, h]
  · exact sp_s
theorem th_Operation {S : St} {fn dr kd n : Int32} : stOperation S fn dr kd n 16 0 = thOperation S fn dr kd n := by
  unfold stOperation
  split
  · rename_i h; rw [sp_k (by decide), sp_k (by decide), sp_k (by decide), sp_s, h]
  · exact sp_s
theorem th_Name {S : St} {fn sg : Int32} : stName S fn sg 16 0 = thName S fn sg := by
  unfold stName
  split
  · rename_i h; rw [sp_j (by decide), sp_k (by decide), sp_k (by decide), sp_k (by decide), sp_s, h]
  · rename_i h
    rw [sp_s]
    unfold thName at h ⊢
    split
    · rename_i h1; rw [if_pos h1] at h; exact absurd rfl h
    · rfl
theorem th_Apply {S : St} : stApply S 16 0 = thApply S := by
  unfold stApply
  split
  · rename_i h; rw [mSettle_o (by decide) (by decide), sp_j (by decide), sp_j (by decide), sp_j (by decide), mClr_k (by decide), h]; unfold mMove; rw [if_neg (fun z => by rcases z.1 with z | z <;> exact absurd z (by decide)), if_neg (fun z => by rcases z.1 with z | z <;> exact absurd z (by decide)), sp_s]
  · rw [sp_j (by decide), mClr_k (by decide), sp_s]
theorem th_Turn {S : St} : stTurn S 16 0 = thTurn S := by
  unfold stTurn
  split
  · rename_i h; rw [mSettle_o (by decide) (by decide), sp_j (by decide), sp_s, h]
  · rename_i h
    rw [sp_s]
    unfold thTurn at h ⊢
    split
    · rename_i h1; rw [if_pos h1] at h; exact absurd rfl h
    · rfl
theorem th_Task {S : St} {fn : Int32} : stTask S fn 16 0 = thTask S fn := by
  unfold stTask
  split
  · rename_i h; rw [mEnter_o, sp_j (by decide), sp_k (by decide), sp_k (by decide), sp_s, h]
  · exact sp_s
theorem mRun_o {t n : Nat} : ∀ (k : Nat) (S : St) (w : Int32), (mRun t n k S w).1 16 0 = S 16 0 := by
  induction n with
  | zero => intro k S w; rfl
  | succ n ih =>
    intro k S w
    by_cases hg : mGoes S t
    · rw [mRun_t hg, ih, mOnce_o, mSettle_o (by decide) (by decide), sp_k (by decide)]
    · rw [mRun_f hg, ih, mOnce_o]
theorem th_Step {S : St} {tk mn : Int32} : stStep S tk mn 16 0 = thStep S tk mn := by
  unfold stStep
  split
  · rename_i h; rw [mRun_o, sp_s, h]
  · rename_i h
    rw [sp_s]
    unfold thStep at h ⊢
    split
    · rename_i h1; rw [if_pos h1] at h; exact absurd rfl h
    · rfl
