/-! things that are made: the addresses g change -/
def gset (g : Gh) (k i v : Nat) : Gh := fun k' i' => if k' = k ∧ i' = i then v else g k' i'
theorem gset_s {g : Gh} {k i v : Nat} : gset g k i v k i = v := if_pos ⟨rfl, rfl⟩
theorem gset_n {g : Gh} {k i v k' i' : Nat} (h : ¬ (k' = k ∧ i' = i)) : gset g k i v k' i' = g k' i' := if_neg h
/-- the addresses that thing i of kind k shows -/
def gsh (S : St) (nf p nt : Nat) (dp : Nat → Nat) (k i k' i' : Nat) : Prop := match k with
  | 0 => (k' = 1 ∨ k' = 2) ∧ i' = i
  | 3 => (k' = 4 ∨ k' = 5) ∧ i' = i
  | 4 => k' = 0 ∧ 8 * i ≤ i' ∧ i' < 8 * i + 8 ∧ S 0 i' = 1
  | 6 => k' = 7 ∧ i' = i
  | 7 => k' = 8 ∧ 6 * i ≤ i' ∧ i' < 6 * i + 6
  | 8 => k' = 0 ∧ i % 6 < dp (i / 6) ∧ i' = tn (S 12 i)
  | 9 => k' = 0 ∧ i' = i
  | 10 => k' = 11 ∧ i' = i
  | 11 => (i = 0 ∧ k' = 9 ∧ i' < nf) ∨ (i = 1 ∧ k' = 3 ∧ 1 ≤ i' ∧ i' ≤ p) ∨ (i ≠ 0 ∧ i ≠ 1 ∧ k' = 6 ∧ i' < nt)
  | _ => False
theorem ent_g {cs : Nat → Nat} {S : St} {nf p nt : Nat} {g g' : Gh} {gr : Nat → Prop} {dp : Nat → Nat} {k i : Nat} {e : va_E} (h : ∀ k' i', gsh S nf p nt dp k i k' i' → g' k' i' = g k' i') (he : ent cs S nf p nt g gr dp k i e) : ent cs S nf p nt g' gr dp k i e := by
  rcases (show k = 0 ∨ k = 1 ∨ k = 2 ∨ k = 3 ∨ k = 4 ∨ k = 5 ∨ k = 6 ∨ k = 7 ∨ k = 8 ∨ k = 9 ∨ k = 10 ∨ k = 11 by have := ent_k he; omega) with rfl | rfl | rfl | rfl | rfl | rfl | rfl | rfl | rfl | rfl | rfl | rfl <;> simp only [ent] at he ⊢
  · rw [h 1 i ⟨Or.inl rfl, rfl⟩, h 2 i ⟨Or.inr rfl, rfl⟩]; exact he
  · exact he
  · exact he
  · rw [h 4 i ⟨Or.inl rfl, rfl⟩, h 5 i ⟨Or.inr rfl, rfl⟩]; exact he
  · obtain ⟨q, e1, e2⟩ := he
    exact ⟨q, e1, fun f hf => ⟨fun z => by rw [h 0 _ ⟨rfl, by omega, by omega, z⟩]; exact (e2 f hf).1 z, (e2 f hf).2⟩⟩
  · exact he
  · rw [h 7 i ⟨rfl, rfl⟩]; exact he
  · obtain ⟨q, e1, e2⟩ := he
    exact ⟨q, e1, fun k hk => by rw [h 8 _ ⟨rfl, by omega, by omega⟩]; exact e2 k hk⟩
  · obtain ⟨fn, lv, bo, pl, rp, e1, e2⟩ := he
    exact ⟨fn, lv, bo, pl, rp, e1, fun z => by rw [h 0 _ ⟨rfl, z, rfl⟩]; exact e2 z⟩
  · rw [h 0 i ⟨rfl, rfl⟩]; exact he
  · rw [h 11 i ⟨rfl, rfl⟩]; exact he
  · obtain ⟨q, e1, e2⟩ := he
    refine ⟨q, e1, fun j hj => ?_⟩
    rw [e2 j hj]
    unfold lenL at hj
    unfold elL
    split
    · exact congrArg some (h 9 j (Or.inl ⟨rfl, rfl, hj⟩)).symm
    · exact congrArg some (h 3 (j + 1) (Or.inr (Or.inl ⟨rfl, rfl, by omega, hj⟩))).symm
    · rename_i a b
      refine congrArg some (h 6 j (Or.inr (Or.inr ⟨a, b, rfl, ?_⟩))).symm
      split at hj
      · exact absurd rfl a
      · exact absurd rfl b
      · exact hj
theorem ent_gr {cs : Nat → Nat} {S : St} {nf p nt : Nat} {g : Gh} {gr gr' : Nat → Prop} {dp : Nat → Nat} {k i : Nat} {e : va_E} (h : k = 10 → (gr' i ↔ gr i)) (he : ent cs S nf p nt g gr dp k i e) : ent cs S nf p nt g gr' dp k i e := by
  rcases (show k = 0 ∨ k = 1 ∨ k = 2 ∨ k = 3 ∨ k = 4 ∨ k = 5 ∨ k = 6 ∨ k = 7 ∨ k = 8 ∨ k = 9 ∨ k = 10 ∨ k = 11 by have := ent_k he; omega) with rfl | rfl | rfl | rfl | rfl | rfl | rfl | rfl | rfl | rfl | rfl | rfl <;> simp only [ent] at he ⊢
  all_goals first | exact he | (rw [h rfl]; exact he)
section
variable {cs : Nat → Nat} {h h' : pw_H} {x : Nat} {g g' : Gh} {gr gr' : Nat → Prop} {dp dp' : Nat → Nat} {S S' : St} {nf p nt nf' p' nt' : Nat}
/-- a list with an array -/
theorem Sim.lg (hs : Sim cs h x g gr dp S nf p nt) {j : Nat} (h1 : j < 3) (h2 : gr j) : ∃ (mc : Int32) (q : Nat → Option Nat), h (g 10 j) = some (.inr (0, [.ref (g 11 j), .int (nI (lenL nf p nt j)), .int mc])) ∧ h (g 11 j) = some (eQ (cs 5) 10 q) ∧ ∀ i, i < lenL nf p nt j → q i = some (elL g j i) := by
  obtain ⟨e, e1, mc, ⟨e2, e3⟩ | ⟨e2, e3, e4⟩⟩ := hs.2.1 10 j h1
  · obtain ⟨e', f1, q, f2, f3⟩ := hs.2.1 11 j ⟨h1, e2⟩
    exact ⟨mc, q, by rw [e1, e3], by rw [f1, f2], f3⟩
  · exact absurd h2 e2
theorem Sim.ln (hs : Sim cs h x g gr dp S nf p nt) {j : Nat} (h1 : j < 3) (h2 : ¬ gr j) : ∃ mc : Int32, h (g 10 j) = some (.inr (0, [.ref (cs 9), .int 0, .int mc])) ∧ lenL nf p nt j = 0 := by
  obtain ⟨e, e1, mc, ⟨e2, e3⟩ | ⟨e2, e3, e4⟩⟩ := hs.2.1 10 j h1
  · exact absurd e2 h2
  · exact ⟨mc, by rw [e1, e4], e3⟩
/-- another map, other addresses: every thing is an old one (of index o k i) or one that was not there -/
theorem Sim.mk2 (hs : Sim cs h x g gr dp S nf p nt) (src : Nat → Nat → Prop) (o : Nat → Nat → Nat)
    (hx : h' x = some (.inr (6, [.ref (g' 10 0), .ref (g' 10 1), .ref (g' 10 2), .ref (g' 3 6), .int (S' 16 4)])))
    (ho : ∀ k i, live S' nf' p' nt' gr' k i → src k i → live S nf p nt gr k (o k i) ∧ g' k i = g k (o k i))
    (hoi : ∀ k i i', live S' nf' p' nt' gr' k i → live S' nf' p' nt' gr' k i' → src k i → src k i' → o k i = o k i' → i = i')
    (hn : ∀ k i, live S' nf' p' nt' gr' k i → ¬ src k i → h (g' k i) = none)
    (hni : ∀ k i k' i', live S' nf' p' nt' gr' k i → live S' nf' p' nt' gr' k' i' → ¬ src k i → ¬ src k' i' → g' k i = g' k' i' → k = k' ∧ i = i')
    (he : ∀ k i, live S' nf' p' nt' gr' k i → ∃ e, h' (g' k i) = some e ∧ ent cs S' nf' p' nt' g' gr' dp' k i e) : Sim cs h' x g' gr' dp' S' nf' p' nt' := by
  have some_of : ∀ k i, live S' nf' p' nt' gr' k i → src k i → ∃ e, h (g' k i) = some e := fun k i hl hsr => by
    obtain ⟨a, b⟩ := ho k i hl hsr
    obtain ⟨e, e1, _⟩ := hs.2.1 k _ a
    exact ⟨e, by rw [b]; exact e1⟩
  refine ⟨hx, he, fun k i k' i' h1 h2 heq => ?_, fun k i h1 heq => ?_⟩
  · by_cases s1 : src k i
    · by_cases s2 : src k' i'
      · obtain ⟨a1, b1⟩ := ho k i h1 s1
        obtain ⟨a2, b2⟩ := ho k' i' h2 s2
        obtain ⟨c1, c2⟩ := hs.2.2.1 _ _ _ _ a1 a2 (by rw [← b1, ← b2]; exact heq)
        subst c1
        exact ⟨rfl, hoi k i i' h1 h2 s1 s2 c2⟩
      · obtain ⟨e, e1⟩ := some_of k i h1 s1
        rw [heq, hn k' i' h2 s2] at e1
        cases e1
    · by_cases s2 : src k' i'
      · obtain ⟨e, e1⟩ := some_of k' i' h2 s2
        rw [← heq, hn k i h1 s1] at e1
        cases e1
      · exact hni k i k' i' h1 h2 s1 s2 heq
  · by_cases s1 : src k i
    · obtain ⟨a1, b1⟩ := ho k i h1 s1
      exact hs.2.2.2 _ _ a1 (by rw [← b1]; exact heq)
    · have h9 := hn k i h1 s1
      rw [heq, hs.1] at h9
      cases h9
/-- an old thing that stays -/
theorem Sim.stay (hs : Sim cs h x g gr dp S nf p nt) {X : List Nat} (hx : ext h h' X) {k i : Nat} (hl : live S nf p nt gr k i) (hX : g k i ∉ X) (hg : g' k i = g k i) (ht : ∀ e, ent cs S nf p nt g gr dp k i e → ent cs S' nf' p' nt' g' gr' dp' k i e) : ∃ e, h' (g' k i) = some e ∧ ent cs S' nf' p' nt' g' gr' dp' k i e := by
  obtain ⟨e, e1, e2⟩ := hs.2.1 k i hl
  exact ⟨e, by rw [hg]; exact hx.1 _ e e1 hX, ht e e2⟩
end
/-- a row that an open frame shows is below the draft's -/
theorem WF.row {S : St} {nf p nt i : Nat} {X : Nat → Prop} (hw : WF S nf p nt X) (hi : i < 6 * nt) (hd : i % 6 < dpS S (i / 6)) : tn (S 12 i) < 48 ∧ S 0 (tn (S 12 i)) = 1 := by
  obtain ⟨d, L, mf, a1, a2, a3, a4, a5, a6, a7, a8⟩ := hw.2.1 (i / 6) (by omega)
  have hd : i % 6 < tn (S 11 (i / 6)) := hd
  rw [a2, tn_nI (by omega)] at hd
  obtain ⟨r, a, z, b1, b2, b3, _⟩ := a7 (i % 6) hd
  rw [show 6 * (i / 6) + i % 6 = i by omega] at b2
  rw [b2, tn_nI (by omega)]
  exact ⟨b1, b3⟩
theorem rd_0 {k i j : Nat} (h : rd k i 0 j) : (k = 4 ∧ 8 * i ≤ j ∧ j < 8 * i + 8) ∨ (k = 5 ∧ i = 6 ∧ 48 ≤ j ∧ j < 56) := by
  rcases (show k = 0 ∨ k = 1 ∨ k = 2 ∨ k = 3 ∨ k = 4 ∨ k = 5 ∨ k = 6 ∨ k = 7 ∨ k = 8 ∨ k = 9 by have := rd_k h; omega) with rfl | rfl | rfl | rfl | rfl | rfl | rfl | rfl | rfl | rfl <;> simp only [rd] at h <;> omega
theorem rd_1 {k i j : Nat} (h : rd k i 1 j) : (k = 9 ∧ i = j) ∨ (k = 5 ∧ i = 6 ∧ 48 ≤ j ∧ j < 56) := by
  rcases (show k = 0 ∨ k = 1 ∨ k = 2 ∨ k = 3 ∨ k = 4 ∨ k = 5 ∨ k = 6 ∨ k = 7 ∨ k = 8 ∨ k = 9 by have := rd_k h; omega) with rfl | rfl | rfl | rfl | rfl | rfl | rfl | rfl | rfl | rfl <;> simp only [rd] at h <;> omega
theorem gsh_0 {S : St} {nf p nt : Nat} {dp : Nat → Nat} {k i k' i' : Nat} (h : gsh S nf p nt dp k i k' i') (hk : k' ≤ 2) : (k = 0 ∧ 1 ≤ k' ∧ i' = i) ∨ (k = 4 ∧ k' = 0 ∧ 8 * i ≤ i' ∧ i' < 8 * i + 8 ∧ S 0 i' = 1) ∨ (k = 8 ∧ k' = 0 ∧ i % 6 < dp (i / 6) ∧ i' = tn (S 12 i)) ∨ (k = 9 ∧ k' = 0 ∧ i' = i) := by
  unfold gsh at h
  split at h <;> first | exact h.elim | exact Or.inr (Or.inl ⟨rfl, h⟩) | exact Or.inr (Or.inr (Or.inl ⟨rfl, h⟩)) | omega
