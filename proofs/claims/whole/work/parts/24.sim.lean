/-! the class's objects and the reference's state: g k i is the address of thing i of kind k (0 body of a row, 1 its kinds, 2 its numbers, 3 patch of a level (6: the draft), 4 its bodies, 5 its signatures, 6 task, 7 its frames, 8 frame, 9 function, 10 list, 11 a list's array); gr j: list j has an array of its own; dp t: so many frames of task t are as the reference has them -/
abbrev Gh : Type := Nat → Nat → Nat
def lenL (nf p nt j : Nat) : Nat := match j with
  | 0 => nf | 1 => p | _ => nt
def elL (g : Gh) (j i : Nat) : Nat := match j with
  | 0 => g 9 i | 1 => g 3 (i + 1) | _ => g 6 i
def live (S : St) (nf p nt : Nat) (gr : Nat → Prop) (k i : Nat) : Prop := match k with
  | 0 => i < 56 ∧ S 0 i = 1 | 1 => i < 56 ∧ S 0 i = 1 | 2 => i < 56 ∧ S 0 i = 1
  | 3 => (1 ≤ i ∧ i ≤ p) ∨ i = 6 | 4 => (1 ≤ i ∧ i ≤ p) ∨ i = 6 | 5 => (1 ≤ i ∧ i ≤ p) ∨ i = 6
  | 6 => i < nt | 7 => i < nt | 8 => i < 6 * nt | 9 => i < nf | 10 => i < 3 | 11 => i < 3 ∧ gr i
  | _ => False
abbrev eQ (c n : Nat) (q : Nat → Option Nat) : va_E := .inl (c, n, .inr (.inr (.inr (.inr q))))
abbrev eI (c n : Nat) (f : Nat → Int32) : va_E := .inl (c, n, .inl f)
def ent (cs : Nat → Nat) (S : St) (nf p nt : Nat) (g : Gh) (gr : Nat → Prop) (dp : Nat → Nat) (k i : Nat) (e : va_E) : Prop := match k with
  | 0 => e = .inr (1, [.ref (g 1 i), .ref (g 2 i), .int (S 2 i)])
  | 1 => ∃ K, e = eI (cs 0) 12 K ∧ ∀ a, a < 12 → a < tn (S 2 i) → K a = S 3 (12 * i + a)
  | 2 => ∃ K, e = eI (cs 0) 12 K ∧ ∀ a, a < 12 → a < tn (S 2 i) → K a = S 4 (12 * i + a)
  | 3 => ∃ v, e = .inr (3, [.ref (g 4 i), .ref (g 5 i), .int v]) ∧ (i = 6 → v = S 16 2)
  | 4 => ∃ q, e = eQ (cs 3) 8 q ∧ ∀ f, f < 8 → (S 0 (8 * i + f) = 1 → q f = some (g 0 (8 * i + f))) ∧ (S 0 (8 * i + f) = 0 → q f = none)
  | 5 => ∃ V, e = eI (cs 0) 8 V ∧ (i = 6 → ∀ f, f < 8 → S 0 (48 + f) = 1 → V f = S 1 (48 + f))
  | 6 => e = .inr (5, [.ref (g 7 i), .int (S 11 i), .int (S 6 i), .int (S 7 i), .int (S 8 i), .int (S 9 i), .int (S 10 i)])
  | 7 => ∃ q, e = eQ (cs 4) 6 q ∧ ∀ k, k < 6 → q k = some (g 8 (6 * i + k))
  | 8 => ∃ (fn lv : Int32) (bo : Nat) (pl rp : Int32), e = .inr (4, [.int fn, .int lv, .ref bo, .int pl, .int rp]) ∧ (i % 6 < dp (i / 6) → fn = nI (tn (S 12 i) % 8) ∧ lv = S 13 i ∧ bo = g 0 (tn (S 12 i)) ∧ pl = S 14 i ∧ rp = S 15 i)
  | 9 => e = .inr (2, [.int (S 1 i), .ref (g 0 i)])
  | 10 => ∃ mc : Int32, (gr i ∧ e = .inr (0, [.ref (g 11 i), .int (nI (lenL nf p nt i)), .int mc])) ∨ (¬ gr i ∧ lenL nf p nt i = 0 ∧ e = .inr (0, [.ref (cs 9), .int 0, .int mc]))
  | 11 => ∃ q, e = eQ (cs 5) 10 q ∧ ∀ j, j < lenL nf p nt i → q j = some (elL g i j)
  | _ => False
/-- what of the reference's state thing i of kind k shows -/
def rd (k i κ j : Nat) : Prop := match k with
  | 0 => κ = 2 ∧ j = i
  | 1 => (κ = 2 ∧ j = i) ∨ (κ = 3 ∧ 12 * i ≤ j ∧ j < 12 * i + 12)
  | 2 => (κ = 2 ∧ j = i) ∨ (κ = 4 ∧ 12 * i ≤ j ∧ j < 12 * i + 12)
  | 3 => i = 6 ∧ κ = 16 ∧ j = 2
  | 4 => κ = 0 ∧ 8 * i ≤ j ∧ j < 8 * i + 8
  | 5 => i = 6 ∧ (κ = 0 ∨ κ = 1) ∧ 48 ≤ j ∧ j < 56
  | 6 => 6 ≤ κ ∧ κ ≤ 11 ∧ j = i
  | 8 => 12 ≤ κ ∧ κ ≤ 15 ∧ j = i
  | 9 => κ = 1 ∧ j = i
  | _ => False
theorem ent_k {cs : Nat → Nat} {S : St} {nf p nt : Nat} {g : Gh} {gr : Nat → Prop} {dp : Nat → Nat} {k i : Nat} {e : va_E} (he : ent cs S nf p nt g gr dp k i e) : k < 12 := by
  unfold ent at he
  split at he <;> first | exact he.elim | omega
theorem ent_cong {cs : Nat → Nat} {S T : St} {nf p nt : Nat} {g : Gh} {gr : Nat → Prop} {dp : Nat → Nat} {k i : Nat} {e : va_E} (h : ∀ κ j, rd k i κ j → T κ j = S κ j) (he : ent cs S nf p nt g gr dp k i e) : ent cs T nf p nt g gr dp k i e := by
  rcases (show k = 0 ∨ k = 1 ∨ k = 2 ∨ k = 3 ∨ k = 4 ∨ k = 5 ∨ k = 6 ∨ k = 7 ∨ k = 8 ∨ k = 9 ∨ k = 10 ∨ k = 11 by have := ent_k he; omega) with rfl | rfl | rfl | rfl | rfl | rfl | rfl | rfl | rfl | rfl | rfl | rfl
  · simp only [ent] at he ⊢
    rw [h 2 i ⟨rfl, rfl⟩]; exact he
  · simp only [ent] at he ⊢
    obtain ⟨K, e1, e2⟩ := he
    exact ⟨K, e1, fun a h12 ha => by rw [h 2 i (Or.inl ⟨rfl, rfl⟩)] at ha; rw [h 3 _ (Or.inr ⟨rfl, by omega, by omega⟩)]; exact e2 a h12 ha⟩
  · simp only [ent] at he ⊢
    obtain ⟨K, e1, e2⟩ := he
    exact ⟨K, e1, fun a h12 ha => by rw [h 2 i (Or.inl ⟨rfl, rfl⟩)] at ha; rw [h 4 _ (Or.inr ⟨rfl, by omega, by omega⟩)]; exact e2 a h12 ha⟩
  · simp only [ent] at he ⊢
    obtain ⟨v, e1, e2⟩ := he
    exact ⟨v, e1, fun h6 => by rw [h 16 2 ⟨h6, rfl, rfl⟩]; exact e2 h6⟩
  · simp only [ent] at he ⊢
    obtain ⟨q, e1, e2⟩ := he
    exact ⟨q, e1, fun f hf => by rw [h 0 _ ⟨rfl, by omega, by omega⟩]; exact e2 f hf⟩
  · simp only [ent] at he ⊢
    obtain ⟨q, e1, e2⟩ := he
    exact ⟨q, e1, fun h6 f hf => by rw [h 0 _ ⟨h6, Or.inl rfl, by omega, by omega⟩, h 1 _ ⟨h6, Or.inr rfl, by omega, by omega⟩]; exact e2 h6 f hf⟩
  · simp only [ent] at he ⊢
    rw [h 11 i ⟨by decide, by decide, rfl⟩, h 6 i ⟨by decide, by decide, rfl⟩, h 7 i ⟨by decide, by decide, rfl⟩, h 8 i ⟨by decide, by decide, rfl⟩, h 9 i ⟨by decide, by decide, rfl⟩, h 10 i ⟨by decide, by decide, rfl⟩]; exact he
  · simp only [ent] at he ⊢
    exact he
  · simp only [ent] at he ⊢
    rw [h 12 i ⟨by decide, by decide, rfl⟩, h 13 i ⟨by decide, by decide, rfl⟩, h 14 i ⟨by decide, by decide, rfl⟩, h 15 i ⟨by decide, by decide, rfl⟩]; exact he
  · simp only [ent] at he ⊢
    rw [h 1 i ⟨rfl, rfl⟩]; exact he
  · simp only [ent] at he ⊢
    exact he
  · simp only [ent] at he ⊢
    exact he
theorem ent_sp {cs : Nat → Nat} {S : St} {nf p nt : Nat} {g : Gh} {gr : Nat → Prop} {dp : Nat → Nat} {k i κ j : Nat} {v : Int32} {e : va_E} (h : ¬ rd k i κ j) (he : ent cs S nf p nt g gr dp k i e) : ent cs (sp S κ j v) nf p nt g gr dp k i e :=
  ent_cong (fun κ' j' hr => if_neg (fun z => h (by rw [← z.1, ← z.2]; exact hr))) he
theorem rd_k {k i κ j : Nat} (h : rd k i κ j) : k < 10 := by
  unfold rd at h
  split at h <;> first | exact h.elim | omega
theorem rd_t {k i κ j : Nat} (h : rd k i κ j) (hκ : 6 ≤ κ ∧ κ ≤ 11) : k = 6 ∧ i = j := by
  rcases (show k = 0 ∨ k = 1 ∨ k = 2 ∨ k = 3 ∨ k = 4 ∨ k = 5 ∨ k = 6 ∨ k = 7 ∨ k = 8 ∨ k = 9 by have := rd_k h; omega) with rfl | rfl | rfl | rfl | rfl | rfl | rfl | rfl | rfl | rfl <;> simp only [rd] at h <;> omega
theorem rd_f {k i κ j : Nat} (h : rd k i κ j) (hκ : 12 ≤ κ ∧ κ ≤ 15) : k = 8 ∧ i = j := by
  rcases (show k = 0 ∨ k = 1 ∨ k = 2 ∨ k = 3 ∨ k = 4 ∨ k = 5 ∨ k = 6 ∨ k = 7 ∨ k = 8 ∨ k = 9 by have := rd_k h; omega) with rfl | rfl | rfl | rfl | rfl | rfl | rfl | rfl | rfl | rfl <;> simp only [rd] at h <;> omega
theorem rd_16 {k i j : Nat} (h : rd k i 16 j) : k = 3 ∧ i = 6 ∧ j = 2 := by
  rcases (show k = 0 ∨ k = 1 ∨ k = 2 ∨ k = 3 ∨ k = 4 ∨ k = 5 ∨ k = 6 ∨ k = 7 ∨ k = 8 ∨ k = 9 by have := rd_k h; omega) with rfl | rfl | rfl | rfl | rfl | rfl | rfl | rfl | rfl | rfl <;> simp only [rd] at h <;> omega
theorem rd_5 {k i j : Nat} (h : rd k i 5 j) : False := by
  rcases (show k = 0 ∨ k = 1 ∨ k = 2 ∨ k = 3 ∨ k = 4 ∨ k = 5 ∨ k = 6 ∨ k = 7 ∨ k = 8 ∨ k = 9 by have := rd_k h; omega) with rfl | rfl | rfl | rfl | rfl | rfl | rfl | rfl | rfl | rfl <;> simp only [rd] at h <;> omega
def Sim (cs : Nat → Nat) (h : pw_H) (x : Nat) (g : Gh) (gr : Nat → Prop) (dp : Nat → Nat) (S : St) (nf p nt : Nat) : Prop :=
  h x = some (.inr (6, [.ref (g 10 0), .ref (g 10 1), .ref (g 10 2), .ref (g 3 6), .int (S 16 4)])) ∧ (∀ k i, live S nf p nt gr k i → ∃ e, h (g k i) = some e ∧ ent cs S nf p nt g gr dp k i e) ∧ (∀ k i k' i', live S nf p nt gr k i → live S nf p nt gr k' i' → g k i = g k' i' → k = k' ∧ i = i') ∧ ∀ k i, live S nf p nt gr k i → g k i ≠ x
section
variable {cs : Nat → Nat} {h h' : pw_H} {x : Nat} {g : Gh} {gr : Nat → Prop} {dp dp' : Nat → Nat} {S S' : St} {nf p nt nf' p' nt' : Nat}
theorem Sim.ne (hs : Sim cs h x g gr dp S nf p nt) {k i k' i' : Nat} (h1 : live S nf p nt gr k i) (h2 : live S nf p nt gr k' i') (hn : ¬ (k = k' ∧ i = i')) : g k i ≠ g k' i' := fun z => hn (hs.2.2.1 k i k' i' h1 h2 z)
theorem Sim.b (hs : Sim cs h x g gr dp S nf p nt) {r : Nat} (h1 : r < 56) (h2 : S 0 r = 1) : h (g 0 r) = some (.inr (1, [.ref (g 1 r), .ref (g 2 r), .int (S 2 r)])) := by
  obtain ⟨e, e1, e2⟩ := hs.2.1 0 r ⟨h1, h2⟩
  rw [e1, show e = _ from e2]
theorem Sim.kd (hs : Sim cs h x g gr dp S nf p nt) {r : Nat} (h1 : r < 56) (h2 : S 0 r = 1) : ∃ K, h (g 1 r) = some (eI (cs 0) 12 K) ∧ ∀ a, a < 12 → a < tn (S 2 r) → K a = S 3 (12 * r + a) := by
  obtain ⟨e, e1, K, e2, e3⟩ := hs.2.1 1 r ⟨h1, h2⟩
  exact ⟨K, by rw [e1, e2], e3⟩
theorem Sim.nm (hs : Sim cs h x g gr dp S nf p nt) {r : Nat} (h1 : r < 56) (h2 : S 0 r = 1) : ∃ K, h (g 2 r) = some (eI (cs 0) 12 K) ∧ ∀ a, a < 12 → a < tn (S 2 r) → K a = S 4 (12 * r + a) := by
  obtain ⟨e, e1, K, e2, e3⟩ := hs.2.1 2 r ⟨h1, h2⟩
  exact ⟨K, by rw [e1, e2], e3⟩
theorem Sim.pt (hs : Sim cs h x g gr dp S nf p nt) {l : Nat} (h1 : (1 ≤ l ∧ l ≤ p) ∨ l = 6) : ∃ v, h (g 3 l) = some (.inr (3, [.ref (g 4 l), .ref (g 5 l), .int v])) ∧ (l = 6 → v = S 16 2) := by
  obtain ⟨e, e1, v, e2, e3⟩ := hs.2.1 3 l h1
  exact ⟨v, by rw [e1, e2], e3⟩
theorem Sim.bs (hs : Sim cs h x g gr dp S nf p nt) {l : Nat} (h1 : (1 ≤ l ∧ l ≤ p) ∨ l = 6) : ∃ q, h (g 4 l) = some (eQ (cs 3) 8 q) ∧ ∀ f, f < 8 → (S 0 (8 * l + f) = 1 → q f = some (g 0 (8 * l + f))) ∧ (S 0 (8 * l + f) = 0 → q f = none) := by
  obtain ⟨e, e1, v, e2, e3⟩ := hs.2.1 4 l h1
  exact ⟨v, by rw [e1, e2], e3⟩
theorem Sim.sg (hs : Sim cs h x g gr dp S nf p nt) {l : Nat} (h1 : (1 ≤ l ∧ l ≤ p) ∨ l = 6) : ∃ V, h (g 5 l) = some (eI (cs 0) 8 V) ∧ (l = 6 → ∀ f, f < 8 → S 0 (48 + f) = 1 → V f = S 1 (48 + f)) := by
  obtain ⟨e, e1, v, e2, e3⟩ := hs.2.1 5 l h1
  exact ⟨v, by rw [e1, e2], e3⟩
theorem Sim.tk (hs : Sim cs h x g gr dp S nf p nt) {t : Nat} (h1 : t < nt) : h (g 6 t) = some (.inr (5, [.ref (g 7 t), .int (S 11 t), .int (S 6 t), .int (S 7 t), .int (S 8 t), .int (S 9 t), .int (S 10 t)])) := by
  obtain ⟨e, e1, e2⟩ := hs.2.1 6 t h1
  rw [e1, show e = _ from e2]
theorem Sim.fs (hs : Sim cs h x g gr dp S nf p nt) {t : Nat} (h1 : t < nt) : ∃ q, h (g 7 t) = some (eQ (cs 4) 6 q) ∧ ∀ k, k < 6 → q k = some (g 8 (6 * t + k)) := by
  obtain ⟨e, e1, v, e2, e3⟩ := hs.2.1 7 t h1
  exact ⟨v, by rw [e1, e2], e3⟩
theorem Sim.fr (hs : Sim cs h x g gr dp S nf p nt) {i : Nat} (h1 : i < 6 * nt) : ∃ (fn lv : Int32) (bo : Nat) (pl rp : Int32), h (g 8 i) = some (.inr (4, [.int fn, .int lv, .ref bo, .int pl, .int rp])) := by
  obtain ⟨e, e1, fn, lv, bo, pl, rp, e2, e3⟩ := hs.2.1 8 i h1
  exact ⟨fn, lv, bo, pl, rp, by rw [e1, e2]⟩
theorem Sim.fo (hs : Sim cs h x g gr dp S nf p nt) {t k : Nat} (h1 : t < nt) (hk : k < 6) (hd : k < dp t) : h (g 8 (6 * t + k)) = some (.inr (4, [.int (nI (tn (S 12 (6 * t + k)) % 8)), .int (S 13 (6 * t + k)), .ref (g 0 (tn (S 12 (6 * t + k)))), .int (S 14 (6 * t + k)), .int (S 15 (6 * t + k))])) := by
  obtain ⟨e, e1, fn, lv, bo, pl, rp, e2, e3⟩ := hs.2.1 8 (6 * t + k) (show 6 * t + k < 6 * nt by omega)
  obtain ⟨f1, f2, f3, f4, f5⟩ := e3 (by rw [show (6 * t + k) % 6 = k by omega, show (6 * t + k) / 6 = t by omega]; exact hd)
  rw [e1, e2, f1, f2, f3, f4, f5]
theorem Sim.fu (hs : Sim cs h x g gr dp S nf p nt) {f : Nat} (h1 : f < nf) : h (g 9 f) = some (.inr (2, [.int (S 1 f), .ref (g 0 f)])) := by
  obtain ⟨e, e1, e2⟩ := hs.2.1 9 f h1
  rw [e1, show e = _ from e2]
/-- a list's object: for its length -/
theorem Sim.ls (hs : Sim cs h x g gr dp S nf p nt) {j : Nat} (h1 : j < 3) : ∃ (E : Nat) (mc : Int32), h (g 10 j) = some (.inr (0, [.ref E, .int (nI (lenL nf p nt j)), .int mc])) ∧ (gr j → E = g 11 j) ∧ (¬ gr j → E = cs 9 ∧ lenL nf p nt j = 0) := by
  obtain ⟨e, e1, mc, ⟨e2, e3⟩ | ⟨e2, e3, e4⟩⟩ := hs.2.1 10 j h1
  · exact ⟨g 11 j, mc, by rw [e1, e3], fun _ => rfl, fun z => absurd e2 z⟩
  · exact ⟨cs 9, mc, by rw [e1, e4, e3]; rfl, fun z => absurd z e2, fun _ => ⟨rfl, e3⟩⟩
/-- a list that is not empty: for its elements -/
theorem Sim.le (hs : Sim cs h x g gr dp S nf p nt) {j : Nat} (h1 : j < 3) (h2 : 0 < lenL nf p nt j) : gr j ∧ ∃ (mc : Int32) (q : Nat → Option Nat), h (g 10 j) = some (.inr (0, [.ref (g 11 j), .int (nI (lenL nf p nt j)), .int mc])) ∧ h (g 11 j) = some (eQ (cs 5) 10 q) ∧ ∀ i, i < lenL nf p nt j → q i = some (elL g j i) := by
  obtain ⟨e, e1, mc, ⟨e2, e3⟩ | ⟨e2, e3, e4⟩⟩ := hs.2.1 10 j h1
  · obtain ⟨e', f1, q, f2, f3⟩ := hs.2.1 11 j ⟨h1, e2⟩
    exact ⟨e2, mc, q, by rw [e1, e3], by rw [f1, f2], f3⟩
  · omega
theorem Sim.set (hs : Sim cs h x g gr dp S nf p nt) {gr' : Nat → Prop} (hx : h' x = some (.inr (6, [.ref (g 10 0), .ref (g 10 1), .ref (g 10 2), .ref (g 3 6), .int (S' 16 4)])))
    (hl : ∀ k i, live S' nf' p' nt' gr' k i → live S nf p nt gr k i ∧ ((h' (g k i) = h (g k i) ∧ ∀ e, ent cs S nf p nt g gr dp k i e → ent cs S' nf' p' nt' g gr' dp' k i e) ∨ ∃ e, h' (g k i) = some e ∧ ent cs S' nf' p' nt' g gr' dp' k i e)) : Sim cs h' x g gr' dp' S' nf' p' nt' := by
  refine ⟨hx, fun k i hk => ?_, fun k i k' i' h1 h2 => hs.2.2.1 k i k' i' (hl k i h1).1 (hl k' i' h2).1, fun k i h1 => hs.2.2.2 k i (hl k i h1).1⟩
  obtain ⟨h1, ⟨h2, h3⟩ | h2⟩ := hl k i hk
  · obtain ⟨e, e1, e2⟩ := hs.2.1 k i h1
    exact ⟨e, h2.trans e1, h3 e e2⟩
  · exact h2
theorem Sim.kept (hs : Sim cs h x g gr dp S nf p nt) {X : List Nat} (hx : ext h h' X) {k i : Nat} (hl : live S nf p nt gr k i) (hn : g k i ∉ X) : h' (g k i) = h (g k i) := by
  obtain ⟨e, e1, e2⟩ := hs.2.1 k i hl
  rw [hx.1 _ e e1 hn, e1]
theorem Sim.keptx (hs : Sim cs h x g gr dp S nf p nt) {X : List Nat} (hx : ext h h' X) (hn : x ∉ X) : h' x = h x := by
  rw [hx.1 _ _ hs.1 hn, hs.1]
/-- one thing is written -/
theorem Sim.put (hs : Sim cs h x g gr dp S nf p nt) {k0 i0 : Nat} {e0 : va_E} (hx : ext h h' [g k0 i0]) (hl0 : live S nf p nt gr k0 i0) (h0 : h' (g k0 i0) = some e0) (he : ent cs S' nf p nt g gr dp' k0 i0 e0)
    (hlv : ∀ k i, live S' nf p nt gr k i → live S nf p nt gr k i) (h4 : S' 16 4 = S 16 4) (ho : ∀ k i e, ¬ (k = k0 ∧ i = i0) → live S nf p nt gr k i → ent cs S nf p nt g gr dp k i e → ent cs S' nf p nt g gr dp' k i e) : Sim cs h' x g gr dp' S' nf p nt := by
  refine hs.set ?_ (fun k i hk => ?_)
  · rw [hs.keptx hx (nin1 (Ne.symm (hs.2.2.2 _ _ hl0))), h4]; exact hs.1
  · have hk := hlv k i hk
    refine ⟨hk, ?_⟩
    by_cases hki : k = k0 ∧ i = i0
    · obtain ⟨rfl, rfl⟩ := hki
      exact Or.inr ⟨e0, h0, he⟩
    · exact Or.inl ⟨hs.kept hx hk (nin1 (hs.ne hk hl0 hki)), fun e => ho k i e hki hk⟩
/-- nothing that the objects show is written -/
theorem Sim.same (hs : Sim cs h x g gr dp S nf p nt) (h0 : S' 0 = S 0) (h4 : S' 16 4 = S 16 4) (hr : ∀ k i κ j, rd k i κ j → S' κ j = S κ j) : Sim cs h x g gr dp S' nf p nt := by
  refine hs.set (by rw [h4]; exact hs.1) (fun k i hk => ?_)
  have hk' : live S nf p nt gr k i := by
    unfold live at hk ⊢
    rw [h0] at hk
    exact hk
  exact ⟨hk', Or.inl ⟨rfl, fun e he => ent_cong (fun κ j h9 => hr k i κ j h9) he⟩⟩
/-- a number of task t -/
theorem Sim.putT (hs : Sim cs h x g gr dp S nf p nt) {t κ : Nat} {v : Int32} {e0 : va_E} (ht : t < nt) (hκ : 6 ≤ κ ∧ κ ≤ 11) (hx : ext h h' [g 6 t]) (h0 : h' (g 6 t) = some e0) (he : ent cs (sp S κ t v) nf p nt g gr dp 6 t e0) : Sim cs h' x g gr dp (sp S κ t v) nf p nt :=
  hs.put hx ht h0 he (fun k i hk => by
    unfold live at hk ⊢
    rw [sp_off (show 0 ≠ κ by omega)] at hk
    exact hk) (sp_k (by omega)) (fun k i e hn _ h9 => ent_sp (fun z => hn (rd_t z hκ)) h9)
/-- a number of an open frame -/
theorem Sim.putF (hs : Sim cs h x g gr dp S nf p nt) {i κ : Nat} {v : Int32} {e0 : va_E} (ht : i < 6 * nt) (hκ : 12 ≤ κ ∧ κ ≤ 15) (hx : ext h h' [g 8 i]) (h0 : h' (g 8 i) = some e0) (he : ent cs (sp S κ i v) nf p nt g gr dp 8 i e0) : Sim cs h' x g gr dp (sp S κ i v) nf p nt :=
  hs.put hx ht h0 he (fun k i hk => by
    unfold live at hk ⊢
    rw [sp_off (show 0 ≠ κ by omega)] at hk
    exact hk) (sp_k (by omega)) (fun k i e hn _ h9 => ent_sp (fun z => hn (rd_f z hκ)) h9)
end
