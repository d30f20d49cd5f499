/-! the reference's state as numbers: S k j is place j of its k-th array (0 has, 1 signature, 2 size, 3 kind, 4 number, 5 main, 6 levelOf, 7 sum, 8 steps, 9 outs, 10 latest, 11 depth, 12 row, 13 frameLevel, 14 at, 15 repeats); S 16 j its j-th number (0 thrown, 1 functions, 2 named, 3 top, 4 target, 5 tasks) -/
abbrev St : Type := Nat → Nat → Int32
abbrev tn (x : Int32) : Nat := x.toNatClampNeg
def sp (S : St) (k j : Nat) (v : Int32) : St := fun k' j' => if k' = k ∧ j' = j then v else S k' j'
theorem sp_s {S : St} {k j : Nat} {v : Int32} : sp S k j v k j = v := if_pos ⟨rfl, rfl⟩
theorem sp_k {S : St} {k j k' j' : Nat} {v : Int32} (h : k' ≠ k) : sp S k j v k' j' = S k' j' := if_neg (fun z => h z.1)
theorem sp_j {S : St} {k j k' j' : Nat} {v : Int32} (h : j' ≠ j) : sp S k j v k' j' = S k' j' := if_neg (fun z => h z.2)
theorem sp_row {S : St} {k j : Nat} {v : Int32} : sp S k j v k = upd (S k) j v := by
  funext x
  simp [sp, upd]
theorem sp_off {S : St} {k j k' : Nat} {v : Int32} (h : k' ≠ k) : sp S k j v k' = S k' := by
  funext x
  exact sp_k h
/-- the row of the body of a function at a level -/
def bRow (S : St) (f : Nat) : Nat → Nat
  | 0 => f
  | n + 1 => if S 0 (8 * (n + 1) + f) ≠ 0 then 8 * (n + 1) + f else bRow S f n
noncomputable def mEnter (S : St) (t f : Nat) : St :=
  if S 11 t = 6 then S else
    sp (sp (sp (sp (sp S 12 (6 * t + tn (S 11 t)) (nI (bRow S f (tn (S 6 t))))) 13 (6 * t + tn (S 11 t)) (S 6 t)) 14 (6 * t + tn (S 11 t)) 0) 15 (6 * t + tn (S 11 t)) 0) 11 t (S 11 t + 1)
def allOver (S : St) : Prop := ∀ t, t < tn (S 16 5) → S 6 t = S 16 4
noncomputable def mSettle (S : St) : St := by
  classical
  exact if allOver S then sp (sp S 16 3 (S 16 4)) 16 4 (-1) else S
def mClear (S : St) (t : Nat) : Prop := ∀ k, k < tn (S 11 t) → S 0 (8 * tn (S 16 3) + tn (S 12 (6 * t + k)) % 8) = 0
/-- the top frame's place -/
abbrev mTop (S : St) (t : Nat) : Nat := 6 * t + (tn (S 11 t) - 1)
abbrev mOp (S : St) (i : Nat) : Nat := 12 * tn (S 12 i) + tn (S 14 i)
abbrev mEnd (S : St) (i : Nat) : Prop := S 14 i = S 2 (tn (S 12 i))
def mGoes (S : St) (t : Nat) : Prop := ¬ S 16 4 < 0 ∧ ¬ S 6 t = S 16 4 ∧ ((mEnd S (mTop S t) ∧ S 11 t = 1) ∨ (¬ mEnd S (mTop S t) ∧ S 3 (mOp S (mTop S t)) = 2 ∧ mClear S t))
abbrev mEven (x : Int32) : Prop := x - x / 2 * 2 = 0
noncomputable def mDo (S : St) (t i : Nat) (k n : Int32) : St := by
  classical
  exact if k = 0 then sp S 7 t (S 7 t + n) else
    if k = 1 ∨ (k = 5 ∧ mEven (S 7 t)) then mEnter S t (tn n) else
    if k = 3 ∧ S 15 i < 3 then sp (sp S 15 i (S 15 i + 1)) 14 i n else
    if k = 4 then sp (sp S 9 t (S 9 t + 1)) 10 t (S 7 t) else S
noncomputable def mOnce (S : St) (t : Nat) : St := by
  classical
  exact if mEnd S (mTop S t) then
      (if S 11 t - 1 = 0 then mEnter (sp (sp S 8 t (S 8 t + 1)) 11 t (S 11 t - 1)) t (tn (S 5 t)) else sp (sp S 8 t (S 8 t + 1)) 11 t (S 11 t - 1))
    else mDo (sp (sp S 8 t (S 8 t + 1)) 14 (mTop S t) (S 14 (mTop S t) + 1)) t (mTop S t) (S 3 (mOp S (mTop S t))) (S 4 (mOp S (mTop S t)))
noncomputable def mRun (t : Nat) : Nat → Nat → St → Int32 → St × Int32
  | 0, _, S, w => (S, w)
  | n + 1, k, S, w => by
    classical
    exact if mGoes S t then mRun t n (k + 1) (mOnce (mSettle (sp S 6 t (S 16 4))) t) (nI k) else mRun t n (k + 1) (mOnce S t) w
/-- lo ≤ x ≤ hi -/
abbrev mIn (x lo hi : Int32) : Prop := lo ≤ x ∧ x ≤ hi
abbrev mFresh (S : St) : Prop := S 16 5 = 0 ∧ S 16 3 = 0
noncomputable def thFunction (S : St) (sg : Int32) : Int32 := by
  classical
  exact if ¬ mIn sg 0 9 then 1 else if S 16 1 = 8 ∨ ¬ mFresh S then 2 else 0
noncomputable def stFunction (S : St) (sg : Int32) : St :=
  if thFunction S sg = 0 then sp (sp (sp (sp (sp S 16 0 0) 0 (tn (S 16 1)) 1) 1 (tn (S 16 1)) sg) 2 (tn (S 16 1)) 0) 16 1 (S 16 1 + 1) else sp S 16 0 (thFunction S sg)
noncomputable def rFunction (S : St) (sg : Int32) : Int32 := if thFunction S sg = 0 then S 16 1 else 0
abbrev oRow (fn dr : Int32) : Nat := (if dr = 0 then 0 else 48) + tn fn
def gdOperation (S : St) (fn dr kd n : Int32) : Prop := mIn fn 0 7 ∧ mIn kd 0 5 ∧ ¬ S 0 (oRow fn dr) = 0 ∧ (kd = 0 → mIn n (-99) 99) ∧ (kd = 1 ∨ kd = 5 → mIn n 0 (S 16 1 - 1)) ∧ (kd = 3 → mIn n 0 (S 2 (oRow fn dr)))
noncomputable def thOperation (S : St) (fn dr kd n : Int32) : Int32 := by
  classical
  exact if ¬ gdOperation S fn dr kd n then 1 else if (dr = 0 ∧ ¬ mFresh S) ∨ S 2 (oRow fn dr) = 12 then 2 else 0
noncomputable def stOperation (S : St) (fn dr kd n : Int32) : St :=
  if thOperation S fn dr kd n = 0 then sp (sp (sp (sp S 16 0 0) 3 (12 * oRow fn dr + tn (S 2 (oRow fn dr))) kd) 4 (12 * oRow fn dr + tn (S 2 (oRow fn dr))) n) 2 (oRow fn dr) (S 2 (oRow fn dr) + 1) else sp S 16 0 (thOperation S fn dr kd n)
noncomputable def rOperation (S : St) (fn dr kd n : Int32) : Int32 := if thOperation S fn dr kd n = 0 then S 2 (oRow fn dr) + 1 else 0
noncomputable def thName (S : St) (fn sg : Int32) : Int32 := by
  classical
  exact if mIn fn 0 (S 16 1 - 1) ∧ mIn sg 0 9 ∧ S 0 (48 + tn fn) = 0 then 0 else 1
noncomputable def stName (S : St) (fn sg : Int32) : St :=
  if thName S fn sg = 0 then sp (sp (sp (sp (sp S 16 0 0) 0 (48 + tn fn) 1) 1 (48 + tn fn) sg) 2 (48 + tn fn) 0) 16 2 (S 16 2 + 1) else sp S 16 0 1
noncomputable def rName (S : St) (fn sg : Int32) : Int32 := if thName S fn sg = 0 then S 16 2 + 1 else 0
def mSame (S : St) : Prop := ∀ f, f < tn (S 16 1) → S 0 (48 + f) = 0 ∨ S 1 (48 + f) = S 1 f
noncomputable def thApply (S : St) : Int32 := by
  classical
  exact if S 16 2 = 0 then 1 else if ¬ mSame S then 2 else if ¬ S 16 4 < 0 ∨ S 16 3 = 5 then 3 else 0
/-- the draft's bodies become those of level L -/
def mMove (S : St) (L : Nat) : St := fun k j =>
  if (k = 0 ∨ k = 2) ∧ 8 * L ≤ j ∧ j < 8 * L + 8 then S k (48 + (j - 8 * L)) else
  if (k = 3 ∨ k = 4) ∧ 96 * L ≤ j ∧ j < 96 * L + 96 then S k (576 + (j - 96 * L)) else S k j
def mClr (S : St) : St := fun k j => if k = 0 ∧ 48 ≤ j ∧ j < 56 then 0 else S k j
noncomputable def stApply (S : St) : St :=
  if thApply S = 0 then mSettle (sp (sp (sp (mClr (mMove (sp S 16 0 0) (tn (S 16 3) + 1))) 16 2 0) 16 3 (S 16 3 + 1)) 16 4 (S 16 3 + 1)) else sp (mClr (sp S 16 0 (thApply S))) 16 2 0
noncomputable def rApply (S : St) : Int32 := if thApply S = 0 then S 16 3 + 1 else 0
noncomputable def thTurn (S : St) : Int32 := by
  classical
  exact if ¬ S 16 4 < 0 ∨ 0 < S 16 3 then 0 else 1
noncomputable def toTurn (S : St) : Int32 := if S 16 4 = S 16 3 - 1 then S 16 3 else S 16 3 - 1
noncomputable def stTurn (S : St) : St := if thTurn S = 0 then mSettle (sp (sp S 16 0 0) 16 4 (toTurn S)) else sp S 16 0 1
noncomputable def rTurn (S : St) : Int32 := if thTurn S = 0 then toTurn S else 0
noncomputable def thTask (S : St) (fn : Int32) : Int32 := by
  classical
  exact if ¬ mIn fn 0 (S 16 1 - 1) then 1 else if S 16 5 = 4 then 2 else 0
noncomputable def stTask (S : St) (fn : Int32) : St :=
  if thTask S fn = 0 then mEnter (sp (sp (sp (sp S 16 0 0) 5 (tn (S 16 5)) fn) 6 (tn (S 16 5)) (if S 16 4 < 0 then S 16 3 else S 16 4)) 16 5 (S 16 5 + 1)) (tn (S 16 5)) (tn fn) else sp S 16 0 (thTask S fn)
noncomputable def rTask (S : St) (fn : Int32) : Int32 := if thTask S fn = 0 then S 16 5 else 0
noncomputable def thStep (S : St) (t many : Int32) : Int32 := by
  classical
  exact if mIn t 0 (S 16 5 - 1) ∧ mIn many 1 100 then 0 else 1
noncomputable def stStep (S : St) (t many : Int32) : St := if thStep S t many = 0 then (mRun (tn t) (tn many) 1 (sp S 16 0 0) 0).1 else sp S 16 0 1
noncomputable def rStep (S : St) (t many : Int32) : Int32 := if thStep S t many = 0 then (mRun (tn t) (tn many) 1 (sp S 16 0 0) 0).2 else 0
noncomputable def thLook (S : St) (t w : Int32) : Int32 := by
  classical
  exact if mIn t 0 (S 16 5 - 1) ∧ mIn w 0 5 then 0 else 1
noncomputable def rLook (S : St) (t w : Int32) : Int32 :=
  if thLook S t w = 0 then (if w = 0 then S 6 (tn t) else if w = 1 then S 7 (tn t) else if w = 2 then S 11 (tn t) else if w = 3 then S 8 (tn t) else if w = 4 then S 9 (tn t) else S 10 (tn t)) else 0
noncomputable def thFrame (S : St) (t k w : Int32) : Int32 := by
  classical
  exact if ¬ (mIn t 0 (S 16 5 - 1) ∧ mIn w 0 2) then 1 else if mIn k 0 (S 11 (tn t) - 1) then 0 else 2
noncomputable def rFrame (S : St) (t k w : Int32) : Int32 :=
  if thFrame S t k w = 0 then (if w = 0 then nI (tn (S 12 (6 * tn t + tn k)) % 8) else if w = 1 then S 13 (6 * tn t + tn k) else S 14 (6 * tn t + tn k)) else 0
noncomputable def thBody (S : St) (fn lv : Int32) : Int32 := by
  classical
  exact if ¬ mIn fn 0 (S 16 1 - 1) then 1 else if mIn lv 0 (S 16 3) then 0 else 2
noncomputable def rBody (S : St) (fn lv : Int32) : Int32 := if thBody S fn lv = 0 then S 2 (bRow S (tn fn) (tn lv)) else 0
/-! the reference's object: its numbers and its sixteen arrays -/
def mlen (k : Nat) : Nat := if k < 3 then 56 else if k < 5 then 672 else if k < 12 then 4 else 24
def mcs (k : Nat) : Nat := if k = 0 then 1 else 0
abbrev mfs (ad : Nat → Nat) (S : St) : List Value := [.int (S 16 0), .int (S 16 1), .ref (ad 0), .ref (ad 1), .ref (ad 2), .ref (ad 3), .ref (ad 4), .int (S 16 2), .int (S 16 3), .int (S 16 4), .int (S 16 5), .ref (ad 5), .ref (ad 6), .ref (ad 7), .ref (ad 8), .ref (ad 9), .ref (ad 10), .ref (ad 11), .ref (ad 12), .ref (ad 13), .ref (ad 14), .ref (ad 15)]
def RM (cs : Nat → Nat) (h : pw_H) (m : Nat) (ad : Nat → Nat) (S : St) : Prop :=
  h m = some (.inr (7, mfs ad S)) ∧ (∀ k, k < 16 → h (ad k) = some (.inl (cs (mcs k), mlen k, .inl (S k)))) ∧ ∀ i j, i < 16 → j < 16 → ad i = ad j → i = j
theorem RM.ne {cs : Nat → Nat} {h : pw_H} {m : Nat} {ad : Nat → Nat} {S : St} (hR : RM cs h m ad S) {k : Nat} (hk : k < 16) : ad k ≠ m := fun z => by
  have h1 := hR.2.1 k hk
  rw [z, hR.1] at h1
  cases h1
theorem RM.arr {cs : Nat → Nat} {h : pw_H} {m : Nat} {ad : Nat → Nat} {S : St} (hR : RM cs h m ad S) {k : Nat} (hk : k < 16) (j : Nat) (v : Int32) : RM cs (pu h (ad k) (.inl (cs (mcs k), mlen k, .inl (upd (S k) j v)))) m ad (sp S k j v) := by
  refine ⟨?_, fun i hi => ?_, hR.2.2⟩
  · rw [pu_n (Ne.symm (hR.ne hk)), hR.1]
    have h16 : (16 : Nat) ≠ k := by omega
    simp only [mfs, sp_k h16]
  · by_cases hik : i = k
    · subst hik
      rw [pu_s, sp_row]
    · rw [pu_n (fun z => hik (hR.2.2 i k hi hk z)), hR.2.1 i hi, sp_off hik]
/-- the numbers' places among the fields -/
def mpos (j : Nat) : Nat := match j with
  | 0 => 0 | 1 => 1 | 2 => 7 | 3 => 8 | 4 => 9 | _ => 10
theorem RM.num {cs : Nat → Nat} {h : pw_H} {m : Nat} {ad : Nat → Nat} {S : St} (hR : RM cs h m ad S) {j : Nat} (hj : j < 6) (v : Int32) : RM cs (pu h m (.inr (7, (mfs ad S).set (mpos j) (.int v)))) m ad (sp S 16 j v) := by
  refine ⟨?_, fun i hi => ?_, hR.2.2⟩
  · rw [pu_s]
    rcases (show j = 0 ∨ j = 1 ∨ j = 2 ∨ j = 3 ∨ j = 4 ∨ j = 5 by omega) with rfl | rfl | rfl | rfl | rfl | rfl <;> rfl
  · have h16 : i ≠ 16 := by omega
    rw [pu_n (hR.ne hi), hR.2.1 i hi, sp_off h16]
