/-! my own layer over the kit's rows: the world as a partial map from addresses to things (pw_H); its rows give the map behind each instruction -/
abbrev pw_H : Type := Nat → Option va_E
def pu (h : pw_H) (a : Nat) (e : va_E) : pw_H := fun q => if q = a then some e else h q
theorem pu_s {h : pw_H} {a : Nat} {e : va_E} : pu h a e a = some e := if_pos rfl
theorem pu_n {h : pw_H} {a b : Nat} {e : va_E} (hne : b ≠ a) : pu h a e b = h b := if_neg hne
theorem pu_k {h : pw_H} {a b : Nat} {e x : va_E} (hb : h b = some x) (hne : b ≠ a) : pu h a e b = some x := (pu_n hne).trans hb
/-- a new thing: all that was there stays -/
theorem pu_f {h : pw_H} {a b : Nat} {e x : va_E} (hf : h a = none) (hb : h b = some x) : pu h a e b = some x := pu_k hb (fun z => by rw [z, hf] at hb; cases hb)
def pw (D : va_G) (cl : List vw_C) (A : Nat → Prop) (h : pw_H) (H : Heap) : Prop :=
  ∃ ws : va_W, va_P D cl ws H ∧ va_D A ws ∧ (∀ (a : Nat) (e : va_E), h a = some e → ∃ k : Nat, ws[k]? = some (a, e)) ∧ ∀ (k : Nat) (q : Nat × va_E), ws[k]? = some q → h q.1 = some q.2
theorem pw.nil {D : va_G} {cl : List vw_C} {A : Nat → Prop} {H : Heap} : pw D cl A (fun _ => none) H :=
  ⟨[], (fun k q hk => by simp at hk), ⟨(fun i j x y hi => by simp at hi), (fun k q hk => by simp at hk)⟩, (fun a e z => by simp at z), (fun k q hk => by simp at hk)⟩
theorem pw.at {D : va_G} {cl : List vw_C} {A : Nat → Prop} {h : pw_H} {H : Heap} (hP : pw D cl A h H) {a : Nat} {e : va_E} (f : h a = some e) : va_at D cl (a, e) H := by
  obtain ⟨ws, P, hD, hl, hr⟩ := hP
  obtain ⟨k, hk⟩ := hl a e f
  exact P k _ hk
theorem pw.lt {D : va_G} {cl : List vw_C} {A : Nat → Prop} {h : pw_H} {H : Heap} (hP : pw D cl A h H) {a : Nat} {e : va_E} (f : h a = some e) : a < H.size := (hP.at f).lt
theorem pw.inA {D : va_G} {cl : List vw_C} {A : Nat → Prop} {h : pw_H} {H : Heap} (hP : pw D cl A h H) {a : Nat} {e : va_E} (f : h a = some e) : A a := by
  obtain ⟨ws, P, hD, hl, hr⟩ := hP
  obtain ⟨k, hk⟩ := hl a e f
  exact hD.2 k _ hk
/-- another part of the addresses that holds the world -/
theorem pw.into {D : va_G} {cl : List vw_C} {A B : Nat → Prop} {h : pw_H} {H : Heap} (hP : pw D cl A h H) (hB : ∀ (a : Nat) (e : va_E), h a = some e → B a) : pw D cl B h H := by
  obtain ⟨ws, P, hD, hl, hr⟩ := hP
  exact ⟨ws, P, hD.weaken (fun k q hk _ => hB q.1 q.2 (hr k q hk)), hl, hr⟩
theorem pw.kept {D : va_G} {cl : List vw_C} {A : Nat → Prop} {h : pw_H} {H H1 : Heap} (hP : pw D cl A h H) (hk : ∀ (a : Nat) (e : va_E), h a = some e → H1[a]? = H[a]?) : pw D cl A h H1 := by
  obtain ⟨ws, P, hD, hl, hr⟩ := hP
  exact ⟨ws, P.kept (fun k q hq => hk q.1 q.2 (hr k q hq)), hD, hl, hr⟩
theorem pw_set {A : Nat → Prop} {h : pw_H} {ws : va_W} {a k : Nat} {e0 e : va_E} (hD : va_D A ws) (hl : ∀ (b : Nat) (x : va_E), h b = some x → ∃ j : Nat, ws[j]? = some (b, x)) (hr : ∀ (j : Nat) (q : Nat × va_E), ws[j]? = some q → h q.1 = some q.2) (hk : ws[k]? = some (a, e0)) :
    (∀ (b : Nat) (x : va_E), pu h a e b = some x → ∃ j : Nat, (ws.set k (a, e))[j]? = some (b, x)) ∧ ∀ (j : Nat) (q : Nat × va_E), (ws.set k (a, e))[j]? = some q → pu h a e q.1 = some q.2 := by
  have hlt := (List.getElem?_eq_some_iff.mp hk).1
  refine ⟨fun b x hb => ?_, fun j q hq => ?_⟩
  · by_cases hba : b = a
    · subst hba
      rw [pu_s] at hb
      cases hb
      exact ⟨k, List.getElem?_set_self hlt⟩
    · rw [pu_n hba] at hb
      obtain ⟨j, hj⟩ := hl b x hb
      have hjk : j ≠ k := fun z => by
        subst z
        rw [hk] at hj
        cases hj
        exact hba rfl
      exact ⟨j, by rw [List.getElem?_set_ne (Ne.symm hjk)]; exact hj⟩
  · by_cases hjk : j = k
    · subst hjk
      rw [List.getElem?_set_self hlt] at hq
      cases hq
      exact pu_s
    · rw [List.getElem?_set_ne (Ne.symm hjk)] at hq
      exact pu_k (hr j q hq) (fun z => hjk (hD.1 j k q (a, e0) hq hk z))
theorem pw_push {A : Nat → Prop} {h : pw_H} {ws : va_W} {a : Nat} {e : va_E} (hD : va_D A (ws ++ [(a, e)])) (hl : ∀ (b : Nat) (x : va_E), h b = some x → ∃ j : Nat, ws[j]? = some (b, x)) (hr : ∀ (j : Nat) (q : Nat × va_E), ws[j]? = some q → h q.1 = some q.2) :
    h a = none ∧ (∀ (b : Nat) (x : va_E), pu h a e b = some x → ∃ j : Nat, (ws ++ [(a, e)])[j]? = some (b, x)) ∧ ∀ (j : Nat) (q : Nat × va_E), (ws ++ [(a, e)])[j]? = some q → pu h a e q.1 = some q.2 := by
  have hend : (ws ++ [(a, e)])[ws.length]? = some (a, e) := by simp
  have old : ∀ (j : Nat) (q : Nat × va_E), ws[j]? = some q → (ws ++ [(a, e)])[j]? = some q := fun j q hj => by
    rw [List.getElem?_append_left (List.getElem?_eq_some_iff.mp hj).1]; exact hj
  have hf : h a = none := by
    cases hh : h a with
    | none => rfl
    | some x =>
      obtain ⟨k, hk⟩ := hl a x hh
      have hkl := (List.getElem?_eq_some_iff.mp hk).1
      have := hD.1 k ws.length (a, x) (a, e) (old k _ hk) hend rfl
      omega
  refine ⟨hf, fun b x hb => ?_, fun j q hq => ?_⟩
  · by_cases hba : b = a
    · subst hba
      rw [pu_s] at hb
      cases hb
      exact ⟨ws.length, hend⟩
    · rw [pu_n hba] at hb
      obtain ⟨j, hj⟩ := hl b x hb
      exact ⟨j, old j _ hj⟩
  · by_cases hjl : j < ws.length
    · rw [List.getElem?_append_left hjl] at hq
      exact pu_f hf (hr j q hq)
    · have hj2 : j = ws.length := by
        have := (List.getElem?_eq_some_iff.mp hq).1
        simp at this
        omega
      subst hj2
      rw [hend] at hq
      cases hq
      exact pu_s
/-- an array's kind is known by its name -/
theorem pw_ra {s : State} {ty : FieldType} {c1 c2 : ClassId} (h1 : va_RA s c1 ty) (h2 : va_RA s c2 ty) : c1 = c2 := by
  cases ty with
  | object C =>
    obtain ⟨_, _, _, _, _, h1⟩ := h1
    obtain ⟨_, _, _, _, _, h2⟩ := h2
    exact Option.some.inj (h1.symm.trans h2)
  | _ => exact Option.some.inj (Eq.trans (Eq.symm h1) h2)
section PWR
variable {p : Program} {l : Launch} {e : Env} {R : Room} {s : State} {m : MethodId} {args : Array Value} {below : List Frame} {meth : Method} {c : Code} {H : Heap} {locs : List Loc} {cells slots : Nat} {Q : State → Prop}
variable {cc : ByteArray} {pc : Nat} {ls : Array Slot} {rest : List Value} {D : va_G} {cl : List vw_C} {A : Nat → Prop} {a : Nat} {tys : List (ClassId × FieldType)} {h : pw_H} {nL : Nat} {own : String} {Ts : List Cond}
theorem pw_get (F : CallFix p m c cc nL s args Ts own) {ref C : String} {T : u_T} {N ci index : Nat} (hin : ∀ w ∈ u_ws C T N, w ∈ Ts) (hK : va_K D cl tys s) (hP : pw D cl A h H) {fs : List Value} (f : h a = some (.inr (ci, fs))) (hc : cl[ci]? = some (C, T, N)) (k : Nat) (hk : k < N) (hlink : Cond.fieldLink own index ref (T k).2.1 (T k).2.2.1 ∈ Ts) (hsame : ∀ x, s.fieldFound? (T k).1 (T k).2.1 (T k).2.2.1 = some x → s.fieldFound? ref (T k).2.1 (T k).2.2.1 = some x) {v : Value} (hv : fs[k]? = some v) (hdg : decode cc pc = .ok (.getfield index, 3))
    (kk : W p l e R s m args below meth c H locs cells slots Q (F0 m (pc + 3) ls (v :: rest))) : W p l e R s m args below meth c H locs cells slots Q (F0 m pc ls (.ref a :: rest)) := by
  obtain ⟨ws, P, hD, hl, hr⟩ := hP
  obtain ⟨q0, hq⟩ := hl _ _ f
  exact va_get F.1 F.2.1 F.2.2.2.2 hin F.2.2.2.1 hK P q0 hq hc k hk (F.2.2.2.2 _ hlink) hsame hv hdg kk
theorem pw_put (F : CallFix p m c cc nL s args Ts own) {ref C : String} {T : u_T} {N ci index : Nat} (hin : ∀ w ∈ u_ws C T N, w ∈ Ts) (ty0 : Nat → FieldType) (hty : ∀ k, k < N → parseFieldDescriptor (T k).2.2.1 = some (ty0 k)) (hnm : ∀ a, a < N → ∀ b, b < N → a ≠ b → (T a).2.1 ≠ (T b).2.1) (hK : va_K D cl tys s) (hP : pw D cl A h H) (hS : va_S A s.heap H locs) {fs : List Value} (f : h a = some (.inr (ci, fs))) (hc : cl[ci]? = some (C, T, N)) (k : Nat) (hk : k < N) (hlink : Cond.fieldLink own index ref (T k).2.1 (T k).2.2.1 ∈ Ts) (hsame : ∀ x, s.fieldFound? (T k).1 (T k).2.1 (T k).2.2.1 = some x → s.fieldFound? ref (T k).2.1 (T k).2.2.1 = some x) (hfin : (T k).2.2.2 = false) {v : Value} (hn : narrow (ty0 k) v = v) (hfit : fits (ty0 k) v = true) (hl : k < fs.length) (hdg : decode cc pc = .ok (.putfield index, 3))
    (kk : ∀ (H1 : Heap) (locs1 : List Loc), pw D cl A (pu h a (.inr (ci, fs.set k v))) H1 → va_S A s.heap H1 locs1 → W p l e R s m args below meth c H1 locs1 cells slots Q (F0 m (pc + 3) ls rest)) : W p l e R s m args below meth c H locs cells slots Q (F0 m pc ls (v :: .ref a :: rest)) := by
  obtain ⟨ws, P, hD, hl9, hr⟩ := hP
  obtain ⟨q0, hq⟩ := hl9 _ _ f
  exact va_put F.1 F.2.1 F.2.2.2.2 hin ty0 hty hnm F.2.2.2.1 hK P hD hS q0 hq hc k hk (F.2.2.2.2 _ hlink) hsame hfin (hty k hk) hn hfit hl hdg (fun H1 locs1 P1 D1 S1 => kk H1 locs1 ⟨_, P1, D1, (pw_set hD hl9 hr hq).1, (pw_set hD hl9 hr hq).2⟩ S1)
theorem pw_putF (F : CallFix p m c cc nL s args Ts own) {ref C : String} {T : u_T} {N ci index : Nat} (hin : ∀ w ∈ u_ws C T N, w ∈ Ts) (ty0 : Nat → FieldType) (hty : ∀ k, k < N → parseFieldDescriptor (T k).2.2.1 = some (ty0 k)) (hnm : ∀ a, a < N → ∀ b, b < N → a ≠ b → (T a).2.1 ≠ (T b).2.1) (hK : va_K D cl tys s) (hP : pw D cl A h H) (hS : va_S A s.heap H locs) {fs : List Value} (f : h a = some (.inr (ci, fs))) (hc : cl[ci]? = some (C, T, N)) (k : Nat) (hk : k < N) (hlink : Cond.fieldLink own index ref (T k).2.1 (T k).2.2.1 ∈ Ts) (hsame : ∀ x, s.fieldFound? (T k).1 (T k).2.1 (T k).2.2.1 = some x → s.fieldFound? ref (T k).2.1 (T k).2.2.1 = some x) (hfin : (T k).2.2.2 = true) (hin2 : meth.name = "<init>") (hdecl : (T k).1 = own) {v : Value} (hn : narrow (ty0 k) v = v) (hfit : fits (ty0 k) v = true) (hl : k < fs.length) (hdg : decode cc pc = .ok (.putfield index, 3))
    (kk : ∀ (H1 : Heap) (locs1 : List Loc), pw D cl A (pu h a (.inr (ci, fs.set k v))) H1 → va_S A s.heap H1 locs1 → W p l e R s m args below meth c H1 locs1 cells slots Q (F0 m (pc + 3) ls rest)) : W p l e R s m args below meth c H locs cells slots Q (F0 m pc ls (v :: .ref a :: rest)) := by
  obtain ⟨ws, P, hD, hl9, hr⟩ := hP
  obtain ⟨q0, hq⟩ := hl9 _ _ f
  exact va_putF F.1 F.2.1 F.2.2.2.2 hin ty0 hty hnm F.2.2.2.1 hK P hD hS q0 hq hc k hk (F.2.2.2.2 _ hlink) hsame hfin hin2 hdecl (hty k hk) hn hfit hl hdg (fun H1 locs1 P1 D1 S1 => kk H1 locs1 ⟨_, P1, D1, (pw_set hD hl9 hr hq).1, (pw_set hD hl9 hr hq).2⟩ S1)
theorem pw_iald (F : CallFix p m c cc nL s args Ts own) (hK : va_K D cl tys s) (hP : pw D cl A h H) (t0 : Nat) {cA : ClassId} {n : Nat} {f : Nat → Int32} (ha : h a = some (.inl (cA, n, .inl f))) (ht : tys[t0]? = some (cA, .int)) {i : Int32} (hin : vp_in i n) (hdg : decode cc pc = .ok (.iaload, 1))
    (kk : W p l e R s m args below meth c H locs cells slots Q (F0 m (pc + 1) ls (.int (f i.toNatClampNeg) :: rest))) : W p l e R s m args below meth c H locs cells slots Q (F0 m pc ls (.int i :: .ref a :: rest)) := by
  obtain ⟨ws, P, hD, hl, hr⟩ := hP
  obtain ⟨q0, hq⟩ := hl _ _ ha
  exact va_iald F.1 F.2.1 hK P q0 t0 hq ht hin hdg kk
theorem pw_zald (F : CallFix p m c cc nL s args Ts own) (hK : va_K D cl tys s) (hP : pw D cl A h H) (t0 : Nat) {cA : ClassId} {n : Nat} {f : Nat → Int32} (ha : h a = some (.inl (cA, n, .inl f))) (ht : tys[t0]? = some (cA, .boolean)) {i : Int32} (hin : vp_in i n) (hdg : decode cc pc = .ok (.baload, 1))
    (kk : W p l e R s m args below meth c H locs cells slots Q (F0 m (pc + 1) ls (.int (f i.toNatClampNeg) :: rest))) : W p l e R s m args below meth c H locs cells slots Q (F0 m pc ls (.int i :: .ref a :: rest)) := by
  obtain ⟨ws, P, hD, hl, hr⟩ := hP
  obtain ⟨q0, hq⟩ := hl _ _ ha
  exact va_zald F.1 F.2.1 hK P q0 t0 hq ht hin hdg kk
theorem pw_lald (F : CallFix p m c cc nL s args Ts own) (hK : va_K D cl tys s) (hP : pw D cl A h H) (t0 : Nat) {cA : ClassId} {n : Nat} {f : Nat → Int64} (ha : h a = some (.inl (cA, n, .inr (.inl f)))) (ht : tys[t0]? = some (cA, .long)) {i : Int32} (hin : vp_in i n) (hdg : decode cc pc = .ok (.laload, 1))
    (kk : W p l e R s m args below meth c H locs cells slots Q (F0 m (pc + 1) ls (.long (f i.toNatClampNeg) :: rest))) : W p l e R s m args below meth c H locs cells slots Q (F0 m pc ls (.int i :: .ref a :: rest)) := by
  obtain ⟨ws, P, hD, hl, hr⟩ := hP
  obtain ⟨q0, hq⟩ := hl _ _ ha
  exact va_lald F.1 F.2.1 hK P q0 t0 hq ht hin hdg kk
theorem pw_aldq (F : CallFix p m c cc nL s args Ts own) (hK : va_K D cl tys s) (hP : pw D cl A h H) (t0 : Nat) {cA : ClassId} {C : String} {n : Nat} {f : Nat → Option Nat} (ha : h a = some (.inl (cA, n, .inr (.inr (.inr (.inr f)))))) (ht : tys[t0]? = some (cA, .object C)) {i : Int32} (hin : vp_in i n) (hdg : decode cc pc = .ok (.aaload, 1))
    (kk : W p l e R s m args below meth c H locs cells slots Q (F0 m (pc + 1) ls (va_rf (f i.toNatClampNeg) :: rest))) : W p l e R s m args below meth c H locs cells slots Q (F0 m pc ls (.int i :: .ref a :: rest)) := by
  obtain ⟨ws, P, hD, hl, hr⟩ := hP
  obtain ⟨q0, hq⟩ := hl _ _ ha
  exact va_aldq F.1 F.2.1 hK P q0 t0 hq ht hin hdg kk
theorem pw_alen (F : CallFix p m c cc nL s args Ts own) (hK : va_K D cl tys s) (hP : pw D cl A h H) (t0 : Nat) {cA : ClassId} {x : vp_A} (ha : h a = some (.inl (cA, x))) {ty : FieldType} (ht : tys[t0]? = some (cA, ty)) {v : Int32} (hv : Int32.ofNat x.1 = v) (hdg : decode cc pc = .ok (.arraylength, 1))
    (kk : W p l e R s m args below meth c H locs cells slots Q (F0 m (pc + 1) ls (.int v :: rest))) : W p l e R s m args below meth c H locs cells slots Q (F0 m pc ls (.ref a :: rest)) := by
  obtain ⟨ws, P, hD, hl, hr⟩ := hP
  obtain ⟨q0, hq⟩ := hl _ _ ha
  exact va_alen F.1 F.2.1 hK P q0 t0 hq ht hv hdg kk
theorem pw_iast (F : CallFix p m c cc nL s args Ts own) (hK : va_K D cl tys s) (hP : pw D cl A h H) (hS : va_S A s.heap H locs) (t0 : Nat) {cA : ClassId} {n : Nat} {f : Nat → Int32} (ha : h a = some (.inl (cA, n, .inl f))) (ht : tys[t0]? = some (cA, .int)) {i x : Int32} (hin : vp_in i n) (hdg : decode cc pc = .ok (.iastore, 1))
    (kk : ∀ (H1 : Heap) (locs1 : List Loc), pw D cl A (pu h a (.inl (cA, n, .inl (upd f i.toNatClampNeg x)))) H1 → va_S A s.heap H1 locs1 → W p l e R s m args below meth c H1 locs1 cells slots Q (F0 m (pc + 1) ls rest)) : W p l e R s m args below meth c H locs cells slots Q (F0 m pc ls (.int x :: .int i :: .ref a :: rest)) := by
  obtain ⟨ws, P, hD, hl, hr⟩ := hP
  obtain ⟨q0, hq⟩ := hl _ _ ha
  exact va_iast F.1 F.2.1 hK P hD hS q0 t0 hq ht hin hdg (fun H1 locs1 P1 D1 S1 => kk H1 locs1 ⟨_, P1, D1, (pw_set hD hl hr hq).1, (pw_set hD hl hr hq).2⟩ S1)
theorem pw_zast (F : CallFix p m c cc nL s args Ts own) (hK : va_K D cl tys s) (hP : pw D cl A h H) (hS : va_S A s.heap H locs) (t0 : Nat) {cA : ClassId} {n : Nat} {f : Nat → Int32} (ha : h a = some (.inl (cA, n, .inl f))) (ht : tys[t0]? = some (cA, .boolean)) {i x : Int32} (hin : vp_in i n) (hdg : decode cc pc = .ok (.bastore, 1))
    (kk : ∀ (H1 : Heap) (locs1 : List Loc), pw D cl A (pu h a (.inl (cA, n, .inl (upd f i.toNatClampNeg (vp_nar .boolean x))))) H1 → va_S A s.heap H1 locs1 → W p l e R s m args below meth c H1 locs1 cells slots Q (F0 m (pc + 1) ls rest)) : W p l e R s m args below meth c H locs cells slots Q (F0 m pc ls (.int x :: .int i :: .ref a :: rest)) := by
  obtain ⟨ws, P, hD, hl, hr⟩ := hP
  obtain ⟨q0, hq⟩ := hl _ _ ha
  exact va_zast F.1 F.2.1 hK P hD hS q0 t0 hq ht hin hdg (fun H1 locs1 P1 D1 S1 => kk H1 locs1 ⟨_, P1, D1, (pw_set hD hl hr hq).1, (pw_set hD hl hr hq).2⟩ S1)
theorem pw_last (F : CallFix p m c cc nL s args Ts own) (hK : va_K D cl tys s) (hP : pw D cl A h H) (hS : va_S A s.heap H locs) (t0 : Nat) {cA : ClassId} {n : Nat} {f : Nat → Int64} (ha : h a = some (.inl (cA, n, .inr (.inl f)))) (ht : tys[t0]? = some (cA, .long)) {i : Int32} {x : Int64} (hin : vp_in i n) (hdg : decode cc pc = .ok (.lastore, 1))
    (kk : ∀ (H1 : Heap) (locs1 : List Loc), pw D cl A (pu h a (.inl (cA, n, .inr (.inl (vp_updL f i.toNatClampNeg x))))) H1 → va_S A s.heap H1 locs1 → W p l e R s m args below meth c H1 locs1 cells slots Q (F0 m (pc + 1) ls rest)) : W p l e R s m args below meth c H locs cells slots Q (F0 m pc ls (.long x :: .int i :: .ref a :: rest)) := by
  obtain ⟨ws, P, hD, hl, hr⟩ := hP
  obtain ⟨q0, hq⟩ := hl _ _ ha
  exact va_last F.1 F.2.1 hK P hD hS q0 t0 hq ht hin hdg (fun H1 locs1 P1 D1 S1 => kk H1 locs1 ⟨_, P1, D1, (pw_set hD hl hr hq).1, (pw_set hD hl hr hq).2⟩ S1)
theorem pw_astq (F : CallFix p m c cc nL s args Ts own) (hK : va_K D cl tys s) (hP : pw D cl A h H) (hS : va_S A s.heap H locs) (t0 ci : Nat) {cA : ClassId} {r : vw_C} {n v : Nat} {vs : List Value} {f : Nat → Option Nat} (ha : h a = some (.inl (cA, n, .inr (.inr (.inr (.inr f)))))) (ht : tys[t0]? = some (cA, .object r.1)) (hv : h v = some (.inr (ci, vs))) (hc : cl[ci]? = some r) {i : Int32} (hin : vp_in i n) (hdg : decode cc pc = .ok (.aastore, 1))
    (kk : ∀ (H1 : Heap) (locs1 : List Loc), pw D cl A (pu h a (.inl (cA, n, .inr (.inr (.inr (.inr (va_up f i.toNatClampNeg (some v)))))))) H1 → va_S A s.heap H1 locs1 → W p l e R s m args below meth c H1 locs1 cells slots Q (F0 m (pc + 1) ls rest)) : W p l e R s m args below meth c H locs cells slots Q (F0 m pc ls (.ref v :: .int i :: .ref a :: rest)) := by
  obtain ⟨ws, P, hD, hl, hr⟩ := hP
  obtain ⟨q0, hq⟩ := hl _ _ ha
  obtain ⟨qk, hqk⟩ := hl _ _ hv
  exact va_astq F.1 F.2.1 hK P hD hS q0 t0 qk ci hq ht hqk hc hin hdg (fun H1 locs1 P1 D1 S1 => kk H1 locs1 ⟨_, P1, D1, (pw_set hD hl hr hq).1, (pw_set hD hl hr hq).2⟩ S1)
theorem pw_astqO (F : CallFix p m c cc nL s args Ts own) (hK : va_K D cl tys s) (hP : pw D cl A h H) (hS : va_S A s.heap H locs) (t0 ci : Nat) {E : String} {cA : ClassId} {r : vw_C} {n v : Nat} {vs : List Value} {f : Nat → Option Nat} (ha : h a = some (.inl (cA, n, .inr (.inr (.inr (.inr f)))))) (ht : tys[t0]? = some (cA, .object E)) (hca : va_Nw (.castable r.1 E) s) (hv : h v = some (.inr (ci, vs))) (hc : cl[ci]? = some r) {i : Int32} (hin : vp_in i n) (hdg : decode cc pc = .ok (.aastore, 1))
    (kk : ∀ (H1 : Heap) (locs1 : List Loc), pw D cl A (pu h a (.inl (cA, n, .inr (.inr (.inr (.inr (va_up f i.toNatClampNeg (some v)))))))) H1 → va_S A s.heap H1 locs1 → W p l e R s m args below meth c H1 locs1 cells slots Q (F0 m (pc + 1) ls rest)) : W p l e R s m args below meth c H locs cells slots Q (F0 m pc ls (.ref v :: .int i :: .ref a :: rest)) := by
  obtain ⟨ws, P, hD, hl, hr⟩ := hP
  obtain ⟨q0, hq⟩ := hl _ _ ha
  obtain ⟨qk, hqk⟩ := hl _ _ hv
  exact va_astqO F.1 F.2.1 hK P hD hS q0 t0 qk ci hq ht hca hqk hc hin hdg (fun H1 locs1 P1 D1 S1 => kk H1 locs1 ⟨_, P1, D1, (pw_set hD hl hr hq).1, (pw_set hD hl hr hq).2⟩ S1)
theorem pw_astqN (F : CallFix p m c cc nL s args Ts own) (hK : va_K D cl tys s) (hP : pw D cl A h H) (hS : va_S A s.heap H locs) (t0 : Nat) {C : String} {cA : ClassId} {n : Nat} {f : Nat → Option Nat} (ha : h a = some (.inl (cA, n, .inr (.inr (.inr (.inr f)))))) (ht : tys[t0]? = some (cA, .object C)) {i : Int32} (hin : vp_in i n) (hdg : decode cc pc = .ok (.aastore, 1))
    (kk : ∀ (H1 : Heap) (locs1 : List Loc), pw D cl A (pu h a (.inl (cA, n, .inr (.inr (.inr (.inr (va_up f i.toNatClampNeg none))))))) H1 → va_S A s.heap H1 locs1 → W p l e R s m args below meth c H1 locs1 cells slots Q (F0 m (pc + 1) ls rest)) : W p l e R s m args below meth c H locs cells slots Q (F0 m pc ls (.null :: .int i :: .ref a :: rest)) := by
  obtain ⟨ws, P, hD, hl, hr⟩ := hP
  obtain ⟨q0, hq⟩ := hl _ _ ha
  exact va_astqN F.1 F.2.1 hK P hD hS q0 t0 hq ht hin hdg (fun H1 locs1 P1 D1 S1 => kk H1 locs1 ⟨_, P1, D1, (pw_set hD hl hr hq).1, (pw_set hD hl hr hq).2⟩ S1)
theorem pw_new (F : CallFix p m c cc nL s args Ts own) {C : String} {T : u_T} {N ci index : Nat} (hin : ∀ w ∈ u_ws C T N, w ∈ Ts) (ty : Nat → FieldType) (hty : ∀ k, k < N → parseFieldDescriptor (T k).2.2.1 = some (ty k)) (hcl : Cond.classLink own index C ∈ Ts) (hinst : Cond.instantiable C N ∈ Ts) (hini : Cond.initialized C ∈ Ts)
    (hK : va_K D cl tys s) (hP : pw D cl A h H) (hS : va_S A s.heap H locs) (hA : ∀ q, s.heap.size ≤ q → A q) (hc : cl[ci]? = some (C, T, N)) {fs : List Value} (hfs : ∀ j, j < N → defaultValue (ty j) = vp_V fs j) (hcells : cells + 1 ≤ R.cells) (hslots : slots + N ≤ R.slots) (hdg : decode cc pc = .ok (.new index, 3))
    (kk : ∀ (q : Nat) (H1 : Heap), h q = none → pw D cl A (pu h q (.inr (ci, fs))) H1 → va_S A s.heap H1 locs → W p l e R s m args below meth c H1 locs (cells + 1) (slots + N) Q (F0 m (pc + 3) ls (.ref q :: rest))) : W p l e R s m args below meth c H locs cells slots Q (F0 m pc ls rest) := by
  obtain ⟨ws, P, hD, hl, hr⟩ := hP
  exact va_new F.1 F.2.1 F.2.2.2.2 hin ty hty F.2.2.2.1 (F.2.2.2.2 _ hcl) (F.2.2.2.2 _ hinst) (F.2.2.2.2 _ hini) hK P hD hS hA hc hfs hcells hslots hdg (fun q H1 P1 D1 S1 => kk q H1 (pw_push D1 hl hr).1 ⟨_, P1, D1, (pw_push D1 hl hr).2.1, (pw_push D1 hl hr).2.2⟩ S1)
theorem pw_newa (F : CallFix p m c cc nL s args Ts own) {atype : ArrayType} (harr : Cond.arrayClass (newarray.typeOf atype) ∈ Ts) {ty : FieldType} (hty : newarray.typeOf atype = ty) (hK : va_K D cl tys s) (hP : pw D cl A h H) (hS : va_S A s.heap H locs) (hA : ∀ q, s.heap.size ≤ q → A q) (t0 : Nat) {cA : ClassId} (ht : tys[t0]? = some (cA, ty))
    {n : Int32} {N' : Nat} {a0 : vp_A} (ha : ∀ cA : ClassId, vp_cell cA a0 = arrV cA N' (fun _ => defaultValue ty)) (hn : ¬ n < 0) (hN : n.toNatClampNeg = N') (hbytes : N' * componentBytes ty ≤ 536870912) (hcells : cells + 1 ≤ R.cells) (hslots : slots + N' ≤ R.slots) (hdg : decode cc pc = .ok (.newarray atype, 2))
    (kk : ∀ (q : Nat) (H1 : Heap), h q = none → pw D cl A (pu h q (.inl (cA, a0))) H1 → va_S A s.heap H1 locs → W p l e R s m args below meth c H1 locs (cells + 1) (slots + N') Q (F0 m (pc + 2) ls (.ref q :: rest))) : W p l e R s m args below meth c H locs cells slots Q (F0 m pc ls (.int n :: rest)) := by
  obtain ⟨ws, P, hD, hl, hr⟩ := hP
  refine va_newa F.1 F.2.1 (F.2.2.2.2 _ harr) hty hK P hD hS hA ha hn hN hbytes hcells hslots hdg (fun q cB H1 K1 P1 D1 S1 => ?_)
  have hRA : va_RA s cB ty := (K1.2 tys.length (cB, ty) (by simp)).2
  have hcB : cB = cA := pw_ra hRA (hK.2 t0 _ ht).2
  subst hcB
  exact kk q H1 (pw_push D1 hl hr).1 ⟨_, P1, D1, (pw_push D1 hl hr).2.1, (pw_push D1 hl hr).2.2⟩ S1
theorem pw_newq (F : CallFix p m c cc nL s args Ts own) {C : String} {index : Nat} (hclink : Cond.classLink own index C ∈ Ts) (hover : va_AO C s) (hK : va_K D cl tys s) (hP : pw D cl A h H) (hS : va_S A s.heap H locs) (hA : ∀ q, s.heap.size ≤ q → A q) (t0 : Nat) {cA : ClassId} (ht : tys[t0]? = some (cA, .object C))
    {n : Int32} {N' : Nat} (hn : ¬ n < 0) (hN : n.toNatClampNeg = N') (hbytes : N' * 4 ≤ 536870912) (hcells : cells + 1 ≤ R.cells) (hslots : slots + N' ≤ R.slots) (hdg : decode cc pc = .ok (.anewarray index, 3))
    (kk : ∀ (q : Nat) (H1 : Heap), h q = none → pw D cl A (pu h q (.inl (cA, N', .inr (.inr (.inr (.inr (fun _ => none))))))) H1 → va_S A s.heap H1 locs → W p l e R s m args below meth c H1 locs (cells + 1) (slots + N') Q (F0 m (pc + 3) ls (.ref q :: rest))) : W p l e R s m args below meth c H locs cells slots Q (F0 m pc ls (.int n :: rest)) := by
  obtain ⟨ws, P, hD, hl, hr⟩ := hP
  refine va_newq F.1 F.2.1 F.2.2.2.1 (F.2.2.2.2 _ hclink) hover hK P hD hS hA hn hN hbytes hcells hslots hdg (fun q cB H1 K1 P1 D1 S1 => ?_)
  have hcB : cB = cA := pw_ra (K1.2 tys.length (cB, .object C) (by simp)).2 (hK.2 t0 _ ht).2
  subst hcB
  exact kk q H1 (pw_push D1 hl hr).1 ⟨_, P1, D1, (pw_push D1 hl hr).2.1, (pw_push D1 hl hr).2.2⟩ S1
theorem pw_recv (hK : va_K D cl tys s) (hP : pw D cl A h H) {ci : Nat} {fs : List Value} {q : vw_C} (f : h a = some (.inr (ci, fs))) (hc : cl[ci]? = some q) : ∃ cell : Cell, H[a]? = some cell ∧ cell.vm.isStatics = false ∧ s.vm.findClass q.1 = some cell.cls := by
  obtain ⟨ws, P, hD, hl, hr⟩ := hP
  obtain ⟨q0, hq⟩ := hl _ _ f
  exact va_recv hK P hc hq
end PWR
/-! what stays as it is while the law runs -/
abbrev tyl (cs : Nat → Nat) : List (ClassId × FieldType) := [(cs 0, .int), (cs 1, .boolean), (cs 2, .long), (cs 3, .object "PatchDesk$Body"), (cs 4, .object "PatchDesk$Frame"), (cs 5, .object "java/lang/Object")]
def kStr : List (Nat × String) := [(39, "a signature is 0 .. 9"), (54, "no more functions: there are 8, or a task, or a patch"), (72, "no such function, or not in the draft"), (94, "no such operation, or not with this number"), (99, "the body is closed by a task or a patch, or has 12 operations"), (105, "no such function, named already, or no such signature"), (113, "the draft names no function"), (121, "a signature is another one than the function's"), (124, "a transition goes on, or there are 5 patches"), (129, "no transition and no patch"), (131, "no such function"), (133, "there are 4 tasks"), (147, "no such task, or steps is not 1 .. 100"), (163, "no such task or what"), (182, "no such frame"), (198, "no such level")]
def kNc : List (String × String) := [("java/lang/IllegalArgumentException", "java/lang/IllegalStateException"), ("java/lang/IllegalArgumentException", "java/lang/UnsupportedOperationException"), ("java/lang/IllegalArgumentException", "java/util/NoSuchElementException"), ("java/lang/IllegalStateException", "java/lang/IllegalArgumentException"), ("java/lang/IllegalStateException", "java/lang/UnsupportedOperationException"), ("java/lang/IllegalStateException", "java/util/NoSuchElementException"), ("java/lang/UnsupportedOperationException", "java/lang/IllegalArgumentException"), ("java/lang/UnsupportedOperationException", "java/lang/IllegalStateException"), ("java/lang/UnsupportedOperationException", "java/util/NoSuchElementException"), ("java/util/NoSuchElementException", "java/lang/IllegalArgumentException"), ("java/util/NoSuchElementException", "java/lang/IllegalStateException"), ("java/util/NoSuchElementException", "java/lang/UnsupportedOperationException")]
def kCa : List (String × String) := [("java/lang/IllegalArgumentException", "java/lang/IllegalArgumentException"), ("java/lang/IllegalStateException", "java/lang/IllegalStateException"), ("java/lang/UnsupportedOperationException", "java/lang/UnsupportedOperationException"), ("java/util/NoSuchElementException", "java/util/NoSuchElementException"), ("PatchDesk$Function", "PatchDesk$Function"), ("PatchDesk$Task", "PatchDesk$Task"), ("PatchDesk$Patch", "PatchDesk$Patch"), ("PatchDesk", "java/lang/Object"), ("PatchDesk$Patch", "java/lang/Object"), ("PatchDeskModel", "java/lang/Object"), ("PatchDesk$Function", "java/lang/Object"), ("PatchDesk$Body", "java/lang/Object"), ("PatchDesk$Task", "java/lang/Object"), ("PatchDesk$Frame", "java/lang/Object"), ("java/lang/String", "java/lang/Object")]
def kAO : List String := ["PatchDesk$Body", "PatchDesk$Frame", "java/lang/Object"]
def kDe : List MethodName := [⟨"java/lang/RuntimeException", "<init>", "(Ljava/lang/String;)V"⟩, ⟨"java/lang/Exception", "<init>", "(Ljava/lang/String;)V"⟩, ⟨"java/lang/Throwable", "<init>", "(Ljava/lang/String;)V"⟩]
def kon (D : va_G) (cs : Nat → Nat) (A : Nat → Prop) (U : State) (H : Heap) : Prop :=
  va_K D vwCl (tyl cs) U ∧ va_Z R_AL "DEFAULTCAPACITY_EMPTY_ELEMENTDATA" "[Ljava/lang/Object;" (.ref (cs 9)) A U H ∧ va_T (.object "java/lang/Object") (cs 9) 0 (fun _ => .null) A U H ∧
  vx_Zq Bundle.tN "UNASSIGNED_STACK" Bundle.steD A U H ∧ vx_Zq Bundle.tN "SUPPRESSED_SENTINEL" Bundle.listD A U H ∧
  (∀ q ∈ kStr, ∃ a, vk_R R_D q.1 q.2 a U) ∧ (∀ q ∈ kNc, va_Nc q.1 q.2 U) ∧ (∀ q ∈ kCa, va_Nw (.castable q.1 q.2) U) ∧ (∀ q ∈ kAO, va_AO q U) ∧ ∀ q ∈ kDe, va_Nw (.declares q) U
theorem kon.go {D : va_G} {cs : Nat → Nat} {A : Nat → Prop} {s U : State} {H : Heap} {locs : List Loc} (h : kon D cs A s s.heap) (hS : va_S A s.heap H locs) (hU : U.heap = H) (hW : s.WarmedH U.vm) : kon D cs A U U.heap := by
  obtain ⟨k1, k2, k3, k4, k5, k6, k7, k8, k9, k10⟩ := h
  have hk : ∀ a : Nat, a < s.heap.size → ¬ A a → U.heap[a]? = s.heap[a]? := fun a h1 h2 => by rw [hU]; exact hS.2.1 a h1 h2
  refine ⟨va_K.moved hW.alike k1, (va_Z.moved hW.alike k2).kept hk, (va_T.moved hW.alike k3).kept hk, (vx_Zq.moved hW.alike k4).kept hk, (vx_Zq.moved hW.alike k5).kept hk, fun q hq => ?_, fun q hq => (k7 q hq).moved hW.alike, fun q hq => (k8 q hq).warmC hW, fun q hq => (k9 q hq).moved hW.alike, fun q hq => (k10 q hq).warmD hW⟩
  obtain ⟨a, ha⟩ := k6 q hq
  exact ⟨a, ha.warm hW⟩
theorem kon.narrow {D : va_G} {cs : Nat → Nat} {A B : Nat → Prop} {U : State} {H : Heap} (h : kon D cs A U H) (hAB : ∀ q, B q → A q) : kon D cs B U H := by
  obtain ⟨k1, k2, k3, k4, k5, k6, k7, k8, k9, k10⟩ := h
  exact ⟨k1, k2.narrow hAB, k3.narrow hAB, k4.narrow hAB, k5.narrow hAB, k6, k7, k8, k9, k10⟩
theorem kon.calling {D : va_G} {cs : Nat → Nat} {A : Nat → Prop} {U : State} {g : JFrame} {mk : MethodId} {a : Array Value} (h : kon D cs A U U.heap) : kon D cs A (U.calling g mk a) (U.calling g mk a).heap := by
  obtain ⟨k1, k2, k3, k4, k5, k6, k7, k8, k9, k10⟩ := h
  have hv : (U.calling g mk a).vm = U.vm := rfl
  have al : U.vm.Alike (U.calling g mk a).vm := Vm.Alike.refl U.vm
  refine ⟨va_K.moved al k1, va_Z.moved al k2, va_T.moved al k3, vx_Zq.moved al k4, vx_Zq.moved al k5, fun q hq => ?_, fun q hq => (k7 q hq).moved al, fun q hq => va_Nw.same rfl hv.symm (k8 q hq), fun q hq => (k9 q hq).moved al, fun q hq => va_Nw.same rfl hv.symm (k10 q hq)⟩
  obtain ⟨a, ha⟩ := k6 q hq
  exact ⟨a, vk_R.same hv ha⟩
/-- a world at a state: the map, the addresses that may be written, the constants -/
def ww (D : va_G) (cs : Nat → Nat) (A : Nat → Prop) (h : pw_H) (U : State) : Prop := pw D vwCl A h U.heap ∧ (∀ q, U.heap.size ≤ q → A q) ∧ kon D cs A U U.heap
/-- a method's contract over maps -/
def pm (l : Launch) (y : MethodName) (cc : ByteArray) (maxL : Nat) (ret : Option FieldType) (rm : Room) (av : List Value) (D : va_G) (cs : Nat → Nat) (A : Nat → Prop) (h : pw_H) (Qc : Array Value → State → Outcome → State → Prop) (mc ms : Nat) : Prop :=
  Met l y (Cond.code y cc maxL ret :: gws) rm (va_Pc av (ww D cs A h)) Qc mc ms A
theorem pm_of {l : Launch} {y : MethodName} {cc : ByteArray} {maxL : Nat} {ret : Option FieldType} {rm : Room} {av : List Value} {D : va_G} {cs : Nat → Nat} {A : Nat → Prop} {h : pw_H} {Qc : Array Value → State → Outcome → State → Prop} {mc ms : Nat} (own : String) (ho : y.cls = own) (hy : plainName y.cls = true) (hn : (lg_sl av).length ≤ maxL)
    (body : ∀ (p : Program) (e : Env) (s : State) (m : MethodId) (below : List Frame) (meth : Method) (c : Code) (ls : Array Slot), CallFix p m c cc maxL s av.toArray gws own → meth.sig.returnType = ret → meth.locks = false → meth.name = y.name → pw D vwCl A h s.heap → (∀ q, s.heap.size ≤ q → A q) → kon D cs A s s.heap → lv_has ls maxL (lv_args 0 av) →
      W p l e rm s m av.toArray below meth c s.heap [] 0 0 (MQ below Qc av.toArray s mc ms A) (F0 m 0 ls [])) : pm l y cc maxL ret rm av D cs A h Qc mc ms := by
  subst ho
  refine Met.ofW (cc := cc) (maxL := maxL) (ret := ret) hy rfl ?_
  intro p e s m args below meth c s₁ B hml hv
  obtain ⟨rfl, hP, hA, hK⟩ := hv
  have hts := atoms_spec (ws := Cond.code y cc maxL ret :: gws) B.pre
  rw [lg_entry_eq]
  exact body p e s m below meth c _ ⟨B.exec, B.bytes, hml, findClass_of_methodNamed B.named, fun w hw => hts w (List.mem_cons_of_mem _ hw)⟩ B.returns B.notSynchronized (name_of_methodNamed B.named B.method).1 hP hA hK (lv_entry av hn)
section PWC
variable {p : Program} {l : Launch} {e : Env} {R : Room} {s : State} {m : MethodId} {args : Array Value} {below : List Frame} {meth : Method} {c : Code} {H : Heap} {locs : List Loc} {cells slots : Nat} {Q : State → Prop}
variable {cc : ByteArray} {pc : Nat} {ls : Array Slot} {rest : List Value} {D : va_G} {cs : Nat → Nat} {A : Nat → Prop} {a : Nat} {h : pw_H} {nL : Nat} {own : String}
variable {mc ms : Nat} {y : MethodName} {bytes : ByteArray} {maxL : Nat} {ret : Option FieldType} {rm : Room} {As st0 : List Value} {b index n : Nat} {Qc : Array Value → State → Outcome → State → Prop} {av : List Value}
theorem ww_blind : FrameBlind (va_Pc av (ww D cs A h)) := fun _ U g mk q => ⟨q.1, q.2.1, q.2.2.1, kon.calling q.2.2.2⟩
theorem ww_at (hP : pw D vwCl A h H) (hA : ∀ q, s.heap.size ≤ q → A q) (hK : kon D cs A s s.heap) (hS : va_S A s.heap H locs) (U : State) (hU : U.heap = H) (hW : s.WarmedH U.vm) : va_Pc av (ww D cs A h) av.toArray U :=
  ⟨rfl, by rw [hU]; exact hP, fun q hq => hA q (Nat.le_trans hS.1 (by rw [← hU]; exact hq)), kon.go hK hS hU hW⟩
theorem pr_V (F : CallFix p m c cc nL s args gws own) (hM : pm l y bytes maxL ret rm (.ref b :: As) D cs A h Qc mc ms) (X : cwdV own index y bytes maxL ret n) (hrc : rm.cells = mc) (hrs : rm.slots = ms) (hR : rm.frames + 1 ≤ R.frames ∧ 8 + (maxL + 11) + rm.locals ≤ R.locals)
    (hP : pw D vwCl A h H) (hA : ∀ q, s.heap.size ≤ q → A q) (hK : kon D cs A s s.heap) (hS : va_S A s.heap H locs) {ci : Nat} {fs : List Value} {q : vw_C} (f : h b = some (.inr (ci, fs))) (hc : vwCl[ci]? = some q) (hq : q.1 = y.cls)
    (hn : As.length = n) (hsize : ls.size = nL) (hstack : st0 = As.reverse ++ .ref b :: rest) (hW : (rest.map fun v => v.category).sum ≤ 8) (hdg : decode cc pc = .ok (.invokevirtual index, 3)) (hf : cells + mc ≤ R.cells ∧ slots + ms ≤ R.slots) :
    va_Run p l e R s m args below meth c H locs cells slots mc ms (F0 m pc ls st0) rest (Qc (Value.ref b :: As).toArray) A := by
  obtain ⟨⟨x1, x2, x3, x4, x5⟩, x6⟩ := X
  refine va_runV (C := y.cls) F hM (cwV n F.2.2.2.2 (fun w hw => ?_) rfl hrc hrs ⟨rfl, x6⟩ hR) ⟨ww_blind, ?_, ww_at hP hA hK hS⟩ rfl hn hsize hstack (lv_room hW) hdg hf
  · unfold wsV at hw
    rcases List.mem_append.mp hw with hw | hw
    · simp only [List.mem_cons, List.not_mem_nil, or_false] at hw
      rcases hw with rfl | rfl | rfl | rfl
      · exact gw_good _ x1
      · exact gw_good _ x2
      · exact gw_good _ x3
      · exact gw_good _ x4
    · exact gw_cons x5 w hw
  · rw [← hq]; exact pw_recv hK.1 hP f hc
theorem pr_S (F : CallFix p m c cc nL s args gws own) (hM : pm l y bytes maxL ret rm As D cs A h Qc mc ms) (X : cwdS own index y bytes maxL ret n) (hrc : rm.cells = mc) (hrs : rm.slots = ms) (hR : rm.frames + 1 ≤ R.frames ∧ 8 + (maxL + 11) + rm.locals ≤ R.locals)
    (hP : pw D vwCl A h H) (hA : ∀ q, s.heap.size ≤ q → A q) (hK : kon D cs A s s.heap) (hS : va_S A s.heap H locs)
    (hn : As.length = n) (hsize : ls.size = nL) (hstack : st0 = As.reverse ++ rest) (hW : (rest.map fun v => v.category).sum ≤ 8) (hdg : decode cc pc = .ok (.invokestatic index, 3)) (hf : cells + mc ≤ R.cells ∧ slots + ms ≤ R.slots) :
    va_Run p l e R s m args below meth c H locs cells slots mc ms (F0 m pc ls st0) rest (Qc As.toArray) A := by
  obtain ⟨⟨x1, x2, x3, x4⟩, x6⟩ := X
  refine va_runS F hM (va_cwS n F.2.2.2.2 (fun w hw => ?_) rfl hrc hrs x6 hR) ⟨ww_blind, ww_at hP hA hK hS⟩ rfl hn hsize hstack (lv_room hW) hdg hf
  unfold va_wsS at hw
  rcases List.mem_append.mp hw with hw | hw
  · simp only [List.mem_cons, List.not_mem_nil, or_false] at hw
    rcases hw with rfl | rfl | rfl
    · exact gw_good _ x1
    · exact gw_good _ x2
    · exact gw_good _ x3
  · exact gw_cons x4 w hw
theorem pr_I (F : CallFix p m c cc nL s args gws own) (hM : pm l y bytes maxL none rm (.ref b :: As) D cs A h Qc mc ms) (X : cwdI own index y bytes maxL n) (hrc : rm.cells = mc) (hrs : rm.slots = ms) (hR : rm.frames + 1 ≤ R.frames ∧ 8 + (maxL + 11) + rm.locals ≤ R.locals)
    (hP : pw D vwCl A h H) (hA : ∀ q, s.heap.size ≤ q → A q) (hK : kon D cs A s s.heap) (hS : va_S A s.heap H locs)
    (hn : As.length = n) (hsize : ls.size = nL) (hstack : st0 = As.reverse ++ .ref b :: rest) (hW : (rest.map fun v => v.category).sum ≤ 8) (hdg : decode cc pc = .ok (.invokespecial index, 3)) (hf : cells + mc ≤ R.cells ∧ slots + ms ≤ R.slots) :
    va_Run p l e R s m args below meth c H locs cells slots mc ms (F0 m pc ls st0) rest (Qc (Value.ref b :: As).toArray) A := by
  obtain ⟨⟨x1, x2, x3, x4⟩, x6, x7⟩ := X
  exact va_runI F hM (cwI n F.2.2.2.2 (gw_cons x4) rfl hrc hrs (F.2.2.2.2 _ x3) (F.2.2.2.2 _ x1) (F.2.2.2.2 _ x2) x7 x6 hR) ⟨ww_blind, ww_at hP hA hK hS⟩ rfl hn hsize hstack (lv_room hW) hdg hf
theorem pw_ci {post : Int32 → pw_H → Prop} {a0 : Array Value} (hr : va_Run p l e R s m args below meth c H locs cells slots mc ms (F0 m pc ls st0) rest (va_Qi post (ww D cs A) A a0) A) (hS : va_S A s.heap H locs)
    (kk : ∀ (r : Int32) (h1 : pw_H) (H1 : Heap) (locs1 : List Loc), post r h1 → pw D vwCl A h1 H1 → va_S A s.heap H1 locs1 → W p l e R s m args below meth c H1 locs1 (cells + mc) (slots + ms) Q (F0 m (pc + 3) ls (.int r :: rest))) : W p l e R s m args below meth c H locs cells slots Q (F0 m pc ls st0) :=
  va_calli hr hS (fun _ _ z => z) (fun _ z => z) (fun r u t H1 locs1 ht _ hp hB _ _ hS1 => kk r u H1 locs1 hp (by rw [← ht]; exact hB.1) hS1)
theorem pw_cv {post : pw_H → Prop} {a0 : Array Value} (hr : va_Run p l e R s m args below meth c H locs cells slots mc ms (F0 m pc ls st0) rest (va_Qv post (ww D cs A) A a0) A) (hS : va_S A s.heap H locs)
    (kk : ∀ (h1 : pw_H) (H1 : Heap) (locs1 : List Loc), post h1 → pw D vwCl A h1 H1 → va_S A s.heap H1 locs1 → W p l e R s m args below meth c H1 locs1 (cells + mc) (slots + ms) Q (F0 m (pc + 3) ls rest)) : W p l e R s m args below meth c H locs cells slots Q (F0 m pc ls st0) :=
  va_callv hr hS (fun _ _ z => z) (fun _ z => z) (fun u t H1 locs1 ht _ hp hB _ _ hS1 => kk u H1 locs1 hp (by rw [← ht]; exact hB.1) hS1)
theorem pw_cr {post : Nat → pw_H → Prop} {a0 : Array Value} (hr : va_Run p l e R s m args below meth c H locs cells slots mc ms (F0 m pc ls st0) rest (va_Qr (fun _ => True) (fun (h1 : pw_H) (r : Nat) (t : State) => post r h1 ∧ ww D cs A h1 t) A a0) A) (hS : va_S A s.heap H locs)
    (kk : ∀ (r : Nat) (h1 : pw_H) (H1 : Heap) (locs1 : List Loc), post r h1 → pw D vwCl A h1 H1 → va_S A s.heap H1 locs1 → W p l e R s m args below meth c H1 locs1 (cells + mc) (slots + ms) Q (F0 m (pc + 3) ls (.ref r :: rest))) : W p l e R s m args below meth c H locs cells slots Q (F0 m pc ls st0) :=
  va_callr hr hS (fun _ _ z => z) (fun _ z => z) (fun u ra t H1 locs1 ht _ _ hB _ _ hS1 => kk ra u H1 locs1 hB.1 (by rw [← ht]; exact hB.2.1) hS1)
theorem ww_end (hP : pw D vwCl A h H) (hA : ∀ q, s.heap.size ≤ q → A q) (hK : kon D cs A s s.heap) (hS : va_S A s.heap H locs) (t : State) (ht : t.heap = H) (hW : s.WarmedH t.vm) : ww D cs A h t :=
  ⟨by rw [ht]; exact hP, fun q hq => hA q (Nat.le_trans hS.1 (by rw [← ht]; exact hq)), kon.go hK hS ht hW⟩
theorem pw_iret {post : Int32 → pw_H → Prop} {v : Int32} (F : CallFix p m c cc nL s args gws own) (hr : meth.sig.returnType = some .int) (hlk : meth.locks = false) (hP : pw D vwCl A h H) (hA : ∀ q, s.heap.size ≤ q → A q) (hK : kon D cs A s s.heap) (hS : va_S A s.heap H locs) (hc : cells ≤ mc) (hs : slots ≤ ms) (hdg : decode cc pc = .ok (.ireturn, 1)) (hq : post v h) :
    W p l e R s m args below meth c H locs cells slots (MQ below (va_Qi post (ww D cs A) A) args s mc ms A) (F0 m pc ls [.int v]) :=
  W.widen hc hs (W.iret F.1 F.2.1 hr (fun t ht hW => ⟨⟨v, h, rfl, hq, ww_end hP hA hK hS t ht hW⟩, hS.F ht⟩) hS.2.2 hdg hlk)
theorem pw_zret {post : Int32 → pw_H → Prop} {v : Int32} (F : CallFix p m c cc nL s args gws own) (hr : meth.sig.returnType = some .boolean) (hn : narrow .boolean (.int v) = .int v) (hlk : meth.locks = false) (hP : pw D vwCl A h H) (hA : ∀ q, s.heap.size ≤ q → A q) (hK : kon D cs A s s.heap) (hS : va_S A s.heap H locs) (hc : cells ≤ mc) (hs : slots ≤ ms) (hdg : decode cc pc = .ok (.ireturn, 1)) (hq : post v h) :
    W p l e R s m args below meth c H locs cells slots (MQ below (va_Qi post (ww D cs A) A) args s mc ms A) (F0 m pc ls [.int v]) :=
  W.widen hc hs (W.zret F.1 F.2.1 hr hn (fun t ht hW => ⟨⟨v, h, rfl, hq, ww_end hP hA hK hS t ht hW⟩, hS.F ht⟩) hS.2.2 hdg hlk)
theorem pw_vret {post : pw_H → Prop} (F : CallFix p m c cc nL s args gws own) (hr : meth.sig.returnType = none) (hlk : meth.locks = false) (hP : pw D vwCl A h H) (hA : ∀ q, s.heap.size ≤ q → A q) (hK : kon D cs A s s.heap) (hS : va_S A s.heap H locs) (hc : cells ≤ mc) (hs : slots ≤ ms) (hdg : decode cc pc = .ok (.return_, 1)) (hq : post h) :
    W p l e R s m args below meth c H locs cells slots (MQ below (va_Qv post (ww D cs A) A) args s mc ms A) (F0 m pc ls []) :=
  W.widen hc hs (W.vret F.1 F.2.1 hr (fun t ht hW => ⟨⟨h, rfl, hq, ww_end hP hA hK hS t ht hW⟩, hS.F ht⟩) hS.2.2 hdg hlk)
theorem pw_aret {post : Nat → pw_H → Prop} {rt : FieldType} {b : Nat} (F : CallFix p m c cc nL s args gws own) (hr : meth.sig.returnType = some rt) (hrt : (∃ n, rt = .object n) ∨ ∃ t, rt = .array t) (hlk : meth.locks = false) (hP : pw D vwCl A h H) (hA : ∀ q, s.heap.size ≤ q → A q) (hK : kon D cs A s s.heap) (hS : va_S A s.heap H locs) (hc : cells ≤ mc) (hs : slots ≤ ms) (hdg : decode cc pc = .ok (.areturn, 1)) (hq : post b h) :
    W p l e R s m args below meth c H locs cells slots (MQ below (va_Qr (fun _ => True) (fun (h1 : pw_H) (r : Nat) (t : State) => post r h1 ∧ ww D cs A h1 t) A) args s mc ms A) (F0 m pc ls [.ref b]) :=
  W.widen hc hs (W.aret F.1 F.2.1 hr hrt (Or.inr ⟨b, rfl⟩) (fun t ht hW => ⟨⟨h, b, rfl, trivial, hq, ww_end hP hA hK hS t ht hW⟩, hS.F ht⟩) hS.2.2 hdg hlk)
end PWC
def tag : va_E → Nat
  | .inr o => o.1
  | .inl (_, n, .inl _) => 100 + n
  | .inl (_, n, .inr (.inl _)) => 200 + n
  | .inl (_, n, .inr (.inr _)) => 300 + n
theorem pu_t {h : pw_H} {a b : Nat} {ea eb : va_E} (hb : h b = some eb) (ha : h a = some ea) (ht : tag eb ≠ tag ea) : b ≠ a := fun z => by
  subst z
  rw [hb] at ha
  cases ha
  exact ht rfl
section PWN
variable {p : Program} {l : Launch} {e : Env} {R : Room} {s : State} {m : MethodId} {args : Array Value} {below : List Frame} {meth : Method} {c : Code} {H : Heap} {locs : List Loc} {cells slots : Nat} {Q : State → Prop}
variable {cc : ByteArray} {pc : Nat} {ls : Array Slot} {rest : List Value} {D : va_G} {cl : List vw_C} {A : Nat → Prop} {a : Nat} {tys : List (ClassId × FieldType)} {h : pw_H} {nL : Nat} {own : String} {Ts : List Cond}
theorem pw_ialdN (F : CallFix p m c cc nL s args Ts own) (hK : va_K D cl tys s) (hP : pw D cl A h H) (t0 : Nat) {cA : ClassId} {n : Nat} {f : Nat → Int32} (ha : h a = some (.inl (cA, n, .inl f))) (ht : tys[t0]? = some (cA, .int)) {k : Nat} (hk : k < n) (hn : n < 2 ^ 31) (hdg : decode cc pc = .ok (.iaload, 1))
    (kk : W p l e R s m args below meth c H locs cells slots Q (F0 m (pc + 1) ls (.int (f k) :: rest))) : W p l e R s m args below meth c H locs cells slots Q (F0 m pc ls (.int (nI k) :: .ref a :: rest)) :=
  pw_iald F hK hP t0 ha ht (vp_in_nI hk hn) hdg (by rw [nI_clamp (Nat.lt_trans hk hn)]; exact kk)
theorem pw_zaldN (F : CallFix p m c cc nL s args Ts own) (hK : va_K D cl tys s) (hP : pw D cl A h H) (t0 : Nat) {cA : ClassId} {n : Nat} {f : Nat → Int32} (ha : h a = some (.inl (cA, n, .inl f))) (ht : tys[t0]? = some (cA, .boolean)) {k : Nat} (hk : k < n) (hn : n < 2 ^ 31) (hdg : decode cc pc = .ok (.baload, 1))
    (kk : W p l e R s m args below meth c H locs cells slots Q (F0 m (pc + 1) ls (.int (f k) :: rest))) : W p l e R s m args below meth c H locs cells slots Q (F0 m pc ls (.int (nI k) :: .ref a :: rest)) :=
  pw_zald F hK hP t0 ha ht (vp_in_nI hk hn) hdg (by rw [nI_clamp (Nat.lt_trans hk hn)]; exact kk)
theorem pw_laldN (F : CallFix p m c cc nL s args Ts own) (hK : va_K D cl tys s) (hP : pw D cl A h H) (t0 : Nat) {cA : ClassId} {n : Nat} {f : Nat → Int64} (ha : h a = some (.inl (cA, n, .inr (.inl f)))) (ht : tys[t0]? = some (cA, .long)) {k : Nat} (hk : k < n) (hn : n < 2 ^ 31) (hdg : decode cc pc = .ok (.laload, 1))
    (kk : W p l e R s m args below meth c H locs cells slots Q (F0 m (pc + 1) ls (.long (f k) :: rest))) : W p l e R s m args below meth c H locs cells slots Q (F0 m pc ls (.int (nI k) :: .ref a :: rest)) :=
  pw_lald F hK hP t0 ha ht (vp_in_nI hk hn) hdg (by rw [nI_clamp (Nat.lt_trans hk hn)]; exact kk)
theorem pw_aldqN (F : CallFix p m c cc nL s args Ts own) (hK : va_K D cl tys s) (hP : pw D cl A h H) (t0 : Nat) {cA : ClassId} {C : String} {n : Nat} {f : Nat → Option Nat} (ha : h a = some (.inl (cA, n, .inr (.inr (.inr (.inr f)))))) (ht : tys[t0]? = some (cA, .object C)) {k : Nat} (hk : k < n) (hn : n < 2 ^ 31) (hdg : decode cc pc = .ok (.aaload, 1))
    (kk : W p l e R s m args below meth c H locs cells slots Q (F0 m (pc + 1) ls (va_rf (f k) :: rest))) : W p l e R s m args below meth c H locs cells slots Q (F0 m pc ls (.int (nI k) :: .ref a :: rest)) :=
  pw_aldq F hK hP t0 ha ht (vp_in_nI hk hn) hdg (by rw [nI_clamp (Nat.lt_trans hk hn)]; exact kk)
theorem pw_iastN (F : CallFix p m c cc nL s args Ts own) (hK : va_K D cl tys s) (hP : pw D cl A h H) (hS : va_S A s.heap H locs) (t0 : Nat) {cA : ClassId} {n : Nat} {f : Nat → Int32} (ha : h a = some (.inl (cA, n, .inl f))) (ht : tys[t0]? = some (cA, .int)) {k : Nat} {x : Int32} (hk : k < n) (hn : n < 2 ^ 31) (hdg : decode cc pc = .ok (.iastore, 1))
    (kk : ∀ (H1 : Heap) (locs1 : List Loc), pw D cl A (pu h a (.inl (cA, n, .inl (upd f k x)))) H1 → va_S A s.heap H1 locs1 → W p l e R s m args below meth c H1 locs1 cells slots Q (F0 m (pc + 1) ls rest)) : W p l e R s m args below meth c H locs cells slots Q (F0 m pc ls (.int x :: .int (nI k) :: .ref a :: rest)) :=
  pw_iast F hK hP hS t0 ha ht (vp_in_nI hk hn) hdg (by rw [nI_clamp (Nat.lt_trans hk hn)]; exact kk)
theorem pw_zastN (F : CallFix p m c cc nL s args Ts own) (hK : va_K D cl tys s) (hP : pw D cl A h H) (hS : va_S A s.heap H locs) (t0 : Nat) {cA : ClassId} {n : Nat} {f : Nat → Int32} (ha : h a = some (.inl (cA, n, .inl f))) (ht : tys[t0]? = some (cA, .boolean)) {k : Nat} {x : Int32} (hk : k < n) (hn : n < 2 ^ 31) (hx : vp_nar .boolean x = x) (hdg : decode cc pc = .ok (.bastore, 1))
    (kk : ∀ (H1 : Heap) (locs1 : List Loc), pw D cl A (pu h a (.inl (cA, n, .inl (upd f k x)))) H1 → va_S A s.heap H1 locs1 → W p l e R s m args below meth c H1 locs1 cells slots Q (F0 m (pc + 1) ls rest)) : W p l e R s m args below meth c H locs cells slots Q (F0 m pc ls (.int x :: .int (nI k) :: .ref a :: rest)) :=
  pw_zast F hK hP hS t0 ha ht (vp_in_nI hk hn) hdg (by rw [nI_clamp (Nat.lt_trans hk hn), hx]; exact kk)
theorem pw_lastN (F : CallFix p m c cc nL s args Ts own) (hK : va_K D cl tys s) (hP : pw D cl A h H) (hS : va_S A s.heap H locs) (t0 : Nat) {cA : ClassId} {n : Nat} {f : Nat → Int64} (ha : h a = some (.inl (cA, n, .inr (.inl f)))) (ht : tys[t0]? = some (cA, .long)) {k : Nat} {x : Int64} (hk : k < n) (hn : n < 2 ^ 31) (hdg : decode cc pc = .ok (.lastore, 1))
    (kk : ∀ (H1 : Heap) (locs1 : List Loc), pw D cl A (pu h a (.inl (cA, n, .inr (.inl (vp_updL f k x))))) H1 → va_S A s.heap H1 locs1 → W p l e R s m args below meth c H1 locs1 cells slots Q (F0 m (pc + 1) ls rest)) : W p l e R s m args below meth c H locs cells slots Q (F0 m pc ls (.long x :: .int (nI k) :: .ref a :: rest)) :=
  pw_last F hK hP hS t0 ha ht (vp_in_nI hk hn) hdg (by rw [nI_clamp (Nat.lt_trans hk hn)]; exact kk)
theorem pw_astqN1 (F : CallFix p m c cc nL s args Ts own) (hK : va_K D cl tys s) (hP : pw D cl A h H) (hS : va_S A s.heap H locs) (t0 ci : Nat) {cA : ClassId} {r : vw_C} {n v : Nat} {vs : List Value} {f : Nat → Option Nat} (ha : h a = some (.inl (cA, n, .inr (.inr (.inr (.inr f)))))) (ht : tys[t0]? = some (cA, .object r.1)) (hv : h v = some (.inr (ci, vs))) (hc : cl[ci]? = some r) {k : Nat} (hk : k < n) (hn : n < 2 ^ 31) (hdg : decode cc pc = .ok (.aastore, 1))
    (kk : ∀ (H1 : Heap) (locs1 : List Loc), pw D cl A (pu h a (.inl (cA, n, .inr (.inr (.inr (.inr (va_up f k (some v)))))))) H1 → va_S A s.heap H1 locs1 → W p l e R s m args below meth c H1 locs1 cells slots Q (F0 m (pc + 1) ls rest)) : W p l e R s m args below meth c H locs cells slots Q (F0 m pc ls (.ref v :: .int (nI k) :: .ref a :: rest)) :=
  pw_astq F hK hP hS t0 ci ha ht hv hc (vp_in_nI hk hn) hdg (by rw [nI_clamp (Nat.lt_trans hk hn)]; exact kk)
theorem pw_astqON (F : CallFix p m c cc nL s args Ts own) (hK : va_K D cl tys s) (hP : pw D cl A h H) (hS : va_S A s.heap H locs) (t0 ci : Nat) {E : String} {cA : ClassId} {r : vw_C} {n v : Nat} {vs : List Value} {f : Nat → Option Nat} (ha : h a = some (.inl (cA, n, .inr (.inr (.inr (.inr f)))))) (ht : tys[t0]? = some (cA, .object E)) (hca : va_Nw (.castable r.1 E) s) (hv : h v = some (.inr (ci, vs))) (hc : cl[ci]? = some r) {k : Nat} (hk : k < n) (hn : n < 2 ^ 31) (hdg : decode cc pc = .ok (.aastore, 1))
    (kk : ∀ (H1 : Heap) (locs1 : List Loc), pw D cl A (pu h a (.inl (cA, n, .inr (.inr (.inr (.inr (va_up f k (some v)))))))) H1 → va_S A s.heap H1 locs1 → W p l e R s m args below meth c H1 locs1 cells slots Q (F0 m (pc + 1) ls rest)) : W p l e R s m args below meth c H locs cells slots Q (F0 m pc ls (.ref v :: .int (nI k) :: .ref a :: rest)) :=
  pw_astqO F hK hP hS t0 ci ha ht hca hv hc (vp_in_nI hk hn) hdg (by rw [nI_clamp (Nat.lt_trans hk hn)]; exact kk)
theorem pw_astqNN (F : CallFix p m c cc nL s args Ts own) (hK : va_K D cl tys s) (hP : pw D cl A h H) (hS : va_S A s.heap H locs) (t0 : Nat) {C : String} {cA : ClassId} {n : Nat} {f : Nat → Option Nat} (ha : h a = some (.inl (cA, n, .inr (.inr (.inr (.inr f)))))) (ht : tys[t0]? = some (cA, .object C)) {k : Nat} (hk : k < n) (hn : n < 2 ^ 31) (hdg : decode cc pc = .ok (.aastore, 1))
    (kk : ∀ (H1 : Heap) (locs1 : List Loc), pw D cl A (pu h a (.inl (cA, n, .inr (.inr (.inr (.inr (va_up f k none))))))) H1 → va_S A s.heap H1 locs1 → W p l e R s m args below meth c H1 locs1 cells slots Q (F0 m (pc + 1) ls rest)) : W p l e R s m args below meth c H locs cells slots Q (F0 m pc ls (.null :: .int (nI k) :: .ref a :: rest)) :=
  pw_astqN F hK hP hS t0 ha ht (vp_in_nI hk hn) hdg (by rw [nI_clamp (Nat.lt_trans hk hn)]; exact kk)
end PWN
section PWE
variable {p : Program} {l : Launch} {e : Env} {R : Room} {s : State} {m : MethodId} {args : Array Value} {below : List Frame} {meth : Method} {c : Code} {H : Heap} {locs : List Loc} {cells slots : Nat} {Q : State → Prop}
variable {pc : Nat} {ls : Array Slot} {rest st0 : List Value} {D : va_G} {cs : Nat → Nat} {A : Nat → Prop} {hE : pw_H} {mc ms : Nat} {a0 : Array Value}
/-- calls whose end is told outright -/
theorem pw_ciE {rE : Int32} (hr : va_Run p l e R s m args below meth c H locs cells slots mc ms (F0 m pc ls st0) rest (va_Qi (fun (r : Int32) (h' : pw_H) => h' = hE ∧ r = rE) (ww D cs A) A a0) A) (hS : va_S A s.heap H locs)
    (kk : ∀ (H1 : Heap) (locs1 : List Loc), pw D vwCl A hE H1 → va_S A s.heap H1 locs1 → W p l e R s m args below meth c H1 locs1 (cells + mc) (slots + ms) Q (F0 m (pc + 3) ls (.int rE :: rest))) : W p l e R s m args below meth c H locs cells slots Q (F0 m pc ls st0) :=
  pw_ci hr hS (fun r h1 H1 locs1 hq hP hS => by obtain ⟨e1, e2⟩ := hq; rw [e1] at hP; rw [e2]; exact kk H1 locs1 hP hS)
theorem pw_cvE (hr : va_Run p l e R s m args below meth c H locs cells slots mc ms (F0 m pc ls st0) rest (va_Qv (fun (h' : pw_H) => h' = hE) (ww D cs A) A a0) A) (hS : va_S A s.heap H locs)
    (kk : ∀ (H1 : Heap) (locs1 : List Loc), pw D vwCl A hE H1 → va_S A s.heap H1 locs1 → W p l e R s m args below meth c H1 locs1 (cells + mc) (slots + ms) Q (F0 m (pc + 3) ls rest)) : W p l e R s m args below meth c H locs cells slots Q (F0 m pc ls st0) :=
  pw_cv hr hS (fun h1 H1 locs1 hq hP hS => by rw [hq] at hP; exact kk H1 locs1 hP hS)
theorem pw_crE {rE : Nat} (hr : va_Run p l e R s m args below meth c H locs cells slots mc ms (F0 m pc ls st0) rest (va_Qr (fun _ => True) (fun (h' : pw_H) (r : Nat) (t : State) => (h' = hE ∧ r = rE) ∧ ww D cs A h' t) A a0) A) (hS : va_S A s.heap H locs)
    (kk : ∀ (H1 : Heap) (locs1 : List Loc), pw D vwCl A hE H1 → va_S A s.heap H1 locs1 → W p l e R s m args below meth c H1 locs1 (cells + mc) (slots + ms) Q (F0 m (pc + 3) ls (.ref rE :: rest))) : W p l e R s m args below meth c H locs cells slots Q (F0 m pc ls st0) :=
  pw_cr (post := fun r h' => h' = hE ∧ r = rE) hr hS (fun r h1 H1 locs1 hq hP hS => by obtain ⟨e1, e2⟩ := hq; rw [e1] at hP; rw [e2]; exact kk H1 locs1 hP hS)
end PWE
/-- h' holds all that h holds but at the places X, and no fewer places -/
def ext (h h' : pw_H) (X : List Nat) : Prop := (∀ (q : Nat) (e : va_E), h q = some e → q ∉ X → h' q = some e) ∧ ∀ q : Nat, h' q = none → h q = none
theorem ext.rf {h : pw_H} {X : List Nat} : ext h h X := ⟨fun _ _ z _ => z, fun _ z => z⟩
theorem ext.pu {h h1 : pw_H} {X : List Nat} {a : Nat} {e : va_E} (hx : ext h h1 X) (ha : a ∈ X ∨ h a = none) : ext h (pu h1 a e) X := by
  refine ⟨fun q e' hq hn => pu_k (hx.1 q e' hq hn) (fun z => ?_), fun q hq => ?_⟩
  · subst z
    rcases ha with ha | ha
    · exact hn ha
    · rw [ha] at hq; cases hq
  · by_cases hqa : q = a
    · subst hqa; rw [pu_s] at hq; cases hq
    · rw [pu_n hqa] at hq; exact hx.2 q hq
theorem ext.trans {h h1 h2 : pw_H} {X Y : List Nat} (hx : ext h h1 X) (hy : ext h1 h2 Y) (hY : ∀ y, y ∈ Y → y ∈ X ∨ h y = none) : ext h h2 X := by
  refine ⟨fun q e hq hn => hy.1 q e (hx.1 q e hq hn) (fun z => ?_), fun q hq => hx.2 q (hy.2 q hq)⟩
  rcases hY q z with h9 | h9
  · exact hn h9
  · rw [h9] at hq; cases hq
theorem ext.more {h h1 : pw_H} {X Y : List Nat} (hx : ext h h1 X) (hY : ∀ y, y ∈ X → y ∈ Y) : ext h h1 Y := ⟨fun q e hq hn => hx.1 q e hq (fun z => hn (hY q z)), hx.2⟩
theorem ext.at {h h1 : pw_H} {X : List Nat} {q : Nat} {e : va_E} (hx : ext h h1 X) (hq : h q = some e) (hn : q ∉ X) : h1 q = some e := hx.1 q e hq hn
theorem ext.dom {h h1 : pw_H} {X : List Nat} {q : Nat} {e : va_E} (hx : ext h h1 X) (hq : h q = some e) : ∃ e', h1 q = some e' := by
  cases h9 : h1 q with
  | none => rw [hx.2 q h9] at hq; cases hq
  | some e' => exact ⟨e', rfl⟩
theorem nin1 {q a : Nat} (h1 : q ≠ a) : q ∉ [a] := fun z => h1 (List.mem_singleton.mp z)
theorem nin2 {q a b : Nat} (h1 : q ≠ a) (h2 : q ≠ b) : q ∉ [a, b] := fun z => (List.mem_cons.mp z).elim h1 (nin1 h2)
theorem nin3 {q a b c : Nat} (h1 : q ≠ a) (h2 : q ≠ b) (h3 : q ≠ c) : q ∉ [a, b, c] := fun z => (List.mem_cons.mp z).elim h1 (nin2 h2 h3)
theorem nin4 {q a b c d : Nat} (h1 : q ≠ a) (h2 : q ≠ b) (h3 : q ≠ c) (h4 : q ≠ d) : q ∉ [a, b, c, d] := fun z => (List.mem_cons.mp z).elim h1 (nin3 h2 h3 h4)
theorem nin0 {q : Nat} : q ∉ ([] : List Nat) := fun z => nomatch z
/-- what is there is none of what was not -/
theorem none_ne {h : pw_H} {a b : Nat} {e : va_E} (hb : h b = some e) (ha : h a = none) : b ≠ a := fun z => by rw [z, ha] at hb; cases hb
