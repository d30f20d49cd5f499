/-! what stays known, out of the premises -/
theorem kS_in : ∀ q ∈ kStr, Cond.stringRef R_D q.1 q.2 ∈ lw_tbl := fun q hq => List.contains_iff_mem.mp (List.all_eq_true.mp (show kStr.all (fun q => lw_tbl.contains (Cond.stringRef R_D q.1 q.2)) = true by decide +kernel) q hq)
theorem kC_in : ∀ q ∈ kCa, Cond.castable q.1 q.2 ∈ lw_tbl := fun q hq => List.contains_iff_mem.mp (List.all_eq_true.mp (show kCa.all (fun q => lw_tbl.contains (Cond.castable q.1 q.2)) = true by decide +kernel) q hq)
theorem kA_in : ∀ q ∈ kAO, Cond.arrayOver (.object q) ∈ lw_tbl := fun q hq => List.contains_iff_mem.mp (List.all_eq_true.mp (show kAO.all (fun q => lw_tbl.contains (Cond.arrayOver (.object q))) = true by decide +kernel) q hq)
theorem kD_in : ∀ q ∈ kDe, Cond.declares q ∈ lw_tbl := fun q hq => List.contains_iff_mem.mp (List.all_eq_true.mp (show kDe.all (fun q => lw_tbl.contains (Cond.declares q)) = true by decide +kernel) q hq)
theorem kN_in : ∀ q ∈ kNc, Cond.not (.castable q.1 q.2) ∈ flatC (Jvm.Cond.and given_1 narrow_1) := fun q hq => List.contains_iff_mem.mp (List.all_eq_true.mp (show kNc.all (fun q => (flatC (Jvm.Cond.and given_1 narrow_1)).contains (Cond.not (.castable q.1 q.2))) = true by decide +kernel) q hq)
theorem L_prim {ty : FieldType} {args : Array Value} {s : State} (h : (Cond.arrayClass ty).before args s = true) : ∃ c : ClassId, ArrOfT s c ty ∧ s.vm.findClass ("[" ++ ty.toString) = some c := by
  obtain ⟨c, k, comp, h1, h2, h3⟩ := Cond.arrayClass_spec h
  exact ⟨c, fun n z => ⟨fun k h => (by cases h), k, h2, comp, h3⟩, h1⟩
theorem L_objA {C : String} {s : State} (h : va_AO C s) : ∃ c : ClassId, ArrOfT s c (.object C) ∧ va_RA s c (.object C) := by
  obtain ⟨comp, c, k, h1, h2, h3, h4, h5⟩ := Cond.arrayOver_spec h
  exact ⟨c, fun n z => ⟨fun k h => (by cases h), k, h3, comp, h4⟩, k, comp, h3, h4, h1, h5⟩
def D8 (c0 c1 c2 c3 c4 c5 c6 c7 : ClassId) (i0 i1 i2 i3 i4 i5 i6 i7 : Nat → Nat) : va_G := (fun k => match k with
  | 0 => c0 | 1 => c1 | 2 => c2 | 3 => c3 | 4 => c4 | 5 => c5 | 6 => c6 | _ => c7, fun k => match k with
  | 0 => i0 | 1 => i1 | 2 => i2 | 3 => i3 | 4 => i4 | 5 => i5 | 6 => i6 | _ => i7)
def cs6 (a0 a1 a2 a3 a4 a5 t : Nat) : Nat → Nat := fun k => match k with
  | 0 => a0 | 1 => a1 | 2 => a2 | 3 => a3 | 4 => a4 | 5 => a5 | _ => t
set_option maxHeartbeats 4000000 in
set_option maxRecDepth 100000 in
theorem L_kon {s : State} {b : Nat} (hts : ∀ w ∈ lw_tbl, w.before #[Value.ref b] s = true) (hgv : (Jvm.Cond.and given_1 narrow_1).before #[Value.ref b] s = true) : ∃ (D : va_G) (cs : Nat → Nat), kon D cs (fun q => s.heap.size ≤ q) s s.heap := by
  have hg : ∀ w ∈ gws, w.before #[Value.ref b] s = true := fun w hw => hts w (List.mem_filter.mp hw).1
  have hn := flat_of_before _ hgv
  have hA : ∀ a : Nat, a < s.heap.size → ¬ s.heap.size ≤ a := fun a h9 => Nat.not_le.mpr h9
  obtain ⟨c0, i0, k0⟩ := u_known hg I_AL (hg _ N_AL)
  obtain ⟨c1, i1, k1⟩ := u_known hg I_B (hg _ N_B)
  obtain ⟨c2, i2, k2⟩ := u_known hg I_Fn (hg _ N_Fn)
  obtain ⟨c3, i3, k3⟩ := u_known hg I_P (hg _ N_P)
  obtain ⟨c4, i4, k4⟩ := u_known hg I_Fr (hg _ N_Fr)
  obtain ⟨c5, i5, k5⟩ := u_known hg I_T (hg _ N_T)
  obtain ⟨c6, i6, k6⟩ := u_known hg I_D (hg _ N_D)
  obtain ⟨c7, i7, k7⟩ := u_known hg I_M (hg _ N_M)
  have ao : ∀ q ∈ kAO, va_AO q s := fun q hq => va_AO.of (hts _ (kA_in q hq))
  obtain ⟨a0, f0, g0⟩ := L_prim (hg _ aC_int)
  obtain ⟨a1, f1, g1⟩ := L_prim (hg _ aC_boolean)
  obtain ⟨a2, f2, g2⟩ := L_prim (hg _ aC_long)
  obtain ⟨a3, f3, g3⟩ := L_objA (ao "PatchDesk$Body" (by decide))
  obtain ⟨a4, f4, g4⟩ := L_objA (ao "PatchDesk$Frame" (by decide))
  obtain ⟨a5, f5, g5⟩ := L_objA (ao "java/lang/Object" (by decide))
  obtain ⟨t, ht, hT⟩ := va_Tof (tm := .static R_AL "DEFAULTCAPACITY_EMPTY_ELEMENTDATA" "[Ljava/lang/Object;") (ty := .object "java/lang/Object") (f := fun _ => .null) (N := 0) (A := fun q => s.heap.size ≤ q) (by decide) (hn _ (by decide +kernel)) (va_eqt (hn (Cond.eq (.length (.static R_AL "DEFAULTCAPACITY_EMPTY_ELEMENTDATA" "[Ljava/lang/Object;")) (.int 0)) (by decide +kernel))) (fun j hj => absurd hj (Nat.not_lt_zero j)) hA
  have hZ := va_Zof (A := fun q => s.heap.size ≤ q) (hts (Cond.laysStatic R_AL "DEFAULTCAPACITY_EMPTY_ELEMENTDATA" "[Ljava/lang/Object;") (by decide +kernel)) (hts (Cond.initialized R_AL) (by decide +kernel)) ht hA
  refine ⟨D8 c0 c1 c2 c3 c4 c5 c6 c7 i0 i1 i2 i3 i4 i5 i6 i7, cs6 a0 a1 a2 a3 a4 a5 t, ⟨fun c q hq => ?_, fun k q hk => ?_⟩, hZ, hT, vx_Zqof (hts _ (by decide +kernel)) (hts _ (by decide +kernel)) (hn _ (by decide +kernel)) hA, vx_Zqof (hts _ (by decide +kernel)) (hts _ (by decide +kernel)) (hn _ (by decide +kernel)) hA, fun q hq => ?_, fun q hq => va_Nc.of (hn _ (kN_in q hq)), fun q hq => va_Nw.of rfl (hts _ (kC_in q hq)), ao, fun q hq => va_Nw.of rfl (hts _ (kD_in q hq))⟩
  · have hc : c < 8 := (List.getElem?_eq_some_iff.mp hq).1
    rcases (show c = 0 ∨ c = 1 ∨ c = 2 ∨ c = 3 ∨ c = 4 ∨ c = 5 ∨ c = 6 ∨ c = 7 by omega) with rfl | rfl | rfl | rfl | rfl | rfl | rfl | rfl
    · obtain rfl := Option.some.inj hq; exact k0
    · obtain rfl := Option.some.inj hq; exact k1
    · obtain rfl := Option.some.inj hq; exact k2
    · obtain rfl := Option.some.inj hq; exact k3
    · obtain rfl := Option.some.inj hq; exact k4
    · obtain rfl := Option.some.inj hq; exact k5
    · obtain rfl := Option.some.inj hq; exact k6
    · obtain rfl := Option.some.inj hq; exact k7
  · have hc : k < 6 := (List.getElem?_eq_some_iff.mp hk).1
    rcases (show k = 0 ∨ k = 1 ∨ k = 2 ∨ k = 3 ∨ k = 4 ∨ k = 5 by omega) with rfl | rfl | rfl | rfl | rfl | rfl
    · obtain rfl := Option.some.inj hk; exact ⟨f0, g0⟩
    · obtain rfl := Option.some.inj hk; exact ⟨f1, g1⟩
    · obtain rfl := Option.some.inj hk; exact ⟨f2, g2⟩
    · obtain rfl := Option.some.inj hk; exact ⟨f3, g3⟩
    · obtain rfl := Option.some.inj hk; exact ⟨f4, g4⟩
    · obtain rfl := Option.some.inj hk; exact ⟨f5, g5⟩
  · obtain ⟨-, -, -, a, -, -, -, -, -, h9⟩ := Cond.stringRef_spec k6.2.1 (hts _ (kS_in q hq))
    exact ⟨a, vk_R.of (hts _ (kS_in q hq)) h9⟩
