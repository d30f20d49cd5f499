/-! THE CLAIM OUT OF ONE WALK OF THE LAW'S BODY. Your part is whole_start (and what it stands on); all else here is the same for every law, but numbers. -/
def R_law : String := "PatchDeskLaw"
def lw_P (b : Addr) (xs : List Int32) (args : Array Value) (s : State) : Prop := args = #[.ref b] ∧ s.IntsAt b xs ∧ xs.length ≤ 2560 ∧ (Jvm.Cond.and given_1 narrow_1).before args s = true
def lw_Q (_ : Array Value) (s : State) (o : Outcome) (t : State) : Prop := o = .returned (some (.int 1)) ∧ Framed s o t [] 601024 7293034
def lw_Z (below : List Frame) (a : Array Value) (s : State) : State → Prop := fun t => ∃ o, t.status = .running ∧ Ended t below o ∧ lw_Q a s o t
/-- the law's own end, with 1 on the stack, nothing written that was there before, its room as the claim has it -/
theorem lw_ret {p : Program} {l : Launch} {e : Env} {s : State} {m : MethodId} {below : List Frame} {meth : Method} {c : Code} {b : Nat} (hx : p.tables.exec = Jvm.exec) (hb : c.code = code) (hr : meth.sig.returnType = ret) (hlocks : meth.locks = false) {pc : Nat} {H : Heap} {ls : Array Slot} (hdg : decode code pc = .ok (.ireturn, 1)) : W p l e room_1 s m #[Value.ref b] below meth c H [] 601024 7293034 (lw_Z below #[Value.ref b] s) (F0 m pc ls [.int 1]) := by
  intro T hT X
  obtain ⟨fs, hret, hrun, hended, hW, hframe⟩ := X.leave (v := some (.int 1)) (hlocks := hlocks) (fun h => by rw [hr] at h; cases h)
  have hmeth' : T.vm.method? m = some meth := X.method'
  refine ⟨T.setFrames fs, ?_, .returned (some (.int 1)), hrun, hended, rfl, ⟨_, rfl⟩, hW, hframe⟩
  jvm_step X.here [X.here.top, hx, hb, hdg, hmeth', hr, ret, narrow_b1]
  (try refine ⟨rfl, ?_⟩); (try refine ⟨rfl, ?_⟩)
  first | (intro acts; rw [hret _ acts rfl rfl rfl]) | rw [hret _ _ rfl rfl rfl]
  exact Steps.refl _
/-- what holds at the law's entry: the machine, the code, the tables' words (any of lw_tbl by 'hts w (by decide +kernel)'), the script of L ints xs at the cell b, what the Statement gives of the start (any of its parts by flat_of_before) -/
def lw_At (p : Program) (s : State) (m : MethodId) (meth : Method) (c : Code) (b L : Nat) (xs : Nat → Int32) : Prop :=
  p.tables.exec = Jvm.exec ∧ c.code = code ∧ meth.sig.returnType = ret ∧ c.maxLocals = 7 ∧ s.vm.findClass R_law = some m.cls ∧ (∀ w ∈ lw_tbl, w.before #[Value.ref b] s = true) ∧ va_X b L xs s s.heap ∧ b < s.heap.size ∧ meth.locks = false ∧ (Jvm.Cond.and given_1 narrow_1).before #[Value.ref b] s = true
set_option maxHeartbeats 4000000 in
set_option maxRecDepth 100000 in
/-- the law from its entry, with what stays known -/
theorem L_body {p : Program} {l : Launch} {e : Env} {s : State} {m : MethodId} {below : List Frame} {meth : Method} {c : Code} {b L : Nat} {xs : Nat → Int32} {D : va_G} {cs : Nat → Nat} {A : Nat → Prop} {ls : Array Slot} (hst : l.stackTraces = false) (F : CallFix p m c code 7 s #[Value.ref b] gws R_L) (hr : meth.sig.returnType = ret) (hlk : meth.locks = false) (hX : va_X b L xs s s.heap) (hbl : b < s.heap.size) (hL : L ≤ 2560) (hA0 : A = fun q => s.heap.size ≤ q) (hK : kon D cs A s s.heap) (hl : lv_has ls 7 [(0, .ref b)]) :
    W p l e room_1 s m #[Value.ref b] below meth c s.heap [] 0 0 (lw_Z below #[Value.ref b] s) (F0 m 0 ls []) := by
  have hA : ∀ q, s.heap.size ≤ q → A q := fun q hq => by rw [hA0]; exact hq
  have hbA : ¬ A b := fun z => by rw [hA0] at z; exact absurd hbl (Nat.not_lt.mpr z)
  have fin : ∀ (H : Heap) (locs : List Loc) (ls : Array Slot) (cells slots : Nat), va_S A s.heap H locs → cells ≤ room_1.cells → slots ≤ room_1.slots → W p l e room_1 s m #[Value.ref b] below meth c H locs cells slots (lw_Z below #[Value.ref b] s) (F0 m 792 ls []) := fun H locs ls cells slots hS hc hs => by
    refine lv_iconst (v := 1) F.1 F.2.1 d_law_792 (by decide) ?_
    exact va_forget (fun q hq => by have h9 := hS.2.2 q hq; rw [hA0] at h9; exact h9) (W.widen hc hs (lw_ret F.1 F.2.1 hr hlk d_law_793))
  have hS : va_S A s.heap s.heap [] := va_S.rf
  have hP : pw D vwCl A (fun _ => none) s.heap := pw.nil
  refine pw_new (ci := 6) (fs := [.null, .null, .null, .null, .int 0]) F I_D ty_D k_D C_L_8 N_D Z_D hK.1 hP hS hA rfl (fun j hj => by rcases (show j = 0 ∨ j = 1 ∨ j = 2 ∨ j = 3 ∨ j = 4 by omega) with rfl | rfl | rfl | rfl | rfl <;> rfl) (by decide) (by decide) d_law_0 (fun x H hn hP hS => ?_)
  refine lv_dup F.1 F.2.1 d_law_3 rfl ?_
  refine pw_cv (pr_I F (c_D_init l D cs A _ x pu_s) X_L_52 rfl rfl ⟨by decide, by decide⟩ hP hA hK hS rfl hl.1 rfl (Nat.le_of_ble_eq_true rfl) d_law_4 ⟨by decide, by decide⟩) hS (fun h1 H locs hE hP1 hS => ?_)
  clear hP hn
  refine lv_astore_n F.1 F.2.1 d_law_7 rfl hl (by decide) rfl (fun ls hl => ?_)
  replace hl : lv_has ls 7 [(1, .ref x), (0, .ref b)] := hl
  refine pw_new (ci := 7) (fs := [.int 0, .int 0, .null, .null, .null, .null, .null, .int 0, .int 0, .int 0, .int 0, .null, .null, .null, .null, .null, .null, .null, .null, .null, .null, .null]) F I_M ty_M k_M C_L_53 N_M Z_M hK.1 hP1 hS hA rfl (fun j hj => by rcases (show j = 0 ∨ j = 1 ∨ j = 2 ∨ j = 3 ∨ j = 4 ∨ j = 5 ∨ j = 6 ∨ j = 7 ∨ j = 8 ∨ j = 9 ∨ j = 10 ∨ j = 11 ∨ j = 12 ∨ j = 13 ∨ j = 14 ∨ j = 15 ∨ j = 16 ∨ j = 17 ∨ j = 18 ∨ j = 19 ∨ j = 20 ∨ j = 21 by omega) with rfl | rfl | rfl | rfl | rfl | rfl | rfl | rfl | rfl | rfl | rfl | rfl | rfl | rfl | rfl | rfl | rfl | rfl | rfl | rfl | rfl | rfl <;> rfl) (by decide) (by decide) d_law_8 (fun o H ho hP hS => ?_)
  obtain ⟨hm, hme⟩ : ∃ z : pw_H, z = pu (fun _ => none) o (.inr (7, [.int 0, .int 0, .null, .null, .null, .null, .null, .int 0, .int 0, .int 0, .int 0, .null, .null, .null, .null, .null, .null, .null, .null, .null, .null, .null])) := ⟨_, rfl⟩
  have fm : hm o = some (.inr (7, [.int 0, .int 0, .null, .null, .null, .null, .null, .int 0, .int 0, .int 0, .int 0, .null, .null, .null, .null, .null, .null, .null, .null, .null, .null, .null])) := by rw [hme]; exact pu_s
  have hP1 : pw D vwCl A h1 H := hP.sub (fun q e he => pu_f ho he)
  have nm : ∀ q : Nat, q ≠ o → hm q = none := fun q hq => by rw [hme]; exact pu_n hq
  have hPm : pw D vwCl A hm H := hP.sub (fun q e he => by
    by_cases hq : q = o
    · rw [hq, fm] at he; rw [hq, pu_s]; exact he
    · rw [nm q hq] at he; cases he)
  have dm : djt hm h1 := fun q e he => by
    by_cases hq : q = o
    · rw [hq]; exact ho
    · rw [nm q hq] at he; cases he
  clear hP
  refine lv_dup F.1 F.2.1 d_law_11 rfl ?_
  refine p3_cv (h2 := fun _ => none) (p3_I F (c_M_init l D cs (sA hm H) hm o fm) X_L_55 rfl rfl ⟨by decide, by decide⟩ hPm hA hK hS rfl hl.1 rfl (Nat.le_of_ble_eq_true rfl) d_law_12 ⟨by decide, by decide⟩) hPm hA hS hP1 dm pw.nil (fun q e he => rfl) (fun h3 H locs hq hP3 hP1 d31 _ _ hS => ?_)
  obtain ⟨ad, hR, -⟩ := hq
  refine lv_astore_n F.1 F.2.1 d_law_15 rfl hl (by decide) rfl (fun ls hl => ?_)
  replace hl : lv_has ls 7 [(2, .ref o), (1, .ref x), (0, .ref b)] := hl
  refine lv_iconst (v := 1) F.1 F.2.1 d_law_16 (by decide) ?_
  refine pw_newa (a0 := (1, .inr (.inl (fun _ => 0)))) (atype := .long) F aC_long rfl hK.1 (hP1.join hP3 d31.symm) hS hA 2 rfl (fun _ => rfl) (by decide) (by decide) (by decide) (by decide) (by decide) d_law_17 (fun out H hq hP hS => ?_)
  have n1 : h1 out = none := by
    cases h9 : h1 out with
    | none => rfl
    | some e1 => rw [un_l h9] at hq; cases hq
  have n3 : h3 out = none := by rw [un_n n1] at hq; exact hq
  have hP1 : pw D vwCl A h1 H := hP.sub (fun q e he => pu_f hq (un_l he))
  have hP3 : pw D vwCl A h3 H := hP.sub (fun q e he => pu_f hq (un_r d31.symm he))
  have hPo : pw D vwCl A (oM (cs 2) out (fun _ => 0)) H := hP.sub (fun q e he => by
    by_cases hz : q = out
    · rw [hz, oM_s] at he; rw [hz, pu_s]; exact he
    · rw [oM_n hz] at he; cases he)
  have d1o : djt h1 (oM (cs 2) out (fun _ => 0)) := fun q e he => oM_n (none_ne he n1)
  have do3 : djt (oM (cs 2) out (fun _ => 0)) h3 := djt.symm (fun q e he => oM_n (none_ne he n3))
  clear hP
  refine lv_astore_n F.1 F.2.1 d_law_19 rfl hl (by decide) rfl (fun ls hl => ?_)
  replace hl : lv_has ls 7 [(3, .ref out), (2, .ref o), (1, .ref x), (0, .ref b)] := hl
  refine lv_iconst (v := nI 0) F.1 F.2.1 d_law_20 (by decide) ?_
  refine lv_istore F.1 F.2.1 d_law_21 hl (by decide) rfl (fun ls hl => ?_)
  replace hl : lv_has ls 7 (lLo b x o out 0) := hl
  exact L_loop hst F hX hbl hbA hL hA hK fin 512 0 H locs ls _ _ h1 (fun _ => 0) h3 St0 (by omega) (by decide) (by decide) (by decide) ⟨hP1, hPo, hP3, d1o, d31.symm, do3, hE, hR, hS⟩ hl
/-- YOUR PART: from the entry, for every script of at most 2560 ints, the law comes to its end with true -/
theorem whole_start {p : Program} {e : Env} {s : State} {m : MethodId} {below : List Frame} {meth : Method} {c : Code} (l : Launch) (hst : l.stackTraces = false) {b L : Nat} {xs : Nat → Int32} (hL : L ≤ 2560) (C0 : lw_At p s m meth c b L xs) : W p l e room_1 s m #[Value.ref b] below meth c s.heap [] 0 0 (lw_Z below #[Value.ref b] s) (entryFrame m ([Value.ref b] : List Value).toArray 7) := by
  obtain ⟨hx, hcode, hr, hml, hown, hts, hX, hbl, hlk, hgv⟩ := C0
  obtain ⟨D, cs, hK⟩ := L_kon hts hgv
  rw [lg_entry_eq]
  exact L_body hst ⟨hx, hcode, hml, hown, fun w hw => hts w (List.mem_filter.mp hw).1⟩ hr hlk hX hbl hL rfl hK (lv_entry [Value.ref b] (Nat.le_of_ble_eq_true rfl))
