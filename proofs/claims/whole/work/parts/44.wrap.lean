/-! the law's own methods: each calls one of the class's and catches what it throws -/
def pml (l : Launch) (y : MethodName) (cc : ByteArray) (maxL : Nat) (hh : List (Nat × Nat × Nat × Nat)) (rm : Room) (av : List Value) (D : va_G) (cs : Nat → Nat) (A : Nat → Prop) (h : pw_H) (Qc : Array Value → State → Outcome → State → Prop) (mc ms : Nat) : Prop :=
  vx_Met l y (Cond.codeWith y cc maxL (some .int) hh :: gws) rm (va_Pc av (ww D cs A h)) Qc (vx_X (fun (_ : pw_H) => False) (fun _ _ _ => True) A) mc ms A
theorem pml_of {l : Launch} {y : MethodName} {cc : ByteArray} {maxL : Nat} {hh : List (Nat × Nat × Nat × Nat)} {rm : Room} {av : List Value} {D : va_G} {cs : Nat → Nat} {A : Nat → Prop} {h : pw_H} {Qc : Array Value → State → Outcome → State → Prop} {mc ms : Nat} (own : String) (ho : y.cls = own) (hy : plainName y.cls = true) (hn : (lg_sl av).length ≤ maxL)
    (body : ∀ (p : Program) (e : Env) (s : State) (m : MethodId) (below : List Frame) (meth : Method) (c : Code) (ls : Array Slot), CallFix p m c cc maxL s av.toArray gws own → meth.sig.returnType = some .int → meth.locks = false → meth.name = y.name → c.exceptionTable.toList = tableOf hh → pw D vwCl A h s.heap → (∀ q, s.heap.size ≤ q → A q) → kon D cs A s s.heap → lv_has ls maxL (lv_args 0 av) →
      W p l e rm s m av.toArray below meth c s.heap [] 0 0 (vx_MQ below Qc (vx_X (fun (_ : pw_H) => False) (fun _ _ _ => True) A) av.toArray s mc ms A) (F0 m 0 ls [])) : pml l y cc maxL hh rm av D cs A h Qc mc ms := by
  subst ho
  refine vx_ofWH (cc := cc) (maxL := maxL) (ret := some .int) (hh := hh) hy rfl ?_
  intro p e s m args below meth c s₁ B hml hv
  obtain ⟨rfl, hP, hA, hK⟩ := hv
  have hts := atoms_spec (ws := Cond.codeWith y cc maxL (some .int) hh :: gws) B.pre
  rw [lg_entry_eq]
  exact body p e s m below meth c _ ⟨B.exec, B.bytes, hml, findClass_of_methodNamed B.named, fun w hw => hts w (List.mem_cons_of_mem _ hw)⟩ B.returns B.notSynchronized (name_of_methodNamed B.named B.method).1 (vx_table (x := y) B (hts _ List.mem_cons_self)) hP hA hK (lv_entry av hn)
abbrev rm_L_function : Room := { frames := 7, cells := 5, slots := 39, locals := 125 }
abbrev hh_L_function : List (Nat × Nat × Nat × Nat) := [(0, 9, 12, 13), (0, 9, 15, 15)]
set_option maxHeartbeats 4000000 in
set_option maxRecDepth 100000 in
theorem c_L_function (l : Launch) (D : va_G) (cs : Nat → Nat) (A : Nat → Prop) (h1 : pw_H) (hst : l.stackTraces = false) (x out : Nat) (v : Nat → Int64) (hdj : djt h1 (oM (cs 2) out v)) (S : St) (hE : SimE cs h1 x S) (sg : Int32) : pml l y_L_function b_L_function 4 hh_L_function rm_L_function [.ref x, .int sg, .ref out] D cs A (un h1 (oM (cs 2) out v)) (va_Qi (fun (r : Int32) (h' : pw_H) => ∃ (u : pw_H) (w9 : Nat → Int64), h' = un u (oM (cs 2) out w9) ∧ djt u (oM (cs 2) out w9) ∧ SimE cs u x (stFunction S sg) ∧ r = thFunction S sg ∧ (thFunction S sg = 0 → w9 0 = (rFunction S sg).toInt64)) (ww D cs A) A) 5 39 := by
  refine pml_of R_L rfl (by decide) (Nat.le_of_ble_eq_true rfl) (fun p e s m below meth c ls F hr hlk hnm htb hP hA hK hl => ?_)
  have hS : va_S A s.heap s.heap [] := va_S.rf
  replace hl : lv_has ls 4 [(0, .ref x), (1, .int sg), (2, .ref out)] := hl
  have hP1 : pw D vwCl A h1 s.heap := hP.sub (fun q e he => un_l he)
  have hP2 : pw D vwCl A (oM (cs 2) out v) s.heap := hP.sub (fun q e he => un_r hdj he)
  obtain ⟨fs, fx⟩ := hE.at
  refine lv_aload_n F.1 F.2.1 d_L_function_0 rfl (lv_at hl 2 rfl) ?_
  refine lv_iconst (v := 0) F.1 F.2.1 d_L_function_1 (by decide) ?_
  refine lv_aload_n F.1 F.2.1 d_L_function_2 rfl (lv_at hl 0 rfl) ?_
  refine lv_iload_n F.1 F.2.1 d_L_function_3 rfl (lv_at hl 1 rfl) ?_
  refine p2_cix (px_V F (c_D_function l D cs (sA h1 s.heap) h1 hst x S hE sg) X_L_7 rfl rfl ⟨by decide, by decide⟩ hP1 hA hK hS fx rfl rfl rfl hl.1 rfl (Nat.le_of_ble_eq_true rfl) d_L_function_4 ⟨by decide, by decide⟩) hP1 hA hS hP2 hdj (fun E ce q9 u H locs hx hP1 hP2 hdj hS hce hcv hcl => ?_) (fun r9 u H locs hq hP1 hP2 hdj hS => ?_)
  · have hP : pw D vwCl A (un u (oM (cs 2) out v)) H := hP1.join hP2 hdj
    rcases hx with ⟨rfl, hth, hE9⟩ | ⟨rfl, hth, hE9⟩
    · skip
      refine vx_catch (own := R_L) (name := sIAE) (E := sIAE) F.2.2.2.1 [] ⟨0, 9, 12, 13⟩ [⟨0, 9, 15, 15⟩] (by rw [htb]; rfl) (fun z9 hz9 => nomatch hz9) (by decide) (by decide) (F.2.2.2.2 _ C_L_13) (va_tabs rfl rfl (hK.2.2.2.2.2.2.2.1 (sIAE, sIAE) (by decide))) hce hcv hcl ?_
      refine W.eq (g2 := F0 m 12 ls [.ref q9]) (by rfl) ?_
      refine lv_astore_n F.1 F.2.1 d_L_function_12 rfl hl (by decide) rfl (fun ls hl => ?_)
      replace hl : lv_has ls 4 [(3, .ref q9), (0, .ref x), (1, .int sg), (2, .ref out)] := hl
      refine lv_iconst (v := 1) F.1 F.2.1 d_L_function_13 (by decide) ?_
      exact vx_ret (pw_iret F hr hlk hP hA hK hS (by decide) (by decide) d_L_function_14 ⟨u, v, rfl, hdj, hE9, hth.symm, fun z9 => absurd (hth.symm.trans z9) (by decide)⟩)
    · skip
      refine vx_catch (own := R_L) (name := sISE) (E := sISE) F.2.2.2.1 [⟨0, 9, 12, 13⟩] ⟨0, 9, 15, 15⟩ [] (by rw [htb]; rfl) (fun z9 hz9 => by rw [List.mem_singleton.mp hz9]; exact Or.inr ⟨by decide, _, F.2.2.2.2 _ C_L_13, hK.2.2.2.2.2.2.1 (sISE, sIAE) (by decide)⟩) (by decide) (by decide) (F.2.2.2.2 _ C_L_15) (va_tabs rfl rfl (hK.2.2.2.2.2.2.2.1 (sISE, sISE) (by decide))) hce hcv hcl ?_
      refine W.eq (g2 := F0 m 15 ls [.ref q9]) (by rfl) ?_
      refine lv_astore_n F.1 F.2.1 d_L_function_15 rfl hl (by decide) rfl (fun ls hl => ?_)
      replace hl : lv_has ls 4 [(3, .ref q9), (0, .ref x), (1, .int sg), (2, .ref out)] := hl
      refine lv_iconst (v := 2) F.1 F.2.1 d_L_function_16 (by decide) ?_
      exact vx_ret (pw_iret F hr hlk hP hA hK hS (by decide) (by decide) d_L_function_17 ⟨u, v, rfl, hdj, hE9, hth.symm, fun z9 => absurd (hth.symm.trans z9) (by decide)⟩)
  · have hP : pw D vwCl A (un u (oM (cs 2) out v)) H := hP1.join hP2 hdj
    refine lv_i2l F.1 F.2.1 d_L_function_7 rfl ?_
    refine W.eq (g2 := F0 m 8 ls [.long r9.toInt64, .int (nI 0), .ref out]) (by rfl) ?_
    refine pw_lastN F hK.1 hP hS 2 (un_r hdj oM_s) rfl (k := 0) (by decide) (by decide) d_L_function_8 (fun H locs hP hS => ?_)
    rw [oM_pu hdj] at hP
    refine lv_goto (tgt := 18) F.1 F.2.1 d_L_function_9 (by decide) ?_
    refine lv_iconst (v := 0) F.1 F.2.1 d_L_function_18 (by decide) ?_
    exact vx_ret (pw_iret F hr hlk hP hA hK hS (by decide) (by decide) d_L_function_19 ⟨u, _, rfl, oM_djt hdj, hq.2.1, hq.1.symm, fun _ => (if_pos rfl).trans (by rw [hq.2.2])⟩)
abbrev rm_L_operation : Room := { frames := 7, cells := 1, slots := 6, locals := 115 }
abbrev hh_L_operation : List (Nat × Nat × Nat × Nat) := [(0, 14, 17, 13), (0, 14, 21, 15)]
set_option maxHeartbeats 4000000 in
set_option maxRecDepth 100000 in
theorem c_L_operation (l : Launch) (D : va_G) (cs : Nat → Nat) (A : Nat → Prop) (h1 : pw_H) (hst : l.stackTraces = false) (x out : Nat) (v : Nat → Int64) (hdj : djt h1 (oM (cs 2) out v)) (S : St) (hE : SimE cs h1 x S) (fn dr kd n : Int32) : pml l y_L_operation b_L_operation 7 hh_L_operation rm_L_operation [.ref x, .int fn, .int dr, .int kd, .int n, .ref out] D cs A (un h1 (oM (cs 2) out v)) (va_Qi (fun (r : Int32) (h' : pw_H) => ∃ (u : pw_H) (w9 : Nat → Int64), h' = un u (oM (cs 2) out w9) ∧ djt u (oM (cs 2) out w9) ∧ SimE cs u x (stOperation S fn dr kd n) ∧ r = thOperation S fn dr kd n ∧ (thOperation S fn dr kd n = 0 → w9 0 = (rOperation S fn dr kd n).toInt64)) (ww D cs A) A) 1 6 := by
  refine pml_of R_L rfl (by decide) (Nat.le_of_ble_eq_true rfl) (fun p e s m below meth c ls F hr hlk hnm htb hP hA hK hl => ?_)
  have hS : va_S A s.heap s.heap [] := va_S.rf
  replace hl : lv_has ls 7 [(0, .ref x), (1, .int fn), (2, .int dr), (3, .int kd), (4, .int n), (5, .ref out)] := hl
  have hP1 : pw D vwCl A h1 s.heap := hP.sub (fun q e he => un_l he)
  have hP2 : pw D vwCl A (oM (cs 2) out v) s.heap := hP.sub (fun q e he => un_r hdj he)
  obtain ⟨fs, fx⟩ := hE.at
  refine lv_aload F.1 F.2.1 d_L_operation_0 (lv_at hl 5 rfl) ?_
  refine lv_iconst (v := 0) F.1 F.2.1 d_L_operation_2 (by decide) ?_
  refine lv_aload_n F.1 F.2.1 d_L_operation_3 rfl (lv_at hl 0 rfl) ?_
  refine lv_iload_n F.1 F.2.1 d_L_operation_4 rfl (lv_at hl 1 rfl) ?_
  refine lv_iload_n F.1 F.2.1 d_L_operation_5 rfl (lv_at hl 2 rfl) ?_
  refine lv_iload_n F.1 F.2.1 d_L_operation_6 rfl (lv_at hl 3 rfl) ?_
  refine lv_iload F.1 F.2.1 d_L_operation_7 (lv_at hl 4 rfl) ?_
  refine p2_cix (px_V F (c_D_operation l D cs (sA h1 s.heap) h1 hst x S hE fn dr kd n) X_L_17 rfl rfl ⟨by decide, by decide⟩ hP1 hA hK hS fx rfl rfl rfl hl.1 rfl (Nat.le_of_ble_eq_true rfl) d_L_operation_9 ⟨by decide, by decide⟩) hP1 hA hS hP2 hdj (fun E ce q9 u H locs hx hP1 hP2 hdj hS hce hcv hcl => ?_) (fun r9 u H locs hq hP1 hP2 hdj hS => ?_)
  · have hP : pw D vwCl A (un u (oM (cs 2) out v)) H := hP1.join hP2 hdj
    rcases hx with ⟨rfl, hth, hE9⟩ | ⟨rfl, hth, hE9⟩
    · skip
      refine vx_catch (own := R_L) (name := sIAE) (E := sIAE) F.2.2.2.1 [] ⟨0, 14, 17, 13⟩ [⟨0, 14, 21, 15⟩] (by rw [htb]; rfl) (fun z9 hz9 => nomatch hz9) (by decide) (by decide) (F.2.2.2.2 _ C_L_13) (va_tabs rfl rfl (hK.2.2.2.2.2.2.2.1 (sIAE, sIAE) (by decide))) hce hcv hcl ?_
      refine W.eq (g2 := F0 m 17 ls [.ref q9]) (by rfl) ?_
      refine lv_astore F.1 F.2.1 d_L_operation_17 hl (by decide) rfl (fun ls hl => ?_)
      replace hl : lv_has ls 7 [(6, .ref q9), (0, .ref x), (1, .int fn), (2, .int dr), (3, .int kd), (4, .int n), (5, .ref out)] := hl
      refine lv_iconst (v := 1) F.1 F.2.1 d_L_operation_19 (by decide) ?_
      exact vx_ret (pw_iret F hr hlk hP hA hK hS (by decide) (by decide) d_L_operation_20 ⟨u, v, rfl, hdj, hE9, hth.symm, fun z9 => absurd (hth.symm.trans z9) (by decide)⟩)
    · skip
      refine vx_catch (own := R_L) (name := sISE) (E := sISE) F.2.2.2.1 [⟨0, 14, 17, 13⟩] ⟨0, 14, 21, 15⟩ [] (by rw [htb]; rfl) (fun z9 hz9 => by rw [List.mem_singleton.mp hz9]; exact Or.inr ⟨by decide, _, F.2.2.2.2 _ C_L_13, hK.2.2.2.2.2.2.1 (sISE, sIAE) (by decide)⟩) (by decide) (by decide) (F.2.2.2.2 _ C_L_15) (va_tabs rfl rfl (hK.2.2.2.2.2.2.2.1 (sISE, sISE) (by decide))) hce hcv hcl ?_
      refine W.eq (g2 := F0 m 21 ls [.ref q9]) (by rfl) ?_
      refine lv_astore F.1 F.2.1 d_L_operation_21 hl (by decide) rfl (fun ls hl => ?_)
      replace hl : lv_has ls 7 [(6, .ref q9), (0, .ref x), (1, .int fn), (2, .int dr), (3, .int kd), (4, .int n), (5, .ref out)] := hl
      refine lv_iconst (v := 2) F.1 F.2.1 d_L_operation_23 (by decide) ?_
      exact vx_ret (pw_iret F hr hlk hP hA hK hS (by decide) (by decide) d_L_operation_24 ⟨u, v, rfl, hdj, hE9, hth.symm, fun z9 => absurd (hth.symm.trans z9) (by decide)⟩)
  · have hP : pw D vwCl A (un u (oM (cs 2) out v)) H := hP1.join hP2 hdj
    refine lv_i2l F.1 F.2.1 d_L_operation_12 rfl ?_
    refine W.eq (g2 := F0 m 13 ls [.long r9.toInt64, .int (nI 0), .ref out]) (by rfl) ?_
    refine pw_lastN F hK.1 hP hS 2 (un_r hdj oM_s) rfl (k := 0) (by decide) (by decide) d_L_operation_13 (fun H locs hP hS => ?_)
    rw [oM_pu hdj] at hP
    refine lv_goto (tgt := 25) F.1 F.2.1 d_L_operation_14 (by decide) ?_
    refine lv_iconst (v := 0) F.1 F.2.1 d_L_operation_25 (by decide) ?_
    exact vx_ret (pw_iret F hr hlk hP hA hK hS (by decide) (by decide) d_L_operation_26 ⟨u, _, rfl, oM_djt hdj, hq.2.1, hq.1.symm, fun _ => (if_pos rfl).trans (by rw [hq.2.2])⟩)
abbrev rm_L_name : Room := { frames := 7, cells := 3, slots := 27, locals := 112 }
abbrev hh_L_name : List (Nat × Nat × Nat × Nat) := [(0, 10, 13, 13)]
set_option maxHeartbeats 4000000 in
set_option maxRecDepth 100000 in
theorem c_L_name (l : Launch) (D : va_G) (cs : Nat → Nat) (A : Nat → Prop) (h1 : pw_H) (hst : l.stackTraces = false) (x out : Nat) (v : Nat → Int64) (hdj : djt h1 (oM (cs 2) out v)) (S : St) (hE : SimE cs h1 x S) (fn sg : Int32) : pml l y_L_name b_L_name 5 hh_L_name rm_L_name [.ref x, .int fn, .int sg, .ref out] D cs A (un h1 (oM (cs 2) out v)) (va_Qi (fun (r : Int32) (h' : pw_H) => ∃ (u : pw_H) (w9 : Nat → Int64), h' = un u (oM (cs 2) out w9) ∧ djt u (oM (cs 2) out w9) ∧ SimE cs u x (stName S fn sg) ∧ r = thName S fn sg ∧ (thName S fn sg = 0 → w9 0 = (rName S fn sg).toInt64)) (ww D cs A) A) 3 27 := by
  refine pml_of R_L rfl (by decide) (Nat.le_of_ble_eq_true rfl) (fun p e s m below meth c ls F hr hlk hnm htb hP hA hK hl => ?_)
  have hS : va_S A s.heap s.heap [] := va_S.rf
  replace hl : lv_has ls 5 [(0, .ref x), (1, .int fn), (2, .int sg), (3, .ref out)] := hl
  have hP1 : pw D vwCl A h1 s.heap := hP.sub (fun q e he => un_l he)
  have hP2 : pw D vwCl A (oM (cs 2) out v) s.heap := hP.sub (fun q e he => un_r hdj he)
  obtain ⟨fs, fx⟩ := hE.at
  refine lv_aload_n F.1 F.2.1 d_L_name_0 rfl (lv_at hl 3 rfl) ?_
  refine lv_iconst (v := 0) F.1 F.2.1 d_L_name_1 (by decide) ?_
  refine lv_aload_n F.1 F.2.1 d_L_name_2 rfl (lv_at hl 0 rfl) ?_
  refine lv_iload_n F.1 F.2.1 d_L_name_3 rfl (lv_at hl 1 rfl) ?_
  refine lv_iload_n F.1 F.2.1 d_L_name_4 rfl (lv_at hl 2 rfl) ?_
  refine p2_cix (px_V F (c_D_name l D cs (sA h1 s.heap) h1 hst x S hE fn sg) X_L_21 rfl rfl ⟨by decide, by decide⟩ hP1 hA hK hS fx rfl rfl rfl hl.1 rfl (Nat.le_of_ble_eq_true rfl) d_L_name_5 ⟨by decide, by decide⟩) hP1 hA hS hP2 hdj (fun E ce q9 u H locs hx hP1 hP2 hdj hS hce hcv hcl => ?_) (fun r9 u H locs hq hP1 hP2 hdj hS => ?_)
  · have hP : pw D vwCl A (un u (oM (cs 2) out v)) H := hP1.join hP2 hdj
    obtain ⟨rfl, hth, hE9⟩ := hx
    refine vx_catch (own := R_L) (name := sIAE) (E := sIAE) F.2.2.2.1 [] ⟨0, 10, 13, 13⟩ [] (by rw [htb]; rfl) (fun z9 hz9 => nomatch hz9) (by decide) (by decide) (F.2.2.2.2 _ C_L_13) (va_tabs rfl rfl (hK.2.2.2.2.2.2.2.1 (sIAE, sIAE) (by decide))) hce hcv hcl ?_
    refine W.eq (g2 := F0 m 13 ls [.ref q9]) (by rfl) ?_
    refine lv_astore F.1 F.2.1 d_L_name_13 hl (by decide) rfl (fun ls hl => ?_)
    replace hl : lv_has ls 5 [(4, .ref q9), (0, .ref x), (1, .int fn), (2, .int sg), (3, .ref out)] := hl
    refine lv_iconst (v := 1) F.1 F.2.1 d_L_name_15 (by decide) ?_
    exact vx_ret (pw_iret F hr hlk hP hA hK hS (by decide) (by decide) d_L_name_16 ⟨u, v, rfl, hdj, hE9, hth.symm, fun z9 => absurd (hth.symm.trans z9) (by decide)⟩)
  · have hP : pw D vwCl A (un u (oM (cs 2) out v)) H := hP1.join hP2 hdj
    refine lv_i2l F.1 F.2.1 d_L_name_8 rfl ?_
    refine W.eq (g2 := F0 m 9 ls [.long r9.toInt64, .int (nI 0), .ref out]) (by rfl) ?_
    refine pw_lastN F hK.1 hP hS 2 (un_r hdj oM_s) rfl (k := 0) (by decide) (by decide) d_L_name_9 (fun H locs hP hS => ?_)
    rw [oM_pu hdj] at hP
    refine lv_goto (tgt := 17) F.1 F.2.1 d_L_name_10 (by decide) ?_
    refine lv_iconst (v := 0) F.1 F.2.1 d_L_name_17 (by decide) ?_
    exact vx_ret (pw_iret F hr hlk hP hA hK hS (by decide) (by decide) d_L_name_18 ⟨u, _, rfl, oM_djt hdj, hq.2.1, hq.1.symm, fun _ => (if_pos rfl).trans (by rw [hq.2.2])⟩)
abbrev rm_L_apply : Room := { frames := 7, cells := 4, slots := 29, locals := 130 }
abbrev hh_L_apply : List (Nat × Nat × Nat × Nat) := [(0, 8, 11, 13), (0, 8, 14, 29), (0, 8, 17, 15)]
set_option maxHeartbeats 4000000 in
set_option maxRecDepth 100000 in
theorem c_L_apply (l : Launch) (D : va_G) (cs : Nat → Nat) (A : Nat → Prop) (h1 : pw_H) (hst : l.stackTraces = false) (x out : Nat) (v : Nat → Int64) (hdj : djt h1 (oM (cs 2) out v)) (S : St) (hE : SimE cs h1 x S) : pml l y_L_apply b_L_apply 3 hh_L_apply rm_L_apply [.ref x, .ref out] D cs A (un h1 (oM (cs 2) out v)) (va_Qi (fun (r : Int32) (h' : pw_H) => ∃ (u : pw_H) (w9 : Nat → Int64), h' = un u (oM (cs 2) out w9) ∧ djt u (oM (cs 2) out w9) ∧ SimE cs u x (stApply S) ∧ r = thApply S ∧ (thApply S = 0 → w9 0 = (rApply S).toInt64)) (ww D cs A) A) 4 29 := by
  refine pml_of R_L rfl (by decide) (Nat.le_of_ble_eq_true rfl) (fun p e s m below meth c ls F hr hlk hnm htb hP hA hK hl => ?_)
  have hS : va_S A s.heap s.heap [] := va_S.rf
  replace hl : lv_has ls 3 [(0, .ref x), (1, .ref out)] := hl
  have hP1 : pw D vwCl A h1 s.heap := hP.sub (fun q e he => un_l he)
  have hP2 : pw D vwCl A (oM (cs 2) out v) s.heap := hP.sub (fun q e he => un_r hdj he)
  obtain ⟨fs, fx⟩ := hE.at
  refine lv_aload_n F.1 F.2.1 d_L_apply_0 rfl (lv_at hl 1 rfl) ?_
  refine lv_iconst (v := 0) F.1 F.2.1 d_L_apply_1 (by decide) ?_
  refine lv_aload_n F.1 F.2.1 d_L_apply_2 rfl (lv_at hl 0 rfl) ?_
  refine p2_cix (px_V F (c_D_apply l D cs (sA h1 s.heap) h1 hst x S hE) X_L_25 rfl rfl ⟨by decide, by decide⟩ hP1 hA hK hS fx rfl rfl rfl hl.1 rfl (Nat.le_of_ble_eq_true rfl) d_L_apply_3 ⟨by decide, by decide⟩) hP1 hA hS hP2 hdj (fun E ce q9 u H locs hx hP1 hP2 hdj hS hce hcv hcl => ?_) (fun r9 u H locs hq hP1 hP2 hdj hS => ?_)
  · have hP : pw D vwCl A (un u (oM (cs 2) out v)) H := hP1.join hP2 hdj
    rcases hx with ⟨rfl, hth, hE9⟩ | ⟨rfl, hth, hE9⟩ | ⟨rfl, hth, hE9⟩
    · skip
      refine vx_catch (own := R_L) (name := sIAE) (E := sIAE) F.2.2.2.1 [] ⟨0, 8, 11, 13⟩ [⟨0, 8, 14, 29⟩, ⟨0, 8, 17, 15⟩] (by rw [htb]; rfl) (fun z9 hz9 => nomatch hz9) (by decide) (by decide) (F.2.2.2.2 _ C_L_13) (va_tabs rfl rfl (hK.2.2.2.2.2.2.2.1 (sIAE, sIAE) (by decide))) hce hcv hcl ?_
      refine W.eq (g2 := F0 m 11 ls [.ref q9]) (by rfl) ?_
      refine lv_astore_n F.1 F.2.1 d_L_apply_11 rfl hl (by decide) rfl (fun ls hl => ?_)
      replace hl : lv_has ls 3 [(2, .ref q9), (0, .ref x), (1, .ref out)] := hl
      refine lv_iconst (v := 1) F.1 F.2.1 d_L_apply_12 (by decide) ?_
      exact vx_ret (pw_iret F hr hlk hP hA hK hS (by decide) (by decide) d_L_apply_13 ⟨u, v, rfl, hdj, hE9, hth.symm, fun z9 => absurd (hth.symm.trans z9) (by decide)⟩)
    · skip
      refine vx_catch (own := R_L) (name := sUOE) (E := sUOE) F.2.2.2.1 [⟨0, 8, 11, 13⟩] ⟨0, 8, 14, 29⟩ [⟨0, 8, 17, 15⟩] (by rw [htb]; rfl) (fun z9 hz9 => by rw [List.mem_singleton.mp hz9]; exact Or.inr ⟨by decide, _, F.2.2.2.2 _ C_L_13, hK.2.2.2.2.2.2.1 (sUOE, sIAE) (by decide)⟩) (by decide) (by decide) (F.2.2.2.2 _ C_L_29) (va_tabs rfl rfl (hK.2.2.2.2.2.2.2.1 (sUOE, sUOE) (by decide))) hce hcv hcl ?_
      refine W.eq (g2 := F0 m 14 ls [.ref q9]) (by rfl) ?_
      refine lv_astore_n F.1 F.2.1 d_L_apply_14 rfl hl (by decide) rfl (fun ls hl => ?_)
      replace hl : lv_has ls 3 [(2, .ref q9), (0, .ref x), (1, .ref out)] := hl
      refine lv_iconst (v := 2) F.1 F.2.1 d_L_apply_15 (by decide) ?_
      exact vx_ret (pw_iret F hr hlk hP hA hK hS (by decide) (by decide) d_L_apply_16 ⟨u, v, rfl, hdj, hE9, hth.symm, fun z9 => absurd (hth.symm.trans z9) (by decide)⟩)
    · skip
      refine vx_catch (own := R_L) (name := sISE) (E := sISE) F.2.2.2.1 [⟨0, 8, 11, 13⟩, ⟨0, 8, 14, 29⟩] ⟨0, 8, 17, 15⟩ [] (by rw [htb]; rfl) (fun z9 hz9 => by
        simp only [List.mem_cons, List.not_mem_nil, or_false] at hz9
        rcases hz9 with rfl | rfl
        · exact Or.inr ⟨by decide, _, F.2.2.2.2 _ C_L_13, hK.2.2.2.2.2.2.1 (sISE, sIAE) (by decide)⟩
        · exact Or.inr ⟨by decide, _, F.2.2.2.2 _ C_L_29, hK.2.2.2.2.2.2.1 (sISE, sUOE) (by decide)⟩) (by decide) (by decide) (F.2.2.2.2 _ C_L_15) (va_tabs rfl rfl (hK.2.2.2.2.2.2.2.1 (sISE, sISE) (by decide))) hce hcv hcl ?_
      refine W.eq (g2 := F0 m 17 ls [.ref q9]) (by rfl) ?_
      refine lv_astore_n F.1 F.2.1 d_L_apply_17 rfl hl (by decide) rfl (fun ls hl => ?_)
      replace hl : lv_has ls 3 [(2, .ref q9), (0, .ref x), (1, .ref out)] := hl
      refine lv_iconst (v := 3) F.1 F.2.1 d_L_apply_18 (by decide) ?_
      exact vx_ret (pw_iret F hr hlk hP hA hK hS (by decide) (by decide) d_L_apply_19 ⟨u, v, rfl, hdj, hE9, hth.symm, fun z9 => absurd (hth.symm.trans z9) (by decide)⟩)
  · have hP : pw D vwCl A (un u (oM (cs 2) out v)) H := hP1.join hP2 hdj
    refine lv_i2l F.1 F.2.1 d_L_apply_6 rfl ?_
    refine W.eq (g2 := F0 m 7 ls [.long r9.toInt64, .int (nI 0), .ref out]) (by rfl) ?_
    refine pw_lastN F hK.1 hP hS 2 (un_r hdj oM_s) rfl (k := 0) (by decide) (by decide) d_L_apply_7 (fun H locs hP hS => ?_)
    rw [oM_pu hdj] at hP
    refine lv_goto (tgt := 20) F.1 F.2.1 d_L_apply_8 (by decide) ?_
    refine lv_iconst (v := 0) F.1 F.2.1 d_L_apply_20 (by decide) ?_
    exact vx_ret (pw_iret F hr hlk hP hA hK hS (by decide) (by decide) d_L_apply_21 ⟨u, _, rfl, oM_djt hdj, hq.2.1, hq.1.symm, fun _ => (if_pos rfl).trans (by rw [hq.2.2])⟩)
abbrev rm_L_turn : Room := { frames := 7, cells := 1, slots := 6, locals := 131 }
abbrev hh_L_turn : List (Nat × Nat × Nat × Nat) := [(0, 8, 11, 15)]
set_option maxHeartbeats 4000000 in
set_option maxRecDepth 100000 in
theorem c_L_turn (l : Launch) (D : va_G) (cs : Nat → Nat) (A : Nat → Prop) (h1 : pw_H) (hst : l.stackTraces = false) (x out : Nat) (v : Nat → Int64) (hdj : djt h1 (oM (cs 2) out v)) (S : St) (hE : SimE cs h1 x S) : pml l y_L_turn b_L_turn 3 hh_L_turn rm_L_turn [.ref x, .ref out] D cs A (un h1 (oM (cs 2) out v)) (va_Qi (fun (r : Int32) (h' : pw_H) => ∃ (u : pw_H) (w9 : Nat → Int64), h' = un u (oM (cs 2) out w9) ∧ djt u (oM (cs 2) out w9) ∧ SimE cs u x (stTurn S) ∧ r = thTurn S ∧ (thTurn S = 0 → w9 0 = (rTurn S).toInt64)) (ww D cs A) A) 1 6 := by
  refine pml_of R_L rfl (by decide) (Nat.le_of_ble_eq_true rfl) (fun p e s m below meth c ls F hr hlk hnm htb hP hA hK hl => ?_)
  have hS : va_S A s.heap s.heap [] := va_S.rf
  replace hl : lv_has ls 3 [(0, .ref x), (1, .ref out)] := hl
  have hP1 : pw D vwCl A h1 s.heap := hP.sub (fun q e he => un_l he)
  have hP2 : pw D vwCl A (oM (cs 2) out v) s.heap := hP.sub (fun q e he => un_r hdj he)
  obtain ⟨fs, fx⟩ := hE.at
  refine lv_aload_n F.1 F.2.1 d_L_turn_0 rfl (lv_at hl 1 rfl) ?_
  refine lv_iconst (v := 0) F.1 F.2.1 d_L_turn_1 (by decide) ?_
  refine lv_aload_n F.1 F.2.1 d_L_turn_2 rfl (lv_at hl 0 rfl) ?_
  refine p2_cix (px_V F (c_D_turn l D cs (sA h1 s.heap) h1 hst x S hE) X_L_31 rfl rfl ⟨by decide, by decide⟩ hP1 hA hK hS fx rfl rfl rfl hl.1 rfl (Nat.le_of_ble_eq_true rfl) d_L_turn_3 ⟨by decide, by decide⟩) hP1 hA hS hP2 hdj (fun E ce q9 u H locs hx hP1 hP2 hdj hS hce hcv hcl => ?_) (fun r9 u H locs hq hP1 hP2 hdj hS => ?_)
  · have hP : pw D vwCl A (un u (oM (cs 2) out v)) H := hP1.join hP2 hdj
    obtain ⟨rfl, hth, hE9⟩ := hx
    refine vx_catch (own := R_L) (name := sISE) (E := sISE) F.2.2.2.1 [] ⟨0, 8, 11, 15⟩ [] (by rw [htb]; rfl) (fun z9 hz9 => nomatch hz9) (by decide) (by decide) (F.2.2.2.2 _ C_L_15) (va_tabs rfl rfl (hK.2.2.2.2.2.2.2.1 (sISE, sISE) (by decide))) hce hcv hcl ?_
    refine W.eq (g2 := F0 m 11 ls [.ref q9]) (by rfl) ?_
    refine lv_astore_n F.1 F.2.1 d_L_turn_11 rfl hl (by decide) rfl (fun ls hl => ?_)
    replace hl : lv_has ls 3 [(2, .ref q9), (0, .ref x), (1, .ref out)] := hl
    refine lv_iconst (v := 1) F.1 F.2.1 d_L_turn_12 (by decide) ?_
    exact vx_ret (pw_iret F hr hlk hP hA hK hS (by decide) (by decide) d_L_turn_13 ⟨u, v, rfl, hdj, hE9, hth.symm, fun z9 => absurd (hth.symm.trans z9) (by decide)⟩)
  · have hP : pw D vwCl A (un u (oM (cs 2) out v)) H := hP1.join hP2 hdj
    refine lv_i2l F.1 F.2.1 d_L_turn_6 rfl ?_
    refine W.eq (g2 := F0 m 7 ls [.long r9.toInt64, .int (nI 0), .ref out]) (by rfl) ?_
    refine pw_lastN F hK.1 hP hS 2 (un_r hdj oM_s) rfl (k := 0) (by decide) (by decide) d_L_turn_7 (fun H locs hP hS => ?_)
    rw [oM_pu hdj] at hP
    refine lv_goto (tgt := 14) F.1 F.2.1 d_L_turn_8 (by decide) ?_
    refine lv_iconst (v := 0) F.1 F.2.1 d_L_turn_14 (by decide) ?_
    exact vx_ret (pw_iret F hr hlk hP hA hK hS (by decide) (by decide) d_L_turn_15 ⟨u, _, rfl, oM_djt hdj, hq.2.1, hq.1.symm, fun _ => (if_pos rfl).trans (by rw [hq.2.2])⟩)
abbrev rm_L_task : Room := { frames := 7, cells := 9, slots := 53, locals := 126 }
abbrev hh_L_task : List (Nat × Nat × Nat × Nat) := [(0, 9, 12, 13), (0, 9, 15, 15)]
set_option maxHeartbeats 4000000 in
set_option maxRecDepth 100000 in
theorem c_L_task (l : Launch) (D : va_G) (cs : Nat → Nat) (A : Nat → Prop) (h1 : pw_H) (hst : l.stackTraces = false) (x out : Nat) (v : Nat → Int64) (hdj : djt h1 (oM (cs 2) out v)) (S : St) (hE : SimE cs h1 x S) (fn : Int32) : pml l y_L_task b_L_task 4 hh_L_task rm_L_task [.ref x, .int fn, .ref out] D cs A (un h1 (oM (cs 2) out v)) (va_Qi (fun (r : Int32) (h' : pw_H) => ∃ (u : pw_H) (w9 : Nat → Int64), h' = un u (oM (cs 2) out w9) ∧ djt u (oM (cs 2) out w9) ∧ SimE cs u x (stTask S fn) ∧ r = thTask S fn ∧ (thTask S fn = 0 → w9 0 = (rTask S fn).toInt64)) (ww D cs A) A) 9 53 := by
  refine pml_of R_L rfl (by decide) (Nat.le_of_ble_eq_true rfl) (fun p e s m below meth c ls F hr hlk hnm htb hP hA hK hl => ?_)
  have hS : va_S A s.heap s.heap [] := va_S.rf
  replace hl : lv_has ls 4 [(0, .ref x), (1, .int fn), (2, .ref out)] := hl
  have hP1 : pw D vwCl A h1 s.heap := hP.sub (fun q e he => un_l he)
  have hP2 : pw D vwCl A (oM (cs 2) out v) s.heap := hP.sub (fun q e he => un_r hdj he)
  obtain ⟨fs, fx⟩ := hE.at
  refine lv_aload_n F.1 F.2.1 d_L_task_0 rfl (lv_at hl 2 rfl) ?_
  refine lv_iconst (v := 0) F.1 F.2.1 d_L_task_1 (by decide) ?_
  refine lv_aload_n F.1 F.2.1 d_L_task_2 rfl (lv_at hl 0 rfl) ?_
  refine lv_iload_n F.1 F.2.1 d_L_task_3 rfl (lv_at hl 1 rfl) ?_
  refine p2_cix (px_V F (c_D_task l D cs (sA h1 s.heap) h1 hst x S hE fn) X_L_34 rfl rfl ⟨by decide, by decide⟩ hP1 hA hK hS fx rfl rfl rfl hl.1 rfl (Nat.le_of_ble_eq_true rfl) d_L_task_4 ⟨by decide, by decide⟩) hP1 hA hS hP2 hdj (fun E ce q9 u H locs hx hP1 hP2 hdj hS hce hcv hcl => ?_) (fun r9 u H locs hq hP1 hP2 hdj hS => ?_)
  · have hP : pw D vwCl A (un u (oM (cs 2) out v)) H := hP1.join hP2 hdj
    rcases hx with ⟨rfl, hth, hE9⟩ | ⟨rfl, hth, hE9⟩
    · skip
      refine vx_catch (own := R_L) (name := sIAE) (E := sIAE) F.2.2.2.1 [] ⟨0, 9, 12, 13⟩ [⟨0, 9, 15, 15⟩] (by rw [htb]; rfl) (fun z9 hz9 => nomatch hz9) (by decide) (by decide) (F.2.2.2.2 _ C_L_13) (va_tabs rfl rfl (hK.2.2.2.2.2.2.2.1 (sIAE, sIAE) (by decide))) hce hcv hcl ?_
      refine W.eq (g2 := F0 m 12 ls [.ref q9]) (by rfl) ?_
      refine lv_astore_n F.1 F.2.1 d_L_task_12 rfl hl (by decide) rfl (fun ls hl => ?_)
      replace hl : lv_has ls 4 [(3, .ref q9), (0, .ref x), (1, .int fn), (2, .ref out)] := hl
      refine lv_iconst (v := 1) F.1 F.2.1 d_L_task_13 (by decide) ?_
      exact vx_ret (pw_iret F hr hlk hP hA hK hS (by decide) (by decide) d_L_task_14 ⟨u, v, rfl, hdj, hE9, hth.symm, fun z9 => absurd (hth.symm.trans z9) (by decide)⟩)
    · skip
      refine vx_catch (own := R_L) (name := sISE) (E := sISE) F.2.2.2.1 [⟨0, 9, 12, 13⟩] ⟨0, 9, 15, 15⟩ [] (by rw [htb]; rfl) (fun z9 hz9 => by rw [List.mem_singleton.mp hz9]; exact Or.inr ⟨by decide, _, F.2.2.2.2 _ C_L_13, hK.2.2.2.2.2.2.1 (sISE, sIAE) (by decide)⟩) (by decide) (by decide) (F.2.2.2.2 _ C_L_15) (va_tabs rfl rfl (hK.2.2.2.2.2.2.2.1 (sISE, sISE) (by decide))) hce hcv hcl ?_
      refine W.eq (g2 := F0 m 15 ls [.ref q9]) (by rfl) ?_
      refine lv_astore_n F.1 F.2.1 d_L_task_15 rfl hl (by decide) rfl (fun ls hl => ?_)
      replace hl : lv_has ls 4 [(3, .ref q9), (0, .ref x), (1, .int fn), (2, .ref out)] := hl
      refine lv_iconst (v := 2) F.1 F.2.1 d_L_task_16 (by decide) ?_
      exact vx_ret (pw_iret F hr hlk hP hA hK hS (by decide) (by decide) d_L_task_17 ⟨u, v, rfl, hdj, hE9, hth.symm, fun z9 => absurd (hth.symm.trans z9) (by decide)⟩)
  · have hP : pw D vwCl A (un u (oM (cs 2) out v)) H := hP1.join hP2 hdj
    refine lv_i2l F.1 F.2.1 d_L_task_7 rfl ?_
    refine W.eq (g2 := F0 m 8 ls [.long r9.toInt64, .int (nI 0), .ref out]) (by rfl) ?_
    refine pw_lastN F hK.1 hP hS 2 (un_r hdj oM_s) rfl (k := 0) (by decide) (by decide) d_L_task_8 (fun H locs hP hS => ?_)
    rw [oM_pu hdj] at hP
    refine lv_goto (tgt := 18) F.1 F.2.1 d_L_task_9 (by decide) ?_
    refine lv_iconst (v := 0) F.1 F.2.1 d_L_task_18 (by decide) ?_
    exact vx_ret (pw_iret F hr hlk hP hA hK hS (by decide) (by decide) d_L_task_19 ⟨u, _, rfl, oM_djt hdj, hq.2.1, hq.1.symm, fun _ => (if_pos rfl).trans (by rw [hq.2.2])⟩)
abbrev rm_L_step : Room := { frames := 7, cells := 1, slots := 6, locals := 160 }
abbrev hh_L_step : List (Nat × Nat × Nat × Nat) := [(0, 10, 13, 13)]
set_option maxHeartbeats 4000000 in
set_option maxRecDepth 100000 in
theorem c_L_step (l : Launch) (D : va_G) (cs : Nat → Nat) (A : Nat → Prop) (h1 : pw_H) (hst : l.stackTraces = false) (x out : Nat) (v : Nat → Int64) (hdj : djt h1 (oM (cs 2) out v)) (S : St) (hE : SimE cs h1 x S) (tk mn : Int32) : pml l y_L_step b_L_step 5 hh_L_step rm_L_step [.ref x, .int tk, .int mn, .ref out] D cs A (un h1 (oM (cs 2) out v)) (va_Qi (fun (r : Int32) (h' : pw_H) => ∃ (u : pw_H) (w9 : Nat → Int64), h' = un u (oM (cs 2) out w9) ∧ djt u (oM (cs 2) out w9) ∧ SimE cs u x (stStep S tk mn) ∧ r = thStep S tk mn ∧ (thStep S tk mn = 0 → w9 0 = (rStep S tk mn).toInt64)) (ww D cs A) A) 1 6 := by
  refine pml_of R_L rfl (by decide) (Nat.le_of_ble_eq_true rfl) (fun p e s m below meth c ls F hr hlk hnm htb hP hA hK hl => ?_)
  have hS : va_S A s.heap s.heap [] := va_S.rf
  replace hl : lv_has ls 5 [(0, .ref x), (1, .int tk), (2, .int mn), (3, .ref out)] := hl
  have hP1 : pw D vwCl A h1 s.heap := hP.sub (fun q e he => un_l he)
  have hP2 : pw D vwCl A (oM (cs 2) out v) s.heap := hP.sub (fun q e he => un_r hdj he)
  obtain ⟨fs, fx⟩ := hE.at
  refine lv_aload_n F.1 F.2.1 d_L_step_0 rfl (lv_at hl 3 rfl) ?_
  refine lv_iconst (v := 0) F.1 F.2.1 d_L_step_1 (by decide) ?_
  refine lv_aload_n F.1 F.2.1 d_L_step_2 rfl (lv_at hl 0 rfl) ?_
  refine lv_iload_n F.1 F.2.1 d_L_step_3 rfl (lv_at hl 1 rfl) ?_
  refine lv_iload_n F.1 F.2.1 d_L_step_4 rfl (lv_at hl 2 rfl) ?_
  refine p2_cix (px_V F (c_D_step l D cs (sA h1 s.heap) h1 hst x S hE tk mn) X_L_37 rfl rfl ⟨by decide, by decide⟩ hP1 hA hK hS fx rfl rfl rfl hl.1 rfl (Nat.le_of_ble_eq_true rfl) d_L_step_5 ⟨by decide, by decide⟩) hP1 hA hS hP2 hdj (fun E ce q9 u H locs hx hP1 hP2 hdj hS hce hcv hcl => ?_) (fun r9 u H locs hq hP1 hP2 hdj hS => ?_)
  · have hP : pw D vwCl A (un u (oM (cs 2) out v)) H := hP1.join hP2 hdj
    obtain ⟨rfl, hth, hE9⟩ := hx
    refine vx_catch (own := R_L) (name := sIAE) (E := sIAE) F.2.2.2.1 [] ⟨0, 10, 13, 13⟩ [] (by rw [htb]; rfl) (fun z9 hz9 => nomatch hz9) (by decide) (by decide) (F.2.2.2.2 _ C_L_13) (va_tabs rfl rfl (hK.2.2.2.2.2.2.2.1 (sIAE, sIAE) (by decide))) hce hcv hcl ?_
    refine W.eq (g2 := F0 m 13 ls [.ref q9]) (by rfl) ?_
    refine lv_astore F.1 F.2.1 d_L_step_13 hl (by decide) rfl (fun ls hl => ?_)
    replace hl : lv_has ls 5 [(4, .ref q9), (0, .ref x), (1, .int tk), (2, .int mn), (3, .ref out)] := hl
    refine lv_iconst (v := 1) F.1 F.2.1 d_L_step_15 (by decide) ?_
    exact vx_ret (pw_iret F hr hlk hP hA hK hS (by decide) (by decide) d_L_step_16 ⟨u, v, rfl, hdj, hE9, hth.symm, fun z9 => absurd (hth.symm.trans z9) (by decide)⟩)
  · have hP : pw D vwCl A (un u (oM (cs 2) out v)) H := hP1.join hP2 hdj
    refine lv_i2l F.1 F.2.1 d_L_step_8 rfl ?_
    refine W.eq (g2 := F0 m 9 ls [.long r9.toInt64, .int (nI 0), .ref out]) (by rfl) ?_
    refine pw_lastN F hK.1 hP hS 2 (un_r hdj oM_s) rfl (k := 0) (by decide) (by decide) d_L_step_9 (fun H locs hP hS => ?_)
    rw [oM_pu hdj] at hP
    refine lv_goto (tgt := 17) F.1 F.2.1 d_L_step_10 (by decide) ?_
    refine lv_iconst (v := 0) F.1 F.2.1 d_L_step_17 (by decide) ?_
    exact vx_ret (pw_iret F hr hlk hP hA hK hS (by decide) (by decide) d_L_step_18 ⟨u, _, rfl, oM_djt hdj, hq.2.1, hq.1.symm, fun _ => (if_pos rfl).trans (by rw [hq.2.2])⟩)
abbrev rm_L_look : Room := { frames := 7, cells := 1, slots := 6, locals := 113 }
abbrev hh_L_look : List (Nat × Nat × Nat × Nat) := [(0, 10, 13, 13)]
set_option maxHeartbeats 4000000 in
set_option maxRecDepth 100000 in
theorem c_L_look (l : Launch) (D : va_G) (cs : Nat → Nat) (A : Nat → Prop) (h1 : pw_H) (hst : l.stackTraces = false) (x out : Nat) (v : Nat → Int64) (hdj : djt h1 (oM (cs 2) out v)) (S : St) (hE : SimE cs h1 x S) (tk w : Int32) : pml l y_L_look b_L_look 5 hh_L_look rm_L_look [.ref x, .int tk, .int w, .ref out] D cs A (un h1 (oM (cs 2) out v)) (va_Qi (fun (r : Int32) (h' : pw_H) => ∃ (u : pw_H) (w9 : Nat → Int64), h' = un u (oM (cs 2) out w9) ∧ djt u (oM (cs 2) out w9) ∧ SimE cs u x (sp S 16 0 (thLook S tk w)) ∧ r = thLook S tk w ∧ (thLook S tk w = 0 → w9 0 = (rLook S tk w).toInt64)) (ww D cs A) A) 1 6 := by
  refine pml_of R_L rfl (by decide) (Nat.le_of_ble_eq_true rfl) (fun p e s m below meth c ls F hr hlk hnm htb hP hA hK hl => ?_)
  have hS : va_S A s.heap s.heap [] := va_S.rf
  replace hl : lv_has ls 5 [(0, .ref x), (1, .int tk), (2, .int w), (3, .ref out)] := hl
  have hP1 : pw D vwCl A h1 s.heap := hP.sub (fun q e he => un_l he)
  have hP2 : pw D vwCl A (oM (cs 2) out v) s.heap := hP.sub (fun q e he => un_r hdj he)
  obtain ⟨fs, fx⟩ := hE.at
  refine lv_aload_n F.1 F.2.1 d_L_look_0 rfl (lv_at hl 3 rfl) ?_
  refine lv_iconst (v := 0) F.1 F.2.1 d_L_look_1 (by decide) ?_
  refine lv_aload_n F.1 F.2.1 d_L_look_2 rfl (lv_at hl 0 rfl) ?_
  refine lv_iload_n F.1 F.2.1 d_L_look_3 rfl (lv_at hl 1 rfl) ?_
  refine lv_iload_n F.1 F.2.1 d_L_look_4 rfl (lv_at hl 2 rfl) ?_
  refine p2_cix (px_V F (c_D_look l D cs (sA h1 s.heap) h1 hst x S hE tk w) X_L_40 rfl rfl ⟨by decide, by decide⟩ hP1 hA hK hS fx rfl rfl rfl hl.1 rfl (Nat.le_of_ble_eq_true rfl) d_L_look_5 ⟨by decide, by decide⟩) hP1 hA hS hP2 hdj (fun E ce q9 u H locs hx hP1 hP2 hdj hS hce hcv hcl => ?_) (fun r9 u H locs hq hP1 hP2 hdj hS => ?_)
  · have hP : pw D vwCl A (un u (oM (cs 2) out v)) H := hP1.join hP2 hdj
    obtain ⟨rfl, hth, hE9⟩ := hx
    refine vx_catch (own := R_L) (name := sIAE) (E := sIAE) F.2.2.2.1 [] ⟨0, 10, 13, 13⟩ [] (by rw [htb]; rfl) (fun z9 hz9 => nomatch hz9) (by decide) (by decide) (F.2.2.2.2 _ C_L_13) (va_tabs rfl rfl (hK.2.2.2.2.2.2.2.1 (sIAE, sIAE) (by decide))) hce hcv hcl ?_
    refine W.eq (g2 := F0 m 13 ls [.ref q9]) (by rfl) ?_
    refine lv_astore F.1 F.2.1 d_L_look_13 hl (by decide) rfl (fun ls hl => ?_)
    replace hl : lv_has ls 5 [(4, .ref q9), (0, .ref x), (1, .int tk), (2, .int w), (3, .ref out)] := hl
    refine lv_iconst (v := 1) F.1 F.2.1 d_L_look_15 (by decide) ?_
    exact vx_ret (pw_iret F hr hlk hP hA hK hS (by decide) (by decide) d_L_look_16 ⟨u, v, rfl, hdj, (by rw [hE9]; exact hE.num _), hth.symm, fun z9 => absurd (hth.symm.trans z9) (by decide)⟩)
  · have hP : pw D vwCl A (un u (oM (cs 2) out v)) H := hP1.join hP2 hdj
    refine lv_i2l F.1 F.2.1 d_L_look_8 rfl ?_
    refine W.eq (g2 := F0 m 9 ls [.long r9.toInt64, .int (nI 0), .ref out]) (by rfl) ?_
    refine pw_lastN F hK.1 hP hS 2 (un_r hdj oM_s) rfl (k := 0) (by decide) (by decide) d_L_look_9 (fun H locs hP hS => ?_)
    rw [oM_pu hdj] at hP
    refine lv_goto (tgt := 17) F.1 F.2.1 d_L_look_10 (by decide) ?_
    refine lv_iconst (v := 0) F.1 F.2.1 d_L_look_17 (by decide) ?_
    exact vx_ret (pw_iret F hr hlk hP hA hK hS (by decide) (by decide) d_L_look_18 ⟨u, _, rfl, oM_djt hdj, (by rw [hq.2.1]; exact hE.num _), hq.1.symm, fun _ => (if_pos rfl).trans (by rw [hq.2.2])⟩)
abbrev rm_L_frame : Room := { frames := 7, cells := 1, slots := 6, locals := 115 }
abbrev hh_L_frame : List (Nat × Nat × Nat × Nat) := [(0, 12, 15, 13), (0, 12, 19, 47)]
set_option maxHeartbeats 4000000 in
set_option maxRecDepth 100000 in
theorem c_L_frame (l : Launch) (D : va_G) (cs : Nat → Nat) (A : Nat → Prop) (h1 : pw_H) (hst : l.stackTraces = false) (x out : Nat) (v : Nat → Int64) (hdj : djt h1 (oM (cs 2) out v)) (S : St) (hE : SimE cs h1 x S) (tk k w : Int32) : pml l y_L_frame b_L_frame 6 hh_L_frame rm_L_frame [.ref x, .int tk, .int k, .int w, .ref out] D cs A (un h1 (oM (cs 2) out v)) (va_Qi (fun (r : Int32) (h' : pw_H) => ∃ (u : pw_H) (w9 : Nat → Int64), h' = un u (oM (cs 2) out w9) ∧ djt u (oM (cs 2) out w9) ∧ SimE cs u x (sp S 16 0 (thFrame S tk k w)) ∧ r = thFrame S tk k w ∧ (thFrame S tk k w = 0 → w9 0 = (rFrame S tk k w).toInt64)) (ww D cs A) A) 1 6 := by
  refine pml_of R_L rfl (by decide) (Nat.le_of_ble_eq_true rfl) (fun p e s m below meth c ls F hr hlk hnm htb hP hA hK hl => ?_)
  have hS : va_S A s.heap s.heap [] := va_S.rf
  replace hl : lv_has ls 6 [(0, .ref x), (1, .int tk), (2, .int k), (3, .int w), (4, .ref out)] := hl
  have hP1 : pw D vwCl A h1 s.heap := hP.sub (fun q e he => un_l he)
  have hP2 : pw D vwCl A (oM (cs 2) out v) s.heap := hP.sub (fun q e he => un_r hdj he)
  obtain ⟨fs, fx⟩ := hE.at
  refine lv_aload F.1 F.2.1 d_L_frame_0 (lv_at hl 4 rfl) ?_
  refine lv_iconst (v := 0) F.1 F.2.1 d_L_frame_2 (by decide) ?_
  refine lv_aload_n F.1 F.2.1 d_L_frame_3 rfl (lv_at hl 0 rfl) ?_
  refine lv_iload_n F.1 F.2.1 d_L_frame_4 rfl (lv_at hl 1 rfl) ?_
  refine lv_iload_n F.1 F.2.1 d_L_frame_5 rfl (lv_at hl 2 rfl) ?_
  refine lv_iload_n F.1 F.2.1 d_L_frame_6 rfl (lv_at hl 3 rfl) ?_
  refine p2_cix (px_V F (c_D_frame l D cs (sA h1 s.heap) h1 hst x S hE tk k w) X_L_43 rfl rfl ⟨by decide, by decide⟩ hP1 hA hK hS fx rfl rfl rfl hl.1 rfl (Nat.le_of_ble_eq_true rfl) d_L_frame_7 ⟨by decide, by decide⟩) hP1 hA hS hP2 hdj (fun E ce q9 u H locs hx hP1 hP2 hdj hS hce hcv hcl => ?_) (fun r9 u H locs hq hP1 hP2 hdj hS => ?_)
  · have hP : pw D vwCl A (un u (oM (cs 2) out v)) H := hP1.join hP2 hdj
    rcases hx with ⟨rfl, hth, hE9⟩ | ⟨rfl, hth, hE9⟩
    · skip
      refine vx_catch (own := R_L) (name := sIAE) (E := sIAE) F.2.2.2.1 [] ⟨0, 12, 15, 13⟩ [⟨0, 12, 19, 47⟩] (by rw [htb]; rfl) (fun z9 hz9 => nomatch hz9) (by decide) (by decide) (F.2.2.2.2 _ C_L_13) (va_tabs rfl rfl (hK.2.2.2.2.2.2.2.1 (sIAE, sIAE) (by decide))) hce hcv hcl ?_
      refine W.eq (g2 := F0 m 15 ls [.ref q9]) (by rfl) ?_
      refine lv_astore F.1 F.2.1 d_L_frame_15 hl (by decide) rfl (fun ls hl => ?_)
      replace hl : lv_has ls 6 [(5, .ref q9), (0, .ref x), (1, .int tk), (2, .int k), (3, .int w), (4, .ref out)] := hl
      refine lv_iconst (v := 1) F.1 F.2.1 d_L_frame_17 (by decide) ?_
      exact vx_ret (pw_iret F hr hlk hP hA hK hS (by decide) (by decide) d_L_frame_18 ⟨u, v, rfl, hdj, (by rw [hE9]; exact hE.num _), hth.symm, fun z9 => absurd (hth.symm.trans z9) (by decide)⟩)
    · skip
      refine vx_catch (own := R_L) (name := sNSE) (E := sNSE) F.2.2.2.1 [⟨0, 12, 15, 13⟩] ⟨0, 12, 19, 47⟩ [] (by rw [htb]; rfl) (fun z9 hz9 => by rw [List.mem_singleton.mp hz9]; exact Or.inr ⟨by decide, _, F.2.2.2.2 _ C_L_13, hK.2.2.2.2.2.2.1 (sNSE, sIAE) (by decide)⟩) (by decide) (by decide) (F.2.2.2.2 _ C_L_47) (va_tabs rfl rfl (hK.2.2.2.2.2.2.2.1 (sNSE, sNSE) (by decide))) hce hcv hcl ?_
      refine W.eq (g2 := F0 m 19 ls [.ref q9]) (by rfl) ?_
      refine lv_astore F.1 F.2.1 d_L_frame_19 hl (by decide) rfl (fun ls hl => ?_)
      replace hl : lv_has ls 6 [(5, .ref q9), (0, .ref x), (1, .int tk), (2, .int k), (3, .int w), (4, .ref out)] := hl
      refine lv_iconst (v := 2) F.1 F.2.1 d_L_frame_21 (by decide) ?_
      exact vx_ret (pw_iret F hr hlk hP hA hK hS (by decide) (by decide) d_L_frame_22 ⟨u, v, rfl, hdj, (by rw [hE9]; exact hE.num _), hth.symm, fun z9 => absurd (hth.symm.trans z9) (by decide)⟩)
  · have hP : pw D vwCl A (un u (oM (cs 2) out v)) H := hP1.join hP2 hdj
    refine lv_i2l F.1 F.2.1 d_L_frame_10 rfl ?_
    refine W.eq (g2 := F0 m 11 ls [.long r9.toInt64, .int (nI 0), .ref out]) (by rfl) ?_
    refine pw_lastN F hK.1 hP hS 2 (un_r hdj oM_s) rfl (k := 0) (by decide) (by decide) d_L_frame_11 (fun H locs hP hS => ?_)
    rw [oM_pu hdj] at hP
    refine lv_goto (tgt := 23) F.1 F.2.1 d_L_frame_12 (by decide) ?_
    refine lv_iconst (v := 0) F.1 F.2.1 d_L_frame_23 (by decide) ?_
    exact vx_ret (pw_iret F hr hlk hP hA hK hS (by decide) (by decide) d_L_frame_24 ⟨u, _, rfl, oM_djt hdj, (by rw [hq.2.1]; exact hE.num _), hq.1.symm, fun _ => (if_pos rfl).trans (by rw [hq.2.2])⟩)
abbrev rm_L_body : Room := { frames := 7, cells := 1, slots := 6, locals := 112 }
abbrev hh_L_body : List (Nat × Nat × Nat × Nat) := [(0, 10, 13, 13), (0, 10, 17, 47)]
set_option maxHeartbeats 4000000 in
set_option maxRecDepth 100000 in
theorem c_L_body (l : Launch) (D : va_G) (cs : Nat → Nat) (A : Nat → Prop) (h1 : pw_H) (hst : l.stackTraces = false) (x out : Nat) (v : Nat → Int64) (hdj : djt h1 (oM (cs 2) out v)) (S : St) (hE : SimE cs h1 x S) (fn lv : Int32) : pml l y_L_body b_L_body 5 hh_L_body rm_L_body [.ref x, .int fn, .int lv, .ref out] D cs A (un h1 (oM (cs 2) out v)) (va_Qi (fun (r : Int32) (h' : pw_H) => ∃ (u : pw_H) (w9 : Nat → Int64), h' = un u (oM (cs 2) out w9) ∧ djt u (oM (cs 2) out w9) ∧ SimE cs u x (sp S 16 0 (thBody S fn lv)) ∧ r = thBody S fn lv ∧ (thBody S fn lv = 0 → w9 0 = (rBody S fn lv).toInt64)) (ww D cs A) A) 1 6 := by
  refine pml_of R_L rfl (by decide) (Nat.le_of_ble_eq_true rfl) (fun p e s m below meth c ls F hr hlk hnm htb hP hA hK hl => ?_)
  have hS : va_S A s.heap s.heap [] := va_S.rf
  replace hl : lv_has ls 5 [(0, .ref x), (1, .int fn), (2, .int lv), (3, .ref out)] := hl
  have hP1 : pw D vwCl A h1 s.heap := hP.sub (fun q e he => un_l he)
  have hP2 : pw D vwCl A (oM (cs 2) out v) s.heap := hP.sub (fun q e he => un_r hdj he)
  obtain ⟨fs, fx⟩ := hE.at
  refine lv_aload_n F.1 F.2.1 d_L_body_0 rfl (lv_at hl 3 rfl) ?_
  refine lv_iconst (v := 0) F.1 F.2.1 d_L_body_1 (by decide) ?_
  refine lv_aload_n F.1 F.2.1 d_L_body_2 rfl (lv_at hl 0 rfl) ?_
  refine lv_iload_n F.1 F.2.1 d_L_body_3 rfl (lv_at hl 1 rfl) ?_
  refine lv_iload_n F.1 F.2.1 d_L_body_4 rfl (lv_at hl 2 rfl) ?_
  refine p2_cix (px_V F (c_D_body l D cs (sA h1 s.heap) h1 hst x S hE fn lv) X_L_49 rfl rfl ⟨by decide, by decide⟩ hP1 hA hK hS fx rfl rfl rfl hl.1 rfl (Nat.le_of_ble_eq_true rfl) d_L_body_5 ⟨by decide, by decide⟩) hP1 hA hS hP2 hdj (fun E ce q9 u H locs hx hP1 hP2 hdj hS hce hcv hcl => ?_) (fun r9 u H locs hq hP1 hP2 hdj hS => ?_)
  · have hP : pw D vwCl A (un u (oM (cs 2) out v)) H := hP1.join hP2 hdj
    rcases hx with ⟨rfl, hth, hE9⟩ | ⟨rfl, hth, hE9⟩
    · skip
      refine vx_catch (own := R_L) (name := sIAE) (E := sIAE) F.2.2.2.1 [] ⟨0, 10, 13, 13⟩ [⟨0, 10, 17, 47⟩] (by rw [htb]; rfl) (fun z9 hz9 => nomatch hz9) (by decide) (by decide) (F.2.2.2.2 _ C_L_13) (va_tabs rfl rfl (hK.2.2.2.2.2.2.2.1 (sIAE, sIAE) (by decide))) hce hcv hcl ?_
      refine W.eq (g2 := F0 m 13 ls [.ref q9]) (by rfl) ?_
      refine lv_astore F.1 F.2.1 d_L_body_13 hl (by decide) rfl (fun ls hl => ?_)
      replace hl : lv_has ls 5 [(4, .ref q9), (0, .ref x), (1, .int fn), (2, .int lv), (3, .ref out)] := hl
      refine lv_iconst (v := 1) F.1 F.2.1 d_L_body_15 (by decide) ?_
      exact vx_ret (pw_iret F hr hlk hP hA hK hS (by decide) (by decide) d_L_body_16 ⟨u, v, rfl, hdj, (by rw [hE9]; exact hE.num _), hth.symm, fun z9 => absurd (hth.symm.trans z9) (by decide)⟩)
    · skip
      refine vx_catch (own := R_L) (name := sNSE) (E := sNSE) F.2.2.2.1 [⟨0, 10, 13, 13⟩] ⟨0, 10, 17, 47⟩ [] (by rw [htb]; rfl) (fun z9 hz9 => by rw [List.mem_singleton.mp hz9]; exact Or.inr ⟨by decide, _, F.2.2.2.2 _ C_L_13, hK.2.2.2.2.2.2.1 (sNSE, sIAE) (by decide)⟩) (by decide) (by decide) (F.2.2.2.2 _ C_L_47) (va_tabs rfl rfl (hK.2.2.2.2.2.2.2.1 (sNSE, sNSE) (by decide))) hce hcv hcl ?_
      refine W.eq (g2 := F0 m 17 ls [.ref q9]) (by rfl) ?_
      refine lv_astore F.1 F.2.1 d_L_body_17 hl (by decide) rfl (fun ls hl => ?_)
      replace hl : lv_has ls 5 [(4, .ref q9), (0, .ref x), (1, .int fn), (2, .int lv), (3, .ref out)] := hl
      refine lv_iconst (v := 2) F.1 F.2.1 d_L_body_19 (by decide) ?_
      exact vx_ret (pw_iret F hr hlk hP hA hK hS (by decide) (by decide) d_L_body_20 ⟨u, v, rfl, hdj, (by rw [hE9]; exact hE.num _), hth.symm, fun z9 => absurd (hth.symm.trans z9) (by decide)⟩)
  · have hP : pw D vwCl A (un u (oM (cs 2) out v)) H := hP1.join hP2 hdj
    refine lv_i2l F.1 F.2.1 d_L_body_8 rfl ?_
    refine W.eq (g2 := F0 m 9 ls [.long r9.toInt64, .int (nI 0), .ref out]) (by rfl) ?_
    refine pw_lastN F hK.1 hP hS 2 (un_r hdj oM_s) rfl (k := 0) (by decide) (by decide) d_L_body_9 (fun H locs hP hS => ?_)
    rw [oM_pu hdj] at hP
    refine lv_goto (tgt := 21) F.1 F.2.1 d_L_body_10 (by decide) ?_
    refine lv_iconst (v := 0) F.1 F.2.1 d_L_body_21 (by decide) ?_
    exact vx_ret (pw_iret F hr hlk hP hA hK hS (by decide) (by decide) d_L_body_22 ⟨u, _, rfl, oM_djt hdj, (by rw [hq.2.1]; exact hE.num _), hq.1.symm, fun _ => (if_pos rfl).trans (by rw [hq.2.2])⟩)
