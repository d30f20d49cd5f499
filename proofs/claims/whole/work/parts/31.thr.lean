/-! methods that may throw -/
def NMS : List String := ["java/lang/RuntimeException", "java/lang/Exception"]
theorem gw_sub (ws : List Cond) (h : ws.all (fun w => goodWord w && lw_tbl.contains w) = true) : ∀ w ∈ ws, w ∈ gws := by
  intro w hw
  have h1 := List.all_eq_true.mp h w hw
  simp only [Bool.and_eq_true] at h1
  exact List.mem_filter.mpr ⟨List.contains_iff_mem.mp h1.2, h1.1⟩
abbrev xw (ik ic : Nat) (cls : String) : Prop := Cond.classLink R_D ik cls ∈ gws ∧ Cond.initialized cls ∈ gws ∧ (∀ w ∈ (vx_atS R_D ic cls NMS).filter goodWord, w ∈ gws) ∧ (vx_atS R_D ic cls NMS).filter (fun w => !goodWord w) = [Cond.castable cls cls] ∧ (∀ w ∈ Cond.classLink R_D ik cls :: Cond.initialized cls :: vx_atS R_D ic cls NMS, vx_ot w = true) ∧ Bundle.fit cls = true ∧ (cls, cls) ∈ kCa
theorem xw_1 : xw 37 41 "java/lang/IllegalArgumentException" := ⟨C_D_37, gw_sub [_] (by decide +kernel) _ List.mem_cons_self, gw_sub _ (by decide +kernel), by decide +kernel, List.all_eq_true.mp (by decide +kernel), by decide +kernel, by decide⟩
theorem xw_2 : xw 52 56 "java/lang/IllegalStateException" := ⟨C_D_52, gw_sub [_] (by decide +kernel) _ List.mem_cons_self, gw_sub _ (by decide +kernel), by decide +kernel, List.all_eq_true.mp (by decide +kernel), by decide +kernel, by decide⟩
theorem xw_3 : xw 119 123 "java/lang/UnsupportedOperationException" := ⟨C_D_119, gw_sub [_] (by decide +kernel) _ List.mem_cons_self, gw_sub _ (by decide +kernel), by decide +kernel, List.all_eq_true.mp (by decide +kernel), by decide +kernel, by decide⟩
theorem xw_4 : xw 180 184 "java/util/NoSuchElementException" := ⟨C_D_180, gw_sub [_] (by decide +kernel) _ List.mem_cons_self, gw_sub _ (by decide +kernel), by decide +kernel, List.all_eq_true.mp (by decide +kernel), by decide +kernel, by decide⟩
/-- what stands behind a throw: the class's name and the map -/
def xc (D : va_G) (A : Nat → Prop) (px : String → pw_H → Prop) : String → State → State → Prop := vx_X (fun (_ : pw_H) => True) (fun E u t => px E u ∧ pw D vwCl A u t.heap) A
def pmx (l : Launch) (y : MethodName) (cc : ByteArray) (maxL : Nat) (ret : Option FieldType) (rm : Room) (av : List Value) (D : va_G) (cs : Nat → Nat) (A : Nat → Prop) (h : pw_H) (Qc : Array Value → State → Outcome → State → Prop) (px : String → pw_H → Prop) (mc ms : Nat) : Prop :=
  vx_Met l y (Cond.code y cc maxL ret :: gws) rm (va_Pc av (ww D cs A h)) Qc (xc D A px) mc ms A
theorem pmx_of {l : Launch} {y : MethodName} {cc : ByteArray} {maxL : Nat} {ret : Option FieldType} {rm : Room} {av : List Value} {D : va_G} {cs : Nat → Nat} {A : Nat → Prop} {h : pw_H} {Qc : Array Value → State → Outcome → State → Prop} {px : String → pw_H → Prop} {mc ms : Nat} (own : String) (ho : y.cls = own) (hy : plainName y.cls = true) (hn : (lg_sl av).length ≤ maxL)
    (body : ∀ (p : Program) (e : Env) (s : State) (m : MethodId) (below : List Frame) (meth : Method) (c : Code) (ls : Array Slot), CallFix p m c cc maxL s av.toArray gws own → meth.sig.returnType = ret → meth.locks = false → meth.name = y.name → (∀ x ∈ c.exceptionTable.toList, False) → pw D vwCl A h s.heap → (∀ q, s.heap.size ≤ q → A q) → kon D cs A s s.heap → lv_has ls maxL (lv_args 0 av) →
      W p l e rm s m av.toArray below meth c s.heap [] 0 0 (vx_MQ below Qc (xc D A px) av.toArray s mc ms A) (F0 m 0 ls [])) : pmx l y cc maxL ret rm av D cs A h Qc px mc ms := by
  subst ho
  refine vx_ofW (cc := cc) (maxL := maxL) (ret := ret) hy rfl ?_
  intro p e s m args below meth c s₁ B hml ht hv
  obtain ⟨rfl, hP, hA, hK⟩ := hv
  have hts := atoms_spec (ws := Cond.code y cc maxL ret :: gws) B.pre
  rw [lg_entry_eq]
  exact body p e s m below meth c _ ⟨B.exec, B.bytes, hml, findClass_of_methodNamed B.named, fun w hw => hts w (List.mem_cons_of_mem _ hw)⟩ B.returns B.notSynchronized (name_of_methodNamed B.named B.method).1 ht hP hA hK (lv_entry av hn)
section PWX
variable {p : Program} {l : Launch} {e : Env} {R : Room} {s : State} {m : MethodId} {args : Array Value} {below : List Frame} {meth : Method} {c : Code} {H : Heap} {locs : List Loc} {cells slots : Nat}
variable {cc : ByteArray} {pc : Nat} {ls : Array Slot} {rest : List Value} {D : va_G} {cs : Nat → Nat} {A : Nat → Prop} {h : pw_H} {nL : Nat} {mc ms : Nat} {Qc : Array Value → State → Outcome → State → Prop} {px : String → pw_H → Prop} {lo : List (Nat × Value)}
theorem pw_throw {ik is ic : Nat} {cls text : String} (hst : l.stackTraces = false) (X : xw ik ic cls) (hstr : (is, text) ∈ kStr) (F : CallFix p m c cc nL s args gws R_D) (hlk : meth.locks = false) (htb : ∀ x ∈ c.exceptionTable.toList, False) (hP : pw D vwCl A h H) (hK : kon D cs A s s.heap) (hS : va_S A s.heap H locs) (hl : lv_has ls nL lo)
    (d0 : decode cc pc = .ok (.new ik, 3)) (d3 : decode cc (pc + 3) = .ok (.dup, 1)) (d4 : decode cc (pc + 4) = .ok (.ldc is, 2)) (d6 : decode cc (pc + 6) = .ok (.invokespecial ic, 3)) (d9 : decode cc (pc + 9) = .ok (.athrow, 1))
    (hRf : 5 < R.frames) (hRl : (rest.map fun v => v.category).sum + 82 ≤ R.locals) (hRc : cells + 1 ≤ R.cells) (hRs : slots + 6 ≤ R.slots) (hc : cells + 1 ≤ mc) (hs : slots + 6 ≤ ms) (hq : px cls h) :
    W p l e R s m args below meth c H locs cells slots (vx_MQ below Qc (xc D A px) args s mc ms A) (F0 m pc ls rest) := by
  obtain ⟨x1, x2, x3, x4, x5, x6, x7⟩ := X
  obtain ⟨sa, hsa⟩ := hK.2.2.2.2.2.1 _ hstr
  have hcast : (Cond.castable cls cls).before args s = true := va_tabs rfl rfl (hK.2.2.2.2.2.2.2.1 _ x7)
  refine vx_throwS (names := NMS) F.1 F.2.1 hst F.2.2.2.1 x6 (by decide +kernel) (F.2.2.2.2 _ x1) (F.2.2.2.2 _ x2) hsa (vx_hat (B := [Cond.castable cls cls]) (fun w hw => F.2.2.2.2 _ (x3 w hw)) (fun w hw => by rw [x4] at hw; exact hw) (vx_c hcast vx_n)) x5 hK.2.2.2.1 hK.2.2.2.2.1 hS (hl.1.trans F.2.2.1.symm) d0 d3 d4 d6 d9 (fun x hx => (htb x hx).elim) hRf hRl hRc hRs hlk (fun t _ hsz hsame => ?_) hS.2.2 hc hs
  refine ⟨h, trivial, ⟨hq, hP.kept (fun a e he => hsame a (hP.lt he))⟩, Nat.le_trans hS.1 hsz, fun q hq1 hq2 => ?_⟩
  rw [hsame q (Nat.lt_of_lt_of_le hq1 hS.1)]
  exact hS.2.1 q hq1 hq2
end PWX
