/-! calls from a place where more than one world stands: the callee sees its own alone -/
def sA (h : pw_H) (H : Heap) : Nat → Prop := fun q => (∃ e, h q = some e) ∨ H.size ≤ q
def djt (h1 h2 : pw_H) : Prop := ∀ (q : Nat) (e : va_E), h1 q = some e → h2 q = none
theorem djt.symm {h1 h2 : pw_H} (d : djt h1 h2) : djt h2 h1 := fun q e he => by
  cases h9 : h1 q with
  | none => rfl
  | some e1 => rw [d q e1 h9] at he; cases he
section PW2
variable {p : Program} {l : Launch} {e : Env} {R : Room} {s : State} {m : MethodId} {args : Array Value} {below : List Frame} {meth : Method} {c : Code} {H : Heap} {locs : List Loc} {cells slots : Nat} {Q : State → Prop}
variable {cc : ByteArray} {pc : Nat} {ls : Array Slot} {rest : List Value} {D : va_G} {cs : Nat → Nat} {A : Nat → Prop} {a : Nat} {h h1 h2 u : pw_H} {nL : Nat} {own : String}
variable {mc ms : Nat} {y : MethodName} {bytes : ByteArray} {maxL : Nat} {ret : Option FieldType} {rm : Room} {As st0 : List Value} {b index n : Nat} {Qc : Array Value → State → Outcome → State → Prop} {av : List Value} {px : String → pw_H → Prop}
theorem sA_sub (hP : pw D vwCl A h H) (hA : ∀ q, s.heap.size ≤ q → A q) (hS : va_S A s.heap H locs) : ∀ q, sA h H q → A q := fun q hq => hq.elim (fun z => z.elim (fun e he => hP.inA he)) (fun z => hA q (Nat.le_trans hS.1 z))
theorem ww_sub (hP : pw D vwCl A h H) (hA : ∀ q, s.heap.size ≤ q → A q) (hK : kon D cs A s s.heap) (hS : va_S A s.heap H locs) (U : State) (hU : U.heap = H) (hW : s.WarmedH U.vm) : va_Pc av (ww D cs (sA h H) h) av.toArray U :=
  ⟨rfl, by rw [hU]; exact hP.into (fun q e he => Or.inl ⟨e, he⟩), fun q hq => Or.inr (by rw [← hU]; exact hq), (kon.go hK hS hU hW).narrow (sA_sub hP hA hS)⟩
theorem keep_sub {H1 : Heap} (hP2 : pw D vwCl A h2 H) (d : djt h h2) (hk : ∀ q : Nat, q < H.size → ¬ sA h H q → H1[q]? = H[q]?) : pw D vwCl A h2 H1 :=
  hP2.kept (fun q e he => hk q (hP2.lt he) (fun z => z.elim (fun y => y.elim (fun e1 h9 => by rw [d q e1 h9] at he; cases he)) (fun y => absurd (hP2.lt he) (Nat.not_lt.mpr y))))
theorem keep_djt {H1 : Heap} (hP2 : pw D vwCl A h2 H) (d : djt h h2) (hu : pw D vwCl (sA h H) u H1) : djt u h2 := fun q e he => by
  rcases hu.inA he with ⟨e1, h9⟩ | h9
  · exact d q e1 h9
  · cases h8 : h2 q with
    | none => rfl
    | some e2 => exact absurd (hP2.lt h8) (Nat.not_lt.mpr h9)
theorem px_V (F : CallFix p m c cc nL s args gws own) (hM : pmx l y bytes maxL ret rm (.ref b :: As) D cs (sA h H) h Qc px mc ms) (X : cwdV own index y bytes maxL ret n) (hrc : rm.cells = mc) (hrs : rm.slots = ms) (hR : rm.frames + 1 ≤ R.frames ∧ 8 + (maxL + 11) + rm.locals ≤ R.locals)
    (hP : pw D vwCl A h H) (hA : ∀ q, s.heap.size ≤ q → A q) (hK : kon D cs A s s.heap) (hS : va_S A s.heap H locs) {ci : Nat} {fs : List Value} {q : vw_C} (f : h b = some (.inr (ci, fs))) (hc : vwCl[ci]? = some q) (hq : q.1 = y.cls)
    (hn : As.length = n) (hsize : ls.size = nL) (hstack : st0 = As.reverse ++ .ref b :: rest) (hW : (rest.map fun v => v.category).sum ≤ 8) (hdg : decode cc pc = .ok (.invokevirtual index, 3)) (hf : cells + mc ≤ R.cells ∧ slots + ms ≤ R.slots) :
    vx_Run p l e R s m args below meth c H locs cells slots mc ms (F0 m pc ls st0) rest (Qc (Value.ref b :: As).toArray) (xc D (sA h H) px) (sA h H) := by
  obtain ⟨⟨x1, x2, x3, x4, x5⟩, x6⟩ := X
  refine vx_runV (C := y.cls) F hM (cwV n F.2.2.2.2 (fun w hw => ?_) rfl hrc hrs ⟨rfl, x6⟩ hR) ⟨ww_blind, ?_, ww_sub hP hA hK hS⟩ rfl hn hsize hstack (lv_room hW) hdg hf
  · unfold wsV at hw
    rcases List.mem_append.mp hw with hw | hw
    · simp only [List.mem_cons, List.not_mem_nil, or_false] at hw
      rcases hw with rfl | rfl | rfl | rfl
      · exact gw_good _ x1
      · exact gw_good _ x2
      · exact gw_good _ x3
      · exact gw_good _ x4
    · exact gw_cons x5 w hw
  · rw [← hq]; exact pw_recv hK.1 hP f hc
/-- a call that may throw, beside another world -/
theorem p2_cix {post : Int32 → pw_H → Prop} {a0 : Array Value} (hr : vx_Run p l e R s m args below meth c H locs cells slots mc ms (F0 m pc ls st0) rest (va_Qi post (ww D cs (sA h H)) (sA h H) a0) (xc D (sA h H) px) (sA h H)) (hP : pw D vwCl A h H) (hA : ∀ q, s.heap.size ≤ q → A q) (hS : va_S A s.heap H locs) (hP2 : pw D vwCl A h2 H) (d : djt h h2)
    (kx : ∀ (E : String) (ce : Cell) (q9 : Addr) (u : pw_H) (H1 : Heap) (locs1 : List Loc), px E u → pw D vwCl A u H1 → pw D vwCl A h2 H1 → djt u h2 → va_S A s.heap H1 locs1 → H1[q9]? = some ce → ce.vm = .none → s.vm.findClass E = some ce.cls → vx_W p l e R s m args below meth c H1 locs1 (cells + mc) (slots + ms) Q (F0 m pc ls rest) q9)
    (kk : ∀ (r : Int32) (u : pw_H) (H1 : Heap) (locs1 : List Loc), post r u → pw D vwCl A u H1 → pw D vwCl A h2 H1 → djt u h2 → va_S A s.heap H1 locs1 → W p l e R s m args below meth c H1 locs1 (cells + mc) (slots + ms) Q (F0 m (pc + 3) ls (.int r :: rest))) : W p l e R s m args below meth c H locs cells slots Q (F0 m pc ls st0) :=
  vx_calli hr hS (fun q _ z => sA_sub hP hA hS q z) (sA_sub hP hA hS) (fun q _ z => sA_sub hP hA hS q z)
    (fun E ce q9 u t H1 locs1 ht _ _ hB _ hk hS1 hc hv hcl => by
      have hu : pw D vwCl (sA h H) u H1 := by rw [← ht]; exact hB.2
      exact kx E ce q9 u H1 locs1 hB.1 (hu.into (fun q e he => sA_sub hP hA hS q (hu.inA he))) (keep_sub hP2 d hk) (keep_djt hP2 d hu) hS1 hc hv hcl)
    (fun r u t H1 locs1 ht _ hp hB _ hk hS1 => by
      have hu : pw D vwCl (sA h H) u H1 := by rw [← ht]; exact hB.1
      exact kk r u H1 locs1 hp (hu.into (fun q e he => sA_sub hP hA hS q (hu.inA he))) (keep_sub hP2 d hk) (keep_djt hP2 d hu) hS1)
/-- a call, beside two other worlds -/
theorem p3_V (F : CallFix p m c cc nL s args gws own) (hM : pm l y bytes maxL ret rm (.ref b :: As) D cs (sA h H) h Qc mc ms) (X : cwdV own index y bytes maxL ret n) (hrc : rm.cells = mc) (hrs : rm.slots = ms) (hR : rm.frames + 1 ≤ R.frames ∧ 8 + (maxL + 11) + rm.locals ≤ R.locals)
    (hP : pw D vwCl A h H) (hA : ∀ q, s.heap.size ≤ q → A q) (hK : kon D cs A s s.heap) (hS : va_S A s.heap H locs) {ci : Nat} {fs : List Value} {q : vw_C} (f : h b = some (.inr (ci, fs))) (hc : vwCl[ci]? = some q) (hq : q.1 = y.cls)
    (hn : As.length = n) (hsize : ls.size = nL) (hstack : st0 = As.reverse ++ .ref b :: rest) (hW : (rest.map fun v => v.category).sum ≤ 8) (hdg : decode cc pc = .ok (.invokevirtual index, 3)) (hf : cells + mc ≤ R.cells ∧ slots + ms ≤ R.slots) :
    va_Run p l e R s m args below meth c H locs cells slots mc ms (F0 m pc ls st0) rest (Qc (Value.ref b :: As).toArray) (sA h H) := by
  obtain ⟨⟨x1, x2, x3, x4, x5⟩, x6⟩ := X
  refine va_runV (C := y.cls) F hM (cwV n F.2.2.2.2 (fun w hw => ?_) rfl hrc hrs ⟨rfl, x6⟩ hR) ⟨ww_blind, ?_, ww_sub hP hA hK hS⟩ rfl hn hsize hstack (lv_room hW) hdg hf
  · unfold wsV at hw
    rcases List.mem_append.mp hw with hw | hw
    · simp only [List.mem_cons, List.not_mem_nil, or_false] at hw
      rcases hw with rfl | rfl | rfl | rfl
      · exact gw_good _ x1
      · exact gw_good _ x2
      · exact gw_good _ x3
      · exact gw_good _ x4
    · exact gw_cons x5 w hw
  · rw [← hq]; exact pw_recv hK.1 hP f hc
theorem p3_I (F : CallFix p m c cc nL s args gws own) (hM : pm l y bytes maxL none rm (.ref b :: As) D cs (sA h H) h Qc mc ms) (X : cwdI own index y bytes maxL n) (hrc : rm.cells = mc) (hrs : rm.slots = ms) (hR : rm.frames + 1 ≤ R.frames ∧ 8 + (maxL + 11) + rm.locals ≤ R.locals)
    (hP : pw D vwCl A h H) (hA : ∀ q, s.heap.size ≤ q → A q) (hK : kon D cs A s s.heap) (hS : va_S A s.heap H locs)
    (hn : As.length = n) (hsize : ls.size = nL) (hstack : st0 = As.reverse ++ .ref b :: rest) (hW : (rest.map fun v => v.category).sum ≤ 8) (hdg : decode cc pc = .ok (.invokespecial index, 3)) (hf : cells + mc ≤ R.cells ∧ slots + ms ≤ R.slots) :
    va_Run p l e R s m args below meth c H locs cells slots mc ms (F0 m pc ls st0) rest (Qc (Value.ref b :: As).toArray) (sA h H) := by
  obtain ⟨⟨x1, x2, x3, x4⟩, x6, x7⟩ := X
  exact va_runI F hM (cwI n F.2.2.2.2 (gw_cons x4) rfl hrc hrs (F.2.2.2.2 _ x3) (F.2.2.2.2 _ x1) (F.2.2.2.2 _ x2) x7 x6 hR) ⟨ww_blind, ww_sub hP hA hK hS⟩ rfl hn hsize hstack (lv_room hW) hdg hf
theorem p3_ci {post : Int32 → pw_H → Prop} {a0 : Array Value} (hr : va_Run p l e R s m args below meth c H locs cells slots mc ms (F0 m pc ls st0) rest (va_Qi post (ww D cs (sA h H)) (sA h H) a0) (sA h H)) (hP : pw D vwCl A h H) (hA : ∀ q, s.heap.size ≤ q → A q) (hS : va_S A s.heap H locs) (hP1 : pw D vwCl A h1 H) (d1 : djt h h1) (hP2 : pw D vwCl A h2 H) (d2 : djt h h2)
    (kk : ∀ (r : Int32) (u : pw_H) (H1 : Heap) (locs1 : List Loc), post r u → pw D vwCl A u H1 → pw D vwCl A h1 H1 → djt u h1 → pw D vwCl A h2 H1 → djt u h2 → va_S A s.heap H1 locs1 → W p l e R s m args below meth c H1 locs1 (cells + mc) (slots + ms) Q (F0 m (pc + 3) ls (.int r :: rest))) : W p l e R s m args below meth c H locs cells slots Q (F0 m pc ls st0) :=
  va_calli hr hS (fun q _ z => sA_sub hP hA hS q z) (sA_sub hP hA hS) (fun r u t H1 locs1 ht _ hp hB _ hk hS1 => by
    have hu : pw D vwCl (sA h H) u H1 := by rw [← ht]; exact hB.1
    exact kk r u H1 locs1 hp (hu.into (fun q e he => sA_sub hP hA hS q (hu.inA he))) (keep_sub hP1 d1 hk) (keep_djt hP1 d1 hu) (keep_sub hP2 d2 hk) (keep_djt hP2 d2 hu) hS1)
theorem p3_cv {post : pw_H → Prop} {a0 : Array Value} (hr : va_Run p l e R s m args below meth c H locs cells slots mc ms (F0 m pc ls st0) rest (va_Qv post (ww D cs (sA h H)) (sA h H) a0) (sA h H)) (hP : pw D vwCl A h H) (hA : ∀ q, s.heap.size ≤ q → A q) (hS : va_S A s.heap H locs) (hP1 : pw D vwCl A h1 H) (d1 : djt h h1) (hP2 : pw D vwCl A h2 H) (d2 : djt h h2)
    (kk : ∀ (u : pw_H) (H1 : Heap) (locs1 : List Loc), post u → pw D vwCl A u H1 → pw D vwCl A h1 H1 → djt u h1 → pw D vwCl A h2 H1 → djt u h2 → va_S A s.heap H1 locs1 → W p l e R s m args below meth c H1 locs1 (cells + mc) (slots + ms) Q (F0 m (pc + 3) ls rest)) : W p l e R s m args below meth c H locs cells slots Q (F0 m pc ls st0) :=
  va_callv hr hS (fun q _ z => sA_sub hP hA hS q z) (sA_sub hP hA hS) (fun u t H1 locs1 ht _ hp hB _ hk hS1 => by
    have hu : pw D vwCl (sA h H) u H1 := by rw [← ht]; exact hB.1
    exact kk u H1 locs1 hp (hu.into (fun q e he => sA_sub hP hA hS q (hu.inA he))) (keep_sub hP1 d1 hk) (keep_djt hP1 d1 hu) (keep_sub hP2 d2 hk) (keep_djt hP2 d2 hu) hS1)
end PW2
