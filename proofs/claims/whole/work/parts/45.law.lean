/-! the law: its rows, three worlds side by side (the class's h1, the law's one long, the reference's h3) -/
abbrev cwdL (index : Nat) (y : MethodName) (bytes : ByteArray) (maxL : Nat) (hh : List (Nat × Nat × Nat × Nat)) (n : Nat) : Prop := (Cond.methodLink R_L index y ∈ gws ∧ Cond.static y ∈ gws ∧ Cond.initialized y.cls ∈ gws ∧ Cond.codeWith y bytes maxL (some .int) hh ∈ gws) ∧ y.cls ≠ "java/lang/invoke/MethodHandle" ∧ y.cls ≠ "java/lang/invoke/VarHandle" ∧ (parseMethodDescriptor y.desc).map (fun d => d.parameters.length) = some n
section LAW
variable {p : Program} {l : Launch} {e : Env} {R : Room} {s : State} {m : MethodId} {args : Array Value} {below : List Frame} {meth : Method} {c : Code} {H : Heap} {locs : List Loc} {cells slots : Nat} {Q : State → Prop}
variable {cc : ByteArray} {pc : Nat} {ls : Array Slot} {rest : List Value} {D : va_G} {cs : Nat → Nat} {A : Nat → Prop} {h h1 h2 h3 u : pw_H} {nL : Nat}
variable {mc ms : Nat} {y : MethodName} {bytes : ByteArray} {maxL : Nat} {rm : Room} {As st0 : List Value} {index n : Nat} {Qc : Array Value → State → Outcome → State → Prop} {hh : List (Nat × Nat × Nat × Nat)}
theorem pl_S (F : CallFix p m c cc nL s args gws R_L) (hM : pml l y bytes maxL hh rm As D cs (sA h H) h Qc mc ms) (X : cwdL index y bytes maxL hh n) (hrc : rm.cells = mc) (hrs : rm.slots = ms) (hR : rm.frames + 1 ≤ R.frames ∧ 8 + (maxL + 11) + rm.locals ≤ R.locals)
    (hP : pw D vwCl A h H) (hA : ∀ q, s.heap.size ≤ q → A q) (hK : kon D cs A s s.heap) (hS : va_S A s.heap H locs)
    (hn : As.length = n) (hsize : ls.size = nL) (hstack : st0 = As.reverse ++ rest) (hW : (rest.map fun v => v.category).sum ≤ 8) (hdg : decode cc pc = .ok (.invokestatic index, 3)) (hf : cells + mc ≤ R.cells ∧ slots + ms ≤ R.slots) :
    vx_Run p l e R s m args below meth c H locs cells slots mc ms (F0 m pc ls st0) rest (Qc As.toArray) (vx_X (fun (_ : pw_H) => False) (fun _ _ _ => True) (sA h H)) (sA h H) := by
  obtain ⟨⟨x1, x2, x3, x4⟩, x6⟩ := X
  refine vx_runSX F hM (vx_cwSW n F.2.2.2.2 (fun w hw => ?_) rfl hrc hrs x6 hR) ⟨ww_blind, ww_sub hP hA hK hS⟩ rfl hn hsize hstack (lv_room hW) hdg hf
  unfold va_wsS at hw
  rcases List.mem_append.mp hw with hw | hw
  · simp only [List.mem_cons, List.not_mem_nil, or_false] at hw
    rcases hw with rfl | rfl | rfl
    · exact gw_good _ x1
    · exact gw_good _ x2
    · exact gw_good _ x3
  · exact gw_cons x4 w hw
theorem pl_ci {post : Int32 → pw_H → Prop} {a0 : Array Value} (hr : vx_Run p l e R s m args below meth c H locs cells slots mc ms (F0 m pc ls st0) rest (va_Qi post (ww D cs (sA h H)) (sA h H) a0) (vx_X (fun (_ : pw_H) => False) (fun _ _ _ => True) (sA h H)) (sA h H)) (hP : pw D vwCl A h H) (hA : ∀ q, s.heap.size ≤ q → A q) (hS : va_S A s.heap H locs) (hP2 : pw D vwCl A h2 H) (d : djt h h2)
    (kk : ∀ (r : Int32) (u : pw_H) (H1 : Heap) (locs1 : List Loc), post r u → pw D vwCl A u H1 → pw D vwCl A h2 H1 → djt u h2 → va_S A s.heap H1 locs1 → W p l e R s m args below meth c H1 locs1 (cells + mc) (slots + ms) Q (F0 m (pc + 3) ls (.int r :: rest))) : W p l e R s m args below meth c H locs cells slots Q (F0 m pc ls st0) :=
  vx_calli hr hS (fun q _ z => sA_sub hP hA hS q z) (sA_sub hP hA hS) (fun q _ z => sA_sub hP hA hS q z)
    (fun E ce q9 u t H1 locs1 ht _ hz _ _ _ _ _ _ _ => hz.elim)
    (fun r u t H1 locs1 ht _ hp hB _ hk hS1 => by
      have hu : pw D vwCl (sA h H) u H1 := by rw [← ht]; exact hB.1
      exact kk r u H1 locs1 hp (hu.into (fun q e he => sA_sub hP hA hS q (hu.inA he))) (keep_sub hP2 d hk) (keep_djt hP2 d hu) hS1)
end LAW
/-- what stands between two of the law's rounds -/
abbrev LI (D : va_G) (cs : Nat → Nat) (A : Nat → Prop) (s : State) (x o out : Nat) (ad : Nat → Nat) (H : Heap) (locs : List Loc) (h1 : pw_H) (v : Nat → Int64) (h3 : pw_H) (S : St) : Prop :=
  pw D vwCl A h1 H ∧ pw D vwCl A (oM (cs 2) out v) H ∧ pw D vwCl A h3 H ∧ djt h1 (oM (cs 2) out v) ∧ djt h1 h3 ∧ djt (oM (cs 2) out v) h3 ∧ SimE cs h1 x S ∧ RM cs h3 o ad S ∧ va_S A s.heap H locs
section LAWB
variable {p : Program} {l : Launch} {e : Env} {s : State} {m : MethodId} {below : List Frame} {meth : Method} {c : Code} {H : Heap} {locs : List Loc} {cells slots : Nat} {Q : State → Prop}
variable {pc : Nat} {ls : Array Slot} {rest : List Value} {D : va_G} {cs : Nat → Nat} {A : Nat → Prop} {b L : Nat} {xs : Nat → Int32} {x o out i : Nat} {ad : Nat → Nat} {h1 h3 : pw_H} {v : Nat → Int64} {S : St}
abbrev lLo (b x o out i : Nat) : List (Nat × Value) := [(4, .int (nI i)), (3, .ref out), (2, .ref o), (1, .ref x), (0, .ref b)]
/-- one int of the script -/
theorem L_arg {lo : List (Nat × Value)} {d : Nat} {z : Int} (k0 k4 : Nat) (F : CallFix p m c code 7 s #[Value.ref b] gws R_L) (hX : va_X b L xs s s.heap) (hbl : b < s.heap.size) (hbA : ¬ A b) (hL : L ≤ 2560) (hS : va_S A s.heap H locs) (hl : lv_has ls 7 lo) (h0 : lo[k0]? = some (0, .ref b)) (h4 : lo[k4]? = some (4, .int (nI i))) (hi : i + d < L) (hz : Int32.ofInt z = nI d)
    (d0 : decode code pc = .ok (.aload_n 0, 1)) (d1 : decode code (pc + 1) = .ok (.iload 4, 2)) (d3 : decode code (pc + 3) = .ok (.iconst z, 1)) (d4 : decode code (pc + 4) = .ok (.iadd, 1)) (d5 : decode code (pc + 5) = .ok (.iaload, 1))
    (kk : W p l e room_1 s m #[Value.ref b] below meth c H locs cells slots Q (F0 m (pc + 6) ls (.int (xs (i + d)) :: rest))) : W p l e room_1 s m #[Value.ref b] below meth c H locs cells slots Q (F0 m pc ls rest) := by
  refine lv_aload_n F.1 F.2.1 d0 rfl (lv_at hl k0 h0) ?_
  refine lv_iload F.1 F.2.1 d1 (lv_at hl k4 h4) ?_
  refine lv_iconst (v := nI d) F.1 F.2.1 d3 hz ?_
  refine lv_iadd F.1 F.2.1 d4 ?_
  refine W.eq (g2 := F0 m (pc + 5) ls (.int (nI (i + d)) :: .ref b :: rest)) (by rw [nI_add]) ?_
  refine va_sld F.1 F.2.1 hX hbl hbA hS (vp_in_nI hi (by omega)) d5 ?_
  rw [nI_clamp (by omega)]
  exact kk
/-- behind both calls: what was thrown, and the answers -/
theorem L_tail {S1 : St} {th rr : Int32} {off : Int} (F : CallFix p m c code 7 s #[Value.ref b] gws R_L) (hA : ∀ q, s.heap.size ≤ q → A q) (hK : kon D cs A s s.heap) (hI : LI D cs A s x o out ad H locs h1 v h3 S1) (hl : lv_has ls 7 ((6, .int rr) :: (5, .int th) :: lLo b x o out i)) (hth : S1 16 0 = th) (hv : th = 0 → v 0 = rr.toInt64) (hf : cells ≤ room_1.cells ∧ slots ≤ room_1.slots)
    (d0 : decode code pc = .ok (.aload_n 2, 1)) (d1 : decode code (pc + 1) = .ok (.invokevirtual 62, 3)) (d4 : decode code (pc + 4) = .ok (.iload 5, 2)) (d6 : decode code (pc + 6) = .ok (.if_icmp .eq 5, 3)) (d11 : decode code (pc + 11) = .ok (.iload 5, 2)) (d13 : decode code (pc + 13) = .ok (.ifCond .ne 15, 3)) (d16 : decode code (pc + 16) = .ok (.aload_n 3, 1)) (d17 : decode code (pc + 17) = .ok (.iconst 0, 1)) (d18 : decode code (pc + 18) = .ok (.laload, 1)) (d19 : decode code (pc + 19) = .ok (.iload 6, 2)) (d21 : decode code (pc + 21) = .ok (.i2l, 1)) (d22 : decode code (pc + 22) = .ok (.lcmp, 1)) (d23 : decode code (pc + 23) = .ok (.ifCond .eq 5, 3)) (d28 : decode code (pc + 28) = .ok (.goto off, 3)) (ht : ((pc + 28 : Nat) : Int) + off = ((786 : Nat) : Int))
    (kk : ∀ (H : Heap) (locs : List Loc), LI D cs A s x o out ad H locs h1 v h3 S1 → W p l e room_1 s m #[Value.ref b] below meth c H locs cells slots Q (F0 m 786 ls [])) : W p l e room_1 s m #[Value.ref b] below meth c H locs cells slots Q (F0 m pc ls []) := by
  obtain ⟨hP1, hPo, hP3, e1, e2, e3, hE, hR, hS⟩ := hI
  refine lv_aload_n F.1 F.2.1 d0 rfl (lv_at hl 4 rfl) ?_
  refine p3_ci (p3_V F (c_M_thrown l D cs (sA h3 H) h3 o ad S1 hR) X_L_62 rfl rfl ⟨by decide, by decide⟩ hP3 hA hK hS hR.1 rfl rfl rfl hl.1 rfl (Nat.le_of_ble_eq_true rfl) d1 hf) hP3 hA hS hP1 e2.symm hPo e3.symm (fun r u H locs hq hP3 hP1 f1 hPo f2 hS => ?_)
  obtain ⟨hq1, hq2⟩ := hq
  rw [hq1] at hP3
  clear f1 f2
  refine lv_iload F.1 F.2.1 d4 (lv_at hl 1 rfl) ?_
  refine lv_icmp_eq (tgt := pc + 11) F.1 F.2.1 d6 (by omega) (fun _ => ?_) (fun z9 => absurd (hq2.trans hth) z9)
  have hI : LI D cs A s x o out ad H locs h1 v h3 S1 := ⟨hP1, hPo, hP3, e1, e2, e3, hE, hR, hS⟩
  have ke : W p l e room_1 s m #[Value.ref b] below meth c H locs cells slots Q (F0 m (pc + 28) ls []) := lv_goto (tgt := 786) F.1 F.2.1 d28 ht (kk H locs hI)
  refine lv_iload F.1 F.2.1 d11 (lv_at hl 1 rfl) ?_
  refine lv_if_ne (tgt := pc + 28) F.1 F.2.1 d13 (by omega) (fun _ => ke) (fun h0 => ?_)
  refine lv_aload_n F.1 F.2.1 d16 rfl (lv_at hl 3 rfl) ?_
  refine lv_iconst (v := nI 0) F.1 F.2.1 d17 (by decide) ?_
  refine pw_laldN F hK.1 hPo 2 oM_s rfl (k := 0) (by decide) (by decide) d18 ?_
  refine lv_iload F.1 F.2.1 d19 (lv_at hl 0 rfl) ?_
  refine lv_i2l F.1 F.2.1 d21 rfl ?_
  refine W.lcmp F.1 F.2.1 d22 ?_
  refine lv_if_eq (tgt := pc + 28) F.1 F.2.1 d23 (by omega) (fun _ => ke) (fun z9 => absurd ?_ z9)
  rw [hv h0]
  simp [lg_cmp]
end LAWB
