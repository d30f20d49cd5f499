/-! the law's loop -/
set_option maxHeartbeats 4000000 in
set_option maxRecDepth 100000 in
theorem L_loop {p : Program} {l : Launch} {e : Env} {s : State} {m : MethodId} {below : List Frame} {meth : Method} {c : Code} {Q : State → Prop} {D : va_G} {cs : Nat → Nat} {A : Nat → Prop} {b L : Nat} {xs : Nat → Int32} {x o out : Nat} {ad : Nat → Nat} (hst : l.stackTraces = false) (F : CallFix p m c code 7 s #[Value.ref b] gws R_L) (hX : va_X b L xs s s.heap) (hbl : b < s.heap.size) (hbA : ¬ A b) (hL : L ≤ 2560) (hA : ∀ q, s.heap.size ≤ q → A q) (hK : kon D cs A s s.heap)
    (fin : ∀ (H : Heap) (locs : List Loc) (ls : Array Slot) (cells slots : Nat), va_S A s.heap H locs → cells ≤ room_1.cells → slots ≤ room_1.slots → W p l e room_1 s m #[Value.ref b] below meth c H locs cells slots Q (F0 m 792 ls [])) (n : Nat) :
    ∀ (i : Nat) (H : Heap) (locs : List Loc) (ls : Array Slot) (cells slots : Nat) (h1 : pw_H) (v : Nat → Int64) (h3 : pw_H) (S : St), L < i + 5 * n + 5 → i ≤ 2560 → cells + 9 * n ≤ room_1.cells → slots + 53 * n ≤ room_1.slots → LI D cs A s x o out ad H locs h1 v h3 S → lv_has ls 7 (lLo b x o out i) → W p l e room_1 s m #[Value.ref b] below meth c H locs cells slots Q (F0 m 23 ls []) := by
  have hcmp : ∀ i : Nat, i ≤ 2560 → L < i + 5 → Int32.ofNat L - nI 5 < nI i := fun i hi hlt => by
    rw [Int32.lt_iff_toInt_lt, show Int32.ofNat L = nI L from rfl, pk_sub_toInt (by omega) (by decide), nI_toInt (by omega)]
    omega
  induction n with
  | zero =>
    intro i H locs ls cells slots h1 v h3 S hn hi2 hc hs hI hl
    have hS := hI.2.2.2.2.2.2.2.2
    refine lv_iload F.1 F.2.1 d_law_23 (lv_at hl 0 rfl) ?_
    refine lv_aload_n F.1 F.2.1 d_law_25 rfl (lv_at hl 4 rfl) ?_
    refine va_slen F.1 F.2.1 hX hbl hbA hS d_law_26 ?_
    refine lv_iconst (v := nI 5) F.1 F.2.1 d_law_27 (by decide) ?_
    refine lv_isub F.1 F.2.1 d_law_28 ?_
    exact lv_icmp_gt (tgt := 792) F.1 F.2.1 d_law_29 (by decide) (fun _ => fin H locs ls cells slots hS (by omega) (by omega)) (fun c0 => absurd (hcmp i hi2 (by omega)) c0)
  | succ n ih =>
    intro i H locs ls cells slots h1 v h3 S hn hi2 hc hs hI hl
    have hS := hI.2.2.2.2.2.2.2.2
    refine lv_iload F.1 F.2.1 d_law_23 (lv_at hl 0 rfl) ?_
    refine lv_aload_n F.1 F.2.1 d_law_25 rfl (lv_at hl 4 rfl) ?_
    refine va_slen F.1 F.2.1 hX hbl hbA hS d_law_26 ?_
    refine lv_iconst (v := nI 5) F.1 F.2.1 d_law_27 (by decide) ?_
    refine lv_isub F.1 F.2.1 d_law_28 ?_
    refine lv_icmp_gt (tgt := 792) F.1 F.2.1 d_law_29 (by decide) (fun _ => fin H locs ls cells slots hS (by omega) (by omega)) (fun c0 => ?_)
    have hi5 : i + 5 ≤ L := Nat.not_lt.mp (fun z => c0 (hcmp i hi2 z))
    have hf : cells + 9 ≤ room_1.cells ∧ slots + 53 ≤ room_1.slots := ⟨by omega, by omega⟩
    have kk : ∀ (H : Heap) (locs : List Loc) (ls : Array Slot) (h1 : pw_H) (v : Nat → Int64) (h3 : pw_H) (S : St), LI D cs A s x o out ad H locs h1 v h3 S → lv_has ls 7 (lLo b x o out i) → W p l e room_1 s m #[Value.ref b] below meth c H locs (cells + 9) (slots + 53) Q (F0 m 786 ls []) := fun H locs ls h1 v h3 S hI hl => by
      refine lv_iinc (k := 0) (v := nI (i + 5)) F.1 F.2.1 d_law_786 hl rfl (by rw [show Int32.ofInt 5 = nI 5 from by decide, nI_add]) (by decide) rfl (fun ls hl => ?_)
      refine lv_goto (tgt := 23) F.1 F.2.1 d_law_789 (by decide) ?_
      exact ih (i + 5) H locs ls (cells + 9) (slots + 53) h1 v h3 S (by omega) (by omega) (by omega) (by omega) hI hl
    refine lv_aload_n F.1 F.2.1 d_law_32 rfl (lv_at hl 4 rfl) ?_
    refine lv_iload F.1 F.2.1 d_law_33 (lv_at hl 0 rfl) ?_
    refine va_sld F.1 F.2.1 hX hbl hbA hS (vp_in_nI (show i < L by omega) (by omega)) d_law_35 ?_
    refine lv_bipush (v := 15) F.1 F.2.1 d_law_36 (by decide) ?_
    refine lv_iand F.1 F.2.1 d_law_38 ?_
    obtain ⟨j, hj, hj2⟩ := pk_andE (xs (nI i).toNatClampNeg) (m := 15) 4 (by decide)
    rw [hj2]
    clear hj2
    have hj16 : j < 16 := hj
    rcases (show j = 0 ∨ j = 1 ∨ j = 2 ∨ j = 3 ∨ j = 4 ∨ j = 5 ∨ j = 6 ∨ j = 7 ∨ j = 8 ∨ j = 9 ∨ j = 10 ∨ j = 11 ∨ 12 ≤ j by omega) with rfl | rfl | rfl | rfl | rfl | rfl | rfl | rfl | rfl | rfl | rfl | rfl | h12
    · exact lv_tableIn (off := 61) (tgt := 100) F.1 F.2.1 d_law_39 (by decide) (by decide) (by decide) (by decide) (L_case_function hst F hX hbl hbA hL hA hK hI hl (by omega) hf kk)
    · exact lv_tableIn (off := 117) (tgt := 156) F.1 F.2.1 d_law_39 (by decide) (by decide) (by decide) (by decide) (L_case_operation hst F hX hbl hbA hL hA hK hI hl (by omega) hf kk)
    · exact lv_tableIn (off := 225) (tgt := 264) F.1 F.2.1 d_law_39 (by decide) (by decide) (by decide) (by decide) (L_case_name hst F hX hbl hbA hL hA hK hI hl (by omega) hf kk)
    · exact lv_tableIn (off := 293) (tgt := 332) F.1 F.2.1 d_law_39 (by decide) (by decide) (by decide) (by decide) (L_case_apply hst F hX hbl hbA hL hA hK hI hl (by omega) hf kk)
    · exact lv_tableIn (off := 337) (tgt := 376) F.1 F.2.1 d_law_39 (by decide) (by decide) (by decide) (by decide) (L_case_turn hst F hX hbl hbA hL hA hK hI hl (by omega) hf kk)
    · exact lv_tableIn (off := 381) (tgt := 420) F.1 F.2.1 d_law_39 (by decide) (by decide) (by decide) (by decide) (L_case_task hst F hX hbl hbA hL hA hK hI hl (by omega) hf kk)
    · exact lv_tableIn (off := 437) (tgt := 476) F.1 F.2.1 d_law_39 (by decide) (by decide) (by decide) (by decide) (L_case_step hst F hX hbl hbA hL hA hK hI hl (by omega) hf kk)
    · exact lv_tableIn (off := 505) (tgt := 544) F.1 F.2.1 d_law_39 (by decide) (by decide) (by decide) (by decide) (L_case_look hst F hX hbl hbA hL hA hK hI hl (by omega) hf kk)
    · exact lv_tableIn (off := 573) (tgt := 612) F.1 F.2.1 d_law_39 (by decide) (by decide) (by decide) (by decide) (L_case_frame hst F hX hbl hbA hL hA hK hI hl (by omega) hf kk)
    · exact lv_tableIn (off := 653) (tgt := 692) F.1 F.2.1 d_law_39 (by decide) (by decide) (by decide) (by decide) (L_case_patches hst F hX hbl hbA hL hA hK hI hl (by omega) hf kk)
    · exact lv_tableIn (off := 666) (tgt := 705) F.1 F.2.1 d_law_39 (by decide) (by decide) (by decide) (by decide) (L_case_target hst F hX hbl hbA hL hA hK hI hl (by omega) hf kk)
    · exact lv_tableIn (off := 679) (tgt := 718) F.1 F.2.1 d_law_39 (by decide) (by decide) (by decide) (by decide) (L_case_body hst F hX hbl hbA hL hA hK hI hl (by omega) hf kk)
    · exact lv_tableOut (tgt := 786) F.1 F.2.1 d_law_39 (Or.inr (by rw [nI_toInt (by omega)]; omega)) (by decide) (W.widen (k := cells + 9) (n := slots + 53) (by omega) (by omega) (kk H locs ls h1 v h3 S hI hl))
