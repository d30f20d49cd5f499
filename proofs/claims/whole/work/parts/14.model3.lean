theorem mOnce_ret {S : St} {t d r a mf : Nat} (hd : S 11 t = nI (d + 1)) (h6 : d < 6) (hr : S 12 (6 * t + d) = nI r) (hr48 : r < 48) (ha : S 14 (6 * t + d) = nI a) (he : nI a = S 2 r) (hm : S 5 t = nI mf) (hmf : mf < 8) :
    mOnce S t = if nI d = 0 then mEnter (sp (sp S 8 t (S 8 t + 1)) 11 t (nI d)) t mf else sp (sp S 8 t (S 8 t + 1)) 11 t (nI d) := by
  have h1 : mEnd S (mTop S t) := by
    rw [mTop_eq hd h6]
    show S 14 (6 * t + d) = S 2 (tn (S 12 (6 * t + d)))
    rw [hr, tn_nI (by omega), ha]; exact he
  unfold mOnce
  rw [if_pos h1, hd, nI_pred, hm, tn_nI (by omega)]
theorem mOnce_op {S : St} {t d r a : Nat} (hd : S 11 t = nI (d + 1)) (h6 : d < 6) (hr : S 12 (6 * t + d) = nI r) (hr48 : r < 48) (ha : S 14 (6 * t + d) = nI a) (ha12 : a ≤ 12) (he : ¬ nI a = S 2 r) :
    mOnce S t = mDo (sp (sp S 8 t (S 8 t + 1)) 14 (6 * t + d) (nI (a + 1))) t (6 * t + d) (S 3 (12 * r + a)) (S 4 (12 * r + a)) := by
  have h1 : ¬ mEnd S (mTop S t) := by
    rw [mTop_eq hd h6]
    show ¬ S 14 (6 * t + d) = S 2 (tn (S 12 (6 * t + d)))
    rw [hr, tn_nI (by omega), ha]; exact he
  unfold mOnce mOp
  rw [if_neg h1, mTop_eq hd h6, hr, ha, tn_nI (by omega), tn_nI (by omega), nI_1]
theorem mDo_0 {S : St} {t i : Nat} {n : Int32} : mDo S t i 0 n = sp S 7 t (S 7 t + n) := by
  unfold mDo; rw [if_pos rfl]
theorem mDo_1 {S : St} {t i : Nat} {n : Int32} : mDo S t i 1 n = mEnter S t (tn n) := by
  unfold mDo; rw [if_neg (by decide), if_pos (Or.inl rfl)]
theorem mDo_5t {S : St} {t i : Nat} {n : Int32} (h : mEven (S 7 t)) : mDo S t i 5 n = mEnter S t (tn n) := by
  unfold mDo; rw [if_neg (by decide), if_pos (Or.inr ⟨rfl, h⟩)]
theorem mDo_5f {S : St} {t i : Nat} {n : Int32} (h : ¬ mEven (S 7 t)) : mDo S t i 5 n = S := by
  unfold mDo
  rw [if_neg (by decide), if_neg (fun z => z.elim (fun z => absurd z (by decide)) (fun z => h z.2)), if_neg (fun z => absurd z.1 (by decide)), if_neg (by decide)]
theorem mDo_2 {S : St} {t i : Nat} {n : Int32} : mDo S t i 2 n = S := by
  unfold mDo
  rw [if_neg (by decide), if_neg (fun z => z.elim (fun z => absurd z (by decide)) (fun z => absurd z.1 (by decide))), if_neg (fun z => absurd z.1 (by decide)), if_neg (by decide)]
theorem mDo_3t {S : St} {t i : Nat} {n : Int32} (h : S 15 i < 3) : mDo S t i 3 n = sp (sp S 15 i (S 15 i + 1)) 14 i n := by
  unfold mDo
  rw [if_neg (by decide), if_neg (fun z => z.elim (fun z => absurd z (by decide)) (fun z => absurd z.1 (by decide))), if_pos ⟨rfl, h⟩]
theorem mDo_3f {S : St} {t i : Nat} {n : Int32} (h : ¬ S 15 i < 3) : mDo S t i 3 n = S := by
  unfold mDo
  rw [if_neg (by decide), if_neg (fun z => z.elim (fun z => absurd z (by decide)) (fun z => absurd z.1 (by decide))), if_neg (fun z => h z.2), if_neg (by decide)]
theorem mDo_4 {S : St} {t i : Nat} {n : Int32} : mDo S t i 4 n = sp (sp S 9 t (S 9 t + 1)) 10 t (S 7 t) := by
  unfold mDo
  rw [if_neg (by decide), if_neg (fun z => z.elim (fun z => absurd z (by decide)) (fun z => absurd z.1 (by decide))), if_neg (fun z => absurd z.1 (by decide)), if_pos rfl]
abbrev rm_M_stepOnce : Room := { frames := 2, cells := 0, slots := 0, locals := 47 }
set_option maxHeartbeats 4000000 in
set_option maxRecDepth 100000 in
theorem c_M_stepOnce (l : Launch) (D : va_G) (cs : Nat → Nat) (A : Nat → Prop) (h : pw_H) (o : Nat) (ad : Nat → Nat) (S : St) (hR : RM cs h o ad S) (t d r a z L mf : Nat) (ht : t < 4) (h6 : d < 6) (hd : S 11 t = nI (d + 1)) (hr48 : r < 48) (hrw : S 12 (6 * t + d) = nI r) (hz12 : z ≤ 12) (hz : S 2 r = nI z) (haz : a ≤ z) (ha : S 14 (6 * t + d) = nI a) (hL5 : L ≤ 5) (hL : S 6 t = nI L) (hmf : mf < 8) (hm : S 5 t = nI mf) (hkd : a < z → S 3 (12 * r + a) = 0 ∨ S 3 (12 * r + a) = 1 ∨ S 3 (12 * r + a) = 2 ∨ S 3 (12 * r + a) = 3 ∨ S 3 (12 * r + a) = 4 ∨ S 3 (12 * r + a) = 5) (hnm9 : a < z → S 3 (12 * r + a) = 1 ∨ S 3 (12 * r + a) = 5 → ∃ j, j < 8 ∧ S 4 (12 * r + a) = nI j) : pm l y_M_stepOnce b_M_stepOnce 5 none rm_M_stepOnce [.ref o, .int (nI t)] D cs A h (va_Qv (fun (h' : pw_H) => RM cs h' o ad (mOnce S t)) (ww D cs A) A) 0 0 := by
  refine pm_of R_M rfl (by decide) (Nat.le_of_ble_eq_true rfl) (fun p e s m below meth c ls F hr hlk hnm hP hA hK hl => ?_)
  have hS : va_S A s.heap s.heap [] := va_S.rf
  replace hl : lv_has ls 5 [(0, .ref o), (1, .int (nI t))] := hl
  refine lv_aload_n F.1 F.2.1 d_M_stepOnce_0 rfl (lv_at hl 0 rfl) ?_
  have f1 : h o = some (.inr (7, [.int (S 16 0), .int (S 16 1), .ref (ad 0), .ref (ad 1), .ref (ad 2), .ref (ad 3), .ref (ad 4), .int (S 16 2), .int (S 16 3), .int (S 16 4), .int (S 16 5), .ref (ad 5), .ref (ad 6), .ref (ad 7), .ref (ad 8), .ref (ad 9), .ref (ad 10), .ref (ad 11), .ref (ad 12), .ref (ad 13), .ref (ad 14), .ref (ad 15)])) := hR.1
  refine pw_get F I_M hK.1 hP f1 rfl 14 (by decide) L_M_39 (fun _ z => z) rfl d_M_stepOnce_1 ?_
  refine lv_iload_n F.1 F.2.1 d_M_stepOnce_4 rfl (lv_at hl 1 rfl) ?_
  refine lv_dup2_11 F.1 F.2.1 d_M_stepOnce_5 rfl rfl ?_
  have f2 : h (ad 8) = some (.inl (cs 0, 4, .inl (S 8))) := hR.2.1 8 (by decide)
  refine pw_ialdN F hK.1 hP 0 f2 rfl (k := t) (by omega) (by decide) d_M_stepOnce_6 ?_
  refine lv_iconst (v := 1) F.1 F.2.1 d_M_stepOnce_7 (by decide) ?_
  refine lv_iadd F.1 F.2.1 d_M_stepOnce_8 ?_
  refine pw_iastN F hK.1 hP hS 0 f2 rfl (k := t) (by omega) (by decide) d_M_stepOnce_9 (fun H locs hP hS => ?_)
  have hP : pw D vwCl A (pu h (ad 8) (.inl (cs 0, 4, .inl (upd (S 8) t ((S 8 t) + 1))))) H := hP
  have hR := hR.arr (show 8 < 16 by decide) t ((S 8 t) + 1)
  obtain ⟨h3, e4⟩ : ∃ z9 : pw_H, z9 = pu h (ad 8) (.inl (cs 0, 4, .inl (upd (S 8) t ((S 8 t) + 1)))) := ⟨_, rfl⟩
  rw [← e4] at hP
  obtain ⟨S5, t6⟩ : ∃ z9 : St, z9 = sp S 8 t ((S 8 t) + 1) := ⟨_, rfl⟩
  have hR : RM cs h3 o ad S5 := by rw [e4, t6]; exact hR
  refine lv_bipush (v := 6) F.1 F.2.1 d_M_stepOnce_10 (by decide) ?_
  refine lv_iload_n F.1 F.2.1 d_M_stepOnce_12 rfl (lv_at hl 1 rfl) ?_
  refine lv_imul F.1 F.2.1 d_M_stepOnce_13 ?_
  refine W.eq (g2 := F0 m 14 ls [.int (nI (6 * t))]) (by rw [show (6 : Int32) = nI 6 from rfl, pk_mul]) ?_
  refine lv_aload_n F.1 F.2.1 d_M_stepOnce_14 rfl (lv_at hl 0 rfl) ?_
  have f7 : h3 o = some (.inr (7, [.int (S5 16 0), .int (S5 16 1), .ref (ad 0), .ref (ad 1), .ref (ad 2), .ref (ad 3), .ref (ad 4), .int (S5 16 2), .int (S5 16 3), .int (S5 16 4), .int (S5 16 5), .ref (ad 5), .ref (ad 6), .ref (ad 7), .ref (ad 8), .ref (ad 9), .ref (ad 10), .ref (ad 11), .ref (ad 12), .ref (ad 13), .ref (ad 14), .ref (ad 15)])) := hR.1
  refine pw_get F I_M hK.1 hP f7 rfl 17 (by decide) L_M_48 (fun _ z => z) rfl d_M_stepOnce_15 ?_
  refine lv_iload_n F.1 F.2.1 d_M_stepOnce_18 rfl (lv_at hl 1 rfl) ?_
  have f8 : h3 (ad 11) = some (.inl (cs 0, 4, .inl (S5 11))) := hR.2.1 11 (by decide)
  refine pw_ialdN F hK.1 hP 0 f8 rfl (k := t) (by omega) (by decide) d_M_stepOnce_19 ?_
  refine W.eq (g2 := F0 m 20 ls [.int (nI (d + 1)), .int (nI (6 * t))]) (by rw [show S5 11 t = S 11 t from by rw [t6]; exact sp_k (by decide), hd]) ?_
  refine lv_iadd F.1 F.2.1 d_M_stepOnce_20 ?_
  refine W.eq (g2 := F0 m 21 ls [.int (nI (6 * t + (d + 1)))]) (by rw [nI_add]) ?_
  refine lv_iconst (v := 1) F.1 F.2.1 d_M_stepOnce_21 (by decide) ?_
  refine lv_isub F.1 F.2.1 d_M_stepOnce_22 ?_
  refine W.eq (g2 := F0 m 23 ls [.int (nI (6 * t + d))]) (by rw [show (1 : Int32) = nI 1 from rfl, show nI (6 * t + (d + 1)) - nI 1 = nI (6 * t + d) from by rw [pk_sub (by omega), show 6 * t + (d + 1) - 1 = 6 * t + d by omega]]) ?_
  refine lv_istore_n F.1 F.2.1 d_M_stepOnce_23 rfl hl (by decide) rfl (fun ls hl => ?_)
  replace hl : lv_has ls 5 [(2, .int (nI (6 * t + d))), (0, .ref o), (1, .int (nI t))] := hl
  refine lv_aload_n F.1 F.2.1 d_M_stepOnce_24 rfl (lv_at hl 1 rfl) ?_
  refine pw_get F I_M hK.1 hP f7 rfl 20 (by decide) L_M_57 (fun _ z => z) rfl d_M_stepOnce_25 ?_
  refine lv_iload_n F.1 F.2.1 d_M_stepOnce_28 rfl (lv_at hl 0 rfl) ?_
  have f9 : h3 (ad 14) = some (.inl (cs 0, 24, .inl (S5 14))) := hR.2.1 14 (by decide)
  refine pw_ialdN F hK.1 hP 0 f9 rfl (k := 6 * t + d) (by omega) (by decide) d_M_stepOnce_29 ?_
  refine W.eq (g2 := F0 m 30 ls [.int (nI a)]) (by rw [show S5 14 (6 * t + d) = S 14 (6 * t + d) from by rw [t6]; exact sp_k (by decide), ha]) ?_
  refine lv_aload_n F.1 F.2.1 d_M_stepOnce_30 rfl (lv_at hl 1 rfl) ?_
  refine pw_get F I_M hK.1 hP f7 rfl 4 (by decide) L_M_17 (fun _ z => z) rfl d_M_stepOnce_31 ?_
  refine lv_aload_n F.1 F.2.1 d_M_stepOnce_34 rfl (lv_at hl 1 rfl) ?_
  refine pw_get F I_M hK.1 hP f7 rfl 18 (by decide) L_M_51 (fun _ z => z) rfl d_M_stepOnce_35 ?_
  refine lv_iload_n F.1 F.2.1 d_M_stepOnce_38 rfl (lv_at hl 0 rfl) ?_
  have f10 : h3 (ad 12) = some (.inl (cs 0, 24, .inl (S5 12))) := hR.2.1 12 (by decide)
  refine pw_ialdN F hK.1 hP 0 f10 rfl (k := 6 * t + d) (by omega) (by decide) d_M_stepOnce_39 ?_
  refine W.eq (g2 := F0 m 40 ls [.int (nI r), .ref (ad 2), .int (nI a)]) (by rw [show S5 12 (6 * t + d) = S 12 (6 * t + d) from by rw [t6]; exact sp_k (by decide), hrw]) ?_
  have f11 : h3 (ad 2) = some (.inl (cs 0, 56, .inl (S5 2))) := hR.2.1 2 (by decide)
  refine pw_ialdN F hK.1 hP 0 f11 rfl (k := r) (by omega) (by decide) d_M_stepOnce_40 ?_
  refine W.eq (g2 := F0 m 41 ls [.int (nI z), .int (nI a)]) (by rw [show S5 2 r = S 2 r from by rw [t6]; exact sp_k (by decide), hz]) ?_
  refine lv_icmp_ne (tgt := 75) F.1 F.2.1 d_M_stepOnce_41 (by decide) (fun c12 => ?_) (fun c12 => ?_)
  · skip
    have hlt : a < z := by
      rcases Nat.lt_or_ge a z with h9 | h9
      · exact h9
      · exact absurd (show nI a = nI z by rw [show a = z by omega]) c12
    refine lv_aload_n F.1 F.2.1 d_M_stepOnce_75 rfl (lv_at hl 1 rfl) ?_
    refine pw_get F I_M hK.1 hP f7 rfl 5 (by decide) L_M_20 (fun _ z => z) rfl d_M_stepOnce_76 ?_
    refine lv_bipush (v := 12) F.1 F.2.1 d_M_stepOnce_79 (by decide) ?_
    refine lv_aload_n F.1 F.2.1 d_M_stepOnce_81 rfl (lv_at hl 1 rfl) ?_
    refine pw_get F I_M hK.1 hP f7 rfl 18 (by decide) L_M_51 (fun _ z => z) rfl d_M_stepOnce_82 ?_
    refine lv_iload_n F.1 F.2.1 d_M_stepOnce_85 rfl (lv_at hl 0 rfl) ?_
    refine pw_ialdN F hK.1 hP 0 f10 rfl (k := 6 * t + d) (by omega) (by decide) d_M_stepOnce_86 ?_
    refine W.eq (g2 := F0 m 87 ls [.int (nI r), .int 12, .ref (ad 3)]) (by rw [show S5 12 (6 * t + d) = S 12 (6 * t + d) from by rw [t6]; exact sp_k (by decide), hrw]) ?_
    refine lv_imul F.1 F.2.1 d_M_stepOnce_87 ?_
    refine W.eq (g2 := F0 m 88 ls [.int (nI (12 * r)), .ref (ad 3)]) (by rw [show (12 : Int32) = nI 12 from rfl, pk_mul]) ?_
    refine lv_aload_n F.1 F.2.1 d_M_stepOnce_88 rfl (lv_at hl 1 rfl) ?_
    refine pw_get F I_M hK.1 hP f7 rfl 20 (by decide) L_M_57 (fun _ z => z) rfl d_M_stepOnce_89 ?_
    refine lv_iload_n F.1 F.2.1 d_M_stepOnce_92 rfl (lv_at hl 0 rfl) ?_
    refine pw_ialdN F hK.1 hP 0 f9 rfl (k := 6 * t + d) (by omega) (by decide) d_M_stepOnce_93 ?_
    refine W.eq (g2 := F0 m 94 ls [.int (nI a), .int (nI (12 * r)), .ref (ad 3)]) (by rw [show S5 14 (6 * t + d) = S 14 (6 * t + d) from by rw [t6]; exact sp_k (by decide), ha]) ?_
    refine lv_iadd F.1 F.2.1 d_M_stepOnce_94 ?_
    refine W.eq (g2 := F0 m 95 ls [.int (nI (12 * r + a)), .ref (ad 3)]) (by rw [nI_add]) ?_
    have f13 : h3 (ad 3) = some (.inl (cs 0, 672, .inl (S5 3))) := hR.2.1 3 (by decide)
    refine pw_ialdN F hK.1 hP 0 f13 rfl (k := 12 * r + a) (by omega) (by decide) d_M_stepOnce_95 ?_
    refine W.eq (g2 := F0 m 96 ls [.int (S 3 (12 * r + a))]) (by rw [show S5 3 (12 * r + a) = S 3 (12 * r + a) from by rw [t6]; exact sp_k (by decide)]) ?_
    refine lv_istore_n F.1 F.2.1 d_M_stepOnce_96 rfl hl (by decide) rfl (fun ls hl => ?_)
    replace hl : lv_has ls 5 [(3, .int (S 3 (12 * r + a))), (2, .int (nI (6 * t + d))), (0, .ref o), (1, .int (nI t))] := hl
    refine lv_aload_n F.1 F.2.1 d_M_stepOnce_97 rfl (lv_at hl 2 rfl) ?_
    refine pw_get F I_M hK.1 hP f7 rfl 6 (by decide) L_M_23 (fun _ z => z) rfl d_M_stepOnce_98 ?_
    refine lv_bipush (v := 12) F.1 F.2.1 d_M_stepOnce_101 (by decide) ?_
    refine lv_aload_n F.1 F.2.1 d_M_stepOnce_103 rfl (lv_at hl 2 rfl) ?_
    refine pw_get F I_M hK.1 hP f7 rfl 18 (by decide) L_M_51 (fun _ z => z) rfl d_M_stepOnce_104 ?_
    refine lv_iload_n F.1 F.2.1 d_M_stepOnce_107 rfl (lv_at hl 1 rfl) ?_
    refine pw_ialdN F hK.1 hP 0 f10 rfl (k := 6 * t + d) (by omega) (by decide) d_M_stepOnce_108 ?_
    refine W.eq (g2 := F0 m 109 ls [.int (nI r), .int 12, .ref (ad 4)]) (by rw [show S5 12 (6 * t + d) = S 12 (6 * t + d) from by rw [t6]; exact sp_k (by decide), hrw]) ?_
    refine lv_imul F.1 F.2.1 d_M_stepOnce_109 ?_
    refine W.eq (g2 := F0 m 110 ls [.int (nI (12 * r)), .ref (ad 4)]) (by rw [show (12 : Int32) = nI 12 from rfl, pk_mul]) ?_
    refine lv_aload_n F.1 F.2.1 d_M_stepOnce_110 rfl (lv_at hl 2 rfl) ?_
    refine pw_get F I_M hK.1 hP f7 rfl 20 (by decide) L_M_57 (fun _ z => z) rfl d_M_stepOnce_111 ?_
    refine lv_iload_n F.1 F.2.1 d_M_stepOnce_114 rfl (lv_at hl 1 rfl) ?_
    refine pw_ialdN F hK.1 hP 0 f9 rfl (k := 6 * t + d) (by omega) (by decide) d_M_stepOnce_115 ?_
    refine W.eq (g2 := F0 m 116 ls [.int (nI a), .int (nI (12 * r)), .ref (ad 4)]) (by rw [show S5 14 (6 * t + d) = S 14 (6 * t + d) from by rw [t6]; exact sp_k (by decide), ha]) ?_
    refine lv_iadd F.1 F.2.1 d_M_stepOnce_116 ?_
    refine W.eq (g2 := F0 m 117 ls [.int (nI (12 * r + a)), .ref (ad 4)]) (by rw [nI_add]) ?_
    have f14 : h3 (ad 4) = some (.inl (cs 0, 672, .inl (S5 4))) := hR.2.1 4 (by decide)
    refine pw_ialdN F hK.1 hP 0 f14 rfl (k := 12 * r + a) (by omega) (by decide) d_M_stepOnce_117 ?_
    refine W.eq (g2 := F0 m 118 ls [.int (S 4 (12 * r + a))]) (by rw [show S5 4 (12 * r + a) = S 4 (12 * r + a) from by rw [t6]; exact sp_k (by decide)]) ?_
    refine lv_istore F.1 F.2.1 d_M_stepOnce_118 hl (by decide) rfl (fun ls hl => ?_)
    replace hl : lv_has ls 5 [(4, .int (S 4 (12 * r + a))), (3, .int (S 3 (12 * r + a))), (2, .int (nI (6 * t + d))), (0, .ref o), (1, .int (nI t))] := hl
    refine lv_aload_n F.1 F.2.1 d_M_stepOnce_120 rfl (lv_at hl 3 rfl) ?_
    refine pw_get F I_M hK.1 hP f7 rfl 20 (by decide) L_M_57 (fun _ z => z) rfl d_M_stepOnce_121 ?_
    refine lv_iload_n F.1 F.2.1 d_M_stepOnce_124 rfl (lv_at hl 2 rfl) ?_
    refine lv_dup2_11 F.1 F.2.1 d_M_stepOnce_125 rfl rfl ?_
    refine pw_ialdN F hK.1 hP 0 f9 rfl (k := 6 * t + d) (by omega) (by decide) d_M_stepOnce_126 ?_
    refine W.eq (g2 := F0 m 127 ls [.int (nI a), .int (nI (6 * t + d)), .ref (ad 14)]) (by rw [show S5 14 (6 * t + d) = S 14 (6 * t + d) from by rw [t6]; exact sp_k (by decide), ha]) ?_
    refine lv_iconst (v := 1) F.1 F.2.1 d_M_stepOnce_127 (by decide) ?_
    refine lv_iadd F.1 F.2.1 d_M_stepOnce_128 ?_
    refine W.eq (g2 := F0 m 129 ls [.int (nI (a + 1)), .int (nI (6 * t + d)), .ref (ad 14)]) (by rw [show (1 : Int32) = nI 1 from rfl, nI_add]) ?_
    refine pw_iastN F hK.1 hP hS 0 f9 rfl (k := 6 * t + d) (by omega) (by decide) d_M_stepOnce_129 (fun H locs hP hS => ?_)
    have hP : pw D vwCl A (pu h3 (ad 14) (.inl (cs 0, 24, .inl (upd (S5 14) (6 * t + d) (nI (a + 1)))))) H := hP
    have hR := hR.arr (show 14 < 16 by decide) (6 * t + d) (nI (a + 1))
    obtain ⟨h15, e16⟩ : ∃ z9 : pw_H, z9 = pu h3 (ad 14) (.inl (cs 0, 24, .inl (upd (S5 14) (6 * t + d) (nI (a + 1))))) := ⟨_, rfl⟩
    rw [← e16] at hP
    obtain ⟨S17, t18⟩ : ∃ z9 : St, z9 = sp S5 14 (6 * t + d) (nI (a + 1)) := ⟨_, rfl⟩
    have hR : RM cs h15 o ad S17 := by rw [e16, t18]; exact hR
    have hk9 := hkd hlt
    have hn9 := hnm9 hlt
    rcases hk9 with hk9 | hk9 | hk9 | hk9 | hk9 | hk9
    · skip
      replace hl : lv_has ls 5 [(4, .int (S 4 (12 * r + a))), (3, .int 0), (2, .int (nI (6 * t + d))), (0, .ref o), (1, .int (nI t))] := by rw [hk9] at hl; exact hl
      refine lv_iload_n F.1 F.2.1 d_M_stepOnce_130 rfl (lv_at hl 1 rfl) ?_
      refine lv_if_ne (tgt := 149) F.1 F.2.1 d_M_stepOnce_131 (by decide) (fun c19 => absurd (by decide) c19) (fun c19 => ?_)
      refine lv_aload_n F.1 F.2.1 d_M_stepOnce_134 rfl (lv_at hl 3 rfl) ?_
      have f20 : h15 o = some (.inr (7, [.int (S17 16 0), .int (S17 16 1), .ref (ad 0), .ref (ad 1), .ref (ad 2), .ref (ad 3), .ref (ad 4), .int (S17 16 2), .int (S17 16 3), .int (S17 16 4), .int (S17 16 5), .ref (ad 5), .ref (ad 6), .ref (ad 7), .ref (ad 8), .ref (ad 9), .ref (ad 10), .ref (ad 11), .ref (ad 12), .ref (ad 13), .ref (ad 14), .ref (ad 15)])) := hR.1
      refine pw_get F I_M hK.1 hP f20 rfl 13 (by decide) L_M_36 (fun _ z => z) rfl d_M_stepOnce_135 ?_
      refine lv_iload_n F.1 F.2.1 d_M_stepOnce_138 rfl (lv_at hl 4 rfl) ?_
      refine lv_aload_n F.1 F.2.1 d_M_stepOnce_139 rfl (lv_at hl 3 rfl) ?_
      refine pw_get F I_M hK.1 hP f20 rfl 13 (by decide) L_M_36 (fun _ z => z) rfl d_M_stepOnce_140 ?_
      refine lv_iload_n F.1 F.2.1 d_M_stepOnce_143 rfl (lv_at hl 4 rfl) ?_
      have f21 : h15 (ad 7) = some (.inl (cs 0, 4, .inl (S17 7))) := hR.2.1 7 (by decide)
      refine pw_ialdN F hK.1 hP 0 f21 rfl (k := t) (by omega) (by decide) d_M_stepOnce_144 ?_
      refine W.eq (g2 := F0 m 145 ls [.int (S 7 t), .int (nI t), .ref (ad 7)]) (by rw [show S17 7 t = S5 7 t from by rw [t18]; exact sp_k (by decide), show S5 7 t = S 7 t from by rw [t6]; exact sp_k (by decide)]) ?_
      refine lv_iload F.1 F.2.1 d_M_stepOnce_145 (lv_at hl 0 rfl) ?_
      refine lv_iadd F.1 F.2.1 d_M_stepOnce_147 ?_
      refine pw_iastN F hK.1 hP hS 0 f21 rfl (k := t) (by omega) (by decide) d_M_stepOnce_148 (fun H locs hP hS => ?_)
      have hP : pw D vwCl A (pu h15 (ad 7) (.inl (cs 0, 4, .inl (upd (S17 7) t ((S 7 t) + (S 4 (12 * r + a))))))) H := hP
      have hR := hR.arr (show 7 < 16 by decide) t ((S 7 t) + (S 4 (12 * r + a)))
      obtain ⟨h22, e23⟩ : ∃ z9 : pw_H, z9 = pu h15 (ad 7) (.inl (cs 0, 4, .inl (upd (S17 7) t ((S 7 t) + (S 4 (12 * r + a)))))) := ⟨_, rfl⟩
      rw [← e23] at hP
      obtain ⟨S24, t25⟩ : ∃ z9 : St, z9 = sp S17 7 t ((S 7 t) + (S 4 (12 * r + a))) := ⟨_, rfl⟩
      have hR : RM cs h22 o ad S24 := by rw [e23, t25]; exact hR
      refine lv_iload_n F.1 F.2.1 d_M_stepOnce_149 rfl (lv_at hl 1 rfl) ?_
      refine lv_iconst (v := 1) F.1 F.2.1 d_M_stepOnce_150 (by decide) ?_
      refine lv_icmp_eq (tgt := 170) F.1 F.2.1 d_M_stepOnce_151 (by decide) (fun c26 => absurd c26 (by decide)) (fun c26 => ?_)
      refine lv_iload_n F.1 F.2.1 d_M_stepOnce_154 rfl (lv_at hl 1 rfl) ?_
      refine lv_iconst (v := 5) F.1 F.2.1 d_M_stepOnce_155 (by decide) ?_
      refine lv_icmp_ne (tgt := 177) F.1 F.2.1 d_M_stepOnce_156 (by decide) (fun c27 => ?_) (fun c27 => absurd c27 (by decide))
      refine lv_iload_n F.1 F.2.1 d_M_stepOnce_177 rfl (lv_at hl 1 rfl) ?_
      refine lv_iconst (v := 3) F.1 F.2.1 d_M_stepOnce_178 (by decide) ?_
      refine lv_icmp_ne (tgt := 210) F.1 F.2.1 d_M_stepOnce_179 (by decide) (fun c28 => ?_) (fun c28 => absurd c28 (by decide))
      refine lv_iload_n F.1 F.2.1 d_M_stepOnce_210 rfl (lv_at hl 1 rfl) ?_
      refine lv_iconst (v := 4) F.1 F.2.1 d_M_stepOnce_211 (by decide) ?_
      refine lv_icmp_ne (tgt := 237) F.1 F.2.1 d_M_stepOnce_212 (by decide) (fun c29 => ?_) (fun c29 => absurd c29 (by decide))
      exact pw_vret F hr hlk hP hA hK hS (by decide) (by decide) d_M_stepOnce_237 (by rw [mOnce_op hd h6 hrw hr48 ha (by omega) (fun z9 => c12 (z9.trans hz)), hk9, mDo_0, sp_k (by decide), sp_k (by decide)]; rw [t25, t18, t6] at hR; exact hR)
    · skip
      obtain ⟨j, hj, hje⟩ := hn9 (Or.inl hk9)
      replace hl : lv_has ls 5 [(4, .int (nI j)), (3, .int 1), (2, .int (nI (6 * t + d))), (0, .ref o), (1, .int (nI t))] := by rw [hk9, hje] at hl; exact hl
      refine lv_iload_n F.1 F.2.1 d_M_stepOnce_130 rfl (lv_at hl 1 rfl) ?_
      refine lv_if_ne (tgt := 149) F.1 F.2.1 d_M_stepOnce_131 (by decide) (fun c30 => ?_) (fun c30 => absurd c30 (by decide))
      refine lv_iload_n F.1 F.2.1 d_M_stepOnce_149 rfl (lv_at hl 1 rfl) ?_
      refine lv_iconst (v := 1) F.1 F.2.1 d_M_stepOnce_150 (by decide) ?_
      refine lv_icmp_eq (tgt := 170) F.1 F.2.1 d_M_stepOnce_151 (by decide) (fun c31 => ?_) (fun c31 => absurd (by decide) c31)
      refine lv_aload_n F.1 F.2.1 d_M_stepOnce_170 rfl (lv_at hl 3 rfl) ?_
      refine lv_iload_n F.1 F.2.1 d_M_stepOnce_171 rfl (lv_at hl 4 rfl) ?_
      refine lv_iload F.1 F.2.1 d_M_stepOnce_172 (lv_at hl 0 rfl) ?_
      have f32 : h15 o = some (.inr (7, [.int (S17 16 0), .int (S17 16 1), .ref (ad 0), .ref (ad 1), .ref (ad 2), .ref (ad 3), .ref (ad 4), .int (S17 16 2), .int (S17 16 3), .int (S17 16 4), .int (S17 16 5), .ref (ad 5), .ref (ad 6), .ref (ad 7), .ref (ad 8), .ref (ad 9), .ref (ad 10), .ref (ad 11), .ref (ad 12), .ref (ad 13), .ref (ad 14), .ref (ad 15)])) := hR.1
      refine pw_cv (pr_V F (c_M_enter l D cs A h15 o ad S17 hR t j (d + 1) L ht hj (by omega) hL5 (by rw [t18, sp_k (by decide), t6, sp_k (by decide)]; exact hd) (by rw [t18, sp_k (by decide), t6, sp_k (by decide)]; exact hL)) X_M_97 rfl rfl ⟨by decide, by decide⟩ hP hA hK hS f32 rfl rfl rfl hl.1 rfl (Nat.le_of_ble_eq_true rfl) d_M_stepOnce_174 ⟨by decide, by decide⟩) hS (fun h33 H locs hq hP hS => ?_)
      obtain ⟨S34, t35⟩ : ∃ z9 : St, z9 = mEnter S17 t j := ⟨_, rfl⟩
      have hR : RM cs h33 o ad S34 := by rw [t35]; exact hq
      refine lv_iload_n F.1 F.2.1 d_M_stepOnce_177 rfl (lv_at hl 1 rfl) ?_
      refine lv_iconst (v := 3) F.1 F.2.1 d_M_stepOnce_178 (by decide) ?_
      refine lv_icmp_ne (tgt := 210) F.1 F.2.1 d_M_stepOnce_179 (by decide) (fun c36 => ?_) (fun c36 => absurd c36 (by decide))
      refine lv_iload_n F.1 F.2.1 d_M_stepOnce_210 rfl (lv_at hl 1 rfl) ?_
      refine lv_iconst (v := 4) F.1 F.2.1 d_M_stepOnce_211 (by decide) ?_
      refine lv_icmp_ne (tgt := 237) F.1 F.2.1 d_M_stepOnce_212 (by decide) (fun c37 => ?_) (fun c37 => absurd c37 (by decide))
      exact pw_vret F hr hlk hP hA hK hS (by decide) (by decide) d_M_stepOnce_237 (by rw [mOnce_op hd h6 hrw hr48 ha (by omega) (fun z9 => c12 (z9.trans hz)), hk9, mDo_1, hje, tn_nI (by omega)]; rw [t35, t18, t6] at hR; exact hR)
    · skip
      replace hl : lv_has ls 5 [(4, .int (S 4 (12 * r + a))), (3, .int 2), (2, .int (nI (6 * t + d))), (0, .ref o), (1, .int (nI t))] := by rw [hk9] at hl; exact hl
      refine lv_iload_n F.1 F.2.1 d_M_stepOnce_130 rfl (lv_at hl 1 rfl) ?_
      refine lv_if_ne (tgt := 149) F.1 F.2.1 d_M_stepOnce_131 (by decide) (fun c38 => ?_) (fun c38 => absurd c38 (by decide))
      refine lv_iload_n F.1 F.2.1 d_M_stepOnce_149 rfl (lv_at hl 1 rfl) ?_
      refine lv_iconst (v := 1) F.1 F.2.1 d_M_stepOnce_150 (by decide) ?_
      refine lv_icmp_eq (tgt := 170) F.1 F.2.1 d_M_stepOnce_151 (by decide) (fun c39 => absurd c39 (by decide)) (fun c39 => ?_)
      refine lv_iload_n F.1 F.2.1 d_M_stepOnce_154 rfl (lv_at hl 1 rfl) ?_
      refine lv_iconst (v := 5) F.1 F.2.1 d_M_stepOnce_155 (by decide) ?_
      refine lv_icmp_ne (tgt := 177) F.1 F.2.1 d_M_stepOnce_156 (by decide) (fun c40 => ?_) (fun c40 => absurd c40 (by decide))
      refine lv_iload_n F.1 F.2.1 d_M_stepOnce_177 rfl (lv_at hl 1 rfl) ?_
      refine lv_iconst (v := 3) F.1 F.2.1 d_M_stepOnce_178 (by decide) ?_
      refine lv_icmp_ne (tgt := 210) F.1 F.2.1 d_M_stepOnce_179 (by decide) (fun c41 => ?_) (fun c41 => absurd c41 (by decide))
      refine lv_iload_n F.1 F.2.1 d_M_stepOnce_210 rfl (lv_at hl 1 rfl) ?_
      refine lv_iconst (v := 4) F.1 F.2.1 d_M_stepOnce_211 (by decide) ?_
      refine lv_icmp_ne (tgt := 237) F.1 F.2.1 d_M_stepOnce_212 (by decide) (fun c42 => ?_) (fun c42 => absurd c42 (by decide))
      exact pw_vret F hr hlk hP hA hK hS (by decide) (by decide) d_M_stepOnce_237 (by rw [mOnce_op hd h6 hrw hr48 ha (by omega) (fun z9 => c12 (z9.trans hz)), hk9, mDo_2]; rw [t18, t6] at hR; exact hR)
    · skip
      replace hl : lv_has ls 5 [(4, .int (S 4 (12 * r + a))), (3, .int 3), (2, .int (nI (6 * t + d))), (0, .ref o), (1, .int (nI t))] := by rw [hk9] at hl; exact hl
      refine lv_iload_n F.1 F.2.1 d_M_stepOnce_130 rfl (lv_at hl 1 rfl) ?_
      refine lv_if_ne (tgt := 149) F.1 F.2.1 d_M_stepOnce_131 (by decide) (fun c43 => ?_) (fun c43 => absurd c43 (by decide))
      refine lv_iload_n F.1 F.2.1 d_M_stepOnce_149 rfl (lv_at hl 1 rfl) ?_
      refine lv_iconst (v := 1) F.1 F.2.1 d_M_stepOnce_150 (by decide) ?_
      refine lv_icmp_eq (tgt := 170) F.1 F.2.1 d_M_stepOnce_151 (by decide) (fun c44 => absurd c44 (by decide)) (fun c44 => ?_)
      refine lv_iload_n F.1 F.2.1 d_M_stepOnce_154 rfl (lv_at hl 1 rfl) ?_
      refine lv_iconst (v := 5) F.1 F.2.1 d_M_stepOnce_155 (by decide) ?_
      refine lv_icmp_ne (tgt := 177) F.1 F.2.1 d_M_stepOnce_156 (by decide) (fun c45 => ?_) (fun c45 => absurd c45 (by decide))
      refine lv_iload_n F.1 F.2.1 d_M_stepOnce_177 rfl (lv_at hl 1 rfl) ?_
      refine lv_iconst (v := 3) F.1 F.2.1 d_M_stepOnce_178 (by decide) ?_
      refine lv_icmp_ne (tgt := 210) F.1 F.2.1 d_M_stepOnce_179 (by decide) (fun c46 => absurd (by decide) c46) (fun c46 => ?_)
      refine lv_aload_n F.1 F.2.1 d_M_stepOnce_182 rfl (lv_at hl 3 rfl) ?_
      have f47 : h15 o = some (.inr (7, [.int (S17 16 0), .int (S17 16 1), .ref (ad 0), .ref (ad 1), .ref (ad 2), .ref (ad 3), .ref (ad 4), .int (S17 16 2), .int (S17 16 3), .int (S17 16 4), .int (S17 16 5), .ref (ad 5), .ref (ad 6), .ref (ad 7), .ref (ad 8), .ref (ad 9), .ref (ad 10), .ref (ad 11), .ref (ad 12), .ref (ad 13), .ref (ad 14), .ref (ad 15)])) := hR.1
      refine pw_get F I_M hK.1 hP f47 rfl 21 (by decide) L_M_60 (fun _ z => z) rfl d_M_stepOnce_183 ?_
      refine lv_iload_n F.1 F.2.1 d_M_stepOnce_186 rfl (lv_at hl 2 rfl) ?_
      have f48 : h15 (ad 15) = some (.inl (cs 0, 24, .inl (S17 15))) := hR.2.1 15 (by decide)
      refine pw_ialdN F hK.1 hP 0 f48 rfl (k := 6 * t + d) (by omega) (by decide) d_M_stepOnce_187 ?_
      refine W.eq (g2 := F0 m 188 ls [.int (S 15 (6 * t + d))]) (by rw [show S17 15 (6 * t + d) = S5 15 (6 * t + d) from by rw [t18]; exact sp_k (by decide), show S5 15 (6 * t + d) = S 15 (6 * t + d) from by rw [t6]; exact sp_k (by decide)]) ?_
      refine lv_iconst (v := 3) F.1 F.2.1 d_M_stepOnce_188 (by decide) ?_
      refine lv_icmp_ge (tgt := 210) F.1 F.2.1 d_M_stepOnce_189 (by decide) (fun c49 => ?_) (fun c49 => ?_)
      · skip
        refine lv_iload_n F.1 F.2.1 d_M_stepOnce_210 rfl (lv_at hl 1 rfl) ?_
        refine lv_iconst (v := 4) F.1 F.2.1 d_M_stepOnce_211 (by decide) ?_
        refine lv_icmp_ne (tgt := 237) F.1 F.2.1 d_M_stepOnce_212 (by decide) (fun c50 => ?_) (fun c50 => absurd c50 (by decide))
        exact pw_vret F hr hlk hP hA hK hS (by decide) (by decide) d_M_stepOnce_237 (by rw [mOnce_op hd h6 hrw hr48 ha (by omega) (fun z9 => c12 (z9.trans hz)), hk9, mDo_3f (by rw [sp_k (by decide), sp_k (by decide)]; exact Int32.not_lt.mpr c49)]; rw [t18, t6] at hR; exact hR)
      · skip
        refine lv_aload_n F.1 F.2.1 d_M_stepOnce_192 rfl (lv_at hl 3 rfl) ?_
        refine pw_get F I_M hK.1 hP f47 rfl 21 (by decide) L_M_60 (fun _ z => z) rfl d_M_stepOnce_193 ?_
        refine lv_iload_n F.1 F.2.1 d_M_stepOnce_196 rfl (lv_at hl 2 rfl) ?_
        refine lv_dup2_11 F.1 F.2.1 d_M_stepOnce_197 rfl rfl ?_
        refine pw_ialdN F hK.1 hP 0 f48 rfl (k := 6 * t + d) (by omega) (by decide) d_M_stepOnce_198 ?_
        refine W.eq (g2 := F0 m 199 ls [.int (S 15 (6 * t + d)), .int (nI (6 * t + d)), .ref (ad 15)]) (by rw [show S17 15 (6 * t + d) = S5 15 (6 * t + d) from by rw [t18]; exact sp_k (by decide), show S5 15 (6 * t + d) = S 15 (6 * t + d) from by rw [t6]; exact sp_k (by decide)]) ?_
        refine lv_iconst (v := 1) F.1 F.2.1 d_M_stepOnce_199 (by decide) ?_
        refine lv_iadd F.1 F.2.1 d_M_stepOnce_200 ?_
        refine pw_iastN F hK.1 hP hS 0 f48 rfl (k := 6 * t + d) (by omega) (by decide) d_M_stepOnce_201 (fun H locs hP hS => ?_)
        have hP : pw D vwCl A (pu h15 (ad 15) (.inl (cs 0, 24, .inl (upd (S17 15) (6 * t + d) ((S 15 (6 * t + d)) + 1))))) H := hP
        have hR := hR.arr (show 15 < 16 by decide) (6 * t + d) ((S 15 (6 * t + d)) + 1)
        obtain ⟨h51, e52⟩ : ∃ z9 : pw_H, z9 = pu h15 (ad 15) (.inl (cs 0, 24, .inl (upd (S17 15) (6 * t + d) ((S 15 (6 * t + d)) + 1)))) := ⟨_, rfl⟩
        rw [← e52] at hP
        obtain ⟨S53, t54⟩ : ∃ z9 : St, z9 = sp S17 15 (6 * t + d) ((S 15 (6 * t + d)) + 1) := ⟨_, rfl⟩
        have hR : RM cs h51 o ad S53 := by rw [e52, t54]; exact hR
        refine lv_aload_n F.1 F.2.1 d_M_stepOnce_202 rfl (lv_at hl 3 rfl) ?_
        have f55 : h51 o = some (.inr (7, [.int (S53 16 0), .int (S53 16 1), .ref (ad 0), .ref (ad 1), .ref (ad 2), .ref (ad 3), .ref (ad 4), .int (S53 16 2), .int (S53 16 3), .int (S53 16 4), .int (S53 16 5), .ref (ad 5), .ref (ad 6), .ref (ad 7), .ref (ad 8), .ref (ad 9), .ref (ad 10), .ref (ad 11), .ref (ad 12), .ref (ad 13), .ref (ad 14), .ref (ad 15)])) := hR.1
        refine pw_get F I_M hK.1 hP f55 rfl 20 (by decide) L_M_57 (fun _ z => z) rfl d_M_stepOnce_203 ?_
        refine lv_iload_n F.1 F.2.1 d_M_stepOnce_206 rfl (lv_at hl 2 rfl) ?_
        refine lv_iload F.1 F.2.1 d_M_stepOnce_207 (lv_at hl 0 rfl) ?_
        have f56 : h51 (ad 14) = some (.inl (cs 0, 24, .inl (S53 14))) := hR.2.1 14 (by decide)
        refine pw_iastN F hK.1 hP hS 0 f56 rfl (k := 6 * t + d) (by omega) (by decide) d_M_stepOnce_209 (fun H locs hP hS => ?_)
        have hP : pw D vwCl A (pu h51 (ad 14) (.inl (cs 0, 24, .inl (upd (S53 14) (6 * t + d) (S 4 (12 * r + a)))))) H := hP
        have hR := hR.arr (show 14 < 16 by decide) (6 * t + d) (S 4 (12 * r + a))
        obtain ⟨h57, e58⟩ : ∃ z9 : pw_H, z9 = pu h51 (ad 14) (.inl (cs 0, 24, .inl (upd (S53 14) (6 * t + d) (S 4 (12 * r + a))))) := ⟨_, rfl⟩
        rw [← e58] at hP
        obtain ⟨S59, t60⟩ : ∃ z9 : St, z9 = sp S53 14 (6 * t + d) (S 4 (12 * r + a)) := ⟨_, rfl⟩
        have hR : RM cs h57 o ad S59 := by rw [e58, t60]; exact hR
        refine lv_iload_n F.1 F.2.1 d_M_stepOnce_210 rfl (lv_at hl 1 rfl) ?_
        refine lv_iconst (v := 4) F.1 F.2.1 d_M_stepOnce_211 (by decide) ?_
        refine lv_icmp_ne (tgt := 237) F.1 F.2.1 d_M_stepOnce_212 (by decide) (fun c61 => ?_) (fun c61 => absurd c61 (by decide))
        exact pw_vret F hr hlk hP hA hK hS (by decide) (by decide) d_M_stepOnce_237 (by rw [mOnce_op hd h6 hrw hr48 ha (by omega) (fun z9 => c12 (z9.trans hz)), hk9, mDo_3t (by rw [sp_k (by decide), sp_k (by decide)]; exact Int32.not_le.mp c49), sp_k (by decide), sp_k (by decide)]; rw [t60, t54, t18, t6] at hR; exact hR)
    · skip
      replace hl : lv_has ls 5 [(4, .int (S 4 (12 * r + a))), (3, .int 4), (2, .int (nI (6 * t + d))), (0, .ref o), (1, .int (nI t))] := by rw [hk9] at hl; exact hl
      refine lv_iload_n F.1 F.2.1 d_M_stepOnce_130 rfl (lv_at hl 1 rfl) ?_
      refine lv_if_ne (tgt := 149) F.1 F.2.1 d_M_stepOnce_131 (by decide) (fun c62 => ?_) (fun c62 => absurd c62 (by decide))
      refine lv_iload_n F.1 F.2.1 d_M_stepOnce_149 rfl (lv_at hl 1 rfl) ?_
      refine lv_iconst (v := 1) F.1 F.2.1 d_M_stepOnce_150 (by decide) ?_
      refine lv_icmp_eq (tgt := 170) F.1 F.2.1 d_M_stepOnce_151 (by decide) (fun c63 => absurd c63 (by decide)) (fun c63 => ?_)
      refine lv_iload_n F.1 F.2.1 d_M_stepOnce_154 rfl (lv_at hl 1 rfl) ?_
      refine lv_iconst (v := 5) F.1 F.2.1 d_M_stepOnce_155 (by decide) ?_
      refine lv_icmp_ne (tgt := 177) F.1 F.2.1 d_M_stepOnce_156 (by decide) (fun c64 => ?_) (fun c64 => absurd c64 (by decide))
      refine lv_iload_n F.1 F.2.1 d_M_stepOnce_177 rfl (lv_at hl 1 rfl) ?_
      refine lv_iconst (v := 3) F.1 F.2.1 d_M_stepOnce_178 (by decide) ?_
      refine lv_icmp_ne (tgt := 210) F.1 F.2.1 d_M_stepOnce_179 (by decide) (fun c65 => ?_) (fun c65 => absurd c65 (by decide))
      refine lv_iload_n F.1 F.2.1 d_M_stepOnce_210 rfl (lv_at hl 1 rfl) ?_
      refine lv_iconst (v := 4) F.1 F.2.1 d_M_stepOnce_211 (by decide) ?_
      refine lv_icmp_ne (tgt := 237) F.1 F.2.1 d_M_stepOnce_212 (by decide) (fun c66 => absurd (by decide) c66) (fun c66 => ?_)
      refine lv_aload_n F.1 F.2.1 d_M_stepOnce_215 rfl (lv_at hl 3 rfl) ?_
      have f67 : h15 o = some (.inr (7, [.int (S17 16 0), .int (S17 16 1), .ref (ad 0), .ref (ad 1), .ref (ad 2), .ref (ad 3), .ref (ad 4), .int (S17 16 2), .int (S17 16 3), .int (S17 16 4), .int (S17 16 5), .ref (ad 5), .ref (ad 6), .ref (ad 7), .ref (ad 8), .ref (ad 9), .ref (ad 10), .ref (ad 11), .ref (ad 12), .ref (ad 13), .ref (ad 14), .ref (ad 15)])) := hR.1
      refine pw_get F I_M hK.1 hP f67 rfl 15 (by decide) L_M_42 (fun _ z => z) rfl d_M_stepOnce_216 ?_
      refine lv_iload_n F.1 F.2.1 d_M_stepOnce_219 rfl (lv_at hl 4 rfl) ?_
      refine lv_dup2_11 F.1 F.2.1 d_M_stepOnce_220 rfl rfl ?_
      have f68 : h15 (ad 9) = some (.inl (cs 0, 4, .inl (S17 9))) := hR.2.1 9 (by decide)
      refine pw_ialdN F hK.1 hP 0 f68 rfl (k := t) (by omega) (by decide) d_M_stepOnce_221 ?_
      refine W.eq (g2 := F0 m 222 ls [.int (S 9 t), .int (nI t), .ref (ad 9)]) (by rw [show S17 9 t = S5 9 t from by rw [t18]; exact sp_k (by decide), show S5 9 t = S 9 t from by rw [t6]; exact sp_k (by decide)]) ?_
      refine lv_iconst (v := 1) F.1 F.2.1 d_M_stepOnce_222 (by decide) ?_
      refine lv_iadd F.1 F.2.1 d_M_stepOnce_223 ?_
      refine pw_iastN F hK.1 hP hS 0 f68 rfl (k := t) (by omega) (by decide) d_M_stepOnce_224 (fun H locs hP hS => ?_)
      have hP : pw D vwCl A (pu h15 (ad 9) (.inl (cs 0, 4, .inl (upd (S17 9) t ((S 9 t) + 1))))) H := hP
      have hR := hR.arr (show 9 < 16 by decide) t ((S 9 t) + 1)
      obtain ⟨h69, e70⟩ : ∃ z9 : pw_H, z9 = pu h15 (ad 9) (.inl (cs 0, 4, .inl (upd (S17 9) t ((S 9 t) + 1)))) := ⟨_, rfl⟩
      rw [← e70] at hP
      obtain ⟨S71, t72⟩ : ∃ z9 : St, z9 = sp S17 9 t ((S 9 t) + 1) := ⟨_, rfl⟩
      have hR : RM cs h69 o ad S71 := by rw [e70, t72]; exact hR
      refine lv_aload_n F.1 F.2.1 d_M_stepOnce_225 rfl (lv_at hl 3 rfl) ?_
      have f73 : h69 o = some (.inr (7, [.int (S71 16 0), .int (S71 16 1), .ref (ad 0), .ref (ad 1), .ref (ad 2), .ref (ad 3), .ref (ad 4), .int (S71 16 2), .int (S71 16 3), .int (S71 16 4), .int (S71 16 5), .ref (ad 5), .ref (ad 6), .ref (ad 7), .ref (ad 8), .ref (ad 9), .ref (ad 10), .ref (ad 11), .ref (ad 12), .ref (ad 13), .ref (ad 14), .ref (ad 15)])) := hR.1
      refine pw_get F I_M hK.1 hP f73 rfl 16 (by decide) L_M_45 (fun _ z => z) rfl d_M_stepOnce_226 ?_
      refine lv_iload_n F.1 F.2.1 d_M_stepOnce_229 rfl (lv_at hl 4 rfl) ?_
      refine lv_aload_n F.1 F.2.1 d_M_stepOnce_230 rfl (lv_at hl 3 rfl) ?_
      refine pw_get F I_M hK.1 hP f73 rfl 13 (by decide) L_M_36 (fun _ z => z) rfl d_M_stepOnce_231 ?_
      refine lv_iload_n F.1 F.2.1 d_M_stepOnce_234 rfl (lv_at hl 4 rfl) ?_
      have f74 : h69 (ad 7) = some (.inl (cs 0, 4, .inl (S71 7))) := hR.2.1 7 (by decide)
      refine pw_ialdN F hK.1 hP 0 f74 rfl (k := t) (by omega) (by decide) d_M_stepOnce_235 ?_
      refine W.eq (g2 := F0 m 236 ls [.int (S 7 t), .int (nI t), .ref (ad 10)]) (by rw [show S71 7 t = S17 7 t from by rw [t72]; exact sp_k (by decide), show S17 7 t = S5 7 t from by rw [t18]; exact sp_k (by decide), show S5 7 t = S 7 t from by rw [t6]; exact sp_k (by decide)]) ?_
      have f75 : h69 (ad 10) = some (.inl (cs 0, 4, .inl (S71 10))) := hR.2.1 10 (by decide)
      refine pw_iastN F hK.1 hP hS 0 f75 rfl (k := t) (by omega) (by decide) d_M_stepOnce_236 (fun H locs hP hS => ?_)
      have hP : pw D vwCl A (pu h69 (ad 10) (.inl (cs 0, 4, .inl (upd (S71 10) t (S 7 t))))) H := hP
      have hR := hR.arr (show 10 < 16 by decide) t (S 7 t)
      obtain ⟨h76, e77⟩ : ∃ z9 : pw_H, z9 = pu h69 (ad 10) (.inl (cs 0, 4, .inl (upd (S71 10) t (S 7 t)))) := ⟨_, rfl⟩
      rw [← e77] at hP
      obtain ⟨S78, t79⟩ : ∃ z9 : St, z9 = sp S71 10 t (S 7 t) := ⟨_, rfl⟩
      have hR : RM cs h76 o ad S78 := by rw [e77, t79]; exact hR
      exact pw_vret F hr hlk hP hA hK hS (by decide) (by decide) d_M_stepOnce_237 (by rw [mOnce_op hd h6 hrw hr48 ha (by omega) (fun z9 => c12 (z9.trans hz)), hk9, mDo_4, sp_k (by decide), sp_k (by decide), sp_k (by decide), sp_k (by decide)]; rw [t79, t72, t18, t6] at hR; exact hR)
    · skip
      obtain ⟨j, hj, hje⟩ := hn9 (Or.inr hk9)
      replace hl : lv_has ls 5 [(4, .int (nI j)), (3, .int 5), (2, .int (nI (6 * t + d))), (0, .ref o), (1, .int (nI t))] := by rw [hk9, hje] at hl; exact hl
      refine lv_iload_n F.1 F.2.1 d_M_stepOnce_130 rfl (lv_at hl 1 rfl) ?_
      refine lv_if_ne (tgt := 149) F.1 F.2.1 d_M_stepOnce_131 (by decide) (fun c80 => ?_) (fun c80 => absurd c80 (by decide))
      refine lv_iload_n F.1 F.2.1 d_M_stepOnce_149 rfl (lv_at hl 1 rfl) ?_
      refine lv_iconst (v := 1) F.1 F.2.1 d_M_stepOnce_150 (by decide) ?_
      refine lv_icmp_eq (tgt := 170) F.1 F.2.1 d_M_stepOnce_151 (by decide) (fun c81 => absurd c81 (by decide)) (fun c81 => ?_)
      refine lv_iload_n F.1 F.2.1 d_M_stepOnce_154 rfl (lv_at hl 1 rfl) ?_
      refine lv_iconst (v := 5) F.1 F.2.1 d_M_stepOnce_155 (by decide) ?_
      refine lv_icmp_ne (tgt := 177) F.1 F.2.1 d_M_stepOnce_156 (by decide) (fun c82 => absurd (by decide) c82) (fun c82 => ?_)
      refine lv_aload_n F.1 F.2.1 d_M_stepOnce_159 rfl (lv_at hl 3 rfl) ?_
      have f83 : h15 o = some (.inr (7, [.int (S17 16 0), .int (S17 16 1), .ref (ad 0), .ref (ad 1), .ref (ad 2), .ref (ad 3), .ref (ad 4), .int (S17 16 2), .int (S17 16 3), .int (S17 16 4), .int (S17 16 5), .ref (ad 5), .ref (ad 6), .ref (ad 7), .ref (ad 8), .ref (ad 9), .ref (ad 10), .ref (ad 11), .ref (ad 12), .ref (ad 13), .ref (ad 14), .ref (ad 15)])) := hR.1
      refine pw_get F I_M hK.1 hP f83 rfl 13 (by decide) L_M_36 (fun _ z => z) rfl d_M_stepOnce_160 ?_
      refine lv_iload_n F.1 F.2.1 d_M_stepOnce_163 rfl (lv_at hl 4 rfl) ?_
      have f84 : h15 (ad 7) = some (.inl (cs 0, 4, .inl (S17 7))) := hR.2.1 7 (by decide)
      refine pw_ialdN F hK.1 hP 0 f84 rfl (k := t) (by omega) (by decide) d_M_stepOnce_164 ?_
      refine W.eq (g2 := F0 m 165 ls [.int (S 7 t)]) (by rw [show S17 7 t = S5 7 t from by rw [t18]; exact sp_k (by decide), show S5 7 t = S 7 t from by rw [t6]; exact sp_k (by decide)]) ?_
      refine lv_iconst (v := 2) F.1 F.2.1 d_M_stepOnce_165 (by decide) ?_
      refine lv_irem F.1 F.2.1 d_M_stepOnce_166 (by decide) ?_
      refine lv_if_ne (tgt := 177) F.1 F.2.1 d_M_stepOnce_167 (by decide) (fun c85 => ?_) (fun c85 => ?_)
      · skip
        refine lv_iload_n F.1 F.2.1 d_M_stepOnce_177 rfl (lv_at hl 1 rfl) ?_
        refine lv_iconst (v := 3) F.1 F.2.1 d_M_stepOnce_178 (by decide) ?_
        refine lv_icmp_ne (tgt := 210) F.1 F.2.1 d_M_stepOnce_179 (by decide) (fun c86 => ?_) (fun c86 => absurd c86 (by decide))
        refine lv_iload_n F.1 F.2.1 d_M_stepOnce_210 rfl (lv_at hl 1 rfl) ?_
        refine lv_iconst (v := 4) F.1 F.2.1 d_M_stepOnce_211 (by decide) ?_
        refine lv_icmp_ne (tgt := 237) F.1 F.2.1 d_M_stepOnce_212 (by decide) (fun c87 => ?_) (fun c87 => absurd c87 (by decide))
        exact pw_vret F hr hlk hP hA hK hS (by decide) (by decide) d_M_stepOnce_237 (by rw [mOnce_op hd h6 hrw hr48 ha (by omega) (fun z9 => c12 (z9.trans hz)), hk9, mDo_5f (by rw [sp_k (by decide), sp_k (by decide)]; exact c85)]; rw [t18, t6] at hR; exact hR)
      · skip
        refine lv_aload_n F.1 F.2.1 d_M_stepOnce_170 rfl (lv_at hl 3 rfl) ?_
        refine lv_iload_n F.1 F.2.1 d_M_stepOnce_171 rfl (lv_at hl 4 rfl) ?_
        refine lv_iload F.1 F.2.1 d_M_stepOnce_172 (lv_at hl 0 rfl) ?_
        refine pw_cv (pr_V F (c_M_enter l D cs A h15 o ad S17 hR t j (d + 1) L ht hj (by omega) hL5 (by rw [t18, sp_k (by decide), t6, sp_k (by decide)]; exact hd) (by rw [t18, sp_k (by decide), t6, sp_k (by decide)]; exact hL)) X_M_97 rfl rfl ⟨by decide, by decide⟩ hP hA hK hS f83 rfl rfl rfl hl.1 rfl (Nat.le_of_ble_eq_true rfl) d_M_stepOnce_174 ⟨by decide, by decide⟩) hS (fun h88 H locs hq hP hS => ?_)
        obtain ⟨S89, t90⟩ : ∃ z9 : St, z9 = mEnter S17 t j := ⟨_, rfl⟩
        have hR : RM cs h88 o ad S89 := by rw [t90]; exact hq
        refine lv_iload_n F.1 F.2.1 d_M_stepOnce_177 rfl (lv_at hl 1 rfl) ?_
        refine lv_iconst (v := 3) F.1 F.2.1 d_M_stepOnce_178 (by decide) ?_
        refine lv_icmp_ne (tgt := 210) F.1 F.2.1 d_M_stepOnce_179 (by decide) (fun c91 => ?_) (fun c91 => absurd c91 (by decide))
        refine lv_iload_n F.1 F.2.1 d_M_stepOnce_210 rfl (lv_at hl 1 rfl) ?_
        refine lv_iconst (v := 4) F.1 F.2.1 d_M_stepOnce_211 (by decide) ?_
        refine lv_icmp_ne (tgt := 237) F.1 F.2.1 d_M_stepOnce_212 (by decide) (fun c92 => ?_) (fun c92 => absurd c92 (by decide))
        exact pw_vret F hr hlk hP hA hK hS (by decide) (by decide) d_M_stepOnce_237 (by rw [mOnce_op hd h6 hrw hr48 ha (by omega) (fun z9 => c12 (z9.trans hz)), hk9, mDo_5t (by rw [sp_k (by decide), sp_k (by decide)]; exact c85), hje, tn_nI (by omega)]; rw [t90, t18, t6] at hR; exact hR)
  · skip
    refine lv_aload_n F.1 F.2.1 d_M_stepOnce_44 rfl (lv_at hl 1 rfl) ?_
    refine pw_get F I_M hK.1 hP f7 rfl 17 (by decide) L_M_48 (fun _ z => z) rfl d_M_stepOnce_45 ?_
    refine lv_iload_n F.1 F.2.1 d_M_stepOnce_48 rfl (lv_at hl 2 rfl) ?_
    refine lv_dup2_11 F.1 F.2.1 d_M_stepOnce_49 rfl rfl ?_
    refine pw_ialdN F hK.1 hP 0 f8 rfl (k := t) (by omega) (by decide) d_M_stepOnce_50 ?_
    refine W.eq (g2 := F0 m 51 ls [.int (nI (d + 1)), .int (nI t), .ref (ad 11)]) (by rw [show S5 11 t = S 11 t from by rw [t6]; exact sp_k (by decide), hd]) ?_
    refine lv_iconst (v := 1) F.1 F.2.1 d_M_stepOnce_51 (by decide) ?_
    refine lv_isub F.1 F.2.1 d_M_stepOnce_52 ?_
    refine W.eq (g2 := F0 m 53 ls [.int (nI (d)), .int (nI t), .ref (ad 11)]) (by rw [show (1 : Int32) = nI 1 from rfl, show nI (d + 1) - nI 1 = nI d from nI_pred d]) ?_
    refine pw_iastN F hK.1 hP hS 0 f8 rfl (k := t) (by omega) (by decide) d_M_stepOnce_53 (fun H locs hP hS => ?_)
    have hP : pw D vwCl A (pu h3 (ad 11) (.inl (cs 0, 4, .inl (upd (S5 11) t (nI (d)))))) H := hP
    have hR := hR.arr (show 11 < 16 by decide) t (nI (d))
    obtain ⟨h93, e94⟩ : ∃ z9 : pw_H, z9 = pu h3 (ad 11) (.inl (cs 0, 4, .inl (upd (S5 11) t (nI (d))))) := ⟨_, rfl⟩
    rw [← e94] at hP
    obtain ⟨S95, t96⟩ : ∃ z9 : St, z9 = sp S5 11 t (nI (d)) := ⟨_, rfl⟩
    have hR : RM cs h93 o ad S95 := by rw [e94, t96]; exact hR
    refine lv_aload_n F.1 F.2.1 d_M_stepOnce_54 rfl (lv_at hl 1 rfl) ?_
    have f97 : h93 o = some (.inr (7, [.int (S95 16 0), .int (S95 16 1), .ref (ad 0), .ref (ad 1), .ref (ad 2), .ref (ad 3), .ref (ad 4), .int (S95 16 2), .int (S95 16 3), .int (S95 16 4), .int (S95 16 5), .ref (ad 5), .ref (ad 6), .ref (ad 7), .ref (ad 8), .ref (ad 9), .ref (ad 10), .ref (ad 11), .ref (ad 12), .ref (ad 13), .ref (ad 14), .ref (ad 15)])) := hR.1
    refine pw_get F I_M hK.1 hP f97 rfl 17 (by decide) L_M_48 (fun _ z => z) rfl d_M_stepOnce_55 ?_
    refine lv_iload_n F.1 F.2.1 d_M_stepOnce_58 rfl (lv_at hl 2 rfl) ?_
    have f98 : h93 (ad 11) = some (.inl (cs 0, 4, .inl (S95 11))) := hR.2.1 11 (by decide)
    refine pw_ialdN F hK.1 hP 0 f98 rfl (k := t) (by omega) (by decide) d_M_stepOnce_59 ?_
    refine W.eq (g2 := F0 m 60 ls [.int (nI (d))]) (by rw [show S95 11 t = nI (d) from by rw [t96]; exact sp_s]) ?_
    refine lv_if_ne (tgt := 74) F.1 F.2.1 d_M_stepOnce_60 (by decide) (fun c99 => ?_) (fun c99 => ?_)
    · skip
      exact pw_vret F hr hlk hP hA hK hS (by decide) (by decide) d_M_stepOnce_74 (by rw [mOnce_ret hd h6 hrw hr48 ha (c12.trans hz.symm) hm hmf]; rw [if_neg c99]; rw [t96, t6] at hR; exact hR)
    · skip
      refine lv_aload_n F.1 F.2.1 d_M_stepOnce_63 rfl (lv_at hl 1 rfl) ?_
      refine lv_iload_n F.1 F.2.1 d_M_stepOnce_64 rfl (lv_at hl 2 rfl) ?_
      refine lv_aload_n F.1 F.2.1 d_M_stepOnce_65 rfl (lv_at hl 1 rfl) ?_
      refine pw_get F I_M hK.1 hP f97 rfl 11 (by decide) L_M_30 (fun _ z => z) rfl d_M_stepOnce_66 ?_
      refine lv_iload_n F.1 F.2.1 d_M_stepOnce_69 rfl (lv_at hl 2 rfl) ?_
      have f100 : h93 (ad 5) = some (.inl (cs 0, 4, .inl (S95 5))) := hR.2.1 5 (by decide)
      refine pw_ialdN F hK.1 hP 0 f100 rfl (k := t) (by omega) (by decide) d_M_stepOnce_70 ?_
      refine W.eq (g2 := F0 m 71 ls [.int (nI mf), .int (nI t), .ref o]) (by rw [show S95 5 t = S5 5 t from by rw [t96]; exact sp_k (by decide), show S5 5 t = S 5 t from by rw [t6]; exact sp_k (by decide), hm]) ?_
      refine pw_cv (pr_V F (c_M_enter l D cs A h93 o ad S95 hR t mf d L ht hmf (by omega) hL5 (by rw [t96, sp_s]) (by rw [t96, sp_k (by decide), t6, sp_k (by decide)]; exact hL)) X_M_97 rfl rfl ⟨by decide, by decide⟩ hP hA hK hS f97 rfl rfl rfl hl.1 rfl (Nat.le_of_ble_eq_true rfl) d_M_stepOnce_71 ⟨by decide, by decide⟩) hS (fun h101 H locs hq hP hS => ?_)
      obtain ⟨S102, t103⟩ : ∃ z9 : St, z9 = mEnter S95 t mf := ⟨_, rfl⟩
      have hR : RM cs h101 o ad S102 := by rw [t103]; exact hq
      exact pw_vret F hr hlk hP hA hK hS (by decide) (by decide) d_M_stepOnce_74 (by rw [mOnce_ret hd h6 hrw hr48 ha (c12.trans hz.symm) hm hmf]; rw [if_pos c99]; rw [t103, t96, t6] at hR; exact hR)
