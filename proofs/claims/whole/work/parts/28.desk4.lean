theorem sp_same {S : St} {k j : Nat} {v : Int32} (h : S k j = v) : sp S k j v = S := by
  funext k' j'
  simp only [sp]
  split
  · rename_i z; rw [z.1, z.2, h]
  · rfl
theorem ent_dp {cs : Nat → Nat} {S : St} {nf p nt : Nat} {g : Gh} {gr : Nat → Prop} {dp dp' : Nat → Nat} {k i : Nat} {e : va_E} (h : k = 8 → i % 6 < dp' (i / 6) → i % 6 < dp (i / 6)) (he : ent cs S nf p nt g gr dp k i e) : ent cs S nf p nt g gr dp' k i e := by
  by_cases hk : k = 8
  · subst hk
    simp only [ent] at he ⊢
    obtain ⟨fn, lv, bo, pl, rp, e1, e2⟩ := he
    exact ⟨fn, lv, bo, pl, rp, e1, fun z => e2 (h rfl z)⟩
  · rcases (show k = 0 ∨ k = 1 ∨ k = 2 ∨ k = 3 ∨ k = 4 ∨ k = 5 ∨ k = 6 ∨ k = 7 ∨ k = 9 ∨ k = 10 ∨ k = 11 by have := ent_k he; omega) with rfl | rfl | rfl | rfl | rfl | rfl | rfl | rfl | rfl | rfl | rfl <;> simp only [ent] at he ⊢ <;> exact he
abbrev dpS (S : St) : Nat → Nat := fun u => tn (S 11 u)
def dpT (dp : Nat → Nat) (T : St) (t : Nat) : Nat → Nat := fun u => if u = t then tn (T 11 t) else dp u
theorem dpT_le {dp : Nat → Nat} {T : St} {t : Nat} (h : tn (T 11 t) ≤ dp t) (u : Nat) : dpT dp T t u ≤ dp u := by
  unfold dpT
  split
  · rename_i hu
    rw [hu]; exact h
  · exact Nat.le_refl _
section
variable {cs : Nat → Nat} {h h' : pw_H} {x : Nat} {g : Gh} {gr : Nat → Prop} {dp dp' : Nat → Nat} {S S' : St} {nf p nt : Nat}
theorem Sim.dpm (hs : Sim cs h x g gr dp S nf p nt) (hd : ∀ u, u < nt → dp' u ≤ dp u) : Sim cs h x g gr dp' S nf p nt :=
  hs.set hs.1 (fun k i hk => ⟨hk, Or.inl ⟨rfl, fun e he => ent_dp (fun h8 h9 => by
    subst h8
    have hi : i < 6 * nt := hk
    have := hd (i / 6) (by omega)
    omega) he⟩⟩)
theorem Sim.enter {t f d L : Nat} (hs : Sim cs h x g gr dp (sp S 11 t (nI (d + 1))) nf p nt) (hb : WB S nf p nt) (ht : t < nt) (hd : S 11 t = nI d) (hd6 : d < 6) (hL : S 6 t = nI L) (hL5 : L ≤ 5) (hf : f < nf) (hdp : dp t = d) (hx : ext h h' [g 8 (6 * t + d)]) (h0 : h' (g 8 (6 * t + d)) = some (.inr (4, [.int (nI f), .int (nI L), .ref (g 0 (bRow S f L)), .int 0, .int 0]))) : Sim cs h' x g gr (dpT dp (mEnter S t f) t) (mEnter S t f) nf p nt := by
  have hn := hb.1
  obtain ⟨b1, b2, b3, b4⟩ := bRow_ok (L := L) hb hf hL5
  have hT : mEnter S t f 11 t = nI (d + 1) := by rw [mEnter_go hd hd6 hL hL5]; exact sp_s
  have e1 : dpT dp (mEnter S t f) t = fun u => if u = t then d + 1 else dp u := by
    funext u
    unfold dpT
    rw [hT, tn_nI (by omega)]
  rw [e1]
  rw [mEnter_go hd hd6 hL hL5]
  obtain ⟨r, hr⟩ : ∃ r, r = bRow S f L := ⟨_, rfl⟩
  rw [← hr] at b1 b2 b3 b4 h0 ⊢
  refine hs.put hx (show 6 * t + d < 6 * nt by omega) h0 ?_ (fun k i hk => ?_) ?_ (fun k i e hne hlv he => ?_)
  · simp only [ent]
    refine ⟨_, _, _, _, _, rfl, fun _ => ⟨?_, ?_, ?_, ?_, ?_⟩⟩
    · rw [sp_k (by decide), sp_k (by decide), sp_k (by decide), sp_k (by decide), sp_s, tn_nI (by omega), b4]
    · rw [sp_k (by decide), sp_k (by decide), sp_k (by decide), sp_s]
    · rw [sp_k (by decide), sp_k (by decide), sp_k (by decide), sp_k (by decide), sp_s, tn_nI (by omega)]
    · rw [sp_k (by decide), sp_k (by decide), sp_s]
    · rw [sp_k (by decide), sp_s]
  · unfold live at hk ⊢
    rw [sp_off (show 0 ≠ 11 by decide), sp_off (show 0 ≠ 15 by decide), sp_off (show 0 ≠ 14 by decide), sp_off (show 0 ≠ 13 by decide), sp_off (show 0 ≠ 12 by decide)] at hk
    rw [sp_off (show 0 ≠ 11 by decide)]
    exact hk
  · rw [sp_k (by decide), sp_k (by decide), sp_k (by decide), sp_k (by decide), sp_k (by decide), sp_k (by decide)]
  · refine ent_dp (dp := dp) (fun h8 h9 => ?_) (ent_cong (fun κ j hrd => ?_) he)
    · subst h8
      by_cases hit : i / 6 = t
      · rw [if_pos hit] at h9
        rw [hit, hdp]
        have : ¬ i = 6 * t + d := fun z => hne ⟨rfl, z⟩
        omega
      · rw [if_neg hit] at h9
        exact h9
    · by_cases h11 : κ = 11
      · subst h11
        by_cases hj : j = t
        · subst hj; rw [sp_s, sp_s]
        · rw [sp_j hj, sp_j hj, sp_k (by decide), sp_k (by decide), sp_k (by decide), sp_k (by decide)]
      · rw [sp_k h11, sp_k h11]
        have key : ∀ q, 12 ≤ q ∧ q ≤ 15 → ¬ (κ = q ∧ j = 6 * t + d) := fun q hq z => by
          have := rd_f hrd (by omega)
          exact hne ⟨this.1, by omega⟩
        rw [show ∀ (T : St) (v : Int32), sp T 15 (6 * t + d) v κ j = T κ j from fun T v => if_neg (key 15 (by omega)), show ∀ (T : St) (v : Int32), sp T 14 (6 * t + d) v κ j = T κ j from fun T v => if_neg (key 14 (by omega)), show ∀ (T : St) (v : Int32), sp T 13 (6 * t + d) v κ j = T κ j from fun T v => if_neg (key 13 (by omega)), show ∀ (T : St) (v : Int32), sp T 12 (6 * t + d) v κ j = T κ j from fun T v => if_neg (key 12 (by omega))]
end
abbrev rm_D_enter : Room := { frames := 4, cells := 0, slots := 0, locals := 89 }
set_option maxHeartbeats 4000000 in
set_option maxRecDepth 100000 in
theorem c_D_enter (l : Launch) (D : va_G) (cs : Nat → Nat) (A : Nat → Prop) (h : pw_H) (x : Nat) (g : Gh) (gr : Nat → Prop) (dp : Nat → Nat) (S : St) (nf pT nt : Nat) (hs : Sim cs h x g gr dp S nf pT nt) (hb : WB S nf pT nt) (t f d L : Nat) (htn : t < nt) (hf : f < nf) (hd : S 11 t = nI d) (hd6 : d ≤ 6) (hL : S 6 t = nI L) (hLp : L ≤ pT) (hdp : dp t = d) : pm l y_D_enter b_D_enter 3 none rm_D_enter [.ref x, .ref (g 6 t), .int (nI f)] D cs A h (va_Qv (fun (h' : pw_H) => Sim cs h' x g gr (dpT dp (mEnter S t f) t) (mEnter S t f) nf pT nt) (ww D cs A) A) 0 0 := by
  refine pm_of R_D rfl (by decide) (Nat.le_of_ble_eq_true rfl) (fun p e s m below meth c ls F hr hlk hnm hP hA hK hl => ?_)
  have hS : va_S A s.heap s.heap [] := va_S.rf
  replace hl : lv_has ls 3 [(0, .ref x), (1, .ref (g 6 t)), (2, .int (nI f))] := hl
  have hnf8 := hb.1
  have hp5 := hb.2.1
  have hnt4 := hb.2.2.1
  refine lv_aload_n F.1 F.2.1 d_D_enter_0 rfl (lv_at hl 1 rfl) ?_
  have f1 : h (g 6 t) = some (.inr (5, [.ref (g 7 t), .int (S 11 t), .int (S 6 t), .int (S 7 t), .int (S 8 t), .int (S 9 t), .int (S 10 t)])) := hs.tk (by omega)
  refine pw_get F I_T hK.1 hP f1 rfl 1 (by decide) L_D_168 (fun _ z => z) rfl d_D_enter_1 ?_
  refine W.eq (g2 := F0 m 4 ls [.int (nI d)]) (by rw [hd]) ?_
  refine lv_bipush (v := 6) F.1 F.2.1 d_D_enter_4 (by decide) ?_
  refine lv_icmp_ge (tgt := 40) F.1 F.2.1 d_D_enter_6 (by decide) (fun c2 => ?_) (fun c2 => ?_)
  · skip
    exact pw_vret F hr hlk hP hA hK hS (by decide) (by decide) d_D_enter_40 (by have h66 : d = 6 := (Nat.lt_or_ge d 6).elim (fun h9 => absurd c2 (nI_ge (a := d) (b := 6) h9 (by decide))) (fun h9 => Nat.le_antisymm hd6 h9); subst h66; rw [mEnter_6 hd]; exact hs.dpm (fun u hu => dpT_le (by rw [hd, hdp]; exact Nat.le_of_eq (tn_nI (by decide))) u))
  · skip
    have hlt : d < 6 := (Nat.lt_or_ge d 6).elim id (fun h9 => absurd (nI_le (a := 6) (b := d) h9 (by omega)) c2)
    refine lv_aload_n F.1 F.2.1 d_D_enter_9 rfl (lv_at hl 1 rfl) ?_
    refine lv_dup F.1 F.2.1 d_D_enter_10 rfl ?_
    refine pw_get F I_T hK.1 hP f1 rfl 1 (by decide) L_D_168 (fun _ z => z) rfl d_D_enter_11 ?_
    refine W.eq (g2 := F0 m 14 ls [.int (nI d), .ref (g 6 t)]) (by rw [hd]) ?_
    refine lv_iconst (v := 1) F.1 F.2.1 d_D_enter_14 (by decide) ?_
    refine lv_iadd F.1 F.2.1 d_D_enter_15 ?_
    refine W.eq (g2 := F0 m 16 ls [.int (nI (d + 1)), .ref (g 6 t)]) (by rw [show (1 : Int32) = nI 1 from rfl, nI_add]) ?_
    refine pw_put F I_T ty_T k_T n_T hK.1 hP hS f1 rfl 1 (by decide) L_D_168 (fun _ z => z) rfl rfl rfl (Nat.le_of_ble_eq_true rfl) d_D_enter_16 (fun H locs hP hS => ?_)
    replace hP : pw D vwCl A (pu h (g 6 t) (.inr (5, [.ref (g 7 t), .int (nI (d + 1)), .int (S 6 t), .int (S 7 t), .int (S 8 t), .int (S 9 t), .int (S 10 t)]))) H := hP
    obtain ⟨h3, e4⟩ : ∃ z9 : pw_H, z9 = pu h (g 6 t) (.inr (5, [.ref (g 7 t), .int (nI (d + 1)), .int (S 6 t), .int (S 7 t), .int (S 8 t), .int (S 9 t), .int (S 10 t)])) := ⟨_, rfl⟩
    rw [← e4] at hP
    have f5 : h3 (g 6 t) = some (.inr (5, [.ref (g 7 t), .int (nI (d + 1)), .int (S 6 t), .int (S 7 t), .int (S 8 t), .int (S 9 t), .int (S 10 t)])) := by rw [e4]; exact pu_s
    obtain ⟨S6, t7⟩ : ∃ z9 : St, z9 = sp S 11 t (nI (d + 1)) := ⟨_, rfl⟩
    have hs8 : Sim cs h3 x g gr dp S6 nf pT nt := by rw [t7]; exact hs.putT htn (by decide) (by rw [e4]; exact ext.rf.pu (Or.inl (by simp))) f5 (by simp only [ent, sp_s, sp_k (show (0 : Nat) ≠ 11 by decide), sp_k (show (1 : Nat) ≠ 11 by decide), sp_k (show (2 : Nat) ≠ 11 by decide), sp_k (show (3 : Nat) ≠ 11 by decide), sp_k (show (4 : Nat) ≠ 11 by decide), sp_k (show (5 : Nat) ≠ 11 by decide), sp_k (show (6 : Nat) ≠ 11 by decide), sp_k (show (7 : Nat) ≠ 11 by decide), sp_k (show (8 : Nat) ≠ 11 by decide), sp_k (show (9 : Nat) ≠ 11 by decide), sp_k (show (10 : Nat) ≠ 11 by decide), sp_k (show (12 : Nat) ≠ 11 by decide), sp_k (show (13 : Nat) ≠ 11 by decide), sp_k (show (14 : Nat) ≠ 11 by decide), sp_k (show (15 : Nat) ≠ 11 by decide), sp_k (show (16 : Nat) ≠ 11 by decide)])
    have u9 : S6 11 t = nI (d + 1) := by rw [t7]; exact sp_s
    have u10 : S6 6 t = nI L := by rw [t7]; exact (sp_k (by decide)).trans hL
    refine lv_aload_n F.1 F.2.1 d_D_enter_19 rfl (lv_at hl 1 rfl) ?_
    have f11 : h3 (g 6 t) = some (.inr (5, [.ref (g 7 t), .int (S6 11 t), .int (S6 6 t), .int (S6 7 t), .int (S6 8 t), .int (S6 9 t), .int (S6 10 t)])) := hs8.tk (by omega)
    obtain ⟨v12, f13, k14⟩ := hs8.fs (t := t) (by omega)
    have f15 : h3 (g 7 t) = some (.inl (cs 4, 6, .inr (.inr (.inr (.inr v12))))) := f13
    refine pw_crE (pr_V F (c_T_top l D cs A h3 _ _ d (g 8 (6 * t + d)) _ _ _ _ _ v12 (by omega) (k14 d (by omega)) (by have h9 := f11; rw [u9] at h9; exact h9) f15) X_D_213 rfl rfl ⟨by decide, by decide⟩ hP hA hK hS f11 rfl rfl rfl hl.1 rfl (Nat.le_of_ble_eq_true rfl) d_D_enter_20 ⟨by decide, by decide⟩) hS (fun H locs hP hS => ?_)
    refine lv_iload_n F.1 F.2.1 d_D_enter_23 rfl (lv_at hl 2 rfl) ?_
    refine lv_aload_n F.1 F.2.1 d_D_enter_24 rfl (lv_at hl 1 rfl) ?_
    refine pw_get F I_T hK.1 hP f11 rfl 2 (by decide) L_D_153 (fun _ z => z) rfl d_D_enter_25 ?_
    refine W.eq (g2 := F0 m 28 ls [.int (nI L), .int (nI f), .ref ((g 8 (6 * t + d)))]) (by rw [u10]) ?_
    refine lv_aload_n F.1 F.2.1 d_D_enter_28 rfl (lv_at hl 0 rfl) ?_
    refine lv_iload_n F.1 F.2.1 d_D_enter_29 rfl (lv_at hl 2 rfl) ?_
    refine lv_aload_n F.1 F.2.1 d_D_enter_30 rfl (lv_at hl 1 rfl) ?_
    refine pw_get F I_T hK.1 hP f11 rfl 2 (by decide) L_D_153 (fun _ z => z) rfl d_D_enter_31 ?_
    refine W.eq (g2 := F0 m 34 ls [.int (nI L), .int (nI f), .ref x, .int (nI L), .int (nI f), .ref ((g 8 (6 * t + d)))]) (by rw [u10]) ?_
    have f16 : h3 x = some (.inr (6, [.ref (g 10 0), .ref (g 10 1), .ref (g 10 2), .ref (g 3 6), .int (S6 16 4)])) := hs8.1
    refine pw_crE (pr_V F (c_D_bodyAt l D cs A h3 x g gr dp S6 nf pT nt hs8 (by rw [t7]; exact WB.congr hb (sp_off (by decide)) (sp_off (by decide)) (sp_off (by decide)) (sp_off (by decide)) (sp_k (by decide)) (sp_k (by decide)) (sp_k (by decide)) (sp_k (by decide))) f L hf hLp) X_D_137 rfl rfl ⟨by decide, by decide⟩ hP hA hK hS f16 rfl rfl rfl hl.1 rfl (Nat.le_of_ble_eq_true rfl) d_D_enter_34 ⟨by decide, by decide⟩) hS (fun H locs hP hS => ?_)
    obtain ⟨v17, v18, v19, v20, v21, f22⟩ := hs8.fr (i := 6 * t + d) (by omega)
    refine pw_cv (pr_V F (c_Fr_begin l D cs A h3 _ (g 0 (bRow S6 f L)) _ _ _ _ _ (nI f) (nI L) f22) X_D_242 rfl rfl ⟨by decide, by decide⟩ hP hA hK hS f22 rfl rfl rfl hl.1 rfl (Nat.le_of_ble_eq_true rfl) d_D_enter_37 ⟨by decide, by decide⟩) hS (fun hz9 H locs hq hP hS => ?_)
    have hfin := Sim.enter (f := f) (show Sim cs _ x g gr dp (sp S 11 t (nI (d + 1))) nf pT nt from t7 ▸ hs8) hb htn hd hlt hL (by omega) hf hdp hq.2 (by have h9 := hq.1; rw [bRow_eq (S := S) (fun j => by rw [t7]; exact sp_k (by decide)) f L] at h9; exact h9)
    exact pw_vret F hr hlk hP hA hK hS (by decide) (by decide) d_D_enter_40 hfin
